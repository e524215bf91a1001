def rsR (ra x : Int32) : Int32 := if ra = nI 0 then (if x = nI 2 then nI 7 else if x = nI 1 then nI 6 else nI 0) else ra
theorem rs_ck (ra x : Int32) : (if rsR ra x = 0 then nI 1 else (-1) - rsR ra x) = ckG ra x := by
  unfold rsR ckG acR
  by_cases h : ra = nI 0
  · rw [if_pos h, if_pos h]
    by_cases h2 : x = nI 2
    · rw [if_pos h2, if_pos h2]; decide
    · rw [if_neg h2, if_neg h2]
      by_cases h3 : x = nI 1
      · rw [if_pos h3, if_pos h3]; decide
      · rw [if_neg h3, if_neg h3]; decide
  · rw [if_neg h, if_neg h, if_neg (show ¬ ra = 0 from h)]
theorem landm {n mk : Nat} (k : Nat) (h : mk = 2 ^ k - 1) : lN n &&& lN mk = lN (n % 2 ^ k) := by rw [h]; exact landN k
theorem lt_five {f : Nat → Int32} {sz N q U : Nat} (h1 : 11 ≤ q) (h2 : q < 16) (hU : U = (dG f sz N 0).toBitVec.toNat) : aL (U / 2 ^ (27 - 5 * (q - 11)) % 32) = ltE N (sN f sz N) q := by
  rw [hU, sN_div f sz N (by omega)]
  unfold ltE
  rw [if_neg (by omega), show 20 - 5 * (q - 11) = 75 - 5 * q by omega]
set_option maxHeartbeats 4000000 in
set_option maxRecDepth 100000 in
/-- no such key -/
theorem c_X5_make_out (l : Launch) (g : gE) (hsz : Nat) (m0 kn mn tn qf qu qz qd qx ql qg qb qy qc qe qw qt qr qi : Nat) (th has cc sp rk : Int32) (x xv xk : Int32) (xd : Int64) (hx0 : ¬ (0 ≤ x.toInt ∧ x.toInt < kn)) (hkn : kn ≤ 15) : Met l yX5_make wsX5_make ({ frames := 2, cells := 0, slots := 0, locals := 46 }) (va_Pc [.ref m0, .int x, .int xv, .int xk, .long xd] (wr g [(m0, .inr (6, [.int th, .int (nI kn), .ref qf, .ref qu, .ref qz, .ref qd, .ref qx, .int (nI mn), .int has, .ref ql, .int (nI tn), .ref qg, .int cc, .ref qb, .ref qy, .ref qc, .int sp, .int rk, .ref qe, .ref qw, .ref qt, .ref qr, .ref qi]))] hsz)) (va_Qi (fun (r : Int32) (u : Unit) => r = -21) (wB g (va_A [(m0, .inr (6, [.int th, .int (nI kn), .ref qf, .ref qu, .ref qz, .ref qd, .ref qx, .int (nI mn), .int has, .ref ql, .int (nI tn), .ref qg, .int cc, .ref qb, .ref qy, .ref qc, .int sp, .int rk, .ref qe, .ref qw, .ref qt, .ref qr, .ref qi]))] hsz) (fun u : Unit => [(m0, .inr (6, [.int (nI 0), .int (nI kn), .ref qf, .ref qu, .ref qz, .ref qd, .ref qx, .int (nI mn), .int has, .ref ql, .int (nI tn), .ref qg, .int cc, .ref qb, .ref qy, .ref qc, .int sp, .int rk, .ref qe, .ref qw, .ref qt, .ref qr, .ref qi]))])) (va_A [(m0, .inr (6, [.int th, .int (nI kn), .ref qf, .ref qu, .ref qz, .ref qd, .ref qx, .int (nI mn), .int has, .ref ql, .int (nI tn), .ref qg, .int cc, .ref qb, .ref qy, .ref qc, .int sp, .int rk, .ref qe, .ref qw, .ref qt, .ref qr, .ref qi]))] hsz)) 0 0 (va_A [(m0, .inr (6, [.int th, .int (nI kn), .ref qf, .ref qu, .ref qz, .ref qd, .ref qx, .int (nI mn), .int has, .ref ql, .int (nI tn), .ref qg, .int cc, .ref qb, .ref qy, .ref qc, .int sp, .int rk, .ref qe, .ref qw, .ref qt, .ref qr, .ref qi]))] hsz) := by
  refine ofWi (cc := cX5_make) (maxL := 9) (ret := (some .int)) (by decide) rfl (Nat.le_of_ble_eq_true rfl) (fun p e s m below meth c hx hb hr hml hts hown hlocks hnm A H hH hA hP hD hK hZ hS ls hl => ?_)
  have hown : s.vm.findClass RX5 = some m.cls := hown
  have hl : lv_has ls 9 [(0, .ref m0), (1, .int x), (2, .int xv), (3, .int xk), (4, .long xd)] := hl
  have hiX5 : ∀ w ∈ wsX50, w ∈ wsX5_make := by decide +kernel
  refine lv_aload_n hx hb dX5_make_0 rfl (lv_at hl 0 rfl) ?_
  refine lv_iconst (v := (nI 0)) hx hb dX5_make_1 (by decide) ?_
  refine va_put (D := g.1) (ci := 6) (v := .int (nI 0)) (ty := .int) (C := RX5) (T := TX5) (N := 23) hx hb hts hiX5 tyX5 tyX5_ok nmX5 hown hK.1 hP hD hS 0 rfl rfl 0 (by decide) (hts (.fieldLink RX5 136 "StampMakerModel" "thrown" "I") (by decide +kernel)) (fun _ h9 => h9) rfl (by decide +kernel) rfl rfl (Nat.le_of_ble_eq_true rfl) dX5_make_2 (fun H locs hP hD hS => ?_)
  have hP : va_P g.1 vwCl [(m0, .inr (6, [.int (nI 0), .int (nI kn), .ref qf, .ref qu, .ref qz, .ref qd, .ref qx, .int (nI mn), .int has, .ref ql, .int (nI tn), .ref qg, .int cc, .ref qb, .ref qy, .ref qc, .int sp, .int rk, .ref qe, .ref qw, .ref qt, .ref qr, .ref qi]))] H := hP
  have hD : va_D A [(m0, .inr (6, [.int (nI 0), .int (nI kn), .ref qf, .ref qu, .ref qz, .ref qd, .ref qx, .int (nI mn), .int has, .ref ql, .int (nI tn), .ref qg, .int cc, .ref qb, .ref qy, .ref qc, .int sp, .int rk, .ref qe, .ref qw, .ref qt, .ref qr, .ref qi]))] := hD
  refine lv_aload_n hx hb dX5_make_5 rfl (lv_at hl 0 rfl) ?_
  refine lv_iload_n hx hb dX5_make_6 rfl (lv_at hl 1 rfl) ?_
  refine cVi (rest := []) ⟨hx, hb, hml, hown, hts⟩ [.int x] (c_X5_isKey l g (m0 := m0) (kn := kn) (mn := mn) (tn := tn) (qf := qf) (qu := qu) (qz := qz) (qd := qd) (qx := qx) (ql := ql) (qg := qg) (qb := qb) (qy := qy) (qc := qc) (qe := qe) (qw := qw) (qt := qt) (qr := qr) (qi := qi) (th := (nI 0)) (has := has) (cc := cc) (sp := sp) (rk := rk) (x := x) hkn) (cwV 1 hts gX5_make_X5_isKey rfl rfl rfl (by decide +kernel) ⟨Nat.le_of_ble_eq_true rfl, Nat.le_of_ble_eq_true rfl⟩) hK hZ hS (subP hP [0] rfl) (va_recv hK.1 hP (ci := 6) (q0 := 0) rfl rfl) rfl hl.1 rfl (Nat.le_of_ble_eq_true rfl) dX5_make_7 ⟨Nat.zero_le _, Nat.zero_le _⟩ (fun r_201 hr_201 => ?_)
  obtain rfl : r_201 = (inI (x).toInt 0 ((kn : Int) - 1)) := hr_201
  refine lv_if_ne (tgt := 16) hx hb dX5_make_10 (by decide) (fun c9 => absurd (inI_0 (by omega)) c9) (fun _ => ?_)
  refine lv_bipush (v := (-21)) hx hb dX5_make_13 (by decide) ?_
  exact endWi () hx hb hr hlocks hS dX5_make_15 hP hD (rfl)

set_option maxHeartbeats 4000000 in
set_option maxRecDepth 100000 in
/-- a number is not as said -/
theorem c_X5_make_dom (l : Launch) (g : gE) (hsz : Nat) (m0 kn mn tn qf qu qz qd qx ql qg qb qy qc qe qw qt qr qi : Nat) (th has cc sp rk : Int32) (i : Nat) (xv xk : Int32) (xd : Int64) (hi : i < kn) (hkn : kn ≤ 15) (hd : ¬ ((1 ≤ xv.toInt ∧ xv.toInt ≤ 99999) ∧ (0 ≤ xk.toInt ∧ xk.toInt ≤ 9) ∧ (0 ≤ xd.toInt ∧ xd.toInt ≤ 65535))) : Met l yX5_make wsX5_make ({ frames := 2, cells := 0, slots := 0, locals := 46 }) (va_Pc [.ref m0, .int (nI i), .int xv, .int xk, .long xd] (wr g [(m0, .inr (6, [.int th, .int (nI kn), .ref qf, .ref qu, .ref qz, .ref qd, .ref qx, .int (nI mn), .int has, .ref ql, .int (nI tn), .ref qg, .int cc, .ref qb, .ref qy, .ref qc, .int sp, .int rk, .ref qe, .ref qw, .ref qt, .ref qr, .ref qi]))] hsz)) (va_Qi (fun (r : Int32) (u : Unit) => r = -22) (wB g (va_A [(m0, .inr (6, [.int th, .int (nI kn), .ref qf, .ref qu, .ref qz, .ref qd, .ref qx, .int (nI mn), .int has, .ref ql, .int (nI tn), .ref qg, .int cc, .ref qb, .ref qy, .ref qc, .int sp, .int rk, .ref qe, .ref qw, .ref qt, .ref qr, .ref qi]))] hsz) (fun u : Unit => [(m0, .inr (6, [.int (nI 0), .int (nI kn), .ref qf, .ref qu, .ref qz, .ref qd, .ref qx, .int (nI mn), .int has, .ref ql, .int (nI tn), .ref qg, .int cc, .ref qb, .ref qy, .ref qc, .int sp, .int rk, .ref qe, .ref qw, .ref qt, .ref qr, .ref qi]))])) (va_A [(m0, .inr (6, [.int th, .int (nI kn), .ref qf, .ref qu, .ref qz, .ref qd, .ref qx, .int (nI mn), .int has, .ref ql, .int (nI tn), .ref qg, .int cc, .ref qb, .ref qy, .ref qc, .int sp, .int rk, .ref qe, .ref qw, .ref qt, .ref qr, .ref qi]))] hsz)) 0 0 (va_A [(m0, .inr (6, [.int th, .int (nI kn), .ref qf, .ref qu, .ref qz, .ref qd, .ref qx, .int (nI mn), .int has, .ref ql, .int (nI tn), .ref qg, .int cc, .ref qb, .ref qy, .ref qc, .int sp, .int rk, .ref qe, .ref qw, .ref qt, .ref qr, .ref qi]))] hsz) := by
  refine ofWi (cc := cX5_make) (maxL := 9) (ret := (some .int)) (by decide) rfl (Nat.le_of_ble_eq_true rfl) (fun p e s m below meth c hx hb hr hml hts hown hlocks hnm A H hH hA hP hD hK hZ hS ls hl => ?_)
  have hown : s.vm.findClass RX5 = some m.cls := hown
  have hl : lv_has ls 9 [(0, .ref m0), (1, .int (nI i)), (2, .int xv), (3, .int xk), (4, .long xd)] := hl
  have tn0 : (nI 0).toInt = 0 := by decide
  have tn1 : (nI 1).toInt = 1 := by decide
  have tn5 : (nI 5).toInt = 5 := by decide
  have tn11 : (nI 11).toInt = 11 := by decide
  have tn16 : (nI 16).toInt = 16 := by decide
  have tn50 : (nI 50).toInt = 50 := by decide
  have tn16384 : (nI 16384).toInt = 16384 := by decide
  have tl0 : (lN 0).toInt = 0 := by decide
  have tl1 : (lN 1).toInt = 1 := by decide
  have tl9 : (lN 9).toInt = 9 := by decide
  have tl16 : (lN 16).toInt = 16 := by decide
  have tl31 : (lN 31).toInt = 31 := by decide
  have tl16384 : (lN 16384).toInt = 16384 := by decide
  have tl65535 : (lN 65535).toInt = 65535 := by decide
  have tl65536 : (lN 65536).toInt = 65536 := by decide
  have tl99999 : (lN 99999).toInt = 99999 := by decide
  have tl131072 : (lN 131072).toInt = 131072 := by decide
  have hiX5 : ∀ w ∈ wsX50, w ∈ wsX5_make := by decide +kernel
  have tni := ti_n (n := i) (by omega)
  have tlx := Int32.toInt_toInt64 xv
  have tly := Int32.toInt_toInt64 xk
  refine lv_aload_n hx hb dX5_make_0 rfl (lv_at hl 0 rfl) ?_
  refine lv_iconst (v := (nI 0)) hx hb dX5_make_1 (by decide) ?_
  refine va_put (D := g.1) (ci := 6) (v := .int (nI 0)) (ty := .int) (C := RX5) (T := TX5) (N := 23) hx hb hts hiX5 tyX5 tyX5_ok nmX5 hown hK.1 hP hD hS 0 rfl rfl 0 (by decide) (hts (.fieldLink RX5 136 "StampMakerModel" "thrown" "I") (by decide +kernel)) (fun _ h9 => h9) rfl (by decide +kernel) rfl rfl (Nat.le_of_ble_eq_true rfl) dX5_make_2 (fun H locs hP hD hS => ?_)
  have hP : va_P g.1 vwCl [(m0, .inr (6, [.int (nI 0), .int (nI kn), .ref qf, .ref qu, .ref qz, .ref qd, .ref qx, .int (nI mn), .int has, .ref ql, .int (nI tn), .ref qg, .int cc, .ref qb, .ref qy, .ref qc, .int sp, .int rk, .ref qe, .ref qw, .ref qt, .ref qr, .ref qi]))] H := hP
  have hD : va_D A [(m0, .inr (6, [.int (nI 0), .int (nI kn), .ref qf, .ref qu, .ref qz, .ref qd, .ref qx, .int (nI mn), .int has, .ref ql, .int (nI tn), .ref qg, .int cc, .ref qb, .ref qy, .ref qc, .int sp, .int rk, .ref qe, .ref qw, .ref qt, .ref qr, .ref qi]))] := hD
  refine lv_aload_n hx hb dX5_make_5 rfl (lv_at hl 0 rfl) ?_
  refine lv_iload_n hx hb dX5_make_6 rfl (lv_at hl 1 rfl) ?_
  refine cVi (rest := []) ⟨hx, hb, hml, hown, hts⟩ [.int (nI i)] (c_X5_isKey l g (m0 := m0) (kn := kn) (mn := mn) (tn := tn) (qf := qf) (qu := qu) (qz := qz) (qd := qd) (qx := qx) (ql := ql) (qg := qg) (qb := qb) (qy := qy) (qc := qc) (qe := qe) (qw := qw) (qt := qt) (qr := qr) (qi := qi) (th := (nI 0)) (has := has) (cc := cc) (sp := sp) (rk := rk) (x := (nI i)) hkn) (cwV 1 hts gX5_make_X5_isKey rfl rfl rfl (by decide +kernel) ⟨Nat.le_of_ble_eq_true rfl, Nat.le_of_ble_eq_true rfl⟩) hK hZ hS (subP hP [0] rfl) (va_recv hK.1 hP (ci := 6) (q0 := 0) rfl rfl) rfl hl.1 rfl (Nat.le_of_ble_eq_true rfl) dX5_make_7 ⟨Nat.zero_le _, Nat.zero_le _⟩ (fun r_202 hr_202 => ?_)
  obtain rfl : r_202 = (inI ((nI i)).toInt 0 ((kn : Int) - 1)) := hr_202
  refine lv_if_ne (tgt := 16) hx hb dX5_make_10 (by decide) (fun _ => ?_) (fun c9 => absurd c9 (by rw [inI_1 (by omega) (by omega)]; decide))
  refine lv_iload_n hx hb dX5_make_16 rfl (lv_at hl 2 rfl) ?_
  refine lv_i2l hx hb dX5_make_17 rfl ?_
  refine lv_lconst (v := lN 1) hx hb dX5_make_18 (by decide) ?_
  refine lv_ldc2 (v := (lN 99999)) hx hb hown (hts (.constantLong RX5 173 (lN 99999)) (by decide +kernel)) dX5_make_19 ?_
  refine cSi (rest := []) ⟨hx, hb, hml, hown, hts⟩ [.long xv.toInt64, .long (lN 1), .long (lN 99999)] (c_X5_within l g (v := xv.toInt64) (lo := lN 1) (hi := lN 99999)) (va_cwS 3 hts gX5_make_X5_within rfl rfl rfl (by decide +kernel) ⟨Nat.le_of_ble_eq_true rfl, Nat.le_of_ble_eq_true rfl⟩) hK hZ hS (subP hP [] rfl) rfl hl.1 rfl (Nat.le_of_ble_eq_true rfl) dX5_make_22 ⟨Nat.zero_le _, Nat.zero_le _⟩ (fun r_203 hr_203 => ?_)
  obtain rfl : r_203 = (inI (xv.toInt64).toInt (lN 1).toInt (lN 99999).toInt) := hr_203
  refine lv_if_eq (tgt := 52) hx hb dX5_make_25 (by decide) (fun c_204 => ?_) (fun c_204 => ?_)
  · refine lv_bipush (v := (-22)) hx hb dX5_make_52 (by decide) ?_
    exact endWi () hx hb hr hlocks hS dX5_make_54 hP hD (rfl)
  · refine lv_iload_n hx hb dX5_make_28 rfl (lv_at hl 3 rfl) ?_
    refine lv_i2l hx hb dX5_make_29 rfl ?_
    refine lv_lconst (v := lN 0) hx hb dX5_make_30 (by decide) ?_
    refine lv_ldc2 (v := (lN 9)) hx hb hown (hts (.constantLong RX5 175 (lN 9)) (by decide +kernel)) dX5_make_31 ?_
    refine cSi (rest := []) ⟨hx, hb, hml, hown, hts⟩ [.long xk.toInt64, .long (lN 0), .long (lN 9)] (c_X5_within l g (v := xk.toInt64) (lo := lN 0) (hi := lN 9)) (va_cwS 3 hts gX5_make_X5_within rfl rfl rfl (by decide +kernel) ⟨Nat.le_of_ble_eq_true rfl, Nat.le_of_ble_eq_true rfl⟩) hK hZ hS (subP hP [] rfl) rfl hl.1 rfl (Nat.le_of_ble_eq_true rfl) dX5_make_34 ⟨Nat.zero_le _, Nat.zero_le _⟩ (fun r_205 hr_205 => ?_)
    obtain rfl : r_205 = (inI (xk.toInt64).toInt (lN 0).toInt (lN 9).toInt) := hr_205
    refine lv_if_eq (tgt := 52) hx hb dX5_make_37 (by decide) (fun c_206 => ?_) (fun c_206 => ?_)
    · refine lv_bipush (v := (-22)) hx hb dX5_make_52 (by decide) ?_
      exact endWi () hx hb hr hlocks hS dX5_make_54 hP hD (rfl)
    · refine lv_lload hx hb dX5_make_40 (lv_at hl 4 rfl) ?_
      refine lv_lconst (v := lN 0) hx hb dX5_make_42 (by decide) ?_
      refine lv_ldc2 (v := (lN 65535)) hx hb hown (hts (.constantLong RX5 143 (lN 65535)) (by decide +kernel)) dX5_make_43 ?_
      refine cSi (rest := []) ⟨hx, hb, hml, hown, hts⟩ [.long xd, .long (lN 0), .long (lN 65535)] (c_X5_within l g (v := xd) (lo := lN 0) (hi := lN 65535)) (va_cwS 3 hts gX5_make_X5_within rfl rfl rfl (by decide +kernel) ⟨Nat.le_of_ble_eq_true rfl, Nat.le_of_ble_eq_true rfl⟩) hK hZ hS (subP hP [] rfl) rfl hl.1 rfl (Nat.le_of_ble_eq_true rfl) dX5_make_46 ⟨Nat.zero_le _, Nat.zero_le _⟩ (fun r_207 hr_207 => ?_)
      obtain rfl : r_207 = (inI (xd).toInt (lN 0).toInt (lN 65535).toInt) := hr_207
      refine lv_if_ne (tgt := 55) hx hb dX5_make_49 (by decide) (fun c_208 => ?_) (fun c_208 => ?_)
      · exact absurd (by rw [inI_eq0] at c_204 c_206 c_208; omega) hd
      · refine lv_bipush (v := (-22)) hx hb dX5_make_52 (by decide) ?_
        exact endWi () hx hb hr hlocks hS dX5_make_54 hP hD (rfl)

set_option maxHeartbeats 4000000 in
set_option maxRecDepth 100000 in
/-- the key does not hold on that day -/
theorem c_X5_make_state (l : Launch) (g : gE) (hsz : Nat) (m0 kn mn tn qf qu qz qd qx ql qg qb qy qc qe qw qt qr qi : Nat) (th has cc sp rk : Int32) (kf ku : Nat → Int32) (i : Nat) (xv xk : Int32) (xd : Int64) (hi : i < kn) (hkn : kn ≤ 15) (hd : ((1 ≤ xv.toInt ∧ xv.toInt ≤ 99999) ∧ (0 ≤ xk.toInt ∧ xk.toInt ≤ 9) ∧ (0 ≤ xd.toInt ∧ xd.toInt ≤ 65535))) (hst : ¬ ((kf i).toInt ≤ xd.toInt ∧ xd.toInt ≤ (ku i).toInt)) : Met l yX5_make wsX5_make ({ frames := 2, cells := 0, slots := 0, locals := 46 }) (va_Pc [.ref m0, .int (nI i), .int xv, .int xk, .long xd] (wr g [(m0, .inr (6, [.int th, .int (nI kn), .ref qf, .ref qu, .ref qz, .ref qd, .ref qx, .int (nI mn), .int has, .ref ql, .int (nI tn), .ref qg, .int cc, .ref qb, .ref qy, .ref qc, .int sp, .int rk, .ref qe, .ref qw, .ref qt, .ref qr, .ref qi])), (qf, .inl (g.2.1 0, 15, .inl kf)), (qu, .inl (g.2.1 0, 15, .inl ku))] hsz)) (va_Qi (fun (r : Int32) (u : Unit) => r = -23) (wB g (va_A [(m0, .inr (6, [.int th, .int (nI kn), .ref qf, .ref qu, .ref qz, .ref qd, .ref qx, .int (nI mn), .int has, .ref ql, .int (nI tn), .ref qg, .int cc, .ref qb, .ref qy, .ref qc, .int sp, .int rk, .ref qe, .ref qw, .ref qt, .ref qr, .ref qi])), (qf, .inl (g.2.1 0, 15, .inl kf)), (qu, .inl (g.2.1 0, 15, .inl ku))] hsz) (fun u : Unit => [(m0, .inr (6, [.int (nI 0), .int (nI kn), .ref qf, .ref qu, .ref qz, .ref qd, .ref qx, .int (nI mn), .int has, .ref ql, .int (nI tn), .ref qg, .int cc, .ref qb, .ref qy, .ref qc, .int sp, .int rk, .ref qe, .ref qw, .ref qt, .ref qr, .ref qi])), (qf, .inl (g.2.1 0, 15, .inl kf)), (qu, .inl (g.2.1 0, 15, .inl ku))])) (va_A [(m0, .inr (6, [.int th, .int (nI kn), .ref qf, .ref qu, .ref qz, .ref qd, .ref qx, .int (nI mn), .int has, .ref ql, .int (nI tn), .ref qg, .int cc, .ref qb, .ref qy, .ref qc, .int sp, .int rk, .ref qe, .ref qw, .ref qt, .ref qr, .ref qi])), (qf, .inl (g.2.1 0, 15, .inl kf)), (qu, .inl (g.2.1 0, 15, .inl ku))] hsz)) 0 0 (va_A [(m0, .inr (6, [.int th, .int (nI kn), .ref qf, .ref qu, .ref qz, .ref qd, .ref qx, .int (nI mn), .int has, .ref ql, .int (nI tn), .ref qg, .int cc, .ref qb, .ref qy, .ref qc, .int sp, .int rk, .ref qe, .ref qw, .ref qt, .ref qr, .ref qi])), (qf, .inl (g.2.1 0, 15, .inl kf)), (qu, .inl (g.2.1 0, 15, .inl ku))] hsz) := by
  refine ofWi (cc := cX5_make) (maxL := 9) (ret := (some .int)) (by decide) rfl (Nat.le_of_ble_eq_true rfl) (fun p e s m below meth c hx hb hr hml hts hown hlocks hnm A H hH hA hP hD hK hZ hS ls hl => ?_)
  have hown : s.vm.findClass RX5 = some m.cls := hown
  have hl : lv_has ls 9 [(0, .ref m0), (1, .int (nI i)), (2, .int xv), (3, .int xk), (4, .long xd)] := hl
  have tn0 : (nI 0).toInt = 0 := by decide
  have tn1 : (nI 1).toInt = 1 := by decide
  have tn5 : (nI 5).toInt = 5 := by decide
  have tn11 : (nI 11).toInt = 11 := by decide
  have tn16 : (nI 16).toInt = 16 := by decide
  have tn50 : (nI 50).toInt = 50 := by decide
  have tn16384 : (nI 16384).toInt = 16384 := by decide
  have tl0 : (lN 0).toInt = 0 := by decide
  have tl1 : (lN 1).toInt = 1 := by decide
  have tl9 : (lN 9).toInt = 9 := by decide
  have tl16 : (lN 16).toInt = 16 := by decide
  have tl31 : (lN 31).toInt = 31 := by decide
  have tl16384 : (lN 16384).toInt = 16384 := by decide
  have tl65535 : (lN 65535).toInt = 65535 := by decide
  have tl65536 : (lN 65536).toInt = 65536 := by decide
  have tl99999 : (lN 99999).toInt = 99999 := by decide
  have tl131072 : (lN 131072).toInt = 131072 := by decide
  have hiX5 : ∀ w ∈ wsX50, w ∈ wsX5_make := by decide +kernel
  have tni := ti_n (n := i) (by omega)
  have tlx := Int32.toInt_toInt64 xv
  have tly := Int32.toInt_toInt64 xk
  refine lv_aload_n hx hb dX5_make_0 rfl (lv_at hl 0 rfl) ?_
  refine lv_iconst (v := (nI 0)) hx hb dX5_make_1 (by decide) ?_
  refine va_put (D := g.1) (ci := 6) (v := .int (nI 0)) (ty := .int) (C := RX5) (T := TX5) (N := 23) hx hb hts hiX5 tyX5 tyX5_ok nmX5 hown hK.1 hP hD hS 0 rfl rfl 0 (by decide) (hts (.fieldLink RX5 136 "StampMakerModel" "thrown" "I") (by decide +kernel)) (fun _ h9 => h9) rfl (by decide +kernel) rfl rfl (Nat.le_of_ble_eq_true rfl) dX5_make_2 (fun H locs hP hD hS => ?_)
  have hP : va_P g.1 vwCl [(m0, .inr (6, [.int (nI 0), .int (nI kn), .ref qf, .ref qu, .ref qz, .ref qd, .ref qx, .int (nI mn), .int has, .ref ql, .int (nI tn), .ref qg, .int cc, .ref qb, .ref qy, .ref qc, .int sp, .int rk, .ref qe, .ref qw, .ref qt, .ref qr, .ref qi])), (qf, .inl (g.2.1 0, 15, .inl kf)), (qu, .inl (g.2.1 0, 15, .inl ku))] H := hP
  have hD : va_D A [(m0, .inr (6, [.int (nI 0), .int (nI kn), .ref qf, .ref qu, .ref qz, .ref qd, .ref qx, .int (nI mn), .int has, .ref ql, .int (nI tn), .ref qg, .int cc, .ref qb, .ref qy, .ref qc, .int sp, .int rk, .ref qe, .ref qw, .ref qt, .ref qr, .ref qi])), (qf, .inl (g.2.1 0, 15, .inl kf)), (qu, .inl (g.2.1 0, 15, .inl ku))] := hD
  refine lv_aload_n hx hb dX5_make_5 rfl (lv_at hl 0 rfl) ?_
  refine lv_iload_n hx hb dX5_make_6 rfl (lv_at hl 1 rfl) ?_
  refine cVi (rest := []) ⟨hx, hb, hml, hown, hts⟩ [.int (nI i)] (c_X5_isKey l g (m0 := m0) (kn := kn) (mn := mn) (tn := tn) (qf := qf) (qu := qu) (qz := qz) (qd := qd) (qx := qx) (ql := ql) (qg := qg) (qb := qb) (qy := qy) (qc := qc) (qe := qe) (qw := qw) (qt := qt) (qr := qr) (qi := qi) (th := (nI 0)) (has := has) (cc := cc) (sp := sp) (rk := rk) (x := (nI i)) hkn) (cwV 1 hts gX5_make_X5_isKey rfl rfl rfl (by decide +kernel) ⟨Nat.le_of_ble_eq_true rfl, Nat.le_of_ble_eq_true rfl⟩) hK hZ hS (subP hP [0] rfl) (va_recv hK.1 hP (ci := 6) (q0 := 0) rfl rfl) rfl hl.1 rfl (Nat.le_of_ble_eq_true rfl) dX5_make_7 ⟨Nat.zero_le _, Nat.zero_le _⟩ (fun r_209 hr_209 => ?_)
  obtain rfl : r_209 = (inI ((nI i)).toInt 0 ((kn : Int) - 1)) := hr_209
  refine lv_if_ne (tgt := 16) hx hb dX5_make_10 (by decide) (fun _ => ?_) (fun c9 => absurd c9 (by rw [inI_1 (by omega) (by omega)]; decide))
  refine lv_iload_n hx hb dX5_make_16 rfl (lv_at hl 2 rfl) ?_
  refine lv_i2l hx hb dX5_make_17 rfl ?_
  refine lv_lconst (v := lN 1) hx hb dX5_make_18 (by decide) ?_
  refine lv_ldc2 (v := (lN 99999)) hx hb hown (hts (.constantLong RX5 173 (lN 99999)) (by decide +kernel)) dX5_make_19 ?_
  refine cSi (rest := []) ⟨hx, hb, hml, hown, hts⟩ [.long xv.toInt64, .long (lN 1), .long (lN 99999)] (c_X5_within l g (v := xv.toInt64) (lo := lN 1) (hi := lN 99999)) (va_cwS 3 hts gX5_make_X5_within rfl rfl rfl (by decide +kernel) ⟨Nat.le_of_ble_eq_true rfl, Nat.le_of_ble_eq_true rfl⟩) hK hZ hS (subP hP [] rfl) rfl hl.1 rfl (Nat.le_of_ble_eq_true rfl) dX5_make_22 ⟨Nat.zero_le _, Nat.zero_le _⟩ (fun r_210 hr_210 => ?_)
  obtain rfl : r_210 = (inI (xv.toInt64).toInt (lN 1).toInt (lN 99999).toInt) := hr_210
  refine lv_if_eq (tgt := 52) hx hb dX5_make_25 (by decide) (fun c9 => absurd c9 (by rw [inI_1 (by omega) (by omega)]; decide)) (fun _ => ?_)
  refine lv_iload_n hx hb dX5_make_28 rfl (lv_at hl 3 rfl) ?_
  refine lv_i2l hx hb dX5_make_29 rfl ?_
  refine lv_lconst (v := lN 0) hx hb dX5_make_30 (by decide) ?_
  refine lv_ldc2 (v := (lN 9)) hx hb hown (hts (.constantLong RX5 175 (lN 9)) (by decide +kernel)) dX5_make_31 ?_
  refine cSi (rest := []) ⟨hx, hb, hml, hown, hts⟩ [.long xk.toInt64, .long (lN 0), .long (lN 9)] (c_X5_within l g (v := xk.toInt64) (lo := lN 0) (hi := lN 9)) (va_cwS 3 hts gX5_make_X5_within rfl rfl rfl (by decide +kernel) ⟨Nat.le_of_ble_eq_true rfl, Nat.le_of_ble_eq_true rfl⟩) hK hZ hS (subP hP [] rfl) rfl hl.1 rfl (Nat.le_of_ble_eq_true rfl) dX5_make_34 ⟨Nat.zero_le _, Nat.zero_le _⟩ (fun r_211 hr_211 => ?_)
  obtain rfl : r_211 = (inI (xk.toInt64).toInt (lN 0).toInt (lN 9).toInt) := hr_211
  refine lv_if_eq (tgt := 52) hx hb dX5_make_37 (by decide) (fun c9 => absurd c9 (by rw [inI_1 (by omega) (by omega)]; decide)) (fun _ => ?_)
  refine lv_lload hx hb dX5_make_40 (lv_at hl 4 rfl) ?_
  refine lv_lconst (v := lN 0) hx hb dX5_make_42 (by decide) ?_
  refine lv_ldc2 (v := (lN 65535)) hx hb hown (hts (.constantLong RX5 143 (lN 65535)) (by decide +kernel)) dX5_make_43 ?_
  refine cSi (rest := []) ⟨hx, hb, hml, hown, hts⟩ [.long xd, .long (lN 0), .long (lN 65535)] (c_X5_within l g (v := xd) (lo := lN 0) (hi := lN 65535)) (va_cwS 3 hts gX5_make_X5_within rfl rfl rfl (by decide +kernel) ⟨Nat.le_of_ble_eq_true rfl, Nat.le_of_ble_eq_true rfl⟩) hK hZ hS (subP hP [] rfl) rfl hl.1 rfl (Nat.le_of_ble_eq_true rfl) dX5_make_46 ⟨Nat.zero_le _, Nat.zero_le _⟩ (fun r_212 hr_212 => ?_)
  obtain rfl : r_212 = (inI (xd).toInt (lN 0).toInt (lN 65535).toInt) := hr_212
  refine lv_if_ne (tgt := 55) hx hb dX5_make_49 (by decide) (fun _ => ?_) (fun c9 => absurd c9 (by rw [inI_1 (by omega) (by omega)]; decide))
  refine lv_lload hx hb dX5_make_55 (lv_at hl 4 rfl) ?_
  refine lv_aload_n hx hb dX5_make_57 rfl (lv_at hl 0 rfl) ?_
  refine va_get (D := g.1) (ci := 6) (v := .ref qf) (C := RX5) (T := TX5) (N := 23) hx hb hts hiX5 hown hK.1 hP 0 rfl rfl 2 (by decide) (hts (.fieldLink RX5 7 "StampMakerModel" "from" "[I") (by decide +kernel)) (fun _ h9 => h9) rfl dX5_make_58 ?_
  refine lv_iload_n hx hb dX5_make_61 rfl (lv_at hl 1 rfl) ?_
  refine va_iald hx hb hK.1 hP 1 0 rfl rfl (vp_in_nI (by omega) (by omega)) dX5_make_62 ?_
  refine lv_rei (x' := kf i) (congrArg kf (nI_clamp (by omega))) ?_
  refine lv_i2l hx hb dX5_make_63 rfl ?_
  refine lv_aload_n hx hb dX5_make_64 rfl (lv_at hl 0 rfl) ?_
  refine va_get (D := g.1) (ci := 6) (v := .ref qu) (C := RX5) (T := TX5) (N := 23) hx hb hts hiX5 hown hK.1 hP 0 rfl rfl 3 (by decide) (hts (.fieldLink RX5 13 "StampMakerModel" "until" "[I") (by decide +kernel)) (fun _ h9 => h9) rfl dX5_make_65 ?_
  refine lv_iload_n hx hb dX5_make_68 rfl (lv_at hl 1 rfl) ?_
  refine va_iald hx hb hK.1 hP 2 0 rfl rfl (vp_in_nI (by omega) (by omega)) dX5_make_69 ?_
  refine lv_rei (x' := ku i) (congrArg ku (nI_clamp (by omega))) ?_
  refine lv_i2l hx hb dX5_make_70 rfl ?_
  refine cSi (rest := []) ⟨hx, hb, hml, hown, hts⟩ [.long xd, .long ((kf i).toInt64), .long ((ku i).toInt64)] (c_X5_within l g (v := xd) (lo := (kf i).toInt64) (hi := (ku i).toInt64)) (va_cwS 3 hts gX5_make_X5_within rfl rfl rfl (by decide +kernel) ⟨Nat.le_of_ble_eq_true rfl, Nat.le_of_ble_eq_true rfl⟩) hK hZ hS (subP hP [] rfl) rfl hl.1 rfl (Nat.le_of_ble_eq_true rfl) dX5_make_71 ⟨Nat.zero_le _, Nat.zero_le _⟩ (fun r_213 hr_213 => ?_)
  obtain rfl : r_213 = (inI (xd).toInt ((kf i).toInt64).toInt ((ku i).toInt64).toInt) := hr_213
  refine lv_rei (x' := (inI xd.toInt (kf i).toInt (ku i).toInt)) (by rw [Int32.toInt_toInt64, Int32.toInt_toInt64]) ?_
  refine lv_if_ne (tgt := 80) hx hb dX5_make_74 (by decide) (fun c9 => absurd (inI_0 hst) c9) (fun _ => ?_)
  refine lv_bipush (v := (-23)) hx hb dX5_make_77 (by decide) ?_
  exact endWi () hx hb hr hlocks hS dX5_make_79 hP hD (rfl)

set_option maxHeartbeats 4000000 in
set_option maxRecDepth 100000 in
/-- a stamp made -/
theorem c_X5_make_yes (l : Launch) (g : gE) (hsz : Nat) (m0 kn mn tn qf qu qz qd qx ql qg qb qy qc qe qw qt qr qi : Nat) (th has cc sp rk : Int32) (kf ku fz fus fx fw fs fe fr9 fb9 fl f : Nat → Int32) (i nz v kd d : Nat) (hi : i < kn) (hkn : kn ≤ 15) (hmn : mn < 16384) (hv1 : 1 ≤ v) (hv2 : v ≤ 99999) (hkd : kd ≤ 9) (hdd : d ≤ 65535) (hst : (kf i).toInt ≤ d ∧ (d : Int) ≤ (ku i).toInt) (hfz : fz i = nI nz) (hz : nz ≤ 32) (hf : ∀ j, j < nz → f j = fx (32 * i + j)) (hr9 : ∀ j, j < 64 → fr9 j = sK j) (hb9 : ∀ j, j < 8 → fb9 j = sBeg j) : Met l yX5_make wsX5_make ({ frames := 5, cells := 0, slots := 0, locals := 105 }) (va_Pc [.ref m0, .int (nI i), .int (nI v), .int (nI kd), .long (lN d)] (wr g [(m0, .inr (6, [.int th, .int (nI kn), .ref qf, .ref qu, .ref qz, .ref qd, .ref qx, .int (nI mn), .int has, .ref ql, .int (nI tn), .ref qg, .int cc, .ref qb, .ref qy, .ref qc, .int sp, .int rk, .ref qe, .ref qw, .ref qt, .ref qr, .ref qi])), (qz, .inl (g.2.1 0, 15, .inl fz)), (qx, .inl (g.2.1 1, 480, .inl fx)), (qw, .inl (g.2.1 0, 64, .inl fw)), (qt, .inl (g.2.1 0, 8, .inl fs)), (qe, .inl (g.2.1 1, 32, .inl fe)), (qr, .inl (g.2.1 0, 64, .inl fr9)), (qi, .inl (g.2.1 0, 8, .inl fb9)), (qf, .inl (g.2.1 0, 15, .inl kf)), (qu, .inl (g.2.1 0, 15, .inl ku)), (ql, .inl (g.2.1 0, 16, .inl fl)), (qd, .inl (g.2.1 2, 15, .inl fus))] hsz)) (va_Qi (fun (r : Int32) (u : ((Nat → Int32) × (Nat → Int32) × (Nat → Int32) × (Nat → Int32))) => r = nI 16 ∧ (∀ j, j < 32 → u.2.2.1 j = oB (dG f nz (pkN i kd v d mn) (j / 4)) (24 - 8 * (j % 4))) ∧ ∀ j, j < 16 → u.2.2.2 j = ltE (pkN i kd v d mn) (sN f nz (pkN i kd v d mn)) j) (wB g (va_A [(m0, .inr (6, [.int th, .int (nI kn), .ref qf, .ref qu, .ref qz, .ref qd, .ref qx, .int (nI mn), .int has, .ref ql, .int (nI tn), .ref qg, .int cc, .ref qb, .ref qy, .ref qc, .int sp, .int rk, .ref qe, .ref qw, .ref qt, .ref qr, .ref qi])), (qz, .inl (g.2.1 0, 15, .inl fz)), (qx, .inl (g.2.1 1, 480, .inl fx)), (qw, .inl (g.2.1 0, 64, .inl fw)), (qt, .inl (g.2.1 0, 8, .inl fs)), (qe, .inl (g.2.1 1, 32, .inl fe)), (qr, .inl (g.2.1 0, 64, .inl fr9)), (qi, .inl (g.2.1 0, 8, .inl fb9)), (qf, .inl (g.2.1 0, 15, .inl kf)), (qu, .inl (g.2.1 0, 15, .inl ku)), (ql, .inl (g.2.1 0, 16, .inl fl)), (qd, .inl (g.2.1 2, 15, .inl fus))] hsz) (fun u : ((Nat → Int32) × (Nat → Int32) × (Nat → Int32) × (Nat → Int32)) => [(m0, .inr (6, [.int (nI 0), .int (nI kn), .ref qf, .ref qu, .ref qz, .ref qd, .ref qx, .int (nI (mn + 1)), .int (nI 1), .ref ql, .int (nI tn), .ref qg, .int cc, .ref qb, .ref qy, .ref qc, .int sp, .int (nI 1), .ref qe, .ref qw, .ref qt, .ref qr, .ref qi])), (qz, .inl (g.2.1 0, 15, .inl fz)), (qx, .inl (g.2.1 1, 480, .inl fx)), (qw, .inl (g.2.1 0, 64, .inl u.1)), (qt, .inl (g.2.1 0, 8, .inl u.2.1)), (qe, .inl (g.2.1 1, 32, .inl u.2.2.1)), (qr, .inl (g.2.1 0, 64, .inl fr9)), (qi, .inl (g.2.1 0, 8, .inl fb9)), (qf, .inl (g.2.1 0, 15, .inl kf)), (qu, .inl (g.2.1 0, 15, .inl ku)), (ql, .inl (g.2.1 0, 16, .inl u.2.2.2)), (qd, .inl (g.2.1 2, 15, .inl (upd fus i (nI 1))))])) (va_A [(m0, .inr (6, [.int th, .int (nI kn), .ref qf, .ref qu, .ref qz, .ref qd, .ref qx, .int (nI mn), .int has, .ref ql, .int (nI tn), .ref qg, .int cc, .ref qb, .ref qy, .ref qc, .int sp, .int rk, .ref qe, .ref qw, .ref qt, .ref qr, .ref qi])), (qz, .inl (g.2.1 0, 15, .inl fz)), (qx, .inl (g.2.1 1, 480, .inl fx)), (qw, .inl (g.2.1 0, 64, .inl fw)), (qt, .inl (g.2.1 0, 8, .inl fs)), (qe, .inl (g.2.1 1, 32, .inl fe)), (qr, .inl (g.2.1 0, 64, .inl fr9)), (qi, .inl (g.2.1 0, 8, .inl fb9)), (qf, .inl (g.2.1 0, 15, .inl kf)), (qu, .inl (g.2.1 0, 15, .inl ku)), (ql, .inl (g.2.1 0, 16, .inl fl)), (qd, .inl (g.2.1 2, 15, .inl fus))] hsz)) 0 0 (va_A [(m0, .inr (6, [.int th, .int (nI kn), .ref qf, .ref qu, .ref qz, .ref qd, .ref qx, .int (nI mn), .int has, .ref ql, .int (nI tn), .ref qg, .int cc, .ref qb, .ref qy, .ref qc, .int sp, .int rk, .ref qe, .ref qw, .ref qt, .ref qr, .ref qi])), (qz, .inl (g.2.1 0, 15, .inl fz)), (qx, .inl (g.2.1 1, 480, .inl fx)), (qw, .inl (g.2.1 0, 64, .inl fw)), (qt, .inl (g.2.1 0, 8, .inl fs)), (qe, .inl (g.2.1 1, 32, .inl fe)), (qr, .inl (g.2.1 0, 64, .inl fr9)), (qi, .inl (g.2.1 0, 8, .inl fb9)), (qf, .inl (g.2.1 0, 15, .inl kf)), (qu, .inl (g.2.1 0, 15, .inl ku)), (ql, .inl (g.2.1 0, 16, .inl fl)), (qd, .inl (g.2.1 2, 15, .inl fus))] hsz) := by
  refine ofWi (cc := cX5_make) (maxL := 9) (ret := (some .int)) (by decide) rfl (Nat.le_of_ble_eq_true rfl) (fun p e s m below meth c hx hb hr hml hts hown hlocks hnm A H hH hA hP hD hK hZ hS ls hl => ?_)
  have hown : s.vm.findClass RX5 = some m.cls := hown
  have hl : lv_has ls 9 [(0, .ref m0), (1, .int (nI i)), (2, .int (nI v)), (3, .int (nI kd)), (4, .long (lN d))] := hl
  have tn0 : (nI 0).toInt = 0 := by decide
  have tn1 : (nI 1).toInt = 1 := by decide
  have tn5 : (nI 5).toInt = 5 := by decide
  have tn11 : (nI 11).toInt = 11 := by decide
  have tn16 : (nI 16).toInt = 16 := by decide
  have tn50 : (nI 50).toInt = 50 := by decide
  have tn16384 : (nI 16384).toInt = 16384 := by decide
  have tl0 : (lN 0).toInt = 0 := by decide
  have tl1 : (lN 1).toInt = 1 := by decide
  have tl9 : (lN 9).toInt = 9 := by decide
  have tl16 : (lN 16).toInt = 16 := by decide
  have tl31 : (lN 31).toInt = 31 := by decide
  have tl16384 : (lN 16384).toInt = 16384 := by decide
  have tl65535 : (lN 65535).toInt = 65535 := by decide
  have tl65536 : (lN 65536).toInt = 65536 := by decide
  have tl99999 : (lN 99999).toInt = 99999 := by decide
  have tl131072 : (lN 131072).toInt = 131072 := by decide
  have hiX5 : ∀ w ∈ wsX50, w ∈ wsX5_make := by decide +kernel
  have tv := tl_n (n := v) (by omega)
  have tkd := tl_n (n := kd) (by omega)
  have td := tl_n (n := d) (by omega)
  have tni := ti_n (n := i) (by omega)
  have hN : pkN i kd v d mn < 36028797018963968 := by unfold pkN; omega
  refine lv_aload_n hx hb dX5_make_0 rfl (lv_at hl 0 rfl) ?_
  refine lv_iconst (v := (nI 0)) hx hb dX5_make_1 (by decide) ?_
  refine va_put (D := g.1) (ci := 6) (v := .int (nI 0)) (ty := .int) (C := RX5) (T := TX5) (N := 23) hx hb hts hiX5 tyX5 tyX5_ok nmX5 hown hK.1 hP hD hS 0 rfl rfl 0 (by decide) (hts (.fieldLink RX5 136 "StampMakerModel" "thrown" "I") (by decide +kernel)) (fun _ h9 => h9) rfl (by decide +kernel) rfl rfl (Nat.le_of_ble_eq_true rfl) dX5_make_2 (fun H locs hP hD hS => ?_)
  have hP : va_P g.1 vwCl [(m0, .inr (6, [.int (nI 0), .int (nI kn), .ref qf, .ref qu, .ref qz, .ref qd, .ref qx, .int (nI mn), .int has, .ref ql, .int (nI tn), .ref qg, .int cc, .ref qb, .ref qy, .ref qc, .int sp, .int rk, .ref qe, .ref qw, .ref qt, .ref qr, .ref qi])), (qz, .inl (g.2.1 0, 15, .inl fz)), (qx, .inl (g.2.1 1, 480, .inl fx)), (qw, .inl (g.2.1 0, 64, .inl fw)), (qt, .inl (g.2.1 0, 8, .inl fs)), (qe, .inl (g.2.1 1, 32, .inl fe)), (qr, .inl (g.2.1 0, 64, .inl fr9)), (qi, .inl (g.2.1 0, 8, .inl fb9)), (qf, .inl (g.2.1 0, 15, .inl kf)), (qu, .inl (g.2.1 0, 15, .inl ku)), (ql, .inl (g.2.1 0, 16, .inl fl)), (qd, .inl (g.2.1 2, 15, .inl fus))] H := hP
  have hD : va_D A [(m0, .inr (6, [.int (nI 0), .int (nI kn), .ref qf, .ref qu, .ref qz, .ref qd, .ref qx, .int (nI mn), .int has, .ref ql, .int (nI tn), .ref qg, .int cc, .ref qb, .ref qy, .ref qc, .int sp, .int rk, .ref qe, .ref qw, .ref qt, .ref qr, .ref qi])), (qz, .inl (g.2.1 0, 15, .inl fz)), (qx, .inl (g.2.1 1, 480, .inl fx)), (qw, .inl (g.2.1 0, 64, .inl fw)), (qt, .inl (g.2.1 0, 8, .inl fs)), (qe, .inl (g.2.1 1, 32, .inl fe)), (qr, .inl (g.2.1 0, 64, .inl fr9)), (qi, .inl (g.2.1 0, 8, .inl fb9)), (qf, .inl (g.2.1 0, 15, .inl kf)), (qu, .inl (g.2.1 0, 15, .inl ku)), (ql, .inl (g.2.1 0, 16, .inl fl)), (qd, .inl (g.2.1 2, 15, .inl fus))] := hD
  refine lv_aload_n hx hb dX5_make_5 rfl (lv_at hl 0 rfl) ?_
  refine lv_iload_n hx hb dX5_make_6 rfl (lv_at hl 1 rfl) ?_
  refine cVi (rest := []) ⟨hx, hb, hml, hown, hts⟩ [.int (nI i)] (c_X5_isKey l g (m0 := m0) (kn := kn) (mn := mn) (tn := tn) (qf := qf) (qu := qu) (qz := qz) (qd := qd) (qx := qx) (ql := ql) (qg := qg) (qb := qb) (qy := qy) (qc := qc) (qe := qe) (qw := qw) (qt := qt) (qr := qr) (qi := qi) (th := (nI 0)) (has := has) (cc := cc) (sp := sp) (rk := rk) (x := (nI i)) hkn) (cwV 1 hts gX5_make_X5_isKey rfl rfl rfl (by decide +kernel) ⟨Nat.le_of_ble_eq_true rfl, Nat.le_of_ble_eq_true rfl⟩) hK hZ hS (subP hP [0] rfl) (va_recv hK.1 hP (ci := 6) (q0 := 0) rfl rfl) rfl hl.1 rfl (Nat.le_of_ble_eq_true rfl) dX5_make_7 ⟨Nat.zero_le _, Nat.zero_le _⟩ (fun r_214 hr_214 => ?_)
  obtain rfl : r_214 = (inI ((nI i)).toInt 0 ((kn : Int) - 1)) := hr_214
  refine lv_if_ne (tgt := 16) hx hb dX5_make_10 (by decide) (fun _ => ?_) (fun c9 => absurd c9 (by rw [inI_1 (by omega) (by omega)]; decide))
  refine lv_iload_n hx hb dX5_make_16 rfl (lv_at hl 2 rfl) ?_
  refine lv_i2l hx hb dX5_make_17 rfl ?_
  refine lv_rel (x' := (lN v)) (nI_L (by omega)) ?_
  refine lv_lconst (v := lN 1) hx hb dX5_make_18 (by decide) ?_
  refine lv_ldc2 (v := (lN 99999)) hx hb hown (hts (.constantLong RX5 173 (lN 99999)) (by decide +kernel)) dX5_make_19 ?_
  refine cSi (rest := []) ⟨hx, hb, hml, hown, hts⟩ [.long (lN v), .long (lN 1), .long (lN 99999)] (c_X5_within l g (v := lN v) (lo := lN 1) (hi := lN 99999)) (va_cwS 3 hts gX5_make_X5_within rfl rfl rfl (by decide +kernel) ⟨Nat.le_of_ble_eq_true rfl, Nat.le_of_ble_eq_true rfl⟩) hK hZ hS (subP hP [] rfl) rfl hl.1 rfl (Nat.le_of_ble_eq_true rfl) dX5_make_22 ⟨Nat.zero_le _, Nat.zero_le _⟩ (fun r_215 hr_215 => ?_)
  obtain rfl : r_215 = (inI (lN v).toInt (lN 1).toInt (lN 99999).toInt) := hr_215
  refine lv_if_eq (tgt := 52) hx hb dX5_make_25 (by decide) (fun c9 => absurd c9 (by rw [inI_1 (by omega) (by omega)]; decide)) (fun _ => ?_)
  refine lv_iload_n hx hb dX5_make_28 rfl (lv_at hl 3 rfl) ?_
  refine lv_i2l hx hb dX5_make_29 rfl ?_
  refine lv_rel (x' := (lN kd)) (nI_L (by omega)) ?_
  refine lv_lconst (v := lN 0) hx hb dX5_make_30 (by decide) ?_
  refine lv_ldc2 (v := (lN 9)) hx hb hown (hts (.constantLong RX5 175 (lN 9)) (by decide +kernel)) dX5_make_31 ?_
  refine cSi (rest := []) ⟨hx, hb, hml, hown, hts⟩ [.long (lN kd), .long (lN 0), .long (lN 9)] (c_X5_within l g (v := lN kd) (lo := lN 0) (hi := lN 9)) (va_cwS 3 hts gX5_make_X5_within rfl rfl rfl (by decide +kernel) ⟨Nat.le_of_ble_eq_true rfl, Nat.le_of_ble_eq_true rfl⟩) hK hZ hS (subP hP [] rfl) rfl hl.1 rfl (Nat.le_of_ble_eq_true rfl) dX5_make_34 ⟨Nat.zero_le _, Nat.zero_le _⟩ (fun r_216 hr_216 => ?_)
  obtain rfl : r_216 = (inI (lN kd).toInt (lN 0).toInt (lN 9).toInt) := hr_216
  refine lv_if_eq (tgt := 52) hx hb dX5_make_37 (by decide) (fun c9 => absurd c9 (by rw [inI_1 (by omega) (by omega)]; decide)) (fun _ => ?_)
  refine lv_lload hx hb dX5_make_40 (lv_at hl 4 rfl) ?_
  refine lv_lconst (v := lN 0) hx hb dX5_make_42 (by decide) ?_
  refine lv_ldc2 (v := (lN 65535)) hx hb hown (hts (.constantLong RX5 143 (lN 65535)) (by decide +kernel)) dX5_make_43 ?_
  refine cSi (rest := []) ⟨hx, hb, hml, hown, hts⟩ [.long (lN d), .long (lN 0), .long (lN 65535)] (c_X5_within l g (v := lN d) (lo := lN 0) (hi := lN 65535)) (va_cwS 3 hts gX5_make_X5_within rfl rfl rfl (by decide +kernel) ⟨Nat.le_of_ble_eq_true rfl, Nat.le_of_ble_eq_true rfl⟩) hK hZ hS (subP hP [] rfl) rfl hl.1 rfl (Nat.le_of_ble_eq_true rfl) dX5_make_46 ⟨Nat.zero_le _, Nat.zero_le _⟩ (fun r_217 hr_217 => ?_)
  obtain rfl : r_217 = (inI (lN d).toInt (lN 0).toInt (lN 65535).toInt) := hr_217
  refine lv_if_ne (tgt := 55) hx hb dX5_make_49 (by decide) (fun _ => ?_) (fun c9 => absurd c9 (by rw [inI_1 (by omega) (by omega)]; decide))
  refine lv_lload hx hb dX5_make_55 (lv_at hl 4 rfl) ?_
  refine lv_aload_n hx hb dX5_make_57 rfl (lv_at hl 0 rfl) ?_
  refine va_get (D := g.1) (ci := 6) (v := .ref qf) (C := RX5) (T := TX5) (N := 23) hx hb hts hiX5 hown hK.1 hP 0 rfl rfl 2 (by decide) (hts (.fieldLink RX5 7 "StampMakerModel" "from" "[I") (by decide +kernel)) (fun _ h9 => h9) rfl dX5_make_58 ?_
  refine lv_iload_n hx hb dX5_make_61 rfl (lv_at hl 1 rfl) ?_
  refine va_iald hx hb hK.1 hP 8 0 rfl rfl (vp_in_nI (by omega) (by omega)) dX5_make_62 ?_
  refine lv_rei (x' := kf i) (congrArg kf (nI_clamp (by omega))) ?_
  refine lv_i2l hx hb dX5_make_63 rfl ?_
  refine lv_aload_n hx hb dX5_make_64 rfl (lv_at hl 0 rfl) ?_
  refine va_get (D := g.1) (ci := 6) (v := .ref qu) (C := RX5) (T := TX5) (N := 23) hx hb hts hiX5 hown hK.1 hP 0 rfl rfl 3 (by decide) (hts (.fieldLink RX5 13 "StampMakerModel" "until" "[I") (by decide +kernel)) (fun _ h9 => h9) rfl dX5_make_65 ?_
  refine lv_iload_n hx hb dX5_make_68 rfl (lv_at hl 1 rfl) ?_
  refine va_iald hx hb hK.1 hP 9 0 rfl rfl (vp_in_nI (by omega) (by omega)) dX5_make_69 ?_
  refine lv_rei (x' := ku i) (congrArg ku (nI_clamp (by omega))) ?_
  refine lv_i2l hx hb dX5_make_70 rfl ?_
  refine cSi (rest := []) ⟨hx, hb, hml, hown, hts⟩ [.long (lN d), .long ((kf i).toInt64), .long ((ku i).toInt64)] (c_X5_within l g (v := lN d) (lo := (kf i).toInt64) (hi := (ku i).toInt64)) (va_cwS 3 hts gX5_make_X5_within rfl rfl rfl (by decide +kernel) ⟨Nat.le_of_ble_eq_true rfl, Nat.le_of_ble_eq_true rfl⟩) hK hZ hS (subP hP [] rfl) rfl hl.1 rfl (Nat.le_of_ble_eq_true rfl) dX5_make_71 ⟨Nat.zero_le _, Nat.zero_le _⟩ (fun r_218 hr_218 => ?_)
  obtain rfl : r_218 = (inI (lN d).toInt ((kf i).toInt64).toInt ((ku i).toInt64).toInt) := hr_218
  refine lv_rei (x' := (inI (lN d).toInt (kf i).toInt (ku i).toInt)) (by rw [Int32.toInt_toInt64, Int32.toInt_toInt64]) ?_
  refine lv_if_ne (tgt := 80) hx hb dX5_make_74 (by decide) (fun _ => ?_) (fun c9 => absurd c9 (by rw [inI_1 (by omega) (by omega)]; decide))
  refine lv_aload_n hx hb dX5_make_80 rfl (lv_at hl 0 rfl) ?_
  refine va_get (D := g.1) (ci := 6) (v := .int (nI mn)) (C := RX5) (T := TX5) (N := 23) hx hb hts hiX5 hown hK.1 hP 0 rfl rfl 7 (by decide) (hts (.fieldLink RX5 177 "StampMakerModel" "serial" "I") (by decide +kernel)) (fun _ h9 => h9) rfl dX5_make_81 ?_
  refine lv_sipush (v := (nI 16384)) hx hb dX5_make_84 (by decide) ?_
  refine lv_icmp_ne (tgt := 93) hx hb dX5_make_87 (by decide) (fun _ => ?_) (fun c9 => absurd c9 (fun z => absurd ((nI_eq (by omega) (by omega)).mp z) (by omega)))
  refine lv_iload_n hx hb dX5_make_93 rfl (lv_at hl 1 rfl) ?_
  refine lv_i2l hx hb dX5_make_94 rfl ?_
  refine lv_rel (x' := (lN i)) (nI_L (by omega)) ?_
  refine lv_ldc2 (v := (lN 16)) hx hb hown (hts (.constantLong RX5 180 (lN 16)) (by decide +kernel)) dX5_make_95 ?_
  refine lv_lmul hx hb dX5_make_98 ?_
  refine lv_rel (x' := (lN (i * 16))) (lN_mul _ _) ?_
  refine lv_iload_n hx hb dX5_make_99 rfl (lv_at hl 3 rfl) ?_
  refine lv_i2l hx hb dX5_make_100 rfl ?_
  refine lv_rel (x' := (lN kd)) (nI_L (by omega)) ?_
  refine lv_ladd hx hb dX5_make_101 ?_
  refine lv_rel (x' := (lN (i * 16 + kd))) (lN_add _ _) ?_
  refine lv_ldc2 (v := (lN 131072)) hx hb hown (hts (.constantLong RX5 182 (lN 131072)) (by decide +kernel)) dX5_make_102 ?_
  refine lv_lmul hx hb dX5_make_105 ?_
  refine lv_rel (x' := (lN ((i * 16 + kd) * 131072))) (lN_mul _ _) ?_
  refine lv_iload_n hx hb dX5_make_106 rfl (lv_at hl 2 rfl) ?_
  refine lv_i2l hx hb dX5_make_107 rfl ?_
  refine lv_rel (x' := (lN v)) (nI_L (by omega)) ?_
  refine lv_ladd hx hb dX5_make_108 ?_
  refine lv_rel (x' := (lN ((i * 16 + kd) * 131072 + v))) (lN_add _ _) ?_
  refine lv_ldc2 (v := (lN 65536)) hx hb hown (hts (.constantLong RX5 184 (lN 65536)) (by decide +kernel)) dX5_make_109 ?_
  refine lv_lmul hx hb dX5_make_112 ?_
  refine lv_rel (x' := (lN (((i * 16 + kd) * 131072 + v) * 65536))) (lN_mul _ _) ?_
  refine lv_lload hx hb dX5_make_113 (lv_at hl 4 rfl) ?_
  refine lv_ladd hx hb dX5_make_115 ?_
  refine lv_rel (x' := (lN (((i * 16 + kd) * 131072 + v) * 65536 + d))) (lN_add _ _) ?_
  refine lv_ldc2 (v := (lN 16384)) hx hb hown (hts (.constantLong RX5 186 (lN 16384)) (by decide +kernel)) dX5_make_116 ?_
  refine lv_lmul hx hb dX5_make_119 ?_
  refine lv_rel (x' := (lN ((((i * 16 + kd) * 131072 + v) * 65536 + d) * 16384))) (lN_mul _ _) ?_
  refine lv_aload_n hx hb dX5_make_120 rfl (lv_at hl 0 rfl) ?_
  refine va_get (D := g.1) (ci := 6) (v := .int (nI mn)) (C := RX5) (T := TX5) (N := 23) hx hb hts hiX5 hown hK.1 hP 0 rfl rfl 7 (by decide) (hts (.fieldLink RX5 177 "StampMakerModel" "serial" "I") (by decide +kernel)) (fun _ h9 => h9) rfl dX5_make_121 ?_
  refine lv_i2l hx hb dX5_make_124 rfl ?_
  refine lv_rel (x' := (lN mn)) (nI_L (by omega)) ?_
  refine lv_ladd hx hb dX5_make_125 ?_
  refine lv_rel (x' := (lN (pkN i kd v d mn))) (lN_add _ _) ?_
  refine lv_lstore (lv' := [(6, .long (lN (pkN i kd v d mn))), (0, .ref m0), (1, .int (nI i)), (2, .int (nI v)), (3, .int (nI kd)), (4, .long (lN d))]) hx hb dX5_make_126 hl (by decide) rfl (fun ls hl => ?_)
  refine lv_aload_n hx hb dX5_make_128 rfl (lv_at hl 1 rfl) ?_
  refine lv_iload_n hx hb dX5_make_129 rfl (lv_at hl 2 rfl) ?_
  refine lv_lload hx hb dX5_make_130 (lv_at hl 0 rfl) ?_
  refine wVv (rest := []) ⟨hx, hb, hml, hown, hts⟩ [.int (nI i), .long (lN (pkN i kd v d mn))] [0, 1, 2, 3, 4, 5, 6, 7] (c_X5_reckon l g H.size (m0 := m0) (kn := kn) (mn := mn) (tn := tn) (qf := qf) (qu := qu) (qz := qz) (qd := qd) (qx := qx) (ql := ql) (qg := qg) (qb := qb) (qy := qy) (qc := qc) (qe := qe) (qw := qw) (qt := qt) (qr := qr) (qi := qi) (th := (nI 0)) (has := has) (cc := cc) (sp := sp) (rk := rk) (fz := fz) (fx := fx) (fw := fw) (fs := fs) (fe := fe) (fr9 := fr9) (fb9 := fb9) (f := f) (i := i) (nz := nz) (N := (pkN i kd v d mn)) (by omega) hfz hz hN hf hr9 hb9) (cwV 2 hts gX5_make_X5_reckon rfl rfl rfl (by decide +kernel) ⟨Nat.le_of_ble_eq_true rfl, Nat.le_of_ble_eq_true rfl⟩) hK hZ hS hP hD hA rfl (by decide) (fun _ => Nat.le_of_ble_eq_true rfl) (fun _ => rfl) (va_recv hK.1 hP (ci := 6) (q0 := 0) rfl rfl) rfl hl.1 rfl (Nat.le_of_ble_eq_true rfl) dX5_make_132 ⟨Nat.le_of_ble_eq_true rfl, Nat.le_of_ble_eq_true rfl⟩ (fun u H locs hz1 hP hD hS => ?_)
  obtain ⟨G, T, E⟩ := u
  have hP : va_P g.1 vwCl [(m0, .inr (6, [.int (nI 0), .int (nI kn), .ref qf, .ref qu, .ref qz, .ref qd, .ref qx, .int (nI mn), .int has, .ref ql, .int (nI tn), .ref qg, .int cc, .ref qb, .ref qy, .ref qc, .int sp, .int (nI 1), .ref qe, .ref qw, .ref qt, .ref qr, .ref qi])), (qz, .inl (g.2.1 0, 15, .inl fz)), (qx, .inl (g.2.1 1, 480, .inl fx)), (qw, .inl (g.2.1 0, 64, .inl ((G, T, E).1))), (qt, .inl (g.2.1 0, 8, .inl ((G, T, E).2.1))), (qe, .inl (g.2.1 1, 32, .inl ((G, T, E).2.2))), (qr, .inl (g.2.1 0, 64, .inl fr9)), (qi, .inl (g.2.1 0, 8, .inl fb9)), (qf, .inl (g.2.1 0, 15, .inl kf)), (qu, .inl (g.2.1 0, 15, .inl ku)), (ql, .inl (g.2.1 0, 16, .inl fl)), (qd, .inl (g.2.1 2, 15, .inl fus))] H := hP
  have hD : va_D A [(m0, .inr (6, [.int (nI 0), .int (nI kn), .ref qf, .ref qu, .ref qz, .ref qd, .ref qx, .int (nI mn), .int has, .ref ql, .int (nI tn), .ref qg, .int cc, .ref qb, .ref qy, .ref qc, .int sp, .int (nI 1), .ref qe, .ref qw, .ref qt, .ref qr, .ref qi])), (qz, .inl (g.2.1 0, 15, .inl fz)), (qx, .inl (g.2.1 1, 480, .inl fx)), (qw, .inl (g.2.1 0, 64, .inl ((G, T, E).1))), (qt, .inl (g.2.1 0, 8, .inl ((G, T, E).2.1))), (qe, .inl (g.2.1 1, 32, .inl ((G, T, E).2.2))), (qr, .inl (g.2.1 0, 64, .inl fr9)), (qi, .inl (g.2.1 0, 8, .inl fb9)), (qf, .inl (g.2.1 0, 15, .inl kf)), (qu, .inl (g.2.1 0, 15, .inl ku)), (ql, .inl (g.2.1 0, 16, .inl fl)), (qd, .inl (g.2.1 2, 15, .inl fus))] := hD
  have hP : va_P g.1 vwCl [(m0, .inr (6, [.int (nI 0), .int (nI kn), .ref qf, .ref qu, .ref qz, .ref qd, .ref qx, .int (nI mn), .int has, .ref ql, .int (nI tn), .ref qg, .int cc, .ref qb, .ref qy, .ref qc, .int sp, .int (nI 1), .ref qe, .ref qw, .ref qt, .ref qr, .ref qi])), (qz, .inl (g.2.1 0, 15, .inl fz)), (qx, .inl (g.2.1 1, 480, .inl fx)), (qw, .inl (g.2.1 0, 64, .inl G)), (qt, .inl (g.2.1 0, 8, .inl T)), (qe, .inl (g.2.1 1, 32, .inl E)), (qr, .inl (g.2.1 0, 64, .inl fr9)), (qi, .inl (g.2.1 0, 8, .inl fb9)), (qf, .inl (g.2.1 0, 15, .inl kf)), (qu, .inl (g.2.1 0, 15, .inl ku)), (ql, .inl (g.2.1 0, 16, .inl fl)), (qd, .inl (g.2.1 2, 15, .inl fus))] H := hP
  have hD : va_D A [(m0, .inr (6, [.int (nI 0), .int (nI kn), .ref qf, .ref qu, .ref qz, .ref qd, .ref qx, .int (nI mn), .int has, .ref ql, .int (nI tn), .ref qg, .int cc, .ref qb, .ref qy, .ref qc, .int sp, .int (nI 1), .ref qe, .ref qw, .ref qt, .ref qr, .ref qi])), (qz, .inl (g.2.1 0, 15, .inl fz)), (qx, .inl (g.2.1 1, 480, .inl fx)), (qw, .inl (g.2.1 0, 64, .inl G)), (qt, .inl (g.2.1 0, 8, .inl T)), (qe, .inl (g.2.1 1, 32, .inl E)), (qr, .inl (g.2.1 0, 64, .inl fr9)), (qi, .inl (g.2.1 0, 8, .inl fb9)), (qf, .inl (g.2.1 0, 15, .inl kf)), (qu, .inl (g.2.1 0, 15, .inl ku)), (ql, .inl (g.2.1 0, 16, .inl fl)), (qd, .inl (g.2.1 2, 15, .inl fus))] := hD
  have hz1 : ∀ j, j < 32 → E j = oB (dG f nz (pkN i kd v d mn) (j / 4)) (24 - 8 * (j % 4)) := hz1
  obtain ⟨N, eN⟩ : ∃ z, z = pkN i kd v d mn := ⟨_, rfl⟩
  rw [← eN] at hz1 hN
  obtain ⟨xU, eU⟩ : ∃ z, z = dG f nz N 0 := ⟨_, rfl⟩
  have hE : ∀ j, j < 4 → E j = oB xU (24 - 8 * (j % 4)) := fun j hj => by rw [hz1 j (by omega), show j / 4 = 0 by omega, ← eU]
  refine lv_iconst (v := (nI 0)) hx hb dX5_make_135 (by decide) ?_
  refine lv_istore (lv' := [(8, .int (nI 0)), (6, .long (lN (pkN i kd v d mn))), (0, .ref m0), (1, .int (nI i)), (2, .int (nI v)), (3, .int (nI kd)), (4, .long (lN d))]) hx hb dX5_make_136 hl (by decide) rfl (fun ls hl => ?_)
  have L1 : ∀ (fu : Nat) (q : Nat) (F : Nat → Int32), (17 ≤ q + fu) → (q ≤ 16) → (∀ j, j < q → F j = ltE N (sN f nz N) j) → ∀ (H : Heap) (locs : List Loc), va_P g.1 vwCl [(m0, .inr (6, [.int (nI 0), .int (nI kn), .ref qf, .ref qu, .ref qz, .ref qd, .ref qx, .int (nI mn), .int has, .ref ql, .int (nI tn), .ref qg, .int cc, .ref qb, .ref qy, .ref qc, .int sp, .int (nI 1), .ref qe, .ref qw, .ref qt, .ref qr, .ref qi])), (qz, .inl (g.2.1 0, 15, .inl fz)), (qx, .inl (g.2.1 1, 480, .inl fx)), (qw, .inl (g.2.1 0, 64, .inl G)), (qt, .inl (g.2.1 0, 8, .inl T)), (qe, .inl (g.2.1 1, 32, .inl E)), (qr, .inl (g.2.1 0, 64, .inl fr9)), (qi, .inl (g.2.1 0, 8, .inl fb9)), (qf, .inl (g.2.1 0, 15, .inl kf)), (qu, .inl (g.2.1 0, 15, .inl ku)), (ql, .inl (g.2.1 0, 16, .inl F)), (qd, .inl (g.2.1 2, 15, .inl fus))] H → va_D A [(m0, .inr (6, [.int (nI 0), .int (nI kn), .ref qf, .ref qu, .ref qz, .ref qd, .ref qx, .int (nI mn), .int has, .ref ql, .int (nI tn), .ref qg, .int cc, .ref qb, .ref qy, .ref qc, .int sp, .int (nI 1), .ref qe, .ref qw, .ref qt, .ref qr, .ref qi])), (qz, .inl (g.2.1 0, 15, .inl fz)), (qx, .inl (g.2.1 1, 480, .inl fx)), (qw, .inl (g.2.1 0, 64, .inl G)), (qt, .inl (g.2.1 0, 8, .inl T)), (qe, .inl (g.2.1 1, 32, .inl E)), (qr, .inl (g.2.1 0, 64, .inl fr9)), (qi, .inl (g.2.1 0, 8, .inl fb9)), (qf, .inl (g.2.1 0, 15, .inl kf)), (qu, .inl (g.2.1 0, 15, .inl ku)), (ql, .inl (g.2.1 0, 16, .inl F)), (qd, .inl (g.2.1 2, 15, .inl fus))] → va_S A s.heap H locs → ∀ ls : Array Slot, lv_has ls 9 [(0, .ref m0), (1, .int (nI i)), (6, .long (lN (pkN i kd v d mn))), (8, .int (nI q))] → W p l e (headSpec wsX5_make ({ frames := 5, cells := 0, slots := 0, locals := 105 } : Room)).room s m ([.ref m0, .int (nI i), .int (nI v), .int (nI kd), .long (lN d)] : List Value).toArray below meth c H locs 0 0 (MQ below (va_Qi (fun (r : Int32) (u : ((Nat → Int32) × (Nat → Int32) × (Nat → Int32) × (Nat → Int32))) => r = nI 16 ∧ (∀ j, j < 32 → u.2.2.1 j = oB (dG f nz (pkN i kd v d mn) (j / 4)) (24 - 8 * (j % 4))) ∧ ∀ j, j < 16 → u.2.2.2 j = ltE (pkN i kd v d mn) (sN f nz (pkN i kd v d mn)) j) (wB g A (fun u : ((Nat → Int32) × (Nat → Int32) × (Nat → Int32) × (Nat → Int32)) => [(m0, .inr (6, [.int (nI 0), .int (nI kn), .ref qf, .ref qu, .ref qz, .ref qd, .ref qx, .int (nI (mn + 1)), .int (nI 1), .ref ql, .int (nI tn), .ref qg, .int cc, .ref qb, .ref qy, .ref qc, .int sp, .int (nI 1), .ref qe, .ref qw, .ref qt, .ref qr, .ref qi])), (qz, .inl (g.2.1 0, 15, .inl fz)), (qx, .inl (g.2.1 1, 480, .inl fx)), (qw, .inl (g.2.1 0, 64, .inl u.1)), (qt, .inl (g.2.1 0, 8, .inl u.2.1)), (qe, .inl (g.2.1 1, 32, .inl u.2.2.1)), (qr, .inl (g.2.1 0, 64, .inl fr9)), (qi, .inl (g.2.1 0, 8, .inl fb9)), (qf, .inl (g.2.1 0, 15, .inl kf)), (qu, .inl (g.2.1 0, 15, .inl ku)), (ql, .inl (g.2.1 0, 16, .inl u.2.2.2)), (qd, .inl (g.2.1 2, 15, .inl (upd fus i (nI 1))))])) A) ([.ref m0, .int (nI i), .int (nI v), .int (nI kd), .long (lN d)] : List Value).toArray s 0 0 A) (F0 m 138 ls []) := by
    intro fu
    induction fu with
    | zero => intro q F h1 h2 h3 H locs hP hD hS ls hl; exact absurd h1 (by omega)
    | succ fu ihL1 =>
      intro q F h1 h2 h3 H locs hP hD hS ls hl
      refine lv_iload hx hb dX5_make_138 (lv_at hl 3 rfl) ?_
      refine lv_bipush (v := (nI 16)) hx hb dX5_make_140 (by decide) ?_
      rcases Nat.lt_or_ge q 16 with z1 | z1
      · refine lv_icmp_ge (tgt := 195) hx hb dX5_make_142 (by decide) (fun c9 => absurd c9 (nI_ge z1 (by omega))) (fun _ => ?_)
        refine lv_aload_n hx hb dX5_make_145 rfl (lv_at hl 0 rfl) ?_
        refine va_get (D := g.1) (ci := 6) (v := .ref ql) (C := RX5) (T := TX5) (N := 23) hx hb hts hiX5 hown hK.1 hP 0 rfl rfl 9 (by decide) (hts (.fieldLink RX5 27 "StampMakerModel" "letters" "[I") (by decide +kernel)) (fun _ h9 => h9) rfl dX5_make_146 ?_
        refine lv_iload hx hb dX5_make_149 (lv_at hl 3 rfl) ?_
        refine lv_iload hx hb dX5_make_151 (lv_at hl 3 rfl) ?_
        refine lv_bipush (v := (nI 11)) hx hb dX5_make_153 (by decide) ?_
        rcases Nat.lt_or_ge q 11 with z2 | z2
        · refine lv_icmp_ge (tgt := 176) hx hb dX5_make_155 (by decide) (fun c9 => absurd c9 (nI_ge z2 (by omega))) (fun _ => ?_)
          refine lv_lload hx hb dX5_make_158 (lv_at hl 2 rfl) ?_
          refine lv_bipush (v := (nI 50)) hx hb dX5_make_160 (by decide) ?_
          refine lv_iconst (v := (nI 5)) hx hb dX5_make_162 (by decide) ?_
          refine lv_iload hx hb dX5_make_163 (lv_at hl 3 rfl) ?_
          refine lv_imul hx hb dX5_make_165 ?_
          refine lv_rei (x' := (nI (5 * q))) (pk_mul _ _) ?_
          refine lv_isub hx hb dX5_make_166 ?_
          refine lv_rei (x' := (nI (50 - 5 * q))) (pk_sub (by omega)) ?_
          refine lv_lshr hx hb dX5_make_167 rfl ?_
          refine lv_rel (x' := (lN (N / 2 ^ (50 - 5 * q)))) (by rw [← eN]; exact l_sshr (by omega) (by omega)) ?_
          refine lv_ldc2 (v := (lN 31)) hx hb hown (hts (.constantLong RX5 192 (lN 31)) (by decide +kernel)) dX5_make_168 ?_
          refine lv_land hx hb dX5_make_171 ?_
          refine lv_rel (x' := (lN (N / 2 ^ (50 - 5 * q) % 32))) (landm 5 rfl) ?_
          refine lv_l2i hx hb dX5_make_172 rfl ?_
          refine lv_rei (x' := (nI (N / 2 ^ (50 - 5 * q) % 32))) (l_i) ?_
          refine lv_goto (tgt := 185) hx hb dX5_make_173 (by decide) ?_
          refine cSi (rest := [.int (nI q), .ref ql]) ⟨hx, hb, hml, hown, hts⟩ [.int (nI (N / 2 ^ (50 - 5 * q) % 32))] (c_X5_sign l g (a := (N / 2 ^ (50 - 5 * q) % 32)) (Nat.mod_lt _ (by decide))) (va_cwS 1 hts gX5_make_X5_sign rfl rfl rfl (by decide +kernel) ⟨Nat.le_of_ble_eq_true rfl, Nat.le_of_ble_eq_true rfl⟩) hK hZ hS (subP hP [] rfl) rfl hl.1 rfl (Nat.le_of_ble_eq_true rfl) dX5_make_185 ⟨Nat.zero_le _, Nat.zero_le _⟩ (fun r_219 hr_219 => ?_)
          obtain rfl : r_219 = (aL (N / 2 ^ (50 - 5 * q) % 32)) := hr_219
          refine lv_rei (x' := (ltE N (sN f nz N) q)) ((if_pos z2).symm) ?_
          refine va_iast hx hb hK.1 hP hD hS 10 0 rfl rfl (vp_in_nI (by omega) (by omega)) dX5_make_188 (fun H locs hP hD hS => ?_)
          rw [nI_clamp (by omega)] at hP hD
          have hP : va_P g.1 vwCl [(m0, .inr (6, [.int (nI 0), .int (nI kn), .ref qf, .ref qu, .ref qz, .ref qd, .ref qx, .int (nI mn), .int has, .ref ql, .int (nI tn), .ref qg, .int cc, .ref qb, .ref qy, .ref qc, .int sp, .int (nI 1), .ref qe, .ref qw, .ref qt, .ref qr, .ref qi])), (qz, .inl (g.2.1 0, 15, .inl fz)), (qx, .inl (g.2.1 1, 480, .inl fx)), (qw, .inl (g.2.1 0, 64, .inl G)), (qt, .inl (g.2.1 0, 8, .inl T)), (qe, .inl (g.2.1 1, 32, .inl E)), (qr, .inl (g.2.1 0, 64, .inl fr9)), (qi, .inl (g.2.1 0, 8, .inl fb9)), (qf, .inl (g.2.1 0, 15, .inl kf)), (qu, .inl (g.2.1 0, 15, .inl ku)), (ql, .inl (g.2.1 0, 16, .inl (upd F q (ltE N (sN f nz N) q)))), (qd, .inl (g.2.1 2, 15, .inl fus))] H := hP
          have hD : va_D A [(m0, .inr (6, [.int (nI 0), .int (nI kn), .ref qf, .ref qu, .ref qz, .ref qd, .ref qx, .int (nI mn), .int has, .ref ql, .int (nI tn), .ref qg, .int cc, .ref qb, .ref qy, .ref qc, .int sp, .int (nI 1), .ref qe, .ref qw, .ref qt, .ref qr, .ref qi])), (qz, .inl (g.2.1 0, 15, .inl fz)), (qx, .inl (g.2.1 1, 480, .inl fx)), (qw, .inl (g.2.1 0, 64, .inl G)), (qt, .inl (g.2.1 0, 8, .inl T)), (qe, .inl (g.2.1 1, 32, .inl E)), (qr, .inl (g.2.1 0, 64, .inl fr9)), (qi, .inl (g.2.1 0, 8, .inl fb9)), (qf, .inl (g.2.1 0, 15, .inl kf)), (qu, .inl (g.2.1 0, 15, .inl ku)), (ql, .inl (g.2.1 0, 16, .inl (upd F q (ltE N (sN f nz N) q)))), (qd, .inl (g.2.1 2, 15, .inl fus))] := hD
          refine lv_iinc (v := (nI (q + 1))) (lv' := [(8, .int (nI (q + 1))), (0, .ref m0), (1, .int (nI i)), (6, .long (lN (pkN i kd v d mn)))]) hx hb dX5_make_189 hl (k := 3) rfl (nI_1 _) (by decide) rfl (fun ls hl => ?_)
          refine lv_goto (tgt := 138) hx hb dX5_make_192 (by decide) ?_
          exact ihL1 (q + 1) (upd F q (ltE N (sN f nz N) q)) (by omega) (by omega) (fillS h3 rfl) _ _ hP hD hS ls (lv_sub hl [1, 2, 3, 0] rfl)
        · refine lv_icmp_ge (tgt := 176) hx hb dX5_make_155 (by decide) (fun _ => ?_) (fun c9 => absurd (nI_le z2 (by omega)) c9)
          refine lv_aload_n hx hb dX5_make_176 rfl (lv_at hl 0 rfl) ?_
          refine lv_iload hx hb dX5_make_177 (lv_at hl 3 rfl) ?_
          refine lv_bipush (v := (nI 11)) hx hb dX5_make_179 (by decide) ?_
          refine lv_isub hx hb dX5_make_181 ?_
          refine lv_rei (x' := (nI (q - 11))) (pk_sub z2) ?_
          refine cVi (rest := [.int (nI q), .ref ql]) ⟨hx, hb, hml, hown, hts⟩ [.int (nI (q - 11))] (c_X5_five l g (m0 := m0) (kn := kn) (mn := mn) (tn := tn) (qf := qf) (qu := qu) (qz := qz) (qd := qd) (qx := qx) (ql := ql) (qg := qg) (qb := qb) (qy := qy) (qc := qc) (qe := qe) (qw := qw) (qt := qt) (qr := qr) (qi := qi) (th := (nI 0)) (has := has) (cc := cc) (sp := sp) (rk := (nI 1)) (fe := E) (xU := xU) (b := (q - 11)) (by omega) hE) (cwV 1 hts gX5_make_X5_five rfl rfl rfl (by decide +kernel) ⟨Nat.le_of_ble_eq_true rfl, Nat.le_of_ble_eq_true rfl⟩) hK hZ hS (subP hP [0, 5] rfl) (va_recv hK.1 hP (ci := 6) (q0 := 0) rfl rfl) rfl hl.1 rfl (Nat.le_of_ble_eq_true rfl) dX5_make_182 ⟨Nat.zero_le _, Nat.zero_le _⟩ (fun r_220 hr_220 => ?_)
          obtain rfl : r_220 = (nI (xU.toBitVec.toNat / 2 ^ (27 - 5 * (q - 11)) % 32)) := hr_220
          refine cSi (rest := [.int (nI q), .ref ql]) ⟨hx, hb, hml, hown, hts⟩ [.int (nI (xU.toBitVec.toNat / 2 ^ (27 - 5 * (q - 11)) % 32))] (c_X5_sign l g (a := (xU.toBitVec.toNat / 2 ^ (27 - 5 * (q - 11)) % 32)) (Nat.mod_lt _ (by decide))) (va_cwS 1 hts gX5_make_X5_sign rfl rfl rfl (by decide +kernel) ⟨Nat.le_of_ble_eq_true rfl, Nat.le_of_ble_eq_true rfl⟩) hK hZ hS (subP hP [] rfl) rfl hl.1 rfl (Nat.le_of_ble_eq_true rfl) dX5_make_185 ⟨Nat.zero_le _, Nat.zero_le _⟩ (fun r_221 hr_221 => ?_)
          obtain rfl : r_221 = (aL (xU.toBitVec.toNat / 2 ^ (27 - 5 * (q - 11)) % 32)) := hr_221
          refine lv_rei (x' := (ltE N (sN f nz N) q)) (lt_five z2 z1 (by rw [eU])) ?_
          refine va_iast hx hb hK.1 hP hD hS 10 0 rfl rfl (vp_in_nI (by omega) (by omega)) dX5_make_188 (fun H locs hP hD hS => ?_)
          rw [nI_clamp (by omega)] at hP hD
          have hP : va_P g.1 vwCl [(m0, .inr (6, [.int (nI 0), .int (nI kn), .ref qf, .ref qu, .ref qz, .ref qd, .ref qx, .int (nI mn), .int has, .ref ql, .int (nI tn), .ref qg, .int cc, .ref qb, .ref qy, .ref qc, .int sp, .int (nI 1), .ref qe, .ref qw, .ref qt, .ref qr, .ref qi])), (qz, .inl (g.2.1 0, 15, .inl fz)), (qx, .inl (g.2.1 1, 480, .inl fx)), (qw, .inl (g.2.1 0, 64, .inl G)), (qt, .inl (g.2.1 0, 8, .inl T)), (qe, .inl (g.2.1 1, 32, .inl E)), (qr, .inl (g.2.1 0, 64, .inl fr9)), (qi, .inl (g.2.1 0, 8, .inl fb9)), (qf, .inl (g.2.1 0, 15, .inl kf)), (qu, .inl (g.2.1 0, 15, .inl ku)), (ql, .inl (g.2.1 0, 16, .inl (upd F q (ltE N (sN f nz N) q)))), (qd, .inl (g.2.1 2, 15, .inl fus))] H := hP
          have hD : va_D A [(m0, .inr (6, [.int (nI 0), .int (nI kn), .ref qf, .ref qu, .ref qz, .ref qd, .ref qx, .int (nI mn), .int has, .ref ql, .int (nI tn), .ref qg, .int cc, .ref qb, .ref qy, .ref qc, .int sp, .int (nI 1), .ref qe, .ref qw, .ref qt, .ref qr, .ref qi])), (qz, .inl (g.2.1 0, 15, .inl fz)), (qx, .inl (g.2.1 1, 480, .inl fx)), (qw, .inl (g.2.1 0, 64, .inl G)), (qt, .inl (g.2.1 0, 8, .inl T)), (qe, .inl (g.2.1 1, 32, .inl E)), (qr, .inl (g.2.1 0, 64, .inl fr9)), (qi, .inl (g.2.1 0, 8, .inl fb9)), (qf, .inl (g.2.1 0, 15, .inl kf)), (qu, .inl (g.2.1 0, 15, .inl ku)), (ql, .inl (g.2.1 0, 16, .inl (upd F q (ltE N (sN f nz N) q)))), (qd, .inl (g.2.1 2, 15, .inl fus))] := hD
          refine lv_iinc (v := (nI (q + 1))) (lv' := [(8, .int (nI (q + 1))), (0, .ref m0), (1, .int (nI i)), (6, .long (lN (pkN i kd v d mn)))]) hx hb dX5_make_189 hl (k := 3) rfl (nI_1 _) (by decide) rfl (fun ls hl => ?_)
          refine lv_goto (tgt := 138) hx hb dX5_make_192 (by decide) ?_
          exact ihL1 (q + 1) (upd F q (ltE N (sN f nz N) q)) (by omega) (by omega) (fillS h3 rfl) _ _ hP hD hS ls (lv_sub hl [1, 2, 3, 0] rfl)
      · refine lv_icmp_ge (tgt := 195) hx hb dX5_make_142 (by decide) (fun _ => ?_) (fun c9 => absurd (nI_le z1 (by omega)) c9)
        refine lv_aload_n hx hb dX5_make_195 rfl (lv_at hl 0 rfl) ?_
        refine lv_iconst (v := (nI 1)) hx hb dX5_make_196 (by decide) ?_
        refine va_put (D := g.1) (ci := 6) (v := .int (nI 1)) (ty := .boolean) (C := RX5) (T := TX5) (N := 23) hx hb hts hiX5 tyX5 tyX5_ok nmX5 hown hK.1 hP hD hS 0 rfl rfl 8 (by decide) (hts (.fieldLink RX5 197 "StampMakerModel" "has" "Z") (by decide +kernel)) (fun _ h9 => h9) rfl (by decide +kernel) (by decide) (by decide) (Nat.le_of_ble_eq_true rfl) dX5_make_197 (fun H locs hP hD hS => ?_)
        have hP : va_P g.1 vwCl [(m0, .inr (6, [.int (nI 0), .int (nI kn), .ref qf, .ref qu, .ref qz, .ref qd, .ref qx, .int (nI mn), .int (nI 1), .ref ql, .int (nI tn), .ref qg, .int cc, .ref qb, .ref qy, .ref qc, .int sp, .int (nI 1), .ref qe, .ref qw, .ref qt, .ref qr, .ref qi])), (qz, .inl (g.2.1 0, 15, .inl fz)), (qx, .inl (g.2.1 1, 480, .inl fx)), (qw, .inl (g.2.1 0, 64, .inl G)), (qt, .inl (g.2.1 0, 8, .inl T)), (qe, .inl (g.2.1 1, 32, .inl E)), (qr, .inl (g.2.1 0, 64, .inl fr9)), (qi, .inl (g.2.1 0, 8, .inl fb9)), (qf, .inl (g.2.1 0, 15, .inl kf)), (qu, .inl (g.2.1 0, 15, .inl ku)), (ql, .inl (g.2.1 0, 16, .inl F)), (qd, .inl (g.2.1 2, 15, .inl fus))] H := hP
        have hD : va_D A [(m0, .inr (6, [.int (nI 0), .int (nI kn), .ref qf, .ref qu, .ref qz, .ref qd, .ref qx, .int (nI mn), .int (nI 1), .ref ql, .int (nI tn), .ref qg, .int cc, .ref qb, .ref qy, .ref qc, .int sp, .int (nI 1), .ref qe, .ref qw, .ref qt, .ref qr, .ref qi])), (qz, .inl (g.2.1 0, 15, .inl fz)), (qx, .inl (g.2.1 1, 480, .inl fx)), (qw, .inl (g.2.1 0, 64, .inl G)), (qt, .inl (g.2.1 0, 8, .inl T)), (qe, .inl (g.2.1 1, 32, .inl E)), (qr, .inl (g.2.1 0, 64, .inl fr9)), (qi, .inl (g.2.1 0, 8, .inl fb9)), (qf, .inl (g.2.1 0, 15, .inl kf)), (qu, .inl (g.2.1 0, 15, .inl ku)), (ql, .inl (g.2.1 0, 16, .inl F)), (qd, .inl (g.2.1 2, 15, .inl fus))] := hD
        refine lv_aload_n hx hb dX5_make_200 rfl (lv_at hl 0 rfl) ?_
        refine va_get (D := g.1) (ci := 6) (v := .ref qd) (C := RX5) (T := TX5) (N := 23) hx hb hts hiX5 hown hK.1 hP 0 rfl rfl 5 (by decide) (hts (.fieldLink RX5 19 "StampMakerModel" "used" "[Z") (by decide +kernel)) (fun _ h9 => h9) rfl dX5_make_201 ?_
        refine lv_iload_n hx hb dX5_make_204 rfl (lv_at hl 1 rfl) ?_
        refine lv_iconst (v := (nI 1)) hx hb dX5_make_205 (by decide) ?_
        refine va_zast hx hb hK.1 hP hD hS 11 2 rfl rfl (vp_in_nI (by omega) (by omega)) dX5_make_206 (fun H locs hP hD hS => ?_)
        rw [nI_clamp (by omega)] at hP hD
        rw [(by decide : vp_nar .boolean (nI 1) = nI 1)] at hP hD
        have hP : va_P g.1 vwCl [(m0, .inr (6, [.int (nI 0), .int (nI kn), .ref qf, .ref qu, .ref qz, .ref qd, .ref qx, .int (nI mn), .int (nI 1), .ref ql, .int (nI tn), .ref qg, .int cc, .ref qb, .ref qy, .ref qc, .int sp, .int (nI 1), .ref qe, .ref qw, .ref qt, .ref qr, .ref qi])), (qz, .inl (g.2.1 0, 15, .inl fz)), (qx, .inl (g.2.1 1, 480, .inl fx)), (qw, .inl (g.2.1 0, 64, .inl G)), (qt, .inl (g.2.1 0, 8, .inl T)), (qe, .inl (g.2.1 1, 32, .inl E)), (qr, .inl (g.2.1 0, 64, .inl fr9)), (qi, .inl (g.2.1 0, 8, .inl fb9)), (qf, .inl (g.2.1 0, 15, .inl kf)), (qu, .inl (g.2.1 0, 15, .inl ku)), (ql, .inl (g.2.1 0, 16, .inl F)), (qd, .inl (g.2.1 2, 15, .inl (upd fus i (nI 1))))] H := hP
        have hD : va_D A [(m0, .inr (6, [.int (nI 0), .int (nI kn), .ref qf, .ref qu, .ref qz, .ref qd, .ref qx, .int (nI mn), .int (nI 1), .ref ql, .int (nI tn), .ref qg, .int cc, .ref qb, .ref qy, .ref qc, .int sp, .int (nI 1), .ref qe, .ref qw, .ref qt, .ref qr, .ref qi])), (qz, .inl (g.2.1 0, 15, .inl fz)), (qx, .inl (g.2.1 1, 480, .inl fx)), (qw, .inl (g.2.1 0, 64, .inl G)), (qt, .inl (g.2.1 0, 8, .inl T)), (qe, .inl (g.2.1 1, 32, .inl E)), (qr, .inl (g.2.1 0, 64, .inl fr9)), (qi, .inl (g.2.1 0, 8, .inl fb9)), (qf, .inl (g.2.1 0, 15, .inl kf)), (qu, .inl (g.2.1 0, 15, .inl ku)), (ql, .inl (g.2.1 0, 16, .inl F)), (qd, .inl (g.2.1 2, 15, .inl (upd fus i (nI 1))))] := hD
        refine lv_aload_n hx hb dX5_make_207 rfl (lv_at hl 0 rfl) ?_
        refine lv_dup hx hb dX5_make_208 rfl ?_
        refine va_get (D := g.1) (ci := 6) (v := .int (nI mn)) (C := RX5) (T := TX5) (N := 23) hx hb hts hiX5 hown hK.1 hP 0 rfl rfl 7 (by decide) (hts (.fieldLink RX5 177 "StampMakerModel" "serial" "I") (by decide +kernel)) (fun _ h9 => h9) rfl dX5_make_209 ?_
        refine lv_iconst (v := (nI 1)) hx hb dX5_make_212 (by decide) ?_
        refine lv_iadd hx hb dX5_make_213 ?_
        refine lv_rei (x' := (nI (mn + 1))) (nI_1 _) ?_
        refine va_put (D := g.1) (ci := 6) (v := .int (nI (mn + 1))) (ty := .int) (C := RX5) (T := TX5) (N := 23) hx hb hts hiX5 tyX5 tyX5_ok nmX5 hown hK.1 hP hD hS 0 rfl rfl 7 (by decide) (hts (.fieldLink RX5 177 "StampMakerModel" "serial" "I") (by decide +kernel)) (fun _ h9 => h9) rfl (by decide +kernel) rfl rfl (Nat.le_of_ble_eq_true rfl) dX5_make_214 (fun H locs hP hD hS => ?_)
        have hP : va_P g.1 vwCl [(m0, .inr (6, [.int (nI 0), .int (nI kn), .ref qf, .ref qu, .ref qz, .ref qd, .ref qx, .int (nI (mn + 1)), .int (nI 1), .ref ql, .int (nI tn), .ref qg, .int cc, .ref qb, .ref qy, .ref qc, .int sp, .int (nI 1), .ref qe, .ref qw, .ref qt, .ref qr, .ref qi])), (qz, .inl (g.2.1 0, 15, .inl fz)), (qx, .inl (g.2.1 1, 480, .inl fx)), (qw, .inl (g.2.1 0, 64, .inl G)), (qt, .inl (g.2.1 0, 8, .inl T)), (qe, .inl (g.2.1 1, 32, .inl E)), (qr, .inl (g.2.1 0, 64, .inl fr9)), (qi, .inl (g.2.1 0, 8, .inl fb9)), (qf, .inl (g.2.1 0, 15, .inl kf)), (qu, .inl (g.2.1 0, 15, .inl ku)), (ql, .inl (g.2.1 0, 16, .inl F)), (qd, .inl (g.2.1 2, 15, .inl (upd fus i (nI 1))))] H := hP
        have hD : va_D A [(m0, .inr (6, [.int (nI 0), .int (nI kn), .ref qf, .ref qu, .ref qz, .ref qd, .ref qx, .int (nI (mn + 1)), .int (nI 1), .ref ql, .int (nI tn), .ref qg, .int cc, .ref qb, .ref qy, .ref qc, .int sp, .int (nI 1), .ref qe, .ref qw, .ref qt, .ref qr, .ref qi])), (qz, .inl (g.2.1 0, 15, .inl fz)), (qx, .inl (g.2.1 1, 480, .inl fx)), (qw, .inl (g.2.1 0, 64, .inl G)), (qt, .inl (g.2.1 0, 8, .inl T)), (qe, .inl (g.2.1 1, 32, .inl E)), (qr, .inl (g.2.1 0, 64, .inl fr9)), (qi, .inl (g.2.1 0, 8, .inl fb9)), (qf, .inl (g.2.1 0, 15, .inl kf)), (qu, .inl (g.2.1 0, 15, .inl ku)), (ql, .inl (g.2.1 0, 16, .inl F)), (qd, .inl (g.2.1 2, 15, .inl (upd fus i (nI 1))))] := hD
        refine lv_bipush (v := (nI 16)) hx hb dX5_make_217 (by decide) ?_
        exact endWi (G, T, E, F) hx hb hr hlocks hS dX5_make_219 hP hD (by rw [← eN]; exact ⟨rfl, hz1, fun j hj => h3 j (by omega)⟩)
  exact L1 17 0 fl (by omega) (by omega) (fun j hj => absurd hj (Nat.not_lt_zero j)) _ _ hP hD hS ls (lv_sub hl [2, 3, 1, 0] rfl)

set_option maxHeartbeats 4000000 in
set_option maxRecDepth 100000 in
/-- not sixteen -/
theorem c_X5_ro_len (l : Launch) (g : gE) (m0 kn mn tn qf qu qz qd qx ql qg qb qy qc qe qw qt qr qi : Nat) (th has cc sp rk : Int32) (d : Nat) (ht : tn ≠ 16) (ht2 : tn ≤ 40) : Met l yX5_reasonOf wsX5_reasonOf ({ frames := 0, cells := 0, slots := 0, locals := 0 }) (va_Pc [.ref m0, .int (nI d)] (ro g [(m0, .inr (6, [.int th, .int (nI kn), .ref qf, .ref qu, .ref qz, .ref qd, .ref qx, .int (nI mn), .int has, .ref ql, .int (nI tn), .ref qg, .int cc, .ref qb, .ref qy, .ref qc, .int sp, .int rk, .ref qe, .ref qw, .ref qt, .ref qr, .ref qi]))])) (vp_Si (fun r : Int32 => r = nI 1)) 0 0 nA := by
  refine ofRo (cc := cX5_reasonOf) (maxL := 10) (ret := (some .int)) (by decide) rfl (Nat.le_of_ble_eq_true rfl) (fun p e s m below meth c hx hb hr hml hts hown hlocks hnm hP hK hZ hS ls hl => ?_)
  have hown : s.vm.findClass RX5 = some m.cls := hown
  have hl : lv_has ls 10 [(0, .ref m0), (1, .int (nI d))] := hl
  have hiX5 : ∀ w ∈ wsX50, w ∈ wsX5_reasonOf := by decide +kernel
  refine lv_aload_n hx hb dX5_reasonOf_0 rfl (lv_at hl 0 rfl) ?_
  refine va_get (D := g.1) (ci := 6) (v := .int (nI tn)) (C := RX5) (T := TX5) (N := 23) hx hb hts hiX5 hown hK.1 hP 0 rfl rfl 10 (by decide) (hts (.fieldLink RX5 202 "StampMakerModel" "typed" "I") (by decide +kernel)) (fun _ h9 => h9) rfl dX5_reasonOf_1 ?_
  refine lv_bipush (v := (nI 16)) hx hb dX5_reasonOf_4 (by decide) ?_
  refine lv_icmp_eq (tgt := 11) hx hb dX5_reasonOf_6 (by decide) (fun c9 => absurd c9 (fun z => ht ((nI_eq (by omega) (by omega)).mp z))) (fun _ => ?_)
  refine lv_iconst (v := (nI 1)) hx hb dX5_reasonOf_9 (by decide) ?_
  exact endRi hx hb hr hlocks dX5_reasonOf_10 (rfl)

set_option maxHeartbeats 4000000 in
set_option maxRecDepth 100000 in
/-- one is no letter -/
theorem c_X5_ro_let (l : Launch) (g : gE) (m0 kn mn tn qf qu qz qd qx ql qg qb qy qc qe qw qt qr qi : Nat) (th has cc sp rk : Int32) (ft : Nat → Int32) (d : Nat) (ht : tn = 16) (bad : Nat) (hb4 : bad < 16) (hb5 : ¬ wo (ft bad) < 32) : Met l yX5_reasonOf wsX5_reasonOf ({ frames := 6, cells := 0, slots := 0, locals := 126 }) (va_Pc [.ref m0, .int (nI d)] (ro g [(m0, .inr (6, [.int th, .int (nI kn), .ref qf, .ref qu, .ref qz, .ref qd, .ref qx, .int (nI mn), .int has, .ref ql, .int (nI tn), .ref qg, .int cc, .ref qb, .ref qy, .ref qc, .int sp, .int rk, .ref qe, .ref qw, .ref qt, .ref qr, .ref qi])), (qg, .inl (g.2.1 0, 40, .inl ft))])) (vp_Si (fun r : Int32 => r = nI 2)) 0 0 nA := by
  refine ofRo (cc := cX5_reasonOf) (maxL := 10) (ret := (some .int)) (by decide) rfl (Nat.le_of_ble_eq_true rfl) (fun p e s m below meth c hx hb hr hml hts hown hlocks hnm hP hK hZ hS ls hl => ?_)
  have hown : s.vm.findClass RX5 = some m.cls := hown
  have hl : lv_has ls 10 [(0, .ref m0), (1, .int (nI d))] := hl
  have hiX5 : ∀ w ∈ wsX50, w ∈ wsX5_reasonOf := by decide +kernel
  refine lv_aload_n hx hb dX5_reasonOf_0 rfl (lv_at hl 0 rfl) ?_
  refine va_get (D := g.1) (ci := 6) (v := .int (nI tn)) (C := RX5) (T := TX5) (N := 23) hx hb hts hiX5 hown hK.1 hP 0 rfl rfl 10 (by decide) (hts (.fieldLink RX5 202 "StampMakerModel" "typed" "I") (by decide +kernel)) (fun _ h9 => h9) rfl dX5_reasonOf_1 ?_
  refine lv_bipush (v := (nI 16)) hx hb dX5_reasonOf_4 (by decide) ?_
  refine lv_icmp_eq (tgt := 11) hx hb dX5_reasonOf_6 (by decide) (fun _ => ?_) (fun c9 => absurd (by rw [ht]) c9)
  refine lv_lconst (v := lN 0) hx hb dX5_reasonOf_11 (by decide) ?_
  refine lv_lstore_n (lv' := [(2, .long (lN 0)), (0, .ref m0), (1, .int (nI d))]) hx hb dX5_reasonOf_12 rfl hl (by decide) rfl (fun ls hl => ?_)
  refine lv_iconst (v := (nI 0)) hx hb dX5_reasonOf_13 (by decide) ?_
  refine lv_istore (lv' := [(4, .int (nI 0)), (2, .long (lN 0)), (0, .ref m0), (1, .int (nI d))]) hx hb dX5_reasonOf_14 hl (by decide) rfl (fun ls hl => ?_)
  have L1 : ∀ (fu : Nat) (q : Nat) (xb : Int64), (17 ≤ q + fu) → (q ≤ bad) → ∀ ls : Array Slot, lv_has ls 10 [(0, .ref m0), (1, .int (nI d)), (2, .long xb), (4, .int (nI q))] → W p l e (headSpec wsX5_reasonOf ({ frames := 6, cells := 0, slots := 0, locals := 126 } : Room)).room s m ([.ref m0, .int (nI d)] : List Value).toArray below meth c s.heap [] 0 0 (MQ below (vp_Si (fun r : Int32 => r = nI 2)) ([.ref m0, .int (nI d)] : List Value).toArray s 0 0 nA) (F0 m 16 ls []) := by
    intro fu
    induction fu with
    | zero => intro q xb h1 h2 ls hl; exact absurd h1 (by omega)
    | succ fu ihL1 =>
      intro q xb h1 h2 ls hl
      refine lv_iload hx hb dX5_reasonOf_16 (lv_at hl 3 rfl) ?_
      refine lv_bipush (v := (nI 16)) hx hb dX5_reasonOf_18 (by decide) ?_
      refine lv_icmp_ge (tgt := 73) hx hb dX5_reasonOf_20 (by decide) (fun c9 => absurd c9 (nI_ge (by omega) (by omega))) (fun _ => ?_)
      refine lv_aload_n hx hb dX5_reasonOf_23 rfl (lv_at hl 0 rfl) ?_
      refine va_get (D := g.1) (ci := 6) (v := .ref qg) (C := RX5) (T := TX5) (N := 23) hx hb hts hiX5 hown hK.1 hP 0 rfl rfl 11 (by decide) (hts (.fieldLink RX5 30 "StampMakerModel" "signs" "[I") (by decide +kernel)) (fun _ h9 => h9) rfl dX5_reasonOf_24 ?_
      refine lv_iload hx hb dX5_reasonOf_27 (lv_at hl 3 rfl) ?_
      refine va_iald hx hb hK.1 hP 1 0 rfl rfl (vp_in_nI (by omega) (by omega)) dX5_reasonOf_29 ?_
      refine lv_rei (x' := ft q) (congrArg ft (nI_clamp (by omega))) ?_
      refine cSi (rest := []) ⟨hx, hb, hml, hown, hts⟩ [.int (ft q)] (c_X5_valueOf l g (x := (ft q))) (va_cwS 1 hts gX5_reasonOf_X5_valueOf rfl rfl rfl (by decide +kernel) ⟨Nat.le_of_ble_eq_true rfl, Nat.le_of_ble_eq_true rfl⟩) hK hZ hS (subP hP [] rfl) rfl hl.1 rfl (Nat.le_of_ble_eq_true rfl) dX5_reasonOf_30 ⟨Nat.zero_le _, Nat.zero_le _⟩ (fun r_222 hr_222 => ?_)
      obtain rfl : r_222 = (rW (ft q)) := hr_222
      by_cases hw : wo (ft q) < 32
      · refine lv_rei (x' := (nI (wo (ft q)))) (rW_y hw) ?_
        refine lv_if_ge (tgt := 38) hx hb dX5_reasonOf_33 (by decide) (fun _ => ?_) (fun c9 => absurd (nI_pos' (by omega)) c9)
        have hne : q ≠ bad := fun z => hb5 (by rw [← z]; exact hw)
        refine lv_iload hx hb dX5_reasonOf_38 (lv_at hl 3 rfl) ?_
        refine lv_bipush (v := (nI 11)) hx hb dX5_reasonOf_40 (by decide) ?_
        rcases Nat.lt_or_ge q 11 with z2 | z2
        · refine lv_icmp_ge (tgt := 65) hx hb dX5_reasonOf_42 (by decide) (fun c9 => absurd c9 (nI_ge z2 (by omega))) (fun _ => ?_)
          refine lv_ldc2 (v := (lN 32)) hx hb hown (hts (.constantLong RX5 214 (lN 32)) (by decide +kernel)) dX5_reasonOf_45 ?_
          refine lv_lload_n hx hb dX5_reasonOf_48 rfl (lv_at hl 2 rfl) ?_
          refine lv_lmul hx hb dX5_reasonOf_49 ?_
          refine lv_aload_n hx hb dX5_reasonOf_50 rfl (lv_at hl 0 rfl) ?_
          refine va_get (D := g.1) (ci := 6) (v := .ref qg) (C := RX5) (T := TX5) (N := 23) hx hb hts hiX5 hown hK.1 hP 0 rfl rfl 11 (by decide) (hts (.fieldLink RX5 30 "StampMakerModel" "signs" "[I") (by decide +kernel)) (fun _ h9 => h9) rfl dX5_reasonOf_51 ?_
          refine lv_iload hx hb dX5_reasonOf_54 (lv_at hl 3 rfl) ?_
          refine va_iald hx hb hK.1 hP 1 0 rfl rfl (vp_in_nI (by omega) (by omega)) dX5_reasonOf_56 ?_
          refine lv_rei (x' := ft q) (congrArg ft (nI_clamp (by omega))) ?_
          refine cSi (rest := [.long ((lN 32) * xb)]) ⟨hx, hb, hml, hown, hts⟩ [.int (ft q)] (c_X5_valueOf l g (x := (ft q))) (va_cwS 1 hts gX5_reasonOf_X5_valueOf rfl rfl rfl (by decide +kernel) ⟨Nat.le_of_ble_eq_true rfl, Nat.le_of_ble_eq_true rfl⟩) hK hZ hS (subP hP [] rfl) rfl hl.1 rfl (Nat.le_of_ble_eq_true rfl) dX5_reasonOf_57 ⟨Nat.zero_le _, Nat.zero_le _⟩ (fun r_223 hr_223 => ?_)
          obtain rfl : r_223 = (rW (ft q)) := hr_223
          refine lv_i2l hx hb dX5_reasonOf_60 rfl ?_
          refine lv_ladd hx hb dX5_reasonOf_61 ?_
          refine lv_goto (tgt := 66) hx hb dX5_reasonOf_62 (by decide) ?_
          refine lv_lstore_n (lv' := [(2, .long (((lN 32) * xb) + (((rW (ft q))).toInt64))), (0, .ref m0), (1, .int (nI d)), (4, .int (nI q))]) hx hb dX5_reasonOf_66 rfl hl (by decide) rfl (fun ls hl => ?_)
          refine lv_iinc (v := (nI (q + 1))) (lv' := [(4, .int (nI (q + 1))), (2, .long (((lN 32) * xb) + (((rW (ft q))).toInt64))), (0, .ref m0), (1, .int (nI d))]) hx hb dX5_reasonOf_67 hl (k := 3) rfl (nI_1 _) (by decide) rfl (fun ls hl => ?_)
          refine lv_goto (tgt := 16) hx hb dX5_reasonOf_70 (by decide) ?_
          exact ihL1 (q + 1) (((lN 32) * xb) + (((rW (ft q))).toInt64)) (by omega) (by omega) ls (lv_sub hl [2, 3, 1, 0] rfl)
        · refine lv_icmp_ge (tgt := 65) hx hb dX5_reasonOf_42 (by decide) (fun _ => ?_) (fun c9 => absurd (nI_le z2 (by omega)) c9)
          refine lv_lload_n hx hb dX5_reasonOf_65 rfl (lv_at hl 2 rfl) ?_
          refine lv_lstore_n (lv' := [(2, .long xb), (0, .ref m0), (1, .int (nI d)), (4, .int (nI q))]) hx hb dX5_reasonOf_66 rfl hl (by decide) rfl (fun ls hl => ?_)
          refine lv_iinc (v := (nI (q + 1))) (lv' := [(4, .int (nI (q + 1))), (2, .long xb), (0, .ref m0), (1, .int (nI d))]) hx hb dX5_reasonOf_67 hl (k := 3) rfl (nI_1 _) (by decide) rfl (fun ls hl => ?_)
          refine lv_goto (tgt := 16) hx hb dX5_reasonOf_70 (by decide) ?_
          exact ihL1 (q + 1) xb (by omega) (by omega) ls (lv_sub hl [2, 3, 1, 0] rfl)
      · refine lv_rei (x' := (-1)) (rW_n hw) ?_
        refine lv_if_ge (tgt := 38) hx hb dX5_reasonOf_33 (by decide) (fun c9 => absurd c9 (by decide)) (fun _ => ?_)
        refine lv_iconst (v := (nI 2)) hx hb dX5_reasonOf_36 (by decide) ?_
        exact endRi hx hb hr hlocks dX5_reasonOf_37 (rfl)
  exact L1 17 0 (lN 0) (by omega) (by omega) ls (lv_sub hl [2, 3, 1, 0] rfl)

set_option maxHeartbeats 4000000 in
set_option maxRecDepth 100000 in
/-- no such key -/
theorem c_X5_ro_out (l : Launch) (g : gE) (m0 kn mn tn qf qu qz qd qx ql qg qb qy qc qe qw qt qr qi : Nat) (th has cc sp rk : Int32) (ft : Nat → Int32) (d : Nat) (ht : tn = 16) (hlet : ∀ j, j < 16 → wo (ft j) < 32) (hkn : kn ≤ 15) (hko : kn ≤ tbF ft 0 11 / 2 ^ 51 % 16) : Met l yX5_reasonOf wsX5_reasonOf ({ frames := 6, cells := 0, slots := 0, locals := 126 }) (va_Pc [.ref m0, .int (nI d)] (ro g [(m0, .inr (6, [.int th, .int (nI kn), .ref qf, .ref qu, .ref qz, .ref qd, .ref qx, .int (nI mn), .int has, .ref ql, .int (nI tn), .ref qg, .int cc, .ref qb, .ref qy, .ref qc, .int sp, .int rk, .ref qe, .ref qw, .ref qt, .ref qr, .ref qi])), (qg, .inl (g.2.1 0, 40, .inl ft))])) (vp_Si (fun r : Int32 => r = nI 3)) 0 0 nA := by
  refine ofRo (cc := cX5_reasonOf) (maxL := 10) (ret := (some .int)) (by decide) rfl (Nat.le_of_ble_eq_true rfl) (fun p e s m below meth c hx hb hr hml hts hown hlocks hnm hP hK hZ hS ls hl => ?_)
  have hown : s.vm.findClass RX5 = some m.cls := hown
  have hl : lv_has ls 10 [(0, .ref m0), (1, .int (nI d))] := hl
  have tn0 : (nI 0).toInt = 0 := by decide
  have tn1 : (nI 1).toInt = 1 := by decide
  have tn2 : (nI 2).toInt = 2 := by decide
  have tn3 : (nI 3).toInt = 3 := by decide
  have tn4 : (nI 4).toInt = 4 := by decide
  have tn5 : (nI 5).toInt = 5 := by decide
  have tn6 : (nI 6).toInt = 6 := by decide
  have tn7 : (nI 7).toInt = 7 := by decide
  have tn9 : (nI 9).toInt = 9 := by decide
  have tn11 : (nI 11).toInt = 11 := by decide
  have tn14 : (nI 14).toInt = 14 := by decide
  have tn16 : (nI 16).toInt = 16 := by decide
  have tn30 : (nI 30).toInt = 30 := by decide
  have tn47 : (nI 47).toInt = 47 := by decide
  have tn51 : (nI 51).toInt = 51 := by decide
  have tn100 : (nI 100).toInt = 100 := by decide
  have tl0 : (lN 0).toInt = 0 := by decide
  have tl1 : (lN 1).toInt = 1 := by decide
  have tl15 : (lN 15).toInt = 15 := by decide
  have tl32 : (lN 32).toInt = 32 := by decide
  have tl16383 : (lN 16383).toInt = 16383 := by decide
  have tl65535 : (lN 65535).toInt = 65535 := by decide
  have tl99999 : (lN 99999).toInt = 99999 := by decide
  have tl131071 : (lN 131071).toInt = 131071 := by decide
  have hiX5 : ∀ w ∈ wsX50, w ∈ wsX5_reasonOf := by decide +kernel
  have hN : tbF ft 0 11 < 36028797018963968 := tbF_11 (by decide) (fun i _ h2 => hlet i (by omega))
  refine lv_aload_n hx hb dX5_reasonOf_0 rfl (lv_at hl 0 rfl) ?_
  refine va_get (D := g.1) (ci := 6) (v := .int (nI tn)) (C := RX5) (T := TX5) (N := 23) hx hb hts hiX5 hown hK.1 hP 0 rfl rfl 10 (by decide) (hts (.fieldLink RX5 202 "StampMakerModel" "typed" "I") (by decide +kernel)) (fun _ h9 => h9) rfl dX5_reasonOf_1 ?_
  refine lv_bipush (v := (nI 16)) hx hb dX5_reasonOf_4 (by decide) ?_
  refine lv_icmp_eq (tgt := 11) hx hb dX5_reasonOf_6 (by decide) (fun _ => ?_) (fun c9 => absurd (by rw [ht]) c9)
  refine lv_lconst (v := lN 0) hx hb dX5_reasonOf_11 (by decide) ?_
  refine lv_rel (x' := (lN (tbF ft 0 (min 0 11)))) (rfl) ?_
  refine lv_lstore_n (lv' := [(2, .long (lN (tbF ft 0 (min 0 11)))), (0, .ref m0), (1, .int (nI d))]) hx hb dX5_reasonOf_12 rfl hl (by decide) rfl (fun ls hl => ?_)
  refine lv_iconst (v := (nI 0)) hx hb dX5_reasonOf_13 (by decide) ?_
  refine lv_istore (lv' := [(4, .int (nI 0)), (2, .long (lN (tbF ft 0 (min 0 11)))), (0, .ref m0), (1, .int (nI d))]) hx hb dX5_reasonOf_14 hl (by decide) rfl (fun ls hl => ?_)
  have L1 : ∀ (fu : Nat) (q : Nat), (17 ≤ q + fu) → (q ≤ 16) → ∀ ls : Array Slot, lv_has ls 10 [(0, .ref m0), (1, .int (nI d)), (2, .long (lN (tbF ft 0 (min q 11)))), (4, .int (nI q))] → W p l e (headSpec wsX5_reasonOf ({ frames := 6, cells := 0, slots := 0, locals := 126 } : Room)).room s m ([.ref m0, .int (nI d)] : List Value).toArray below meth c s.heap [] 0 0 (MQ below (vp_Si (fun r : Int32 => r = nI 3)) ([.ref m0, .int (nI d)] : List Value).toArray s 0 0 nA) (F0 m 16 ls []) := by
    intro fu
    induction fu with
    | zero => intro q h1 h2 ls hl; exact absurd h1 (by omega)
    | succ fu ihL1 =>
      intro q h1 h2 ls hl
      refine lv_iload hx hb dX5_reasonOf_16 (lv_at hl 3 rfl) ?_
      refine lv_bipush (v := (nI 16)) hx hb dX5_reasonOf_18 (by decide) ?_
      rcases Nat.lt_or_ge q 16 with z1 | z1
      · refine lv_icmp_ge (tgt := 73) hx hb dX5_reasonOf_20 (by decide) (fun c9 => absurd c9 (nI_ge z1 (by omega))) (fun _ => ?_)
        refine lv_aload_n hx hb dX5_reasonOf_23 rfl (lv_at hl 0 rfl) ?_
        refine va_get (D := g.1) (ci := 6) (v := .ref qg) (C := RX5) (T := TX5) (N := 23) hx hb hts hiX5 hown hK.1 hP 0 rfl rfl 11 (by decide) (hts (.fieldLink RX5 30 "StampMakerModel" "signs" "[I") (by decide +kernel)) (fun _ h9 => h9) rfl dX5_reasonOf_24 ?_
        refine lv_iload hx hb dX5_reasonOf_27 (lv_at hl 3 rfl) ?_
        refine va_iald hx hb hK.1 hP 1 0 rfl rfl (vp_in_nI (by omega) (by omega)) dX5_reasonOf_29 ?_
        refine lv_rei (x' := ft q) (congrArg ft (nI_clamp (by omega))) ?_
        refine cSi (rest := []) ⟨hx, hb, hml, hown, hts⟩ [.int (ft q)] (c_X5_valueOf l g (x := (ft q))) (va_cwS 1 hts gX5_reasonOf_X5_valueOf rfl rfl rfl (by decide +kernel) ⟨Nat.le_of_ble_eq_true rfl, Nat.le_of_ble_eq_true rfl⟩) hK hZ hS (subP hP [] rfl) rfl hl.1 rfl (Nat.le_of_ble_eq_true rfl) dX5_reasonOf_30 ⟨Nat.zero_le _, Nat.zero_le _⟩ (fun r_224 hr_224 => ?_)
        obtain rfl : r_224 = (rW (ft q)) := hr_224
        have hw := hlet q z1
        refine lv_rei (x' := (nI (wo (ft q)))) (rW_y hw) ?_
        refine lv_if_ge (tgt := 38) hx hb dX5_reasonOf_33 (by decide) (fun _ => ?_) (fun c9 => absurd (nI_pos' (by omega)) c9)
        refine lv_iload hx hb dX5_reasonOf_38 (lv_at hl 3 rfl) ?_
        refine lv_bipush (v := (nI 11)) hx hb dX5_reasonOf_40 (by decide) ?_
        rcases Nat.lt_or_ge q 11 with z2 | z2
        · refine lv_icmp_ge (tgt := 65) hx hb dX5_reasonOf_42 (by decide) (fun c9 => absurd c9 (nI_ge z2 (by omega))) (fun _ => ?_)
          have hTb := tbF_11 (ft := ft) (a := 0) (n := q) (by omega) (fun i _ h2 => hlet i (by omega))
          refine lv_ldc2 (v := (lN 32)) hx hb hown (hts (.constantLong RX5 214 (lN 32)) (by decide +kernel)) dX5_reasonOf_45 ?_
          refine lv_lload_n hx hb dX5_reasonOf_48 rfl (lv_at hl 2 rfl) ?_
          refine lv_lmul hx hb dX5_reasonOf_49 ?_
          refine lv_rel (x' := (lN (32 * tbF ft 0 (min q 11)))) (lN_mul _ _) ?_
          refine lv_aload_n hx hb dX5_reasonOf_50 rfl (lv_at hl 0 rfl) ?_
          refine va_get (D := g.1) (ci := 6) (v := .ref qg) (C := RX5) (T := TX5) (N := 23) hx hb hts hiX5 hown hK.1 hP 0 rfl rfl 11 (by decide) (hts (.fieldLink RX5 30 "StampMakerModel" "signs" "[I") (by decide +kernel)) (fun _ h9 => h9) rfl dX5_reasonOf_51 ?_
          refine lv_iload hx hb dX5_reasonOf_54 (lv_at hl 3 rfl) ?_
          refine va_iald hx hb hK.1 hP 1 0 rfl rfl (vp_in_nI (by omega) (by omega)) dX5_reasonOf_56 ?_
          refine lv_rei (x' := ft q) (congrArg ft (nI_clamp (by omega))) ?_
          refine cSi (rest := [.long (lN (32 * tbF ft 0 (min q 11)))]) ⟨hx, hb, hml, hown, hts⟩ [.int (ft q)] (c_X5_valueOf l g (x := (ft q))) (va_cwS 1 hts gX5_reasonOf_X5_valueOf rfl rfl rfl (by decide +kernel) ⟨Nat.le_of_ble_eq_true rfl, Nat.le_of_ble_eq_true rfl⟩) hK hZ hS (subP hP [] rfl) rfl hl.1 rfl (Nat.le_of_ble_eq_true rfl) dX5_reasonOf_57 ⟨Nat.zero_le _, Nat.zero_le _⟩ (fun r_225 hr_225 => ?_)
          obtain rfl : r_225 = (rW (ft q)) := hr_225
          refine lv_rei (x' := (nI (wo (ft q)))) (rW_y hw) ?_
          refine lv_i2l hx hb dX5_reasonOf_60 rfl ?_
          refine lv_rel (x' := (lN (wo (ft q)))) (nI_L (by omega)) ?_
          refine lv_ladd hx hb dX5_reasonOf_61 ?_
          refine lv_rel (x' := (lN (tbF ft 0 (min (q + 1) 11)))) (by rw [lN_add, show min q 11 = q by omega, show min (q + 1) 11 = q + 1 by omega, tbF, Nat.zero_add, Nat.mul_comm]) ?_
          refine lv_goto (tgt := 66) hx hb dX5_reasonOf_62 (by decide) ?_
          refine lv_lstore_n (lv' := [(2, .long (lN (tbF ft 0 (min (q + 1) 11)))), (0, .ref m0), (1, .int (nI d)), (4, .int (nI q))]) hx hb dX5_reasonOf_66 rfl hl (by decide) rfl (fun ls hl => ?_)
          refine lv_iinc (v := (nI (q + 1))) (lv' := [(4, .int (nI (q + 1))), (2, .long (lN (tbF ft 0 (min (q + 1) 11)))), (0, .ref m0), (1, .int (nI d))]) hx hb dX5_reasonOf_67 hl (k := 3) rfl (nI_1 _) (by decide) rfl (fun ls hl => ?_)
          refine lv_goto (tgt := 16) hx hb dX5_reasonOf_70 (by decide) ?_
          exact ihL1 (q + 1) (by omega) (by omega) ls (lv_sub hl [2, 3, 1, 0] rfl)
        · refine lv_icmp_ge (tgt := 65) hx hb dX5_reasonOf_42 (by decide) (fun _ => ?_) (fun c9 => absurd (nI_le z2 (by omega)) c9)
          refine lv_lload_n hx hb dX5_reasonOf_65 rfl (lv_at hl 2 rfl) ?_
          refine lv_rel (x' := (lN (tbF ft 0 (min (q + 1) 11)))) (by rw [show min q 11 = 11 by omega, show min (q + 1) 11 = 11 by omega]) ?_
          refine lv_lstore_n (lv' := [(2, .long (lN (tbF ft 0 (min (q + 1) 11)))), (0, .ref m0), (1, .int (nI d)), (4, .int (nI q))]) hx hb dX5_reasonOf_66 rfl hl (by decide) rfl (fun ls hl => ?_)
          refine lv_iinc (v := (nI (q + 1))) (lv' := [(4, .int (nI (q + 1))), (2, .long (lN (tbF ft 0 (min (q + 1) 11)))), (0, .ref m0), (1, .int (nI d))]) hx hb dX5_reasonOf_67 hl (k := 3) rfl (nI_1 _) (by decide) rfl (fun ls hl => ?_)
          refine lv_goto (tgt := 16) hx hb dX5_reasonOf_70 (by decide) ?_
          exact ihL1 (q + 1) (by omega) (by omega) ls (lv_sub hl [2, 3, 1, 0] rfl)
      · refine lv_icmp_ge (tgt := 73) hx hb dX5_reasonOf_20 (by decide) (fun _ => ?_) (fun c9 => absurd (nI_le z1 (by omega)) c9)
        obtain rfl : q = 16 := by omega
        have hm : tbF ft 0 (min 16 11) = tbF ft 0 11 := rfl
        have tq0 := ti_n (n := tbF ft 0 11 / 2 ^ 51 % 16) (by omega)
        have tq2 := tl_n (n := tbF ft 0 11 / 2 ^ 30 % 131072) (by omega)
        refine lv_lload_n hx hb dX5_reasonOf_73 rfl (lv_at hl 2 rfl) ?_
        refine lv_bipush (v := (nI 51)) hx hb dX5_reasonOf_74 (by decide) ?_
        refine lv_lshr hx hb dX5_reasonOf_76 rfl ?_
        refine lv_rel (x' := (lN (tbF ft 0 11 / 2 ^ 51))) (l_sshr (by decide) (by omega)) ?_
        refine lv_l2i hx hb dX5_reasonOf_77 rfl ?_
        refine lv_rei (x' := (nI (tbF ft 0 11 / 2 ^ 51 % 16))) (by rw [l_i]; congr 1; omega) ?_
        refine lv_istore (lv' := [(4, .int (nI (tbF ft 0 11 / 2 ^ 51 % 16))), (0, .ref m0), (1, .int (nI d)), (2, .long (lN (tbF ft 0 (min 16 11))))]) hx hb dX5_reasonOf_78 hl (by decide) rfl (fun ls hl => ?_)
        refine lv_lload_n hx hb dX5_reasonOf_80 rfl (lv_at hl 3 rfl) ?_
        refine lv_bipush (v := (nI 47)) hx hb dX5_reasonOf_81 (by decide) ?_
        refine lv_lshr hx hb dX5_reasonOf_83 rfl ?_
        refine lv_rel (x' := (lN (tbF ft 0 11 / 2 ^ 47))) (l_sshr (by decide) (by omega)) ?_
        refine lv_ldc2 (v := (lN 15)) hx hb hown (hts (.constantLong RX5 200 (lN 15)) (by decide +kernel)) dX5_reasonOf_84 ?_
        refine lv_land hx hb dX5_reasonOf_87 ?_
        refine lv_rel (x' := (lN (tbF ft 0 11 / 2 ^ 47 % 16))) (landm 4 rfl) ?_
        refine lv_l2i hx hb dX5_reasonOf_88 rfl ?_
        refine lv_rei (x' := (nI (tbF ft 0 11 / 2 ^ 47 % 16))) (l_i) ?_
        refine lv_istore (lv' := [(5, .int (nI (tbF ft 0 11 / 2 ^ 47 % 16))), (4, .int (nI (tbF ft 0 11 / 2 ^ 51 % 16))), (0, .ref m0), (1, .int (nI d)), (2, .long (lN (tbF ft 0 (min 16 11))))]) hx hb dX5_reasonOf_89 hl (by decide) rfl (fun ls hl => ?_)
        refine lv_lload_n hx hb dX5_reasonOf_91 rfl (lv_at hl 4 rfl) ?_
        refine lv_bipush (v := (nI 30)) hx hb dX5_reasonOf_92 (by decide) ?_
        refine lv_lshr hx hb dX5_reasonOf_94 rfl ?_
        refine lv_rel (x' := (lN (tbF ft 0 11 / 2 ^ 30))) (l_sshr (by decide) (by omega)) ?_
        refine lv_ldc2 (v := (lN 131071)) hx hb hown (hts (.constantLong RX5 216 (lN 131071)) (by decide +kernel)) dX5_reasonOf_95 ?_
        refine lv_land hx hb dX5_reasonOf_98 ?_
        refine lv_rel (x' := (lN (tbF ft 0 11 / 2 ^ 30 % 131072))) (landm 17 rfl) ?_
        refine lv_l2i hx hb dX5_reasonOf_99 rfl ?_
        refine lv_rei (x' := (nI (tbF ft 0 11 / 2 ^ 30 % 131072))) (l_i) ?_
        refine lv_istore (lv' := [(6, .int (nI (tbF ft 0 11 / 2 ^ 30 % 131072))), (5, .int (nI (tbF ft 0 11 / 2 ^ 47 % 16))), (4, .int (nI (tbF ft 0 11 / 2 ^ 51 % 16))), (0, .ref m0), (1, .int (nI d)), (2, .long (lN (tbF ft 0 (min 16 11))))]) hx hb dX5_reasonOf_100 hl (by decide) rfl (fun ls hl => ?_)
        refine lv_lload_n hx hb dX5_reasonOf_102 rfl (lv_at hl 5 rfl) ?_
        refine lv_bipush (v := (nI 14)) hx hb dX5_reasonOf_103 (by decide) ?_
        refine lv_lshr hx hb dX5_reasonOf_105 rfl ?_
        refine lv_rel (x' := (lN (tbF ft 0 11 / 2 ^ 14))) (l_sshr (by decide) (by omega)) ?_
        refine lv_ldc2 (v := (lN 65535)) hx hb hown (hts (.constantLong RX5 143 (lN 65535)) (by decide +kernel)) dX5_reasonOf_106 ?_
        refine lv_land hx hb dX5_reasonOf_109 ?_
        refine lv_rel (x' := (lN (tbF ft 0 11 / 2 ^ 14 % 65536))) (landm 16 rfl) ?_
        refine lv_l2i hx hb dX5_reasonOf_110 rfl ?_
        refine lv_rei (x' := (nI (tbF ft 0 11 / 2 ^ 14 % 65536))) (l_i) ?_
        refine lv_istore (lv' := [(7, .int (nI (tbF ft 0 11 / 2 ^ 14 % 65536))), (6, .int (nI (tbF ft 0 11 / 2 ^ 30 % 131072))), (5, .int (nI (tbF ft 0 11 / 2 ^ 47 % 16))), (4, .int (nI (tbF ft 0 11 / 2 ^ 51 % 16))), (0, .ref m0), (1, .int (nI d)), (2, .long (lN (tbF ft 0 (min 16 11))))]) hx hb dX5_reasonOf_111 hl (by decide) rfl (fun ls hl => ?_)
        refine lv_lload_n hx hb dX5_reasonOf_113 rfl (lv_at hl 6 rfl) ?_
        refine lv_ldc2 (v := (lN 16383)) hx hb hown (hts (.constantLong RX5 218 (lN 16383)) (by decide +kernel)) dX5_reasonOf_114 ?_
        refine lv_land hx hb dX5_reasonOf_117 ?_
        refine lv_rel (x' := (lN (tbF ft 0 11 % 16384))) (landm 14 rfl) ?_
        refine lv_l2i hx hb dX5_reasonOf_118 rfl ?_
        refine lv_rei (x' := (nI (tbF ft 0 11 % 16384))) (l_i) ?_
        refine lv_istore (lv' := [(8, .int (nI (tbF ft 0 11 % 16384))), (7, .int (nI (tbF ft 0 11 / 2 ^ 14 % 65536))), (6, .int (nI (tbF ft 0 11 / 2 ^ 30 % 131072))), (5, .int (nI (tbF ft 0 11 / 2 ^ 47 % 16))), (4, .int (nI (tbF ft 0 11 / 2 ^ 51 % 16))), (0, .ref m0), (1, .int (nI d)), (2, .long (lN (tbF ft 0 (min 16 11))))]) hx hb dX5_reasonOf_119 hl (by decide) rfl (fun ls hl => ?_)
        refine lv_aload_n hx hb dX5_reasonOf_121 rfl (lv_at hl 5 rfl) ?_
        refine lv_iload hx hb dX5_reasonOf_122 (lv_at hl 4 rfl) ?_
        refine cVi (rest := []) ⟨hx, hb, hml, hown, hts⟩ [.int (nI (tbF ft 0 11 / 2 ^ 51 % 16))] (c_X5_isKey l g (m0 := m0) (kn := kn) (mn := mn) (tn := tn) (qf := qf) (qu := qu) (qz := qz) (qd := qd) (qx := qx) (ql := ql) (qg := qg) (qb := qb) (qy := qy) (qc := qc) (qe := qe) (qw := qw) (qt := qt) (qr := qr) (qi := qi) (th := th) (has := has) (cc := cc) (sp := sp) (rk := rk) (x := (nI (tbF ft 0 11 / 2 ^ 51 % 16))) hkn) (cwV 1 hts gX5_reasonOf_X5_isKey rfl rfl rfl (by decide +kernel) ⟨Nat.le_of_ble_eq_true rfl, Nat.le_of_ble_eq_true rfl⟩) hK hZ hS (subP hP [0] rfl) (va_recv hK.1 hP (ci := 6) (q0 := 0) rfl rfl) rfl hl.1 rfl (Nat.le_of_ble_eq_true rfl) dX5_reasonOf_124 ⟨Nat.zero_le _, Nat.zero_le _⟩ (fun r_226 hr_226 => ?_)
        obtain rfl : r_226 = (inI ((nI (tbF ft 0 11 / 2 ^ 51 % 16))).toInt 0 ((kn : Int) - 1)) := hr_226
        refine lv_if_eq (tgt := 150) hx hb dX5_reasonOf_127 (by decide) (fun _ => ?_) (fun c9 => absurd (inI_0 (by omega)) c9)
        refine lv_iconst (v := (nI 3)) hx hb dX5_reasonOf_150 (by decide) ?_
        exact endRi hx hb hr hlocks dX5_reasonOf_151 (rfl)
  exact L1 17 0 (by omega) (by omega) ls (lv_sub hl [2, 3, 1, 0] rfl)

set_option maxHeartbeats 4000000 in
set_option maxRecDepth 100000 in
/-- a field is not as said -/
theorem c_X5_ro_bad (l : Launch) (g : gE) (m0 kn mn tn qf qu qz qd qx ql qg qb qy qc qe qw qt qr qi : Nat) (th has cc sp rk : Int32) (ft : Nat → Int32) (d : Nat) (ht : tn = 16) (hlet : ∀ j, j < 16 → wo (ft j) < 32) (hkn : kn ≤ 15) (hi : tbF ft 0 11 / 2 ^ 51 % 16 < kn) (hbad : ¬ (tbF ft 0 11 / 2 ^ 47 % 16 ≤ 9 ∧ 1 ≤ tbF ft 0 11 / 2 ^ 30 % 131072 ∧ tbF ft 0 11 / 2 ^ 30 % 131072 ≤ 99999)) : Met l yX5_reasonOf wsX5_reasonOf ({ frames := 6, cells := 0, slots := 0, locals := 126 }) (va_Pc [.ref m0, .int (nI d)] (ro g [(m0, .inr (6, [.int th, .int (nI kn), .ref qf, .ref qu, .ref qz, .ref qd, .ref qx, .int (nI mn), .int has, .ref ql, .int (nI tn), .ref qg, .int cc, .ref qb, .ref qy, .ref qc, .int sp, .int rk, .ref qe, .ref qw, .ref qt, .ref qr, .ref qi])), (qg, .inl (g.2.1 0, 40, .inl ft))])) (vp_Si (fun r : Int32 => r = nI 3)) 0 0 nA := by
  refine ofRo (cc := cX5_reasonOf) (maxL := 10) (ret := (some .int)) (by decide) rfl (Nat.le_of_ble_eq_true rfl) (fun p e s m below meth c hx hb hr hml hts hown hlocks hnm hP hK hZ hS ls hl => ?_)
  have hown : s.vm.findClass RX5 = some m.cls := hown
  have hl : lv_has ls 10 [(0, .ref m0), (1, .int (nI d))] := hl
  have tn0 : (nI 0).toInt = 0 := by decide
  have tn1 : (nI 1).toInt = 1 := by decide
  have tn2 : (nI 2).toInt = 2 := by decide
  have tn3 : (nI 3).toInt = 3 := by decide
  have tn4 : (nI 4).toInt = 4 := by decide
  have tn5 : (nI 5).toInt = 5 := by decide
  have tn6 : (nI 6).toInt = 6 := by decide
  have tn7 : (nI 7).toInt = 7 := by decide
  have tn9 : (nI 9).toInt = 9 := by decide
  have tn11 : (nI 11).toInt = 11 := by decide
  have tn14 : (nI 14).toInt = 14 := by decide
  have tn16 : (nI 16).toInt = 16 := by decide
  have tn30 : (nI 30).toInt = 30 := by decide
  have tn47 : (nI 47).toInt = 47 := by decide
  have tn51 : (nI 51).toInt = 51 := by decide
  have tn100 : (nI 100).toInt = 100 := by decide
  have tl0 : (lN 0).toInt = 0 := by decide
  have tl1 : (lN 1).toInt = 1 := by decide
  have tl15 : (lN 15).toInt = 15 := by decide
  have tl32 : (lN 32).toInt = 32 := by decide
  have tl16383 : (lN 16383).toInt = 16383 := by decide
  have tl65535 : (lN 65535).toInt = 65535 := by decide
  have tl99999 : (lN 99999).toInt = 99999 := by decide
  have tl131071 : (lN 131071).toInt = 131071 := by decide
  have hiX5 : ∀ w ∈ wsX50, w ∈ wsX5_reasonOf := by decide +kernel
  have hN : tbF ft 0 11 < 36028797018963968 := tbF_11 (by decide) (fun i _ h2 => hlet i (by omega))
  refine lv_aload_n hx hb dX5_reasonOf_0 rfl (lv_at hl 0 rfl) ?_
  refine va_get (D := g.1) (ci := 6) (v := .int (nI tn)) (C := RX5) (T := TX5) (N := 23) hx hb hts hiX5 hown hK.1 hP 0 rfl rfl 10 (by decide) (hts (.fieldLink RX5 202 "StampMakerModel" "typed" "I") (by decide +kernel)) (fun _ h9 => h9) rfl dX5_reasonOf_1 ?_
  refine lv_bipush (v := (nI 16)) hx hb dX5_reasonOf_4 (by decide) ?_
  refine lv_icmp_eq (tgt := 11) hx hb dX5_reasonOf_6 (by decide) (fun _ => ?_) (fun c9 => absurd (by rw [ht]) c9)
  refine lv_lconst (v := lN 0) hx hb dX5_reasonOf_11 (by decide) ?_
  refine lv_rel (x' := (lN (tbF ft 0 (min 0 11)))) (rfl) ?_
  refine lv_lstore_n (lv' := [(2, .long (lN (tbF ft 0 (min 0 11)))), (0, .ref m0), (1, .int (nI d))]) hx hb dX5_reasonOf_12 rfl hl (by decide) rfl (fun ls hl => ?_)
  refine lv_iconst (v := (nI 0)) hx hb dX5_reasonOf_13 (by decide) ?_
  refine lv_istore (lv' := [(4, .int (nI 0)), (2, .long (lN (tbF ft 0 (min 0 11)))), (0, .ref m0), (1, .int (nI d))]) hx hb dX5_reasonOf_14 hl (by decide) rfl (fun ls hl => ?_)
  have L1 : ∀ (fu : Nat) (q : Nat), (17 ≤ q + fu) → (q ≤ 16) → ∀ ls : Array Slot, lv_has ls 10 [(0, .ref m0), (1, .int (nI d)), (2, .long (lN (tbF ft 0 (min q 11)))), (4, .int (nI q))] → W p l e (headSpec wsX5_reasonOf ({ frames := 6, cells := 0, slots := 0, locals := 126 } : Room)).room s m ([.ref m0, .int (nI d)] : List Value).toArray below meth c s.heap [] 0 0 (MQ below (vp_Si (fun r : Int32 => r = nI 3)) ([.ref m0, .int (nI d)] : List Value).toArray s 0 0 nA) (F0 m 16 ls []) := by
    intro fu
    induction fu with
    | zero => intro q h1 h2 ls hl; exact absurd h1 (by omega)
    | succ fu ihL1 =>
      intro q h1 h2 ls hl
      refine lv_iload hx hb dX5_reasonOf_16 (lv_at hl 3 rfl) ?_
      refine lv_bipush (v := (nI 16)) hx hb dX5_reasonOf_18 (by decide) ?_
      rcases Nat.lt_or_ge q 16 with z1 | z1
      · refine lv_icmp_ge (tgt := 73) hx hb dX5_reasonOf_20 (by decide) (fun c9 => absurd c9 (nI_ge z1 (by omega))) (fun _ => ?_)
        refine lv_aload_n hx hb dX5_reasonOf_23 rfl (lv_at hl 0 rfl) ?_
        refine va_get (D := g.1) (ci := 6) (v := .ref qg) (C := RX5) (T := TX5) (N := 23) hx hb hts hiX5 hown hK.1 hP 0 rfl rfl 11 (by decide) (hts (.fieldLink RX5 30 "StampMakerModel" "signs" "[I") (by decide +kernel)) (fun _ h9 => h9) rfl dX5_reasonOf_24 ?_
        refine lv_iload hx hb dX5_reasonOf_27 (lv_at hl 3 rfl) ?_
        refine va_iald hx hb hK.1 hP 1 0 rfl rfl (vp_in_nI (by omega) (by omega)) dX5_reasonOf_29 ?_
        refine lv_rei (x' := ft q) (congrArg ft (nI_clamp (by omega))) ?_
        refine cSi (rest := []) ⟨hx, hb, hml, hown, hts⟩ [.int (ft q)] (c_X5_valueOf l g (x := (ft q))) (va_cwS 1 hts gX5_reasonOf_X5_valueOf rfl rfl rfl (by decide +kernel) ⟨Nat.le_of_ble_eq_true rfl, Nat.le_of_ble_eq_true rfl⟩) hK hZ hS (subP hP [] rfl) rfl hl.1 rfl (Nat.le_of_ble_eq_true rfl) dX5_reasonOf_30 ⟨Nat.zero_le _, Nat.zero_le _⟩ (fun r_227 hr_227 => ?_)
        obtain rfl : r_227 = (rW (ft q)) := hr_227
        have hw := hlet q z1
        refine lv_rei (x' := (nI (wo (ft q)))) (rW_y hw) ?_
        refine lv_if_ge (tgt := 38) hx hb dX5_reasonOf_33 (by decide) (fun _ => ?_) (fun c9 => absurd (nI_pos' (by omega)) c9)
        refine lv_iload hx hb dX5_reasonOf_38 (lv_at hl 3 rfl) ?_
        refine lv_bipush (v := (nI 11)) hx hb dX5_reasonOf_40 (by decide) ?_
        rcases Nat.lt_or_ge q 11 with z2 | z2
        · refine lv_icmp_ge (tgt := 65) hx hb dX5_reasonOf_42 (by decide) (fun c9 => absurd c9 (nI_ge z2 (by omega))) (fun _ => ?_)
          have hTb := tbF_11 (ft := ft) (a := 0) (n := q) (by omega) (fun i _ h2 => hlet i (by omega))
          refine lv_ldc2 (v := (lN 32)) hx hb hown (hts (.constantLong RX5 214 (lN 32)) (by decide +kernel)) dX5_reasonOf_45 ?_
          refine lv_lload_n hx hb dX5_reasonOf_48 rfl (lv_at hl 2 rfl) ?_
          refine lv_lmul hx hb dX5_reasonOf_49 ?_
          refine lv_rel (x' := (lN (32 * tbF ft 0 (min q 11)))) (lN_mul _ _) ?_
          refine lv_aload_n hx hb dX5_reasonOf_50 rfl (lv_at hl 0 rfl) ?_
          refine va_get (D := g.1) (ci := 6) (v := .ref qg) (C := RX5) (T := TX5) (N := 23) hx hb hts hiX5 hown hK.1 hP 0 rfl rfl 11 (by decide) (hts (.fieldLink RX5 30 "StampMakerModel" "signs" "[I") (by decide +kernel)) (fun _ h9 => h9) rfl dX5_reasonOf_51 ?_
          refine lv_iload hx hb dX5_reasonOf_54 (lv_at hl 3 rfl) ?_
          refine va_iald hx hb hK.1 hP 1 0 rfl rfl (vp_in_nI (by omega) (by omega)) dX5_reasonOf_56 ?_
          refine lv_rei (x' := ft q) (congrArg ft (nI_clamp (by omega))) ?_
          refine cSi (rest := [.long (lN (32 * tbF ft 0 (min q 11)))]) ⟨hx, hb, hml, hown, hts⟩ [.int (ft q)] (c_X5_valueOf l g (x := (ft q))) (va_cwS 1 hts gX5_reasonOf_X5_valueOf rfl rfl rfl (by decide +kernel) ⟨Nat.le_of_ble_eq_true rfl, Nat.le_of_ble_eq_true rfl⟩) hK hZ hS (subP hP [] rfl) rfl hl.1 rfl (Nat.le_of_ble_eq_true rfl) dX5_reasonOf_57 ⟨Nat.zero_le _, Nat.zero_le _⟩ (fun r_228 hr_228 => ?_)
          obtain rfl : r_228 = (rW (ft q)) := hr_228
          refine lv_rei (x' := (nI (wo (ft q)))) (rW_y hw) ?_
          refine lv_i2l hx hb dX5_reasonOf_60 rfl ?_
          refine lv_rel (x' := (lN (wo (ft q)))) (nI_L (by omega)) ?_
          refine lv_ladd hx hb dX5_reasonOf_61 ?_
          refine lv_rel (x' := (lN (tbF ft 0 (min (q + 1) 11)))) (by rw [lN_add, show min q 11 = q by omega, show min (q + 1) 11 = q + 1 by omega, tbF, Nat.zero_add, Nat.mul_comm]) ?_
          refine lv_goto (tgt := 66) hx hb dX5_reasonOf_62 (by decide) ?_
          refine lv_lstore_n (lv' := [(2, .long (lN (tbF ft 0 (min (q + 1) 11)))), (0, .ref m0), (1, .int (nI d)), (4, .int (nI q))]) hx hb dX5_reasonOf_66 rfl hl (by decide) rfl (fun ls hl => ?_)
          refine lv_iinc (v := (nI (q + 1))) (lv' := [(4, .int (nI (q + 1))), (2, .long (lN (tbF ft 0 (min (q + 1) 11)))), (0, .ref m0), (1, .int (nI d))]) hx hb dX5_reasonOf_67 hl (k := 3) rfl (nI_1 _) (by decide) rfl (fun ls hl => ?_)
          refine lv_goto (tgt := 16) hx hb dX5_reasonOf_70 (by decide) ?_
          exact ihL1 (q + 1) (by omega) (by omega) ls (lv_sub hl [2, 3, 1, 0] rfl)
        · refine lv_icmp_ge (tgt := 65) hx hb dX5_reasonOf_42 (by decide) (fun _ => ?_) (fun c9 => absurd (nI_le z2 (by omega)) c9)
          refine lv_lload_n hx hb dX5_reasonOf_65 rfl (lv_at hl 2 rfl) ?_
          refine lv_rel (x' := (lN (tbF ft 0 (min (q + 1) 11)))) (by rw [show min q 11 = 11 by omega, show min (q + 1) 11 = 11 by omega]) ?_
          refine lv_lstore_n (lv' := [(2, .long (lN (tbF ft 0 (min (q + 1) 11)))), (0, .ref m0), (1, .int (nI d)), (4, .int (nI q))]) hx hb dX5_reasonOf_66 rfl hl (by decide) rfl (fun ls hl => ?_)
          refine lv_iinc (v := (nI (q + 1))) (lv' := [(4, .int (nI (q + 1))), (2, .long (lN (tbF ft 0 (min (q + 1) 11)))), (0, .ref m0), (1, .int (nI d))]) hx hb dX5_reasonOf_67 hl (k := 3) rfl (nI_1 _) (by decide) rfl (fun ls hl => ?_)
          refine lv_goto (tgt := 16) hx hb dX5_reasonOf_70 (by decide) ?_
          exact ihL1 (q + 1) (by omega) (by omega) ls (lv_sub hl [2, 3, 1, 0] rfl)
      · refine lv_icmp_ge (tgt := 73) hx hb dX5_reasonOf_20 (by decide) (fun _ => ?_) (fun c9 => absurd (nI_le z1 (by omega)) c9)
        obtain rfl : q = 16 := by omega
        have hm : tbF ft 0 (min 16 11) = tbF ft 0 11 := rfl
        have tq0 := ti_n (n := tbF ft 0 11 / 2 ^ 51 % 16) (by omega)
        have tq2 := tl_n (n := tbF ft 0 11 / 2 ^ 30 % 131072) (by omega)
        refine lv_lload_n hx hb dX5_reasonOf_73 rfl (lv_at hl 2 rfl) ?_
        refine lv_bipush (v := (nI 51)) hx hb dX5_reasonOf_74 (by decide) ?_
        refine lv_lshr hx hb dX5_reasonOf_76 rfl ?_
        refine lv_rel (x' := (lN (tbF ft 0 11 / 2 ^ 51))) (l_sshr (by decide) (by omega)) ?_
        refine lv_l2i hx hb dX5_reasonOf_77 rfl ?_
        refine lv_rei (x' := (nI (tbF ft 0 11 / 2 ^ 51 % 16))) (by rw [l_i]; congr 1; omega) ?_
        refine lv_istore (lv' := [(4, .int (nI (tbF ft 0 11 / 2 ^ 51 % 16))), (0, .ref m0), (1, .int (nI d)), (2, .long (lN (tbF ft 0 (min 16 11))))]) hx hb dX5_reasonOf_78 hl (by decide) rfl (fun ls hl => ?_)
        refine lv_lload_n hx hb dX5_reasonOf_80 rfl (lv_at hl 3 rfl) ?_
        refine lv_bipush (v := (nI 47)) hx hb dX5_reasonOf_81 (by decide) ?_
        refine lv_lshr hx hb dX5_reasonOf_83 rfl ?_
        refine lv_rel (x' := (lN (tbF ft 0 11 / 2 ^ 47))) (l_sshr (by decide) (by omega)) ?_
        refine lv_ldc2 (v := (lN 15)) hx hb hown (hts (.constantLong RX5 200 (lN 15)) (by decide +kernel)) dX5_reasonOf_84 ?_
        refine lv_land hx hb dX5_reasonOf_87 ?_
        refine lv_rel (x' := (lN (tbF ft 0 11 / 2 ^ 47 % 16))) (landm 4 rfl) ?_
        refine lv_l2i hx hb dX5_reasonOf_88 rfl ?_
        refine lv_rei (x' := (nI (tbF ft 0 11 / 2 ^ 47 % 16))) (l_i) ?_
        refine lv_istore (lv' := [(5, .int (nI (tbF ft 0 11 / 2 ^ 47 % 16))), (4, .int (nI (tbF ft 0 11 / 2 ^ 51 % 16))), (0, .ref m0), (1, .int (nI d)), (2, .long (lN (tbF ft 0 (min 16 11))))]) hx hb dX5_reasonOf_89 hl (by decide) rfl (fun ls hl => ?_)
        refine lv_lload_n hx hb dX5_reasonOf_91 rfl (lv_at hl 4 rfl) ?_
        refine lv_bipush (v := (nI 30)) hx hb dX5_reasonOf_92 (by decide) ?_
        refine lv_lshr hx hb dX5_reasonOf_94 rfl ?_
        refine lv_rel (x' := (lN (tbF ft 0 11 / 2 ^ 30))) (l_sshr (by decide) (by omega)) ?_
        refine lv_ldc2 (v := (lN 131071)) hx hb hown (hts (.constantLong RX5 216 (lN 131071)) (by decide +kernel)) dX5_reasonOf_95 ?_
        refine lv_land hx hb dX5_reasonOf_98 ?_
        refine lv_rel (x' := (lN (tbF ft 0 11 / 2 ^ 30 % 131072))) (landm 17 rfl) ?_
        refine lv_l2i hx hb dX5_reasonOf_99 rfl ?_
        refine lv_rei (x' := (nI (tbF ft 0 11 / 2 ^ 30 % 131072))) (l_i) ?_
        refine lv_istore (lv' := [(6, .int (nI (tbF ft 0 11 / 2 ^ 30 % 131072))), (5, .int (nI (tbF ft 0 11 / 2 ^ 47 % 16))), (4, .int (nI (tbF ft 0 11 / 2 ^ 51 % 16))), (0, .ref m0), (1, .int (nI d)), (2, .long (lN (tbF ft 0 (min 16 11))))]) hx hb dX5_reasonOf_100 hl (by decide) rfl (fun ls hl => ?_)
        refine lv_lload_n hx hb dX5_reasonOf_102 rfl (lv_at hl 5 rfl) ?_
        refine lv_bipush (v := (nI 14)) hx hb dX5_reasonOf_103 (by decide) ?_
        refine lv_lshr hx hb dX5_reasonOf_105 rfl ?_
        refine lv_rel (x' := (lN (tbF ft 0 11 / 2 ^ 14))) (l_sshr (by decide) (by omega)) ?_
        refine lv_ldc2 (v := (lN 65535)) hx hb hown (hts (.constantLong RX5 143 (lN 65535)) (by decide +kernel)) dX5_reasonOf_106 ?_
        refine lv_land hx hb dX5_reasonOf_109 ?_
        refine lv_rel (x' := (lN (tbF ft 0 11 / 2 ^ 14 % 65536))) (landm 16 rfl) ?_
        refine lv_l2i hx hb dX5_reasonOf_110 rfl ?_
        refine lv_rei (x' := (nI (tbF ft 0 11 / 2 ^ 14 % 65536))) (l_i) ?_
        refine lv_istore (lv' := [(7, .int (nI (tbF ft 0 11 / 2 ^ 14 % 65536))), (6, .int (nI (tbF ft 0 11 / 2 ^ 30 % 131072))), (5, .int (nI (tbF ft 0 11 / 2 ^ 47 % 16))), (4, .int (nI (tbF ft 0 11 / 2 ^ 51 % 16))), (0, .ref m0), (1, .int (nI d)), (2, .long (lN (tbF ft 0 (min 16 11))))]) hx hb dX5_reasonOf_111 hl (by decide) rfl (fun ls hl => ?_)
        refine lv_lload_n hx hb dX5_reasonOf_113 rfl (lv_at hl 6 rfl) ?_
        refine lv_ldc2 (v := (lN 16383)) hx hb hown (hts (.constantLong RX5 218 (lN 16383)) (by decide +kernel)) dX5_reasonOf_114 ?_
        refine lv_land hx hb dX5_reasonOf_117 ?_
        refine lv_rel (x' := (lN (tbF ft 0 11 % 16384))) (landm 14 rfl) ?_
        refine lv_l2i hx hb dX5_reasonOf_118 rfl ?_
        refine lv_rei (x' := (nI (tbF ft 0 11 % 16384))) (l_i) ?_
        refine lv_istore (lv' := [(8, .int (nI (tbF ft 0 11 % 16384))), (7, .int (nI (tbF ft 0 11 / 2 ^ 14 % 65536))), (6, .int (nI (tbF ft 0 11 / 2 ^ 30 % 131072))), (5, .int (nI (tbF ft 0 11 / 2 ^ 47 % 16))), (4, .int (nI (tbF ft 0 11 / 2 ^ 51 % 16))), (0, .ref m0), (1, .int (nI d)), (2, .long (lN (tbF ft 0 (min 16 11))))]) hx hb dX5_reasonOf_119 hl (by decide) rfl (fun ls hl => ?_)
        refine lv_aload_n hx hb dX5_reasonOf_121 rfl (lv_at hl 5 rfl) ?_
        refine lv_iload hx hb dX5_reasonOf_122 (lv_at hl 4 rfl) ?_
        refine cVi (rest := []) ⟨hx, hb, hml, hown, hts⟩ [.int (nI (tbF ft 0 11 / 2 ^ 51 % 16))] (c_X5_isKey l g (m0 := m0) (kn := kn) (mn := mn) (tn := tn) (qf := qf) (qu := qu) (qz := qz) (qd := qd) (qx := qx) (ql := ql) (qg := qg) (qb := qb) (qy := qy) (qc := qc) (qe := qe) (qw := qw) (qt := qt) (qr := qr) (qi := qi) (th := th) (has := has) (cc := cc) (sp := sp) (rk := rk) (x := (nI (tbF ft 0 11 / 2 ^ 51 % 16))) hkn) (cwV 1 hts gX5_reasonOf_X5_isKey rfl rfl rfl (by decide +kernel) ⟨Nat.le_of_ble_eq_true rfl, Nat.le_of_ble_eq_true rfl⟩) hK hZ hS (subP hP [0] rfl) (va_recv hK.1 hP (ci := 6) (q0 := 0) rfl rfl) rfl hl.1 rfl (Nat.le_of_ble_eq_true rfl) dX5_reasonOf_124 ⟨Nat.zero_le _, Nat.zero_le _⟩ (fun r_229 hr_229 => ?_)
        obtain rfl : r_229 = (inI ((nI (tbF ft 0 11 / 2 ^ 51 % 16))).toInt 0 ((kn : Int) - 1)) := hr_229
        refine lv_if_eq (tgt := 150) hx hb dX5_reasonOf_127 (by decide) (fun c9 => absurd c9 (by rw [inI_1 (by omega) (by omega)]; decide)) (fun _ => ?_)
        refine lv_iload hx hb dX5_reasonOf_130 (lv_at hl 3 rfl) ?_
        refine lv_bipush (v := (nI 9)) hx hb dX5_reasonOf_132 (by decide) ?_
        rcases Nat.lt_or_ge 9 (tbF ft 0 11 / 2 ^ 47 % 16) with z3 | z3
        · refine lv_icmp_gt (tgt := 150) hx hb dX5_reasonOf_134 (by decide) (fun _ => ?_) (fun c9 => absurd (nI_lt z3 (by omega)) c9)
          refine lv_iconst (v := (nI 3)) hx hb dX5_reasonOf_150 (by decide) ?_
          exact endRi hx hb hr hlocks dX5_reasonOf_151 (rfl)
        · refine lv_icmp_gt (tgt := 150) hx hb dX5_reasonOf_134 (by decide) (fun c9 => absurd c9 (nI_nlt z3 (by omega))) (fun _ => ?_)
          refine lv_iload hx hb dX5_reasonOf_137 (lv_at hl 2 rfl) ?_
          refine lv_i2l hx hb dX5_reasonOf_139 rfl ?_
          refine lv_rel (x' := (lN (tbF ft 0 11 / 2 ^ 30 % 131072))) (nI_L (by omega)) ?_
          refine lv_lconst (v := lN 1) hx hb dX5_reasonOf_140 (by decide) ?_
          refine lv_ldc2 (v := (lN 99999)) hx hb hown (hts (.constantLong RX5 173 (lN 99999)) (by decide +kernel)) dX5_reasonOf_141 ?_
          refine cSi (rest := []) ⟨hx, hb, hml, hown, hts⟩ [.long (lN (tbF ft 0 11 / 2 ^ 30 % 131072)), .long (lN 1), .long (lN 99999)] (c_X5_within l g (v := lN (tbF ft 0 11 / 2 ^ 30 % 131072)) (lo := lN 1) (hi := lN 99999)) (va_cwS 3 hts gX5_reasonOf_X5_within rfl rfl rfl (by decide +kernel) ⟨Nat.le_of_ble_eq_true rfl, Nat.le_of_ble_eq_true rfl⟩) hK hZ hS (subP hP [] rfl) rfl hl.1 rfl (Nat.le_of_ble_eq_true rfl) dX5_reasonOf_144 ⟨Nat.zero_le _, Nat.zero_le _⟩ (fun r_230 hr_230 => ?_)
          obtain rfl : r_230 = (inI (lN (tbF ft 0 11 / 2 ^ 30 % 131072)).toInt (lN 1).toInt (lN 99999).toInt) := hr_230
          refine lv_if_ne (tgt := 152) hx hb dX5_reasonOf_147 (by decide) (fun c9 => absurd (inI_0 (by omega)) c9) (fun _ => ?_)
          refine lv_iconst (v := (nI 3)) hx hb dX5_reasonOf_150 (by decide) ?_
          exact endRi hx hb hr hlocks dX5_reasonOf_151 (rfl)
  exact L1 17 0 (by omega) (by omega) ls (lv_sub hl [2, 3, 1, 0] rfl)

set_option maxHeartbeats 4000000 in
set_option maxRecDepth 100000 in
/-- the reasons -/
theorem c_X5_ro_go (l : Launch) (g : gE) (hsz : Nat) (m0 kn mn tn qf qu qz qd qx ql qg qb qy qc qe qw qt qr qi : Nat) (th has cc sp rk : Int32) (kf ku fz fx fw fs fe fr9 fb9 f : Nat → Int32) (nz : Nat) (ft ff fd fc : Nat → Int32) (d : Nat) (ht : tn = 16) (hlet : ∀ j, j < 16 → wo (ft j) < 32) (hkn : kn ≤ 15) (hdd : d ≤ 65535) (hi : tbF ft 0 11 / 2 ^ 51 % 16 < kn) (hfz : fz (tbF ft 0 11 / 2 ^ 51 % 16) = nI nz) (hz : nz ≤ 32) (hf : ∀ j, j < nz → f j = fx (32 * (tbF ft 0 11 / 2 ^ 51 % 16) + j)) (hr9 : ∀ j, j < 64 → fr9 j = sK j) (hb9 : ∀ j, j < 8 → fb9 j = sBeg j) (hok1 : tbF ft 0 11 / 2 ^ 47 % 16 ≤ 9) (hok2 : 1 ≤ tbF ft 0 11 / 2 ^ 30 % 131072) (hok3 : tbF ft 0 11 / 2 ^ 30 % 131072 ≤ 99999) : Met l yX5_reasonOf wsX5_reasonOf ({ frames := 6, cells := 0, slots := 0, locals := 126 }) (va_Pc [.ref m0, .int (nI d)] (wr g [(m0, .inr (6, [.int th, .int (nI kn), .ref qf, .ref qu, .ref qz, .ref qd, .ref qx, .int (nI mn), .int has, .ref ql, .int (nI tn), .ref qg, .int cc, .ref qb, .ref qy, .ref qc, .int sp, .int rk, .ref qe, .ref qw, .ref qt, .ref qr, .ref qi])), (qz, .inl (g.2.1 0, 15, .inl fz)), (qx, .inl (g.2.1 1, 480, .inl fx)), (qw, .inl (g.2.1 0, 64, .inl fw)), (qt, .inl (g.2.1 0, 8, .inl fs)), (qe, .inl (g.2.1 1, 32, .inl fe)), (qr, .inl (g.2.1 0, 64, .inl fr9)), (qi, .inl (g.2.1 0, 8, .inl fb9)), (qf, .inl (g.2.1 0, 15, .inl kf)), (qu, .inl (g.2.1 0, 15, .inl ku)), (qg, .inl (g.2.1 0, 40, .inl ft)), (qb, .inl (g.2.1 1, 16384, .inl ff)), (qy, .inl (g.2.1 0, 16384, .inl fd)), (qc, .inl (g.2.1 0, 16384, .inl fc))] hsz)) (va_Qi (fun (r : Int32) (u : ((Nat → Int32) × (Nat → Int32) × (Nat → Int32) × Int32 × (Nat → Int32) × (Nat → Int32) × (Nat → Int32))) => r = rsR (raR f nz (tbF ft 0 11) (tbF ft 11 5) d (kf ((tbF ft 0 11) / 2 ^ 51 % 16)) (ku ((tbF ft 0 11) / 2 ^ 51 % 16))) (ff ((tbF ft 0 11) % 16384)) ∧ (∀ j, j < 32 → u.2.2.1 j = oB (dG f nz (tbF ft 0 11) (j / 4)) (24 - 8 * (j % 4))) ∧ u.2.2.2.1 = gtS (raR f nz (tbF ft 0 11) (tbF ft 11 5) d (kf ((tbF ft 0 11) / 2 ^ 51 % 16)) (ku ((tbF ft 0 11) / 2 ^ 51 % 16))) (acS (ff ((tbF ft 0 11) % 16384)) sp ((tbF ft 0 11) % 16384)) sp ∧ u.2.2.2.2.1 = gtF (raR f nz (tbF ft 0 11) (tbF ft 11 5) d (kf ((tbF ft 0 11) / 2 ^ 51 % 16)) (ku ((tbF ft 0 11) / 2 ^ 51 % 16))) (acF (ff ((tbF ft 0 11) % 16384)) ff ((tbF ft 0 11) % 16384) (nI 1)) ff ∧ u.2.2.2.2.2.1 = gtF (raR f nz (tbF ft 0 11) (tbF ft 11 5) d (kf ((tbF ft 0 11) / 2 ^ 51 % 16)) (ku ((tbF ft 0 11) / 2 ^ 51 % 16))) (acF (ff ((tbF ft 0 11) % 16384)) fd ((tbF ft 0 11) % 16384) (nI d)) fd ∧ u.2.2.2.2.2.2 = gtF (raR f nz (tbF ft 0 11) (tbF ft 11 5) d (kf ((tbF ft 0 11) / 2 ^ 51 % 16)) (ku ((tbF ft 0 11) / 2 ^ 51 % 16))) (acF (ff ((tbF ft 0 11) % 16384)) fc ((tbF ft 0 11) % 16384) cc) fc) (wB g (va_A [(m0, .inr (6, [.int th, .int (nI kn), .ref qf, .ref qu, .ref qz, .ref qd, .ref qx, .int (nI mn), .int has, .ref ql, .int (nI tn), .ref qg, .int cc, .ref qb, .ref qy, .ref qc, .int sp, .int rk, .ref qe, .ref qw, .ref qt, .ref qr, .ref qi])), (qz, .inl (g.2.1 0, 15, .inl fz)), (qx, .inl (g.2.1 1, 480, .inl fx)), (qw, .inl (g.2.1 0, 64, .inl fw)), (qt, .inl (g.2.1 0, 8, .inl fs)), (qe, .inl (g.2.1 1, 32, .inl fe)), (qr, .inl (g.2.1 0, 64, .inl fr9)), (qi, .inl (g.2.1 0, 8, .inl fb9)), (qf, .inl (g.2.1 0, 15, .inl kf)), (qu, .inl (g.2.1 0, 15, .inl ku)), (qg, .inl (g.2.1 0, 40, .inl ft)), (qb, .inl (g.2.1 1, 16384, .inl ff)), (qy, .inl (g.2.1 0, 16384, .inl fd)), (qc, .inl (g.2.1 0, 16384, .inl fc))] hsz) (fun u : ((Nat → Int32) × (Nat → Int32) × (Nat → Int32) × Int32 × (Nat → Int32) × (Nat → Int32) × (Nat → Int32)) => [(m0, .inr (6, [.int th, .int (nI kn), .ref qf, .ref qu, .ref qz, .ref qd, .ref qx, .int (nI mn), .int has, .ref ql, .int (nI tn), .ref qg, .int cc, .ref qb, .ref qy, .ref qc, .int u.2.2.2.1, .int (nI 1), .ref qe, .ref qw, .ref qt, .ref qr, .ref qi])), (qz, .inl (g.2.1 0, 15, .inl fz)), (qx, .inl (g.2.1 1, 480, .inl fx)), (qw, .inl (g.2.1 0, 64, .inl u.1)), (qt, .inl (g.2.1 0, 8, .inl u.2.1)), (qe, .inl (g.2.1 1, 32, .inl u.2.2.1)), (qr, .inl (g.2.1 0, 64, .inl fr9)), (qi, .inl (g.2.1 0, 8, .inl fb9)), (qf, .inl (g.2.1 0, 15, .inl kf)), (qu, .inl (g.2.1 0, 15, .inl ku)), (qg, .inl (g.2.1 0, 40, .inl ft)), (qb, .inl (g.2.1 1, 16384, .inl u.2.2.2.2.1)), (qy, .inl (g.2.1 0, 16384, .inl u.2.2.2.2.2.1)), (qc, .inl (g.2.1 0, 16384, .inl u.2.2.2.2.2.2))])) (va_A [(m0, .inr (6, [.int th, .int (nI kn), .ref qf, .ref qu, .ref qz, .ref qd, .ref qx, .int (nI mn), .int has, .ref ql, .int (nI tn), .ref qg, .int cc, .ref qb, .ref qy, .ref qc, .int sp, .int rk, .ref qe, .ref qw, .ref qt, .ref qr, .ref qi])), (qz, .inl (g.2.1 0, 15, .inl fz)), (qx, .inl (g.2.1 1, 480, .inl fx)), (qw, .inl (g.2.1 0, 64, .inl fw)), (qt, .inl (g.2.1 0, 8, .inl fs)), (qe, .inl (g.2.1 1, 32, .inl fe)), (qr, .inl (g.2.1 0, 64, .inl fr9)), (qi, .inl (g.2.1 0, 8, .inl fb9)), (qf, .inl (g.2.1 0, 15, .inl kf)), (qu, .inl (g.2.1 0, 15, .inl ku)), (qg, .inl (g.2.1 0, 40, .inl ft)), (qb, .inl (g.2.1 1, 16384, .inl ff)), (qy, .inl (g.2.1 0, 16384, .inl fd)), (qc, .inl (g.2.1 0, 16384, .inl fc))] hsz)) 0 0 (va_A [(m0, .inr (6, [.int th, .int (nI kn), .ref qf, .ref qu, .ref qz, .ref qd, .ref qx, .int (nI mn), .int has, .ref ql, .int (nI tn), .ref qg, .int cc, .ref qb, .ref qy, .ref qc, .int sp, .int rk, .ref qe, .ref qw, .ref qt, .ref qr, .ref qi])), (qz, .inl (g.2.1 0, 15, .inl fz)), (qx, .inl (g.2.1 1, 480, .inl fx)), (qw, .inl (g.2.1 0, 64, .inl fw)), (qt, .inl (g.2.1 0, 8, .inl fs)), (qe, .inl (g.2.1 1, 32, .inl fe)), (qr, .inl (g.2.1 0, 64, .inl fr9)), (qi, .inl (g.2.1 0, 8, .inl fb9)), (qf, .inl (g.2.1 0, 15, .inl kf)), (qu, .inl (g.2.1 0, 15, .inl ku)), (qg, .inl (g.2.1 0, 40, .inl ft)), (qb, .inl (g.2.1 1, 16384, .inl ff)), (qy, .inl (g.2.1 0, 16384, .inl fd)), (qc, .inl (g.2.1 0, 16384, .inl fc))] hsz) := by
  refine ofWi (cc := cX5_reasonOf) (maxL := 10) (ret := (some .int)) (by decide) rfl (Nat.le_of_ble_eq_true rfl) (fun p e s m below meth c hx hb hr hml hts hown hlocks hnm A H hH hA hP hD hK hZ hS ls hl => ?_)
  have hown : s.vm.findClass RX5 = some m.cls := hown
  have hl : lv_has ls 10 [(0, .ref m0), (1, .int (nI d))] := hl
  have tn0 : (nI 0).toInt = 0 := by decide
  have tn1 : (nI 1).toInt = 1 := by decide
  have tn2 : (nI 2).toInt = 2 := by decide
  have tn3 : (nI 3).toInt = 3 := by decide
  have tn4 : (nI 4).toInt = 4 := by decide
  have tn5 : (nI 5).toInt = 5 := by decide
  have tn6 : (nI 6).toInt = 6 := by decide
  have tn7 : (nI 7).toInt = 7 := by decide
  have tn9 : (nI 9).toInt = 9 := by decide
  have tn11 : (nI 11).toInt = 11 := by decide
  have tn14 : (nI 14).toInt = 14 := by decide
  have tn16 : (nI 16).toInt = 16 := by decide
  have tn30 : (nI 30).toInt = 30 := by decide
  have tn47 : (nI 47).toInt = 47 := by decide
  have tn51 : (nI 51).toInt = 51 := by decide
  have tn100 : (nI 100).toInt = 100 := by decide
  have tl0 : (lN 0).toInt = 0 := by decide
  have tl1 : (lN 1).toInt = 1 := by decide
  have tl15 : (lN 15).toInt = 15 := by decide
  have tl32 : (lN 32).toInt = 32 := by decide
  have tl16383 : (lN 16383).toInt = 16383 := by decide
  have tl65535 : (lN 65535).toInt = 65535 := by decide
  have tl99999 : (lN 99999).toInt = 99999 := by decide
  have tl131071 : (lN 131071).toInt = 131071 := by decide
  have hiX5 : ∀ w ∈ wsX50, w ∈ wsX5_reasonOf := by decide +kernel
  have hN : tbF ft 0 11 < 36028797018963968 := tbF_11 (by decide) (fun i _ h2 => hlet i (by omega))
  refine lv_aload_n hx hb dX5_reasonOf_0 rfl (lv_at hl 0 rfl) ?_
  refine va_get (D := g.1) (ci := 6) (v := .int (nI tn)) (C := RX5) (T := TX5) (N := 23) hx hb hts hiX5 hown hK.1 hP 0 rfl rfl 10 (by decide) (hts (.fieldLink RX5 202 "StampMakerModel" "typed" "I") (by decide +kernel)) (fun _ h9 => h9) rfl dX5_reasonOf_1 ?_
  refine lv_bipush (v := (nI 16)) hx hb dX5_reasonOf_4 (by decide) ?_
  refine lv_icmp_eq (tgt := 11) hx hb dX5_reasonOf_6 (by decide) (fun _ => ?_) (fun c9 => absurd (by rw [ht]) c9)
  refine lv_lconst (v := lN 0) hx hb dX5_reasonOf_11 (by decide) ?_
  refine lv_rel (x' := (lN (tbF ft 0 (min 0 11)))) (rfl) ?_
  refine lv_lstore_n (lv' := [(2, .long (lN (tbF ft 0 (min 0 11)))), (0, .ref m0), (1, .int (nI d))]) hx hb dX5_reasonOf_12 rfl hl (by decide) rfl (fun ls hl => ?_)
  refine lv_iconst (v := (nI 0)) hx hb dX5_reasonOf_13 (by decide) ?_
  refine lv_istore (lv' := [(4, .int (nI 0)), (2, .long (lN (tbF ft 0 (min 0 11)))), (0, .ref m0), (1, .int (nI d))]) hx hb dX5_reasonOf_14 hl (by decide) rfl (fun ls hl => ?_)
  have L1 : ∀ (fu : Nat) (q : Nat), (17 ≤ q + fu) → (q ≤ 16) → ∀ (H : Heap) (locs : List Loc), va_P g.1 vwCl [(m0, .inr (6, [.int th, .int (nI kn), .ref qf, .ref qu, .ref qz, .ref qd, .ref qx, .int (nI mn), .int has, .ref ql, .int (nI tn), .ref qg, .int cc, .ref qb, .ref qy, .ref qc, .int sp, .int rk, .ref qe, .ref qw, .ref qt, .ref qr, .ref qi])), (qz, .inl (g.2.1 0, 15, .inl fz)), (qx, .inl (g.2.1 1, 480, .inl fx)), (qw, .inl (g.2.1 0, 64, .inl fw)), (qt, .inl (g.2.1 0, 8, .inl fs)), (qe, .inl (g.2.1 1, 32, .inl fe)), (qr, .inl (g.2.1 0, 64, .inl fr9)), (qi, .inl (g.2.1 0, 8, .inl fb9)), (qf, .inl (g.2.1 0, 15, .inl kf)), (qu, .inl (g.2.1 0, 15, .inl ku)), (qg, .inl (g.2.1 0, 40, .inl ft)), (qb, .inl (g.2.1 1, 16384, .inl ff)), (qy, .inl (g.2.1 0, 16384, .inl fd)), (qc, .inl (g.2.1 0, 16384, .inl fc))] H → va_D A [(m0, .inr (6, [.int th, .int (nI kn), .ref qf, .ref qu, .ref qz, .ref qd, .ref qx, .int (nI mn), .int has, .ref ql, .int (nI tn), .ref qg, .int cc, .ref qb, .ref qy, .ref qc, .int sp, .int rk, .ref qe, .ref qw, .ref qt, .ref qr, .ref qi])), (qz, .inl (g.2.1 0, 15, .inl fz)), (qx, .inl (g.2.1 1, 480, .inl fx)), (qw, .inl (g.2.1 0, 64, .inl fw)), (qt, .inl (g.2.1 0, 8, .inl fs)), (qe, .inl (g.2.1 1, 32, .inl fe)), (qr, .inl (g.2.1 0, 64, .inl fr9)), (qi, .inl (g.2.1 0, 8, .inl fb9)), (qf, .inl (g.2.1 0, 15, .inl kf)), (qu, .inl (g.2.1 0, 15, .inl ku)), (qg, .inl (g.2.1 0, 40, .inl ft)), (qb, .inl (g.2.1 1, 16384, .inl ff)), (qy, .inl (g.2.1 0, 16384, .inl fd)), (qc, .inl (g.2.1 0, 16384, .inl fc))] → va_S A s.heap H locs → ∀ ls : Array Slot, lv_has ls 10 [(0, .ref m0), (1, .int (nI d)), (2, .long (lN (tbF ft 0 (min q 11)))), (4, .int (nI q))] → W p l e (headSpec wsX5_reasonOf ({ frames := 6, cells := 0, slots := 0, locals := 126 } : Room)).room s m ([.ref m0, .int (nI d)] : List Value).toArray below meth c H locs 0 0 (MQ below (va_Qi (fun (r : Int32) (u : ((Nat → Int32) × (Nat → Int32) × (Nat → Int32) × Int32 × (Nat → Int32) × (Nat → Int32) × (Nat → Int32))) => r = rsR (raR f nz (tbF ft 0 11) (tbF ft 11 5) d (kf ((tbF ft 0 11) / 2 ^ 51 % 16)) (ku ((tbF ft 0 11) / 2 ^ 51 % 16))) (ff ((tbF ft 0 11) % 16384)) ∧ (∀ j, j < 32 → u.2.2.1 j = oB (dG f nz (tbF ft 0 11) (j / 4)) (24 - 8 * (j % 4))) ∧ u.2.2.2.1 = gtS (raR f nz (tbF ft 0 11) (tbF ft 11 5) d (kf ((tbF ft 0 11) / 2 ^ 51 % 16)) (ku ((tbF ft 0 11) / 2 ^ 51 % 16))) (acS (ff ((tbF ft 0 11) % 16384)) sp ((tbF ft 0 11) % 16384)) sp ∧ u.2.2.2.2.1 = gtF (raR f nz (tbF ft 0 11) (tbF ft 11 5) d (kf ((tbF ft 0 11) / 2 ^ 51 % 16)) (ku ((tbF ft 0 11) / 2 ^ 51 % 16))) (acF (ff ((tbF ft 0 11) % 16384)) ff ((tbF ft 0 11) % 16384) (nI 1)) ff ∧ u.2.2.2.2.2.1 = gtF (raR f nz (tbF ft 0 11) (tbF ft 11 5) d (kf ((tbF ft 0 11) / 2 ^ 51 % 16)) (ku ((tbF ft 0 11) / 2 ^ 51 % 16))) (acF (ff ((tbF ft 0 11) % 16384)) fd ((tbF ft 0 11) % 16384) (nI d)) fd ∧ u.2.2.2.2.2.2 = gtF (raR f nz (tbF ft 0 11) (tbF ft 11 5) d (kf ((tbF ft 0 11) / 2 ^ 51 % 16)) (ku ((tbF ft 0 11) / 2 ^ 51 % 16))) (acF (ff ((tbF ft 0 11) % 16384)) fc ((tbF ft 0 11) % 16384) cc) fc) (wB g A (fun u : ((Nat → Int32) × (Nat → Int32) × (Nat → Int32) × Int32 × (Nat → Int32) × (Nat → Int32) × (Nat → Int32)) => [(m0, .inr (6, [.int th, .int (nI kn), .ref qf, .ref qu, .ref qz, .ref qd, .ref qx, .int (nI mn), .int has, .ref ql, .int (nI tn), .ref qg, .int cc, .ref qb, .ref qy, .ref qc, .int u.2.2.2.1, .int (nI 1), .ref qe, .ref qw, .ref qt, .ref qr, .ref qi])), (qz, .inl (g.2.1 0, 15, .inl fz)), (qx, .inl (g.2.1 1, 480, .inl fx)), (qw, .inl (g.2.1 0, 64, .inl u.1)), (qt, .inl (g.2.1 0, 8, .inl u.2.1)), (qe, .inl (g.2.1 1, 32, .inl u.2.2.1)), (qr, .inl (g.2.1 0, 64, .inl fr9)), (qi, .inl (g.2.1 0, 8, .inl fb9)), (qf, .inl (g.2.1 0, 15, .inl kf)), (qu, .inl (g.2.1 0, 15, .inl ku)), (qg, .inl (g.2.1 0, 40, .inl ft)), (qb, .inl (g.2.1 1, 16384, .inl u.2.2.2.2.1)), (qy, .inl (g.2.1 0, 16384, .inl u.2.2.2.2.2.1)), (qc, .inl (g.2.1 0, 16384, .inl u.2.2.2.2.2.2))])) A) ([.ref m0, .int (nI d)] : List Value).toArray s 0 0 A) (F0 m 16 ls []) := by
    intro fu
    induction fu with
    | zero => intro q h1 h2 H locs hP hD hS ls hl; exact absurd h1 (by omega)
    | succ fu ihL1 =>
      intro q h1 h2 H locs hP hD hS ls hl
      refine lv_iload hx hb dX5_reasonOf_16 (lv_at hl 3 rfl) ?_
      refine lv_bipush (v := (nI 16)) hx hb dX5_reasonOf_18 (by decide) ?_
      rcases Nat.lt_or_ge q 16 with z1 | z1
      · refine lv_icmp_ge (tgt := 73) hx hb dX5_reasonOf_20 (by decide) (fun c9 => absurd c9 (nI_ge z1 (by omega))) (fun _ => ?_)
        refine lv_aload_n hx hb dX5_reasonOf_23 rfl (lv_at hl 0 rfl) ?_
        refine va_get (D := g.1) (ci := 6) (v := .ref qg) (C := RX5) (T := TX5) (N := 23) hx hb hts hiX5 hown hK.1 hP 0 rfl rfl 11 (by decide) (hts (.fieldLink RX5 30 "StampMakerModel" "signs" "[I") (by decide +kernel)) (fun _ h9 => h9) rfl dX5_reasonOf_24 ?_
        refine lv_iload hx hb dX5_reasonOf_27 (lv_at hl 3 rfl) ?_
        refine va_iald hx hb hK.1 hP 10 0 rfl rfl (vp_in_nI (by omega) (by omega)) dX5_reasonOf_29 ?_
        refine lv_rei (x' := ft q) (congrArg ft (nI_clamp (by omega))) ?_
        refine cSi (rest := []) ⟨hx, hb, hml, hown, hts⟩ [.int (ft q)] (c_X5_valueOf l g (x := (ft q))) (va_cwS 1 hts gX5_reasonOf_X5_valueOf rfl rfl rfl (by decide +kernel) ⟨Nat.le_of_ble_eq_true rfl, Nat.le_of_ble_eq_true rfl⟩) hK hZ hS (subP hP [] rfl) rfl hl.1 rfl (Nat.le_of_ble_eq_true rfl) dX5_reasonOf_30 ⟨Nat.zero_le _, Nat.zero_le _⟩ (fun r_231 hr_231 => ?_)
        obtain rfl : r_231 = (rW (ft q)) := hr_231
        have hw := hlet q z1
        refine lv_rei (x' := (nI (wo (ft q)))) (rW_y hw) ?_
        refine lv_if_ge (tgt := 38) hx hb dX5_reasonOf_33 (by decide) (fun _ => ?_) (fun c9 => absurd (nI_pos' (by omega)) c9)
        refine lv_iload hx hb dX5_reasonOf_38 (lv_at hl 3 rfl) ?_
        refine lv_bipush (v := (nI 11)) hx hb dX5_reasonOf_40 (by decide) ?_
        rcases Nat.lt_or_ge q 11 with z2 | z2
        · refine lv_icmp_ge (tgt := 65) hx hb dX5_reasonOf_42 (by decide) (fun c9 => absurd c9 (nI_ge z2 (by omega))) (fun _ => ?_)
          have hTb := tbF_11 (ft := ft) (a := 0) (n := q) (by omega) (fun i _ h2 => hlet i (by omega))
          refine lv_ldc2 (v := (lN 32)) hx hb hown (hts (.constantLong RX5 214 (lN 32)) (by decide +kernel)) dX5_reasonOf_45 ?_
          refine lv_lload_n hx hb dX5_reasonOf_48 rfl (lv_at hl 2 rfl) ?_
          refine lv_lmul hx hb dX5_reasonOf_49 ?_
          refine lv_rel (x' := (lN (32 * tbF ft 0 (min q 11)))) (lN_mul _ _) ?_
          refine lv_aload_n hx hb dX5_reasonOf_50 rfl (lv_at hl 0 rfl) ?_
          refine va_get (D := g.1) (ci := 6) (v := .ref qg) (C := RX5) (T := TX5) (N := 23) hx hb hts hiX5 hown hK.1 hP 0 rfl rfl 11 (by decide) (hts (.fieldLink RX5 30 "StampMakerModel" "signs" "[I") (by decide +kernel)) (fun _ h9 => h9) rfl dX5_reasonOf_51 ?_
          refine lv_iload hx hb dX5_reasonOf_54 (lv_at hl 3 rfl) ?_
          refine va_iald hx hb hK.1 hP 10 0 rfl rfl (vp_in_nI (by omega) (by omega)) dX5_reasonOf_56 ?_
          refine lv_rei (x' := ft q) (congrArg ft (nI_clamp (by omega))) ?_
          refine cSi (rest := [.long (lN (32 * tbF ft 0 (min q 11)))]) ⟨hx, hb, hml, hown, hts⟩ [.int (ft q)] (c_X5_valueOf l g (x := (ft q))) (va_cwS 1 hts gX5_reasonOf_X5_valueOf rfl rfl rfl (by decide +kernel) ⟨Nat.le_of_ble_eq_true rfl, Nat.le_of_ble_eq_true rfl⟩) hK hZ hS (subP hP [] rfl) rfl hl.1 rfl (Nat.le_of_ble_eq_true rfl) dX5_reasonOf_57 ⟨Nat.zero_le _, Nat.zero_le _⟩ (fun r_232 hr_232 => ?_)
          obtain rfl : r_232 = (rW (ft q)) := hr_232
          refine lv_rei (x' := (nI (wo (ft q)))) (rW_y hw) ?_
          refine lv_i2l hx hb dX5_reasonOf_60 rfl ?_
          refine lv_rel (x' := (lN (wo (ft q)))) (nI_L (by omega)) ?_
          refine lv_ladd hx hb dX5_reasonOf_61 ?_
          refine lv_rel (x' := (lN (tbF ft 0 (min (q + 1) 11)))) (by rw [lN_add, show min q 11 = q by omega, show min (q + 1) 11 = q + 1 by omega, tbF, Nat.zero_add, Nat.mul_comm]) ?_
          refine lv_goto (tgt := 66) hx hb dX5_reasonOf_62 (by decide) ?_
          refine lv_lstore_n (lv' := [(2, .long (lN (tbF ft 0 (min (q + 1) 11)))), (0, .ref m0), (1, .int (nI d)), (4, .int (nI q))]) hx hb dX5_reasonOf_66 rfl hl (by decide) rfl (fun ls hl => ?_)
          refine lv_iinc (v := (nI (q + 1))) (lv' := [(4, .int (nI (q + 1))), (2, .long (lN (tbF ft 0 (min (q + 1) 11)))), (0, .ref m0), (1, .int (nI d))]) hx hb dX5_reasonOf_67 hl (k := 3) rfl (nI_1 _) (by decide) rfl (fun ls hl => ?_)
          refine lv_goto (tgt := 16) hx hb dX5_reasonOf_70 (by decide) ?_
          exact ihL1 (q + 1) (by omega) (by omega) _ _ hP hD hS ls (lv_sub hl [2, 3, 1, 0] rfl)
        · refine lv_icmp_ge (tgt := 65) hx hb dX5_reasonOf_42 (by decide) (fun _ => ?_) (fun c9 => absurd (nI_le z2 (by omega)) c9)
          refine lv_lload_n hx hb dX5_reasonOf_65 rfl (lv_at hl 2 rfl) ?_
          refine lv_rel (x' := (lN (tbF ft 0 (min (q + 1) 11)))) (by rw [show min q 11 = 11 by omega, show min (q + 1) 11 = 11 by omega]) ?_
          refine lv_lstore_n (lv' := [(2, .long (lN (tbF ft 0 (min (q + 1) 11)))), (0, .ref m0), (1, .int (nI d)), (4, .int (nI q))]) hx hb dX5_reasonOf_66 rfl hl (by decide) rfl (fun ls hl => ?_)
          refine lv_iinc (v := (nI (q + 1))) (lv' := [(4, .int (nI (q + 1))), (2, .long (lN (tbF ft 0 (min (q + 1) 11)))), (0, .ref m0), (1, .int (nI d))]) hx hb dX5_reasonOf_67 hl (k := 3) rfl (nI_1 _) (by decide) rfl (fun ls hl => ?_)
          refine lv_goto (tgt := 16) hx hb dX5_reasonOf_70 (by decide) ?_
          exact ihL1 (q + 1) (by omega) (by omega) _ _ hP hD hS ls (lv_sub hl [2, 3, 1, 0] rfl)
      · refine lv_icmp_ge (tgt := 73) hx hb dX5_reasonOf_20 (by decide) (fun _ => ?_) (fun c9 => absurd (nI_le z1 (by omega)) c9)
        obtain rfl : q = 16 := by omega
        have hm : tbF ft 0 (min 16 11) = tbF ft 0 11 := rfl
        have tq0 := ti_n (n := tbF ft 0 11 / 2 ^ 51 % 16) (by omega)
        have tq2 := tl_n (n := tbF ft 0 11 / 2 ^ 30 % 131072) (by omega)
        refine lv_lload_n hx hb dX5_reasonOf_73 rfl (lv_at hl 2 rfl) ?_
        refine lv_bipush (v := (nI 51)) hx hb dX5_reasonOf_74 (by decide) ?_
        refine lv_lshr hx hb dX5_reasonOf_76 rfl ?_
        refine lv_rel (x' := (lN (tbF ft 0 11 / 2 ^ 51))) (l_sshr (by decide) (by omega)) ?_
        refine lv_l2i hx hb dX5_reasonOf_77 rfl ?_
        refine lv_rei (x' := (nI (tbF ft 0 11 / 2 ^ 51 % 16))) (by rw [l_i]; congr 1; omega) ?_
        refine lv_istore (lv' := [(4, .int (nI (tbF ft 0 11 / 2 ^ 51 % 16))), (0, .ref m0), (1, .int (nI d)), (2, .long (lN (tbF ft 0 (min 16 11))))]) hx hb dX5_reasonOf_78 hl (by decide) rfl (fun ls hl => ?_)
        refine lv_lload_n hx hb dX5_reasonOf_80 rfl (lv_at hl 3 rfl) ?_
        refine lv_bipush (v := (nI 47)) hx hb dX5_reasonOf_81 (by decide) ?_
        refine lv_lshr hx hb dX5_reasonOf_83 rfl ?_
        refine lv_rel (x' := (lN (tbF ft 0 11 / 2 ^ 47))) (l_sshr (by decide) (by omega)) ?_
        refine lv_ldc2 (v := (lN 15)) hx hb hown (hts (.constantLong RX5 200 (lN 15)) (by decide +kernel)) dX5_reasonOf_84 ?_
        refine lv_land hx hb dX5_reasonOf_87 ?_
        refine lv_rel (x' := (lN (tbF ft 0 11 / 2 ^ 47 % 16))) (landm 4 rfl) ?_
        refine lv_l2i hx hb dX5_reasonOf_88 rfl ?_
        refine lv_rei (x' := (nI (tbF ft 0 11 / 2 ^ 47 % 16))) (l_i) ?_
        refine lv_istore (lv' := [(5, .int (nI (tbF ft 0 11 / 2 ^ 47 % 16))), (4, .int (nI (tbF ft 0 11 / 2 ^ 51 % 16))), (0, .ref m0), (1, .int (nI d)), (2, .long (lN (tbF ft 0 (min 16 11))))]) hx hb dX5_reasonOf_89 hl (by decide) rfl (fun ls hl => ?_)
        refine lv_lload_n hx hb dX5_reasonOf_91 rfl (lv_at hl 4 rfl) ?_
        refine lv_bipush (v := (nI 30)) hx hb dX5_reasonOf_92 (by decide) ?_
        refine lv_lshr hx hb dX5_reasonOf_94 rfl ?_
        refine lv_rel (x' := (lN (tbF ft 0 11 / 2 ^ 30))) (l_sshr (by decide) (by omega)) ?_
        refine lv_ldc2 (v := (lN 131071)) hx hb hown (hts (.constantLong RX5 216 (lN 131071)) (by decide +kernel)) dX5_reasonOf_95 ?_
        refine lv_land hx hb dX5_reasonOf_98 ?_
        refine lv_rel (x' := (lN (tbF ft 0 11 / 2 ^ 30 % 131072))) (landm 17 rfl) ?_
        refine lv_l2i hx hb dX5_reasonOf_99 rfl ?_
        refine lv_rei (x' := (nI (tbF ft 0 11 / 2 ^ 30 % 131072))) (l_i) ?_
        refine lv_istore (lv' := [(6, .int (nI (tbF ft 0 11 / 2 ^ 30 % 131072))), (5, .int (nI (tbF ft 0 11 / 2 ^ 47 % 16))), (4, .int (nI (tbF ft 0 11 / 2 ^ 51 % 16))), (0, .ref m0), (1, .int (nI d)), (2, .long (lN (tbF ft 0 (min 16 11))))]) hx hb dX5_reasonOf_100 hl (by decide) rfl (fun ls hl => ?_)
        refine lv_lload_n hx hb dX5_reasonOf_102 rfl (lv_at hl 5 rfl) ?_
        refine lv_bipush (v := (nI 14)) hx hb dX5_reasonOf_103 (by decide) ?_
        refine lv_lshr hx hb dX5_reasonOf_105 rfl ?_
        refine lv_rel (x' := (lN (tbF ft 0 11 / 2 ^ 14))) (l_sshr (by decide) (by omega)) ?_
        refine lv_ldc2 (v := (lN 65535)) hx hb hown (hts (.constantLong RX5 143 (lN 65535)) (by decide +kernel)) dX5_reasonOf_106 ?_
        refine lv_land hx hb dX5_reasonOf_109 ?_
        refine lv_rel (x' := (lN (tbF ft 0 11 / 2 ^ 14 % 65536))) (landm 16 rfl) ?_
        refine lv_l2i hx hb dX5_reasonOf_110 rfl ?_
        refine lv_rei (x' := (nI (tbF ft 0 11 / 2 ^ 14 % 65536))) (l_i) ?_
        refine lv_istore (lv' := [(7, .int (nI (tbF ft 0 11 / 2 ^ 14 % 65536))), (6, .int (nI (tbF ft 0 11 / 2 ^ 30 % 131072))), (5, .int (nI (tbF ft 0 11 / 2 ^ 47 % 16))), (4, .int (nI (tbF ft 0 11 / 2 ^ 51 % 16))), (0, .ref m0), (1, .int (nI d)), (2, .long (lN (tbF ft 0 (min 16 11))))]) hx hb dX5_reasonOf_111 hl (by decide) rfl (fun ls hl => ?_)
        refine lv_lload_n hx hb dX5_reasonOf_113 rfl (lv_at hl 6 rfl) ?_
        refine lv_ldc2 (v := (lN 16383)) hx hb hown (hts (.constantLong RX5 218 (lN 16383)) (by decide +kernel)) dX5_reasonOf_114 ?_
        refine lv_land hx hb dX5_reasonOf_117 ?_
        refine lv_rel (x' := (lN (tbF ft 0 11 % 16384))) (landm 14 rfl) ?_
        refine lv_l2i hx hb dX5_reasonOf_118 rfl ?_
        refine lv_rei (x' := (nI (tbF ft 0 11 % 16384))) (l_i) ?_
        refine lv_istore (lv' := [(8, .int (nI (tbF ft 0 11 % 16384))), (7, .int (nI (tbF ft 0 11 / 2 ^ 14 % 65536))), (6, .int (nI (tbF ft 0 11 / 2 ^ 30 % 131072))), (5, .int (nI (tbF ft 0 11 / 2 ^ 47 % 16))), (4, .int (nI (tbF ft 0 11 / 2 ^ 51 % 16))), (0, .ref m0), (1, .int (nI d)), (2, .long (lN (tbF ft 0 (min 16 11))))]) hx hb dX5_reasonOf_119 hl (by decide) rfl (fun ls hl => ?_)
        refine lv_aload_n hx hb dX5_reasonOf_121 rfl (lv_at hl 5 rfl) ?_
        refine lv_iload hx hb dX5_reasonOf_122 (lv_at hl 4 rfl) ?_
        refine cVi (rest := []) ⟨hx, hb, hml, hown, hts⟩ [.int (nI (tbF ft 0 11 / 2 ^ 51 % 16))] (c_X5_isKey l g (m0 := m0) (kn := kn) (mn := mn) (tn := tn) (qf := qf) (qu := qu) (qz := qz) (qd := qd) (qx := qx) (ql := ql) (qg := qg) (qb := qb) (qy := qy) (qc := qc) (qe := qe) (qw := qw) (qt := qt) (qr := qr) (qi := qi) (th := th) (has := has) (cc := cc) (sp := sp) (rk := rk) (x := (nI (tbF ft 0 11 / 2 ^ 51 % 16))) hkn) (cwV 1 hts gX5_reasonOf_X5_isKey rfl rfl rfl (by decide +kernel) ⟨Nat.le_of_ble_eq_true rfl, Nat.le_of_ble_eq_true rfl⟩) hK hZ hS (subP hP [0] rfl) (va_recv hK.1 hP (ci := 6) (q0 := 0) rfl rfl) rfl hl.1 rfl (Nat.le_of_ble_eq_true rfl) dX5_reasonOf_124 ⟨Nat.zero_le _, Nat.zero_le _⟩ (fun r_233 hr_233 => ?_)
        obtain rfl : r_233 = (inI ((nI (tbF ft 0 11 / 2 ^ 51 % 16))).toInt 0 ((kn : Int) - 1)) := hr_233
        refine lv_if_eq (tgt := 150) hx hb dX5_reasonOf_127 (by decide) (fun c9 => absurd c9 (by rw [inI_1 (by omega) (by omega)]; decide)) (fun _ => ?_)
        refine lv_iload hx hb dX5_reasonOf_130 (lv_at hl 3 rfl) ?_
        refine lv_bipush (v := (nI 9)) hx hb dX5_reasonOf_132 (by decide) ?_
        refine lv_icmp_gt (tgt := 150) hx hb dX5_reasonOf_134 (by decide) (fun c9 => absurd c9 (nI_nlt hok1 (by omega))) (fun _ => ?_)
        refine lv_iload hx hb dX5_reasonOf_137 (lv_at hl 2 rfl) ?_
        refine lv_i2l hx hb dX5_reasonOf_139 rfl ?_
        refine lv_rel (x' := (lN (tbF ft 0 11 / 2 ^ 30 % 131072))) (nI_L (by omega)) ?_
        refine lv_lconst (v := lN 1) hx hb dX5_reasonOf_140 (by decide) ?_
        refine lv_ldc2 (v := (lN 99999)) hx hb hown (hts (.constantLong RX5 173 (lN 99999)) (by decide +kernel)) dX5_reasonOf_141 ?_
        refine cSi (rest := []) ⟨hx, hb, hml, hown, hts⟩ [.long (lN (tbF ft 0 11 / 2 ^ 30 % 131072)), .long (lN 1), .long (lN 99999)] (c_X5_within l g (v := lN (tbF ft 0 11 / 2 ^ 30 % 131072)) (lo := lN 1) (hi := lN 99999)) (va_cwS 3 hts gX5_reasonOf_X5_within rfl rfl rfl (by decide +kernel) ⟨Nat.le_of_ble_eq_true rfl, Nat.le_of_ble_eq_true rfl⟩) hK hZ hS (subP hP [] rfl) rfl hl.1 rfl (Nat.le_of_ble_eq_true rfl) dX5_reasonOf_144 ⟨Nat.zero_le _, Nat.zero_le _⟩ (fun r_234 hr_234 => ?_)
        obtain rfl : r_234 = (inI (lN (tbF ft 0 11 / 2 ^ 30 % 131072)).toInt (lN 1).toInt (lN 99999).toInt) := hr_234
        refine lv_if_ne (tgt := 152) hx hb dX5_reasonOf_147 (by decide) (fun _ => ?_) (fun c9 => absurd c9 (by rw [inI_1 (by omega) (by omega)]; decide))
        refine lv_aload_n hx hb dX5_reasonOf_152 rfl (lv_at hl 5 rfl) ?_
        refine lv_iload hx hb dX5_reasonOf_153 (lv_at hl 4 rfl) ?_
        refine lv_lload_n hx hb dX5_reasonOf_155 rfl (lv_at hl 7 rfl) ?_
        refine wVv (rest := []) ⟨hx, hb, hml, hown, hts⟩ [.int (nI (tbF ft 0 11 / 2 ^ 51 % 16)), .long (lN (tbF ft 0 11))] [0, 1, 2, 3, 4, 5, 6, 7] (c_X5_reckon l g H.size (m0 := m0) (kn := kn) (mn := mn) (tn := tn) (qf := qf) (qu := qu) (qz := qz) (qd := qd) (qx := qx) (ql := ql) (qg := qg) (qb := qb) (qy := qy) (qc := qc) (qe := qe) (qw := qw) (qt := qt) (qr := qr) (qi := qi) (th := th) (has := has) (cc := cc) (sp := sp) (rk := rk) (fz := fz) (fx := fx) (fw := fw) (fs := fs) (fe := fe) (fr9 := fr9) (fb9 := fb9) (f := f) (i := (tbF ft 0 11 / 2 ^ 51 % 16)) (nz := nz) (N := (tbF ft 0 11)) (by omega) hfz hz hN hf hr9 hb9) (cwV 2 hts gX5_reasonOf_X5_reckon rfl rfl rfl (by decide +kernel) ⟨Nat.le_of_ble_eq_true rfl, Nat.le_of_ble_eq_true rfl⟩) hK hZ hS hP hD hA rfl (by decide) (fun _ => Nat.le_of_ble_eq_true rfl) (fun _ => rfl) (va_recv hK.1 hP (ci := 6) (q0 := 0) rfl rfl) rfl hl.1 rfl (Nat.le_of_ble_eq_true rfl) dX5_reasonOf_156 ⟨Nat.le_of_ble_eq_true rfl, Nat.le_of_ble_eq_true rfl⟩ (fun u H locs hz1 hP hD hS => ?_)
        obtain ⟨G, T, E⟩ := u
        have hP : va_P g.1 vwCl [(m0, .inr (6, [.int th, .int (nI kn), .ref qf, .ref qu, .ref qz, .ref qd, .ref qx, .int (nI mn), .int has, .ref ql, .int (nI tn), .ref qg, .int cc, .ref qb, .ref qy, .ref qc, .int sp, .int (nI 1), .ref qe, .ref qw, .ref qt, .ref qr, .ref qi])), (qz, .inl (g.2.1 0, 15, .inl fz)), (qx, .inl (g.2.1 1, 480, .inl fx)), (qw, .inl (g.2.1 0, 64, .inl ((G, T, E).1))), (qt, .inl (g.2.1 0, 8, .inl ((G, T, E).2.1))), (qe, .inl (g.2.1 1, 32, .inl ((G, T, E).2.2))), (qr, .inl (g.2.1 0, 64, .inl fr9)), (qi, .inl (g.2.1 0, 8, .inl fb9)), (qf, .inl (g.2.1 0, 15, .inl kf)), (qu, .inl (g.2.1 0, 15, .inl ku)), (qg, .inl (g.2.1 0, 40, .inl ft)), (qb, .inl (g.2.1 1, 16384, .inl ff)), (qy, .inl (g.2.1 0, 16384, .inl fd)), (qc, .inl (g.2.1 0, 16384, .inl fc))] H := hP
        have hD : va_D A [(m0, .inr (6, [.int th, .int (nI kn), .ref qf, .ref qu, .ref qz, .ref qd, .ref qx, .int (nI mn), .int has, .ref ql, .int (nI tn), .ref qg, .int cc, .ref qb, .ref qy, .ref qc, .int sp, .int (nI 1), .ref qe, .ref qw, .ref qt, .ref qr, .ref qi])), (qz, .inl (g.2.1 0, 15, .inl fz)), (qx, .inl (g.2.1 1, 480, .inl fx)), (qw, .inl (g.2.1 0, 64, .inl ((G, T, E).1))), (qt, .inl (g.2.1 0, 8, .inl ((G, T, E).2.1))), (qe, .inl (g.2.1 1, 32, .inl ((G, T, E).2.2))), (qr, .inl (g.2.1 0, 64, .inl fr9)), (qi, .inl (g.2.1 0, 8, .inl fb9)), (qf, .inl (g.2.1 0, 15, .inl kf)), (qu, .inl (g.2.1 0, 15, .inl ku)), (qg, .inl (g.2.1 0, 40, .inl ft)), (qb, .inl (g.2.1 1, 16384, .inl ff)), (qy, .inl (g.2.1 0, 16384, .inl fd)), (qc, .inl (g.2.1 0, 16384, .inl fc))] := hD
        have hP : va_P g.1 vwCl [(m0, .inr (6, [.int th, .int (nI kn), .ref qf, .ref qu, .ref qz, .ref qd, .ref qx, .int (nI mn), .int has, .ref ql, .int (nI tn), .ref qg, .int cc, .ref qb, .ref qy, .ref qc, .int sp, .int (nI 1), .ref qe, .ref qw, .ref qt, .ref qr, .ref qi])), (qz, .inl (g.2.1 0, 15, .inl fz)), (qx, .inl (g.2.1 1, 480, .inl fx)), (qw, .inl (g.2.1 0, 64, .inl G)), (qt, .inl (g.2.1 0, 8, .inl T)), (qe, .inl (g.2.1 1, 32, .inl E)), (qr, .inl (g.2.1 0, 64, .inl fr9)), (qi, .inl (g.2.1 0, 8, .inl fb9)), (qf, .inl (g.2.1 0, 15, .inl kf)), (qu, .inl (g.2.1 0, 15, .inl ku)), (qg, .inl (g.2.1 0, 40, .inl ft)), (qb, .inl (g.2.1 1, 16384, .inl ff)), (qy, .inl (g.2.1 0, 16384, .inl fd)), (qc, .inl (g.2.1 0, 16384, .inl fc))] H := hP
        have hD : va_D A [(m0, .inr (6, [.int th, .int (nI kn), .ref qf, .ref qu, .ref qz, .ref qd, .ref qx, .int (nI mn), .int has, .ref ql, .int (nI tn), .ref qg, .int cc, .ref qb, .ref qy, .ref qc, .int sp, .int (nI 1), .ref qe, .ref qw, .ref qt, .ref qr, .ref qi])), (qz, .inl (g.2.1 0, 15, .inl fz)), (qx, .inl (g.2.1 1, 480, .inl fx)), (qw, .inl (g.2.1 0, 64, .inl G)), (qt, .inl (g.2.1 0, 8, .inl T)), (qe, .inl (g.2.1 1, 32, .inl E)), (qr, .inl (g.2.1 0, 64, .inl fr9)), (qi, .inl (g.2.1 0, 8, .inl fb9)), (qf, .inl (g.2.1 0, 15, .inl kf)), (qu, .inl (g.2.1 0, 15, .inl ku)), (qg, .inl (g.2.1 0, 40, .inl ft)), (qb, .inl (g.2.1 1, 16384, .inl ff)), (qy, .inl (g.2.1 0, 16384, .inl fd)), (qc, .inl (g.2.1 0, 16384, .inl fc))] := hD
        have hE32 : ∀ j, j < 32 → E j = oB (dG f nz (tbF ft 0 11) (j / 4)) (24 - 8 * (j % 4)) := hz1
        have hS1 : tbF ft 11 5 < 33554432 := tbF_lt 5 (fun i _ h2 => hlet i (by omega))
        have hSl := sN_lt f nz (tbF ft 0 11)
        have hSd : ∀ e, e < 5 → (dG f nz (tbF ft 0 11) 0).toBitVec.toNat / 2 ^ (27 - 5 * e) % 32 = sN f nz (tbF ft 0 11) / 2 ^ (20 - 5 * e) % 32 := fun e he => sN_div _ _ _ he
        have hTd : ∀ e, e < 5 → tbF ft 11 5 / 2 ^ (20 - 5 * e) % 32 = wo (ft (11 + e)) := fun e he => tb_dig (fun j _ h2 => hlet j h2) he
        have hE : ∀ j, j < 4 → E j = oB (dG f nz (tbF ft 0 11) 0) (24 - 8 * (j % 4)) := fun j hj => by rw [hE32 j (by omega), show j / 4 = 0 by omega]
        unfold raR
        generalize dG f nz (tbF ft 0 11) 0 = xU at hE hSd
        generalize sN f nz (tbF ft 0 11) = Sg at hSl hSd ⊢
        generalize tbF ft 11 5 = S1 at hS1 hTd ⊢
        refine lv_iconst (v := (nI 0)) hx hb dX5_reasonOf_159 (by decide) ?_
        refine lv_istore (lv' := [(9, .int (nI 0)), (8, .int (nI (tbF ft 0 11 % 16384))), (7, .int (nI (tbF ft 0 11 / 2 ^ 14 % 65536))), (6, .int (nI (tbF ft 0 11 / 2 ^ 30 % 131072))), (5, .int (nI (tbF ft 0 11 / 2 ^ 47 % 16))), (4, .int (nI (tbF ft 0 11 / 2 ^ 51 % 16))), (0, .ref m0), (1, .int (nI d)), (2, .long (lN (tbF ft 0 (min 16 11))))]) hx hb dX5_reasonOf_160 hl (by decide) rfl (fun ls hl => ?_)
        have L2 : ∀ (fu : Nat) (q : Nat), (6 ≤ q + fu) → (q ≤ 5) → (∀ e, e < q → Sg / 2 ^ (20 - 5 * e) % 32 = S1 / 2 ^ (20 - 5 * e) % 32) → ∀ (H : Heap) (locs : List Loc), va_P g.1 vwCl [(m0, .inr (6, [.int th, .int (nI kn), .ref qf, .ref qu, .ref qz, .ref qd, .ref qx, .int (nI mn), .int has, .ref ql, .int (nI tn), .ref qg, .int cc, .ref qb, .ref qy, .ref qc, .int sp, .int (nI 1), .ref qe, .ref qw, .ref qt, .ref qr, .ref qi])), (qz, .inl (g.2.1 0, 15, .inl fz)), (qx, .inl (g.2.1 1, 480, .inl fx)), (qw, .inl (g.2.1 0, 64, .inl G)), (qt, .inl (g.2.1 0, 8, .inl T)), (qe, .inl (g.2.1 1, 32, .inl E)), (qr, .inl (g.2.1 0, 64, .inl fr9)), (qi, .inl (g.2.1 0, 8, .inl fb9)), (qf, .inl (g.2.1 0, 15, .inl kf)), (qu, .inl (g.2.1 0, 15, .inl ku)), (qg, .inl (g.2.1 0, 40, .inl ft)), (qb, .inl (g.2.1 1, 16384, .inl ff)), (qy, .inl (g.2.1 0, 16384, .inl fd)), (qc, .inl (g.2.1 0, 16384, .inl fc))] H → va_D A [(m0, .inr (6, [.int th, .int (nI kn), .ref qf, .ref qu, .ref qz, .ref qd, .ref qx, .int (nI mn), .int has, .ref ql, .int (nI tn), .ref qg, .int cc, .ref qb, .ref qy, .ref qc, .int sp, .int (nI 1), .ref qe, .ref qw, .ref qt, .ref qr, .ref qi])), (qz, .inl (g.2.1 0, 15, .inl fz)), (qx, .inl (g.2.1 1, 480, .inl fx)), (qw, .inl (g.2.1 0, 64, .inl G)), (qt, .inl (g.2.1 0, 8, .inl T)), (qe, .inl (g.2.1 1, 32, .inl E)), (qr, .inl (g.2.1 0, 64, .inl fr9)), (qi, .inl (g.2.1 0, 8, .inl fb9)), (qf, .inl (g.2.1 0, 15, .inl kf)), (qu, .inl (g.2.1 0, 15, .inl ku)), (qg, .inl (g.2.1 0, 40, .inl ft)), (qb, .inl (g.2.1 1, 16384, .inl ff)), (qy, .inl (g.2.1 0, 16384, .inl fd)), (qc, .inl (g.2.1 0, 16384, .inl fc))] → va_S A s.heap H locs → ∀ ls : Array Slot, lv_has ls 10 [(0, .ref m0), (1, .int (nI d)), (2, .long (lN (tbF ft 0 11))), (4, .int (nI (tbF ft 0 11 / 2 ^ 51 % 16))), (7, .int (nI (tbF ft 0 11 / 2 ^ 14 % 65536))), (8, .int (nI (tbF ft 0 11 % 16384))), (9, .int (nI q))] → W p l e (headSpec wsX5_reasonOf ({ frames := 6, cells := 0, slots := 0, locals := 126 } : Room)).room s m ([.ref m0, .int (nI d)] : List Value).toArray below meth c H locs 0 0 (MQ below (va_Qi (fun (r : Int32) (u : ((Nat → Int32) × (Nat → Int32) × (Nat → Int32) × Int32 × (Nat → Int32) × (Nat → Int32) × (Nat → Int32))) => r = rsR (if S1 ≠ Sg then nI 4 else if (tbF ft 0 11) / 2 ^ 14 % 65536 ≤ d ∧ d ≤ (tbF ft 0 11) / 2 ^ 14 % 65536 + 100 ∧ (kf ((tbF ft 0 11) / 2 ^ 51 % 16)).toInt ≤ d ∧ (d : Int) ≤ (ku ((tbF ft 0 11) / 2 ^ 51 % 16)).toInt then nI 0 else nI 5) (ff ((tbF ft 0 11) % 16384)) ∧ (∀ j, j < 32 → u.2.2.1 j = oB (dG f nz (tbF ft 0 11) (j / 4)) (24 - 8 * (j % 4))) ∧ u.2.2.2.1 = gtS (if S1 ≠ Sg then nI 4 else if (tbF ft 0 11) / 2 ^ 14 % 65536 ≤ d ∧ d ≤ (tbF ft 0 11) / 2 ^ 14 % 65536 + 100 ∧ (kf ((tbF ft 0 11) / 2 ^ 51 % 16)).toInt ≤ d ∧ (d : Int) ≤ (ku ((tbF ft 0 11) / 2 ^ 51 % 16)).toInt then nI 0 else nI 5) (acS (ff ((tbF ft 0 11) % 16384)) sp ((tbF ft 0 11) % 16384)) sp ∧ u.2.2.2.2.1 = gtF (if S1 ≠ Sg then nI 4 else if (tbF ft 0 11) / 2 ^ 14 % 65536 ≤ d ∧ d ≤ (tbF ft 0 11) / 2 ^ 14 % 65536 + 100 ∧ (kf ((tbF ft 0 11) / 2 ^ 51 % 16)).toInt ≤ d ∧ (d : Int) ≤ (ku ((tbF ft 0 11) / 2 ^ 51 % 16)).toInt then nI 0 else nI 5) (acF (ff ((tbF ft 0 11) % 16384)) ff ((tbF ft 0 11) % 16384) (nI 1)) ff ∧ u.2.2.2.2.2.1 = gtF (if S1 ≠ Sg then nI 4 else if (tbF ft 0 11) / 2 ^ 14 % 65536 ≤ d ∧ d ≤ (tbF ft 0 11) / 2 ^ 14 % 65536 + 100 ∧ (kf ((tbF ft 0 11) / 2 ^ 51 % 16)).toInt ≤ d ∧ (d : Int) ≤ (ku ((tbF ft 0 11) / 2 ^ 51 % 16)).toInt then nI 0 else nI 5) (acF (ff ((tbF ft 0 11) % 16384)) fd ((tbF ft 0 11) % 16384) (nI d)) fd ∧ u.2.2.2.2.2.2 = gtF (if S1 ≠ Sg then nI 4 else if (tbF ft 0 11) / 2 ^ 14 % 65536 ≤ d ∧ d ≤ (tbF ft 0 11) / 2 ^ 14 % 65536 + 100 ∧ (kf ((tbF ft 0 11) / 2 ^ 51 % 16)).toInt ≤ d ∧ (d : Int) ≤ (ku ((tbF ft 0 11) / 2 ^ 51 % 16)).toInt then nI 0 else nI 5) (acF (ff ((tbF ft 0 11) % 16384)) fc ((tbF ft 0 11) % 16384) cc) fc) (wB g A (fun u : ((Nat → Int32) × (Nat → Int32) × (Nat → Int32) × Int32 × (Nat → Int32) × (Nat → Int32) × (Nat → Int32)) => [(m0, .inr (6, [.int th, .int (nI kn), .ref qf, .ref qu, .ref qz, .ref qd, .ref qx, .int (nI mn), .int has, .ref ql, .int (nI tn), .ref qg, .int cc, .ref qb, .ref qy, .ref qc, .int u.2.2.2.1, .int (nI 1), .ref qe, .ref qw, .ref qt, .ref qr, .ref qi])), (qz, .inl (g.2.1 0, 15, .inl fz)), (qx, .inl (g.2.1 1, 480, .inl fx)), (qw, .inl (g.2.1 0, 64, .inl u.1)), (qt, .inl (g.2.1 0, 8, .inl u.2.1)), (qe, .inl (g.2.1 1, 32, .inl u.2.2.1)), (qr, .inl (g.2.1 0, 64, .inl fr9)), (qi, .inl (g.2.1 0, 8, .inl fb9)), (qf, .inl (g.2.1 0, 15, .inl kf)), (qu, .inl (g.2.1 0, 15, .inl ku)), (qg, .inl (g.2.1 0, 40, .inl ft)), (qb, .inl (g.2.1 1, 16384, .inl u.2.2.2.2.1)), (qy, .inl (g.2.1 0, 16384, .inl u.2.2.2.2.2.1)), (qc, .inl (g.2.1 0, 16384, .inl u.2.2.2.2.2.2))])) A) ([.ref m0, .int (nI d)] : List Value).toArray s 0 0 A) (F0 m 162 ls []) := by
          intro fu
          induction fu with
          | zero => intro q k1 k2 k3 H locs hP hD hS ls hl; exact absurd k1 (by omega)
          | succ fu ihL2 =>
            intro q k1 k2 k3 H locs hP hD hS ls hl
            refine lv_iload hx hb dX5_reasonOf_162 (lv_at hl 6 rfl) ?_
            refine lv_iconst (v := (nI 5)) hx hb dX5_reasonOf_164 (by decide) ?_
            rcases Nat.lt_or_ge q 5 with z1 | z1
            · refine lv_icmp_ge (tgt := 198) hx hb dX5_reasonOf_165 (by decide) (fun c9 => absurd c9 (nI_ge z1 (by omega))) (fun _ => ?_)
              refine lv_aload_n hx hb dX5_reasonOf_168 rfl (lv_at hl 0 rfl) ?_
              refine lv_iload hx hb dX5_reasonOf_169 (lv_at hl 6 rfl) ?_
              refine cVi (rest := []) ⟨hx, hb, hml, hown, hts⟩ [.int (nI q)] (c_X5_five l g (m0 := m0) (kn := kn) (mn := mn) (tn := tn) (qf := qf) (qu := qu) (qz := qz) (qd := qd) (qx := qx) (ql := ql) (qg := qg) (qb := qb) (qy := qy) (qc := qc) (qe := qe) (qw := qw) (qt := qt) (qr := qr) (qi := qi) (th := th) (has := has) (cc := cc) (sp := sp) (rk := (nI 1)) (fe := E) (xU := xU) (b := q) z1 hE) (cwV 1 hts gX5_reasonOf_X5_five rfl rfl rfl (by decide +kernel) ⟨Nat.le_of_ble_eq_true rfl, Nat.le_of_ble_eq_true rfl⟩) hK hZ hS (subP hP [0, 5] rfl) (va_recv hK.1 hP (ci := 6) (q0 := 0) rfl rfl) rfl hl.1 rfl (Nat.le_of_ble_eq_true rfl) dX5_reasonOf_171 ⟨Nat.zero_le _, Nat.zero_le _⟩ (fun r_235 hr_235 => ?_)
              obtain rfl : r_235 = (nI (xU.toBitVec.toNat / 2 ^ (27 - 5 * q) % 32)) := hr_235
              refine lv_rei (x' := (nI (Sg / 2 ^ (20 - 5 * q) % 32))) (by rw [hSd q z1]) ?_
              refine lv_aload_n hx hb dX5_reasonOf_174 rfl (lv_at hl 0 rfl) ?_
              refine va_get (D := g.1) (ci := 6) (v := .ref qg) (C := RX5) (T := TX5) (N := 23) hx hb hts hiX5 hown hK.1 hP 0 rfl rfl 11 (by decide) (hts (.fieldLink RX5 30 "StampMakerModel" "signs" "[I") (by decide +kernel)) (fun _ h9 => h9) rfl dX5_reasonOf_175 ?_
              refine lv_bipush (v := (nI 11)) hx hb dX5_reasonOf_178 (by decide) ?_
              refine lv_iload hx hb dX5_reasonOf_180 (lv_at hl 6 rfl) ?_
              refine lv_iadd hx hb dX5_reasonOf_182 ?_
              refine lv_rei (x' := (nI (11 + q))) (nI_add _ _) ?_
              refine va_iald hx hb hK.1 hP 10 0 rfl rfl (vp_in_nI (by omega) (by omega)) dX5_reasonOf_183 ?_
              refine lv_rei (x' := ft (11 + q)) (congrArg ft (nI_clamp (by omega))) ?_
              refine cSi (rest := [.int (nI (Sg / 2 ^ (20 - 5 * q) % 32))]) ⟨hx, hb, hml, hown, hts⟩ [.int (ft (11 + q))] (c_X5_valueOf l g (x := (ft (11 + q)))) (va_cwS 1 hts gX5_reasonOf_X5_valueOf rfl rfl rfl (by decide +kernel) ⟨Nat.le_of_ble_eq_true rfl, Nat.le_of_ble_eq_true rfl⟩) hK hZ hS (subP hP [] rfl) rfl hl.1 rfl (Nat.le_of_ble_eq_true rfl) dX5_reasonOf_184 ⟨Nat.zero_le _, Nat.zero_le _⟩ (fun r_236 hr_236 => ?_)
              obtain rfl : r_236 = (rW (ft (11 + q))) := hr_236
              have hw := hlet (11 + q) (by omega)
              refine lv_rei (x' := (nI (S1 / 2 ^ (20 - 5 * q) % 32))) (by rw [rW_y hw, hTd q z1]) ?_
              refine lv_icmp_eq (tgt := 192) hx hb dX5_reasonOf_187 (by decide) (fun ce => ?_) (fun ce => ?_)
              · have hq : Sg / 2 ^ (20 - 5 * q) % 32 = S1 / 2 ^ (20 - 5 * q) % 32 := (nI_eq (by omega) (by omega)).mp ce
                refine lv_iinc (v := (nI (q + 1))) (lv' := [(9, .int (nI (q + 1))), (0, .ref m0), (1, .int (nI d)), (2, .long (lN (tbF ft 0 11))), (4, .int (nI (tbF ft 0 11 / 2 ^ 51 % 16))), (7, .int (nI (tbF ft 0 11 / 2 ^ 14 % 65536))), (8, .int (nI (tbF ft 0 11 % 16384)))]) hx hb dX5_reasonOf_192 hl (k := 6) rfl (nI_1 _) (by decide) rfl (fun ls hl => ?_)
                refine lv_goto (tgt := 162) hx hb dX5_reasonOf_195 (by decide) ?_
                exact ihL2 (q + 1) (by omega) (by omega) (fun e he => by
                                      rcases Nat.lt_or_ge e q with z | z
                                      · exact k3 e z
                                      · rw [show e = q by omega]; exact hq) _ _ hP hD hS ls (lv_sub hl [1, 2, 3, 4, 5, 6, 0] rfl)
              · have hne : S1 ≠ Sg := fun z => ce (by rw [z])
                refine lv_iconst (v := (nI 4)) hx hb dX5_reasonOf_190 (by decide) ?_
                exact endWi (G, T, E, sp, ff, fd, fc) hx hb hr hlocks hS dX5_reasonOf_191 hP hD (by
                                      simp only [if_pos hne]
                                      exact ⟨rfl, hE32, rfl, rfl, rfl, rfl⟩)
            · refine lv_icmp_ge (tgt := 198) hx hb dX5_reasonOf_165 (by decide) (fun _ => ?_) (fun c9 => absurd (nI_le z1 (by omega)) c9)
              have heq : ¬ S1 ≠ Sg := fun z => z (dig_eq hS1 hSl (fun e he => (k3 e (by omega)).symm))
              simp only [if_neg heq]
              refine lv_iload_n hx hb dX5_reasonOf_198 rfl (lv_at hl 1 rfl) ?_
              refine lv_iload hx hb dX5_reasonOf_199 (lv_at hl 4 rfl) ?_
              rcases Nat.lt_or_ge d (tbF ft 0 11 / 2 ^ 14 % 65536) with y1 | y1
              · refine lv_icmp_lt (tgt := 237) hx hb dX5_reasonOf_201 (by decide) (fun _ => ?_) (fun c9 => absurd (nI_lt y1 (by omega)) c9)
                have hcn : ¬ (tbF ft 0 11 / 2 ^ 14 % 65536 ≤ d ∧ d ≤ tbF ft 0 11 / 2 ^ 14 % 65536 + 100 ∧ (kf (tbF ft 0 11 / 2 ^ 51 % 16)).toInt ≤ d ∧ (d : Int) ≤ (ku (tbF ft 0 11 / 2 ^ 51 % 16)).toInt) := by omega
                refine lv_iconst (v := (nI 5)) hx hb dX5_reasonOf_237 (by decide) ?_
                exact endWi (G, T, E, sp, ff, fd, fc) hx hb hr hlocks hS dX5_reasonOf_238 hP hD (by
                                      simp only [if_neg hcn]
                                      exact ⟨rfl, hE32, rfl, rfl, rfl, rfl⟩)
              · refine lv_icmp_lt (tgt := 237) hx hb dX5_reasonOf_201 (by decide) (fun c9 => absurd c9 (nI_nlt y1 (by omega))) (fun _ => ?_)
                refine lv_iload_n hx hb dX5_reasonOf_204 rfl (lv_at hl 1 rfl) ?_
                refine lv_iload hx hb dX5_reasonOf_205 (lv_at hl 4 rfl) ?_
                refine lv_bipush (v := (nI 100)) hx hb dX5_reasonOf_207 (by decide) ?_
                refine lv_iadd hx hb dX5_reasonOf_209 ?_
                refine lv_rei (x' := (nI (tbF ft 0 11 / 2 ^ 14 % 65536 + 100))) (nI_add _ _) ?_
                rcases Nat.lt_or_ge (tbF ft 0 11 / 2 ^ 14 % 65536 + 100) d with y2 | y2
                · refine lv_icmp_gt (tgt := 237) hx hb dX5_reasonOf_210 (by decide) (fun _ => ?_) (fun c9 => absurd (nI_lt y2 (by omega)) c9)
                  have hcn : ¬ (tbF ft 0 11 / 2 ^ 14 % 65536 ≤ d ∧ d ≤ tbF ft 0 11 / 2 ^ 14 % 65536 + 100 ∧ (kf (tbF ft 0 11 / 2 ^ 51 % 16)).toInt ≤ d ∧ (d : Int) ≤ (ku (tbF ft 0 11 / 2 ^ 51 % 16)).toInt) := by omega
                  refine lv_iconst (v := (nI 5)) hx hb dX5_reasonOf_237 (by decide) ?_
                  exact endWi (G, T, E, sp, ff, fd, fc) hx hb hr hlocks hS dX5_reasonOf_238 hP hD (by
                                        simp only [if_neg hcn]
                                        exact ⟨rfl, hE32, rfl, rfl, rfl, rfl⟩)
                · refine lv_icmp_gt (tgt := 237) hx hb dX5_reasonOf_210 (by decide) (fun c9 => absurd c9 (nI_nlt y2 (by omega))) (fun _ => ?_)
                  have td := tl_n (n := d) (by omega)
                  refine lv_iload_n hx hb dX5_reasonOf_213 rfl (lv_at hl 1 rfl) ?_
                  refine lv_i2l hx hb dX5_reasonOf_214 rfl ?_
                  refine lv_rel (x' := (lN d)) (nI_L (by omega)) ?_
                  refine lv_aload_n hx hb dX5_reasonOf_215 rfl (lv_at hl 0 rfl) ?_
                  refine va_get (D := g.1) (ci := 6) (v := .ref qf) (C := RX5) (T := TX5) (N := 23) hx hb hts hiX5 hown hK.1 hP 0 rfl rfl 2 (by decide) (hts (.fieldLink RX5 7 "StampMakerModel" "from" "[I") (by decide +kernel)) (fun _ h9 => h9) rfl dX5_reasonOf_216 ?_
                  refine lv_iload hx hb dX5_reasonOf_219 (lv_at hl 3 rfl) ?_
                  refine va_iald hx hb hK.1 hP 8 0 rfl rfl (vp_in_nI (by omega) (by omega)) dX5_reasonOf_221 ?_
                  refine lv_rei (x' := kf (tbF ft 0 11 / 2 ^ 51 % 16)) (congrArg kf (nI_clamp (by omega))) ?_
                  refine lv_i2l hx hb dX5_reasonOf_222 rfl ?_
                  refine lv_aload_n hx hb dX5_reasonOf_223 rfl (lv_at hl 0 rfl) ?_
                  refine va_get (D := g.1) (ci := 6) (v := .ref qu) (C := RX5) (T := TX5) (N := 23) hx hb hts hiX5 hown hK.1 hP 0 rfl rfl 3 (by decide) (hts (.fieldLink RX5 13 "StampMakerModel" "until" "[I") (by decide +kernel)) (fun _ h9 => h9) rfl dX5_reasonOf_224 ?_
                  refine lv_iload hx hb dX5_reasonOf_227 (lv_at hl 3 rfl) ?_
                  refine va_iald hx hb hK.1 hP 9 0 rfl rfl (vp_in_nI (by omega) (by omega)) dX5_reasonOf_229 ?_
                  refine lv_rei (x' := ku (tbF ft 0 11 / 2 ^ 51 % 16)) (congrArg ku (nI_clamp (by omega))) ?_
                  refine lv_i2l hx hb dX5_reasonOf_230 rfl ?_
                  refine cSi (rest := []) ⟨hx, hb, hml, hown, hts⟩ [.long (lN d), .long ((kf (tbF ft 0 11 / 2 ^ 51 % 16)).toInt64), .long ((ku (tbF ft 0 11 / 2 ^ 51 % 16)).toInt64)] (c_X5_within l g (v := lN d) (lo := (kf (tbF ft 0 11 / 2 ^ 51 % 16)).toInt64) (hi := (ku (tbF ft 0 11 / 2 ^ 51 % 16)).toInt64)) (va_cwS 3 hts gX5_reasonOf_X5_within rfl rfl rfl (by decide +kernel) ⟨Nat.le_of_ble_eq_true rfl, Nat.le_of_ble_eq_true rfl⟩) hK hZ hS (subP hP [] rfl) rfl hl.1 rfl (Nat.le_of_ble_eq_true rfl) dX5_reasonOf_231 ⟨Nat.zero_le _, Nat.zero_le _⟩ (fun r_237 hr_237 => ?_)
                  obtain rfl : r_237 = (inI (lN d).toInt ((kf (tbF ft 0 11 / 2 ^ 51 % 16)).toInt64).toInt ((ku (tbF ft 0 11 / 2 ^ 51 % 16)).toInt64).toInt) := hr_237
                  refine lv_rei (x' := (inI (lN d).toInt (kf (tbF ft 0 11 / 2 ^ 51 % 16)).toInt (ku (tbF ft 0 11 / 2 ^ 51 % 16)).toInt)) (by rw [Int32.toInt_toInt64, Int32.toInt_toInt64]) ?_
                  refine lv_if_ne (tgt := 239) hx hb dX5_reasonOf_234 (by decide) (fun c_238 => ?_) (fun c_238 => ?_)
                  · have hcy : tbF ft 0 11 / 2 ^ 14 % 65536 ≤ d ∧ d ≤ tbF ft 0 11 / 2 ^ 14 % 65536 + 100 ∧ (kf (tbF ft 0 11 / 2 ^ 51 % 16)).toInt ≤ d ∧ (d : Int) ≤ (ku (tbF ft 0 11 / 2 ^ 51 % 16)).toInt := by rw [inI_eq0] at c_238; omega
                    simp only [if_pos hcy]
                    refine lv_aload_n hx hb dX5_reasonOf_239 rfl (lv_at hl 0 rfl) ?_
                    refine va_get (D := g.1) (ci := 6) (v := .ref qb) (C := RX5) (T := TX5) (N := 23) hx hb hts hiX5 hown hK.1 hP 0 rfl rfl 13 (by decide) (hts (.fieldLink RX5 33 "StampMakerModel" "became" "[B") (by decide +kernel)) (fun _ h9 => h9) rfl dX5_reasonOf_240 ?_
                    refine lv_iload hx hb dX5_reasonOf_243 (lv_at hl 5 rfl) ?_
                    refine va_bald hx hb hK.1 hP 11 1 rfl rfl (vp_in_nI (by omega) (by omega)) dX5_reasonOf_245 ?_
                    refine lv_rei (x' := ff (tbF ft 0 11 % 16384)) (congrArg ff (nI_clamp (by omega))) ?_
                    refine lv_iconst (v := (nI 2)) hx hb dX5_reasonOf_246 (by decide) ?_
                    refine lv_icmp_ne (tgt := 253) hx hb dX5_reasonOf_247 (by decide) (fun c_239 => ?_) (fun c_239 => ?_)
                    · refine lv_aload_n hx hb dX5_reasonOf_253 rfl (lv_at hl 0 rfl) ?_
                      refine lv_iload hx hb dX5_reasonOf_254 (lv_at hl 5 rfl) ?_
                      refine va_put (D := g.1) (ci := 6) (v := .int (nI (tbF ft 0 11 % 16384))) (ty := .int) (C := RX5) (T := TX5) (N := 23) hx hb hts hiX5 tyX5 tyX5_ok nmX5 hown hK.1 hP hD hS 0 rfl rfl 16 (by decide) (hts (.fieldLink RX5 42 "StampMakerModel" "told" "I") (by decide +kernel)) (fun _ h9 => h9) rfl (by decide +kernel) rfl rfl (Nat.le_of_ble_eq_true rfl) dX5_reasonOf_256 (fun H locs hP hD hS => ?_)
                      have hP : va_P g.1 vwCl [(m0, .inr (6, [.int th, .int (nI kn), .ref qf, .ref qu, .ref qz, .ref qd, .ref qx, .int (nI mn), .int has, .ref ql, .int (nI tn), .ref qg, .int cc, .ref qb, .ref qy, .ref qc, .int (nI (tbF ft 0 11 % 16384)), .int (nI 1), .ref qe, .ref qw, .ref qt, .ref qr, .ref qi])), (qz, .inl (g.2.1 0, 15, .inl fz)), (qx, .inl (g.2.1 1, 480, .inl fx)), (qw, .inl (g.2.1 0, 64, .inl G)), (qt, .inl (g.2.1 0, 8, .inl T)), (qe, .inl (g.2.1 1, 32, .inl E)), (qr, .inl (g.2.1 0, 64, .inl fr9)), (qi, .inl (g.2.1 0, 8, .inl fb9)), (qf, .inl (g.2.1 0, 15, .inl kf)), (qu, .inl (g.2.1 0, 15, .inl ku)), (qg, .inl (g.2.1 0, 40, .inl ft)), (qb, .inl (g.2.1 1, 16384, .inl ff)), (qy, .inl (g.2.1 0, 16384, .inl fd)), (qc, .inl (g.2.1 0, 16384, .inl fc))] H := hP
                      have hD : va_D A [(m0, .inr (6, [.int th, .int (nI kn), .ref qf, .ref qu, .ref qz, .ref qd, .ref qx, .int (nI mn), .int has, .ref ql, .int (nI tn), .ref qg, .int cc, .ref qb, .ref qy, .ref qc, .int (nI (tbF ft 0 11 % 16384)), .int (nI 1), .ref qe, .ref qw, .ref qt, .ref qr, .ref qi])), (qz, .inl (g.2.1 0, 15, .inl fz)), (qx, .inl (g.2.1 1, 480, .inl fx)), (qw, .inl (g.2.1 0, 64, .inl G)), (qt, .inl (g.2.1 0, 8, .inl T)), (qe, .inl (g.2.1 1, 32, .inl E)), (qr, .inl (g.2.1 0, 64, .inl fr9)), (qi, .inl (g.2.1 0, 8, .inl fb9)), (qf, .inl (g.2.1 0, 15, .inl kf)), (qu, .inl (g.2.1 0, 15, .inl ku)), (qg, .inl (g.2.1 0, 40, .inl ft)), (qb, .inl (g.2.1 1, 16384, .inl ff)), (qy, .inl (g.2.1 0, 16384, .inl fd)), (qc, .inl (g.2.1 0, 16384, .inl fc))] := hD
                      refine lv_aload_n hx hb dX5_reasonOf_259 rfl (lv_at hl 0 rfl) ?_
                      refine va_get (D := g.1) (ci := 6) (v := .ref qb) (C := RX5) (T := TX5) (N := 23) hx hb hts hiX5 hown hK.1 hP 0 rfl rfl 13 (by decide) (hts (.fieldLink RX5 33 "StampMakerModel" "became" "[B") (by decide +kernel)) (fun _ h9 => h9) rfl dX5_reasonOf_260 ?_
                      refine lv_iload hx hb dX5_reasonOf_263 (lv_at hl 5 rfl) ?_
                      refine va_bald hx hb hK.1 hP 11 1 rfl rfl (vp_in_nI (by omega) (by omega)) dX5_reasonOf_265 ?_
                      refine lv_rei (x' := ff (tbF ft 0 11 % 16384)) (congrArg ff (nI_clamp (by omega))) ?_
                      refine lv_iconst (v := (nI 1)) hx hb dX5_reasonOf_266 (by decide) ?_
                      refine lv_icmp_ne (tgt := 273) hx hb dX5_reasonOf_267 (by decide) (fun c_240 => ?_) (fun c_240 => ?_)
                      · refine lv_aload_n hx hb dX5_reasonOf_273 rfl (lv_at hl 0 rfl) ?_
                        refine va_get (D := g.1) (ci := 6) (v := .ref qb) (C := RX5) (T := TX5) (N := 23) hx hb hts hiX5 hown hK.1 hP 0 rfl rfl 13 (by decide) (hts (.fieldLink RX5 33 "StampMakerModel" "became" "[B") (by decide +kernel)) (fun _ h9 => h9) rfl dX5_reasonOf_274 ?_
                        refine lv_iload hx hb dX5_reasonOf_277 (lv_at hl 5 rfl) ?_
                        refine lv_iconst (v := (nI 1)) hx hb dX5_reasonOf_279 (by decide) ?_
                        refine va_bast hx hb hK.1 hP hD hS 11 1 rfl rfl (vp_in_nI (by omega) (by omega)) dX5_reasonOf_280 (fun H locs hP hD hS => ?_)
                        rw [nI_clamp (by omega)] at hP hD
                        rw [(by decide : vp_nar .byte (nI 1) = nI 1)] at hP hD
                        have hP : va_P g.1 vwCl [(m0, .inr (6, [.int th, .int (nI kn), .ref qf, .ref qu, .ref qz, .ref qd, .ref qx, .int (nI mn), .int has, .ref ql, .int (nI tn), .ref qg, .int cc, .ref qb, .ref qy, .ref qc, .int (nI (tbF ft 0 11 % 16384)), .int (nI 1), .ref qe, .ref qw, .ref qt, .ref qr, .ref qi])), (qz, .inl (g.2.1 0, 15, .inl fz)), (qx, .inl (g.2.1 1, 480, .inl fx)), (qw, .inl (g.2.1 0, 64, .inl G)), (qt, .inl (g.2.1 0, 8, .inl T)), (qe, .inl (g.2.1 1, 32, .inl E)), (qr, .inl (g.2.1 0, 64, .inl fr9)), (qi, .inl (g.2.1 0, 8, .inl fb9)), (qf, .inl (g.2.1 0, 15, .inl kf)), (qu, .inl (g.2.1 0, 15, .inl ku)), (qg, .inl (g.2.1 0, 40, .inl ft)), (qb, .inl (g.2.1 1, 16384, .inl (upd ff (tbF ft 0 11 % 16384) (nI 1)))), (qy, .inl (g.2.1 0, 16384, .inl fd)), (qc, .inl (g.2.1 0, 16384, .inl fc))] H := hP
                        have hD : va_D A [(m0, .inr (6, [.int th, .int (nI kn), .ref qf, .ref qu, .ref qz, .ref qd, .ref qx, .int (nI mn), .int has, .ref ql, .int (nI tn), .ref qg, .int cc, .ref qb, .ref qy, .ref qc, .int (nI (tbF ft 0 11 % 16384)), .int (nI 1), .ref qe, .ref qw, .ref qt, .ref qr, .ref qi])), (qz, .inl (g.2.1 0, 15, .inl fz)), (qx, .inl (g.2.1 1, 480, .inl fx)), (qw, .inl (g.2.1 0, 64, .inl G)), (qt, .inl (g.2.1 0, 8, .inl T)), (qe, .inl (g.2.1 1, 32, .inl E)), (qr, .inl (g.2.1 0, 64, .inl fr9)), (qi, .inl (g.2.1 0, 8, .inl fb9)), (qf, .inl (g.2.1 0, 15, .inl kf)), (qu, .inl (g.2.1 0, 15, .inl ku)), (qg, .inl (g.2.1 0, 40, .inl ft)), (qb, .inl (g.2.1 1, 16384, .inl (upd ff (tbF ft 0 11 % 16384) (nI 1)))), (qy, .inl (g.2.1 0, 16384, .inl fd)), (qc, .inl (g.2.1 0, 16384, .inl fc))] := hD
                        refine lv_aload_n hx hb dX5_reasonOf_281 rfl (lv_at hl 0 rfl) ?_
                        refine va_get (D := g.1) (ci := 6) (v := .ref qy) (C := RX5) (T := TX5) (N := 23) hx hb hts hiX5 hown hK.1 hP 0 rfl rfl 14 (by decide) (hts (.fieldLink RX5 36 "StampMakerModel" "spentDay" "[I") (by decide +kernel)) (fun _ h9 => h9) rfl dX5_reasonOf_282 ?_
                        refine lv_iload hx hb dX5_reasonOf_285 (lv_at hl 5 rfl) ?_
                        refine lv_iload_n hx hb dX5_reasonOf_287 rfl (lv_at hl 1 rfl) ?_
                        refine va_iast hx hb hK.1 hP hD hS 12 0 rfl rfl (vp_in_nI (by omega) (by omega)) dX5_reasonOf_288 (fun H locs hP hD hS => ?_)
                        rw [nI_clamp (by omega)] at hP hD
                        have hP : va_P g.1 vwCl [(m0, .inr (6, [.int th, .int (nI kn), .ref qf, .ref qu, .ref qz, .ref qd, .ref qx, .int (nI mn), .int has, .ref ql, .int (nI tn), .ref qg, .int cc, .ref qb, .ref qy, .ref qc, .int (nI (tbF ft 0 11 % 16384)), .int (nI 1), .ref qe, .ref qw, .ref qt, .ref qr, .ref qi])), (qz, .inl (g.2.1 0, 15, .inl fz)), (qx, .inl (g.2.1 1, 480, .inl fx)), (qw, .inl (g.2.1 0, 64, .inl G)), (qt, .inl (g.2.1 0, 8, .inl T)), (qe, .inl (g.2.1 1, 32, .inl E)), (qr, .inl (g.2.1 0, 64, .inl fr9)), (qi, .inl (g.2.1 0, 8, .inl fb9)), (qf, .inl (g.2.1 0, 15, .inl kf)), (qu, .inl (g.2.1 0, 15, .inl ku)), (qg, .inl (g.2.1 0, 40, .inl ft)), (qb, .inl (g.2.1 1, 16384, .inl (upd ff (tbF ft 0 11 % 16384) (nI 1)))), (qy, .inl (g.2.1 0, 16384, .inl (upd fd (tbF ft 0 11 % 16384) (nI d)))), (qc, .inl (g.2.1 0, 16384, .inl fc))] H := hP
                        have hD : va_D A [(m0, .inr (6, [.int th, .int (nI kn), .ref qf, .ref qu, .ref qz, .ref qd, .ref qx, .int (nI mn), .int has, .ref ql, .int (nI tn), .ref qg, .int cc, .ref qb, .ref qy, .ref qc, .int (nI (tbF ft 0 11 % 16384)), .int (nI 1), .ref qe, .ref qw, .ref qt, .ref qr, .ref qi])), (qz, .inl (g.2.1 0, 15, .inl fz)), (qx, .inl (g.2.1 1, 480, .inl fx)), (qw, .inl (g.2.1 0, 64, .inl G)), (qt, .inl (g.2.1 0, 8, .inl T)), (qe, .inl (g.2.1 1, 32, .inl E)), (qr, .inl (g.2.1 0, 64, .inl fr9)), (qi, .inl (g.2.1 0, 8, .inl fb9)), (qf, .inl (g.2.1 0, 15, .inl kf)), (qu, .inl (g.2.1 0, 15, .inl ku)), (qg, .inl (g.2.1 0, 40, .inl ft)), (qb, .inl (g.2.1 1, 16384, .inl (upd ff (tbF ft 0 11 % 16384) (nI 1)))), (qy, .inl (g.2.1 0, 16384, .inl (upd fd (tbF ft 0 11 % 16384) (nI d)))), (qc, .inl (g.2.1 0, 16384, .inl fc))] := hD
                        refine lv_aload_n hx hb dX5_reasonOf_289 rfl (lv_at hl 0 rfl) ?_
                        refine va_get (D := g.1) (ci := 6) (v := .ref qc) (C := RX5) (T := TX5) (N := 23) hx hb hts hiX5 hown hK.1 hP 0 rfl rfl 15 (by decide) (hts (.fieldLink RX5 39 "StampMakerModel" "spentBy" "[I") (by decide +kernel)) (fun _ h9 => h9) rfl dX5_reasonOf_290 ?_
                        refine lv_iload hx hb dX5_reasonOf_293 (lv_at hl 5 rfl) ?_
                        refine lv_aload_n hx hb dX5_reasonOf_295 rfl (lv_at hl 0 rfl) ?_
                        refine va_get (D := g.1) (ci := 6) (v := .int cc) (C := RX5) (T := TX5) (N := 23) hx hb hts hiX5 hown hK.1 hP 0 rfl rfl 12 (by decide) (hts (.fieldLink RX5 205 "StampMakerModel" "checks" "I") (by decide +kernel)) (fun _ h9 => h9) rfl dX5_reasonOf_296 ?_
                        refine va_iast hx hb hK.1 hP hD hS 13 0 rfl rfl (vp_in_nI (by omega) (by omega)) dX5_reasonOf_299 (fun H locs hP hD hS => ?_)
                        rw [nI_clamp (by omega)] at hP hD
                        have hP : va_P g.1 vwCl [(m0, .inr (6, [.int th, .int (nI kn), .ref qf, .ref qu, .ref qz, .ref qd, .ref qx, .int (nI mn), .int has, .ref ql, .int (nI tn), .ref qg, .int cc, .ref qb, .ref qy, .ref qc, .int (nI (tbF ft 0 11 % 16384)), .int (nI 1), .ref qe, .ref qw, .ref qt, .ref qr, .ref qi])), (qz, .inl (g.2.1 0, 15, .inl fz)), (qx, .inl (g.2.1 1, 480, .inl fx)), (qw, .inl (g.2.1 0, 64, .inl G)), (qt, .inl (g.2.1 0, 8, .inl T)), (qe, .inl (g.2.1 1, 32, .inl E)), (qr, .inl (g.2.1 0, 64, .inl fr9)), (qi, .inl (g.2.1 0, 8, .inl fb9)), (qf, .inl (g.2.1 0, 15, .inl kf)), (qu, .inl (g.2.1 0, 15, .inl ku)), (qg, .inl (g.2.1 0, 40, .inl ft)), (qb, .inl (g.2.1 1, 16384, .inl (upd ff (tbF ft 0 11 % 16384) (nI 1)))), (qy, .inl (g.2.1 0, 16384, .inl (upd fd (tbF ft 0 11 % 16384) (nI d)))), (qc, .inl (g.2.1 0, 16384, .inl (upd fc (tbF ft 0 11 % 16384) cc)))] H := hP
                        have hD : va_D A [(m0, .inr (6, [.int th, .int (nI kn), .ref qf, .ref qu, .ref qz, .ref qd, .ref qx, .int (nI mn), .int has, .ref ql, .int (nI tn), .ref qg, .int cc, .ref qb, .ref qy, .ref qc, .int (nI (tbF ft 0 11 % 16384)), .int (nI 1), .ref qe, .ref qw, .ref qt, .ref qr, .ref qi])), (qz, .inl (g.2.1 0, 15, .inl fz)), (qx, .inl (g.2.1 1, 480, .inl fx)), (qw, .inl (g.2.1 0, 64, .inl G)), (qt, .inl (g.2.1 0, 8, .inl T)), (qe, .inl (g.2.1 1, 32, .inl E)), (qr, .inl (g.2.1 0, 64, .inl fr9)), (qi, .inl (g.2.1 0, 8, .inl fb9)), (qf, .inl (g.2.1 0, 15, .inl kf)), (qu, .inl (g.2.1 0, 15, .inl ku)), (qg, .inl (g.2.1 0, 40, .inl ft)), (qb, .inl (g.2.1 1, 16384, .inl (upd ff (tbF ft 0 11 % 16384) (nI 1)))), (qy, .inl (g.2.1 0, 16384, .inl (upd fd (tbF ft 0 11 % 16384) (nI d)))), (qc, .inl (g.2.1 0, 16384, .inl (upd fc (tbF ft 0 11 % 16384) cc)))] := hD
                        refine lv_iconst (v := (nI 0)) hx hb dX5_reasonOf_300 (by decide) ?_
                        exact endWi (G, T, E, nI (tbF ft 0 11 % 16384), upd ff (tbF ft 0 11 % 16384) (nI 1), upd fd (tbF ft 0 11 % 16384) (nI d), upd fc (tbF ft 0 11 % 16384) cc) hx hb hr hlocks hS dX5_reasonOf_301 hP hD (by
                                                unfold rsR gtS gtF acS acF
                                                simp only [if_pos (rfl : nI 0 = nI 0), if_neg c_239, if_neg c_240, if_neg (not_or.mpr ⟨c_239, c_240⟩)]
                                                exact ⟨rfl, hE32, rfl, rfl, rfl, rfl⟩)
                      · refine lv_bipush (v := (nI 6)) hx hb dX5_reasonOf_270 (by decide) ?_
                        exact endWi (G, T, E, nI (tbF ft 0 11 % 16384), ff, fd, fc) hx hb hr hlocks hS dX5_reasonOf_272 hP hD (by
                                                unfold rsR gtS gtF acS acF
                                                rw [c_240]
                                                exact ⟨rfl, hE32, rfl, rfl, rfl, rfl⟩)
                    · refine lv_bipush (v := (nI 7)) hx hb dX5_reasonOf_250 (by decide) ?_
                      exact endWi (G, T, E, sp, ff, fd, fc) hx hb hr hlocks hS dX5_reasonOf_252 hP hD (by
                                              unfold rsR gtS gtF acS acF
                                              rw [c_239]
                                              exact ⟨rfl, hE32, rfl, rfl, rfl, rfl⟩)
                  · have hcn : ¬ (tbF ft 0 11 / 2 ^ 14 % 65536 ≤ d ∧ d ≤ tbF ft 0 11 / 2 ^ 14 % 65536 + 100 ∧ (kf (tbF ft 0 11 / 2 ^ 51 % 16)).toInt ≤ d ∧ (d : Int) ≤ (ku (tbF ft 0 11 / 2 ^ 51 % 16)).toInt) := by rw [inI_eq0] at c_238; omega
                    refine lv_iconst (v := (nI 5)) hx hb dX5_reasonOf_237 (by decide) ?_
                    exact endWi (G, T, E, sp, ff, fd, fc) hx hb hr hlocks hS dX5_reasonOf_238 hP hD (by
                                          simp only [if_neg hcn]
                                          exact ⟨rfl, hE32, rfl, rfl, rfl, rfl⟩)
        exact L2 6 0 (by omega) (by omega) (fun e he => absurd he (Nat.not_lt_zero e)) _ _ hP hD hS ls (lv_sub hl [6, 7, 8, 5, 2, 1, 0] rfl)
  exact L1 17 0 (by omega) (by omega) _ _ hP hD hS ls (lv_sub hl [2, 3, 1, 0] rfl)

set_option maxHeartbeats 4000000 in
set_option maxRecDepth 100000 in
/-- no day -/
theorem c_X5_check_dom (l : Launch) (g : gE) (hsz : Nat) (m0 kn mn tn qf qu qz qd qx ql qg qb qy qc qe qw qt qr qi : Nat) (th has cc sp rk : Int32) (x : Int64) (hx0 : ¬ (0 ≤ x.toInt ∧ x.toInt ≤ 65535)) : Met l yX5_check wsX5_check ({ frames := 1, cells := 0, slots := 0, locals := 25 }) (va_Pc [.ref m0, .long x] (wr g [(m0, .inr (6, [.int th, .int (nI kn), .ref qf, .ref qu, .ref qz, .ref qd, .ref qx, .int (nI mn), .int has, .ref ql, .int (nI tn), .ref qg, .int cc, .ref qb, .ref qy, .ref qc, .int sp, .int rk, .ref qe, .ref qw, .ref qt, .ref qr, .ref qi]))] hsz)) (va_Qi (fun (r : Int32) (u : Unit) => r = -22) (wB g (va_A [(m0, .inr (6, [.int th, .int (nI kn), .ref qf, .ref qu, .ref qz, .ref qd, .ref qx, .int (nI mn), .int has, .ref ql, .int (nI tn), .ref qg, .int cc, .ref qb, .ref qy, .ref qc, .int sp, .int rk, .ref qe, .ref qw, .ref qt, .ref qr, .ref qi]))] hsz) (fun u : Unit => [(m0, .inr (6, [.int (nI 0), .int (nI kn), .ref qf, .ref qu, .ref qz, .ref qd, .ref qx, .int (nI mn), .int has, .ref ql, .int (nI tn), .ref qg, .int cc, .ref qb, .ref qy, .ref qc, .int sp, .int rk, .ref qe, .ref qw, .ref qt, .ref qr, .ref qi]))])) (va_A [(m0, .inr (6, [.int th, .int (nI kn), .ref qf, .ref qu, .ref qz, .ref qd, .ref qx, .int (nI mn), .int has, .ref ql, .int (nI tn), .ref qg, .int cc, .ref qb, .ref qy, .ref qc, .int sp, .int rk, .ref qe, .ref qw, .ref qt, .ref qr, .ref qi]))] hsz)) 0 0 (va_A [(m0, .inr (6, [.int th, .int (nI kn), .ref qf, .ref qu, .ref qz, .ref qd, .ref qx, .int (nI mn), .int has, .ref ql, .int (nI tn), .ref qg, .int cc, .ref qb, .ref qy, .ref qc, .int sp, .int rk, .ref qe, .ref qw, .ref qt, .ref qr, .ref qi]))] hsz) := by
  refine ofWi (cc := cX5_check) (maxL := 4) (ret := (some .int)) (by decide) rfl (Nat.le_of_ble_eq_true rfl) (fun p e s m below meth c hx hb hr hml hts hown hlocks hnm A H hH hA hP hD hK hZ hS ls hl => ?_)
  have hown : s.vm.findClass RX5 = some m.cls := hown
  have hl : lv_has ls 4 [(0, .ref m0), (1, .long x)] := hl
  have tn0 : (nI 0).toInt = 0 := by decide
  have tn1 : (nI 1).toInt = 1 := by decide
  have tl0 : (lN 0).toInt = 0 := by decide
  have tl65535 : (lN 65535).toInt = 65535 := by decide
  have hiX5 : ∀ w ∈ wsX50, w ∈ wsX5_check := by decide +kernel
  refine lv_aload_n hx hb dX5_check_0 rfl (lv_at hl 0 rfl) ?_
  refine lv_iconst (v := (nI 0)) hx hb dX5_check_1 (by decide) ?_
  refine va_put (D := g.1) (ci := 6) (v := .int (nI 0)) (ty := .int) (C := RX5) (T := TX5) (N := 23) hx hb hts hiX5 tyX5 tyX5_ok nmX5 hown hK.1 hP hD hS 0 rfl rfl 0 (by decide) (hts (.fieldLink RX5 136 "StampMakerModel" "thrown" "I") (by decide +kernel)) (fun _ h9 => h9) rfl (by decide +kernel) rfl rfl (Nat.le_of_ble_eq_true rfl) dX5_check_2 (fun H locs hP hD hS => ?_)
  have hP : va_P g.1 vwCl [(m0, .inr (6, [.int (nI 0), .int (nI kn), .ref qf, .ref qu, .ref qz, .ref qd, .ref qx, .int (nI mn), .int has, .ref ql, .int (nI tn), .ref qg, .int cc, .ref qb, .ref qy, .ref qc, .int sp, .int rk, .ref qe, .ref qw, .ref qt, .ref qr, .ref qi]))] H := hP
  have hD : va_D A [(m0, .inr (6, [.int (nI 0), .int (nI kn), .ref qf, .ref qu, .ref qz, .ref qd, .ref qx, .int (nI mn), .int has, .ref ql, .int (nI tn), .ref qg, .int cc, .ref qb, .ref qy, .ref qc, .int sp, .int rk, .ref qe, .ref qw, .ref qt, .ref qr, .ref qi]))] := hD
  refine lv_lload_n hx hb dX5_check_5 rfl (lv_at hl 1 rfl) ?_
  refine lv_lconst (v := lN 0) hx hb dX5_check_6 (by decide) ?_
  refine lv_ldc2 (v := (lN 65535)) hx hb hown (hts (.constantLong RX5 143 (lN 65535)) (by decide +kernel)) dX5_check_7 ?_
  refine cSi (rest := []) ⟨hx, hb, hml, hown, hts⟩ [.long x, .long (lN 0), .long (lN 65535)] (c_X5_within l g (v := x) (lo := lN 0) (hi := lN 65535)) (va_cwS 3 hts gX5_check_X5_within rfl rfl rfl (by decide +kernel) ⟨Nat.le_of_ble_eq_true rfl, Nat.le_of_ble_eq_true rfl⟩) hK hZ hS (subP hP [] rfl) rfl hl.1 rfl (Nat.le_of_ble_eq_true rfl) dX5_check_10 ⟨Nat.zero_le _, Nat.zero_le _⟩ (fun r_241 hr_241 => ?_)
  obtain rfl : r_241 = (inI (x).toInt (lN 0).toInt (lN 65535).toInt) := hr_241
  refine lv_if_ne (tgt := 19) hx hb dX5_check_13 (by decide) (fun c9 => absurd (inI_0 (by omega)) c9) (fun _ => ?_)
  refine lv_bipush (v := (-22)) hx hb dX5_check_16 (by decide) ?_
  exact endWi () hx hb hr hlocks hS dX5_check_18 hP hD (rfl)

set_option maxHeartbeats 4000000 in
set_option maxRecDepth 100000 in
/-- refused: reason 1 -/
theorem c_X5_check_len (l : Launch) (g : gE) (hsz : Nat) (m0 kn mn tn qf qu qz qd qx ql qg qb qy qc qe qw qt qr qi : Nat) (th has cc sp rk : Int32) (d : Nat) (hdd : d ≤ 65535) (ht : tn ≠ 16) (ht2 : tn ≤ 40) : Met l yX5_check wsX5_check ({ frames := 1, cells := 0, slots := 0, locals := 29 }) (va_Pc [.ref m0, .long (lN d)] (wr g [(m0, .inr (6, [.int th, .int (nI kn), .ref qf, .ref qu, .ref qz, .ref qd, .ref qx, .int (nI mn), .int has, .ref ql, .int (nI tn), .ref qg, .int cc, .ref qb, .ref qy, .ref qc, .int sp, .int rk, .ref qe, .ref qw, .ref qt, .ref qr, .ref qi]))] hsz)) (va_Qi (fun (r : Int32) (u : Unit) => r = -2) (wB g (va_A [(m0, .inr (6, [.int th, .int (nI kn), .ref qf, .ref qu, .ref qz, .ref qd, .ref qx, .int (nI mn), .int has, .ref ql, .int (nI tn), .ref qg, .int cc, .ref qb, .ref qy, .ref qc, .int sp, .int rk, .ref qe, .ref qw, .ref qt, .ref qr, .ref qi]))] hsz) (fun u : Unit => [(m0, .inr (6, [.int (nI 0), .int (nI kn), .ref qf, .ref qu, .ref qz, .ref qd, .ref qx, .int (nI mn), .int has, .ref ql, .int (nI 0), .ref qg, .int (cc + nI 1), .ref qb, .ref qy, .ref qc, .int sp, .int rk, .ref qe, .ref qw, .ref qt, .ref qr, .ref qi]))])) (va_A [(m0, .inr (6, [.int th, .int (nI kn), .ref qf, .ref qu, .ref qz, .ref qd, .ref qx, .int (nI mn), .int has, .ref ql, .int (nI tn), .ref qg, .int cc, .ref qb, .ref qy, .ref qc, .int sp, .int rk, .ref qe, .ref qw, .ref qt, .ref qr, .ref qi]))] hsz)) 0 0 (va_A [(m0, .inr (6, [.int th, .int (nI kn), .ref qf, .ref qu, .ref qz, .ref qd, .ref qx, .int (nI mn), .int has, .ref ql, .int (nI tn), .ref qg, .int cc, .ref qb, .ref qy, .ref qc, .int sp, .int rk, .ref qe, .ref qw, .ref qt, .ref qr, .ref qi]))] hsz) := by
  refine ofWi (cc := cX5_check) (maxL := 4) (ret := (some .int)) (by decide) rfl (Nat.le_of_ble_eq_true rfl) (fun p e s m below meth c hx hb hr hml hts hown hlocks hnm A H hH hA hP hD hK hZ hS ls hl => ?_)
  have hown : s.vm.findClass RX5 = some m.cls := hown
  have hl : lv_has ls 4 [(0, .ref m0), (1, .long (lN d))] := hl
  have tn0 : (nI 0).toInt = 0 := by decide
  have tn1 : (nI 1).toInt = 1 := by decide
  have tl0 : (lN 0).toInt = 0 := by decide
  have tl65535 : (lN 65535).toInt = 65535 := by decide
  have hiX5 : ∀ w ∈ wsX50, w ∈ wsX5_check := by decide +kernel
  have td := tl_n (n := d) (by omega)
  refine lv_aload_n hx hb dX5_check_0 rfl (lv_at hl 0 rfl) ?_
  refine lv_iconst (v := (nI 0)) hx hb dX5_check_1 (by decide) ?_
  refine va_put (D := g.1) (ci := 6) (v := .int (nI 0)) (ty := .int) (C := RX5) (T := TX5) (N := 23) hx hb hts hiX5 tyX5 tyX5_ok nmX5 hown hK.1 hP hD hS 0 rfl rfl 0 (by decide) (hts (.fieldLink RX5 136 "StampMakerModel" "thrown" "I") (by decide +kernel)) (fun _ h9 => h9) rfl (by decide +kernel) rfl rfl (Nat.le_of_ble_eq_true rfl) dX5_check_2 (fun H locs hP hD hS => ?_)
  have hP : va_P g.1 vwCl [(m0, .inr (6, [.int (nI 0), .int (nI kn), .ref qf, .ref qu, .ref qz, .ref qd, .ref qx, .int (nI mn), .int has, .ref ql, .int (nI tn), .ref qg, .int cc, .ref qb, .ref qy, .ref qc, .int sp, .int rk, .ref qe, .ref qw, .ref qt, .ref qr, .ref qi]))] H := hP
  have hD : va_D A [(m0, .inr (6, [.int (nI 0), .int (nI kn), .ref qf, .ref qu, .ref qz, .ref qd, .ref qx, .int (nI mn), .int has, .ref ql, .int (nI tn), .ref qg, .int cc, .ref qb, .ref qy, .ref qc, .int sp, .int rk, .ref qe, .ref qw, .ref qt, .ref qr, .ref qi]))] := hD
  refine lv_lload_n hx hb dX5_check_5 rfl (lv_at hl 1 rfl) ?_
  refine lv_lconst (v := lN 0) hx hb dX5_check_6 (by decide) ?_
  refine lv_ldc2 (v := (lN 65535)) hx hb hown (hts (.constantLong RX5 143 (lN 65535)) (by decide +kernel)) dX5_check_7 ?_
  refine cSi (rest := []) ⟨hx, hb, hml, hown, hts⟩ [.long (lN d), .long (lN 0), .long (lN 65535)] (c_X5_within l g (v := lN d) (lo := lN 0) (hi := lN 65535)) (va_cwS 3 hts gX5_check_X5_within rfl rfl rfl (by decide +kernel) ⟨Nat.le_of_ble_eq_true rfl, Nat.le_of_ble_eq_true rfl⟩) hK hZ hS (subP hP [] rfl) rfl hl.1 rfl (Nat.le_of_ble_eq_true rfl) dX5_check_10 ⟨Nat.zero_le _, Nat.zero_le _⟩ (fun r_242 hr_242 => ?_)
  obtain rfl : r_242 = (inI (lN d).toInt (lN 0).toInt (lN 65535).toInt) := hr_242
  refine lv_if_ne (tgt := 19) hx hb dX5_check_13 (by decide) (fun _ => ?_) (fun c9 => absurd c9 (by rw [inI_1 (by omega) (by omega)]; decide))
  refine lv_aload_n hx hb dX5_check_19 rfl (lv_at hl 0 rfl) ?_
  refine lv_dup hx hb dX5_check_20 rfl ?_
  refine va_get (D := g.1) (ci := 6) (v := .int cc) (C := RX5) (T := TX5) (N := 23) hx hb hts hiX5 hown hK.1 hP 0 rfl rfl 12 (by decide) (hts (.fieldLink RX5 205 "StampMakerModel" "checks" "I") (by decide +kernel)) (fun _ h9 => h9) rfl dX5_check_21 ?_
  refine lv_iconst (v := (nI 1)) hx hb dX5_check_24 (by decide) ?_
  refine lv_iadd hx hb dX5_check_25 ?_
  refine va_put (D := g.1) (ci := 6) (v := .int (cc + (nI 1))) (ty := .int) (C := RX5) (T := TX5) (N := 23) hx hb hts hiX5 tyX5 tyX5_ok nmX5 hown hK.1 hP hD hS 0 rfl rfl 12 (by decide) (hts (.fieldLink RX5 205 "StampMakerModel" "checks" "I") (by decide +kernel)) (fun _ h9 => h9) rfl (by decide +kernel) rfl rfl (Nat.le_of_ble_eq_true rfl) dX5_check_26 (fun H locs hP hD hS => ?_)
  have hP : va_P g.1 vwCl [(m0, .inr (6, [.int (nI 0), .int (nI kn), .ref qf, .ref qu, .ref qz, .ref qd, .ref qx, .int (nI mn), .int has, .ref ql, .int (nI tn), .ref qg, .int (cc + (nI 1)), .ref qb, .ref qy, .ref qc, .int sp, .int rk, .ref qe, .ref qw, .ref qt, .ref qr, .ref qi]))] H := hP
  have hD : va_D A [(m0, .inr (6, [.int (nI 0), .int (nI kn), .ref qf, .ref qu, .ref qz, .ref qd, .ref qx, .int (nI mn), .int has, .ref ql, .int (nI tn), .ref qg, .int (cc + (nI 1)), .ref qb, .ref qy, .ref qc, .int sp, .int rk, .ref qe, .ref qw, .ref qt, .ref qr, .ref qi]))] := hD
  refine lv_aload_n hx hb dX5_check_29 rfl (lv_at hl 0 rfl) ?_
  refine lv_lload_n hx hb dX5_check_30 rfl (lv_at hl 1 rfl) ?_
  refine lv_l2i hx hb dX5_check_31 rfl ?_
  refine lv_rei (x' := (nI d)) (l_i) ?_
  refine cVi (rest := []) ⟨hx, hb, hml, hown, hts⟩ [.int (nI d)] (c_X5_ro_len l g (m0 := m0) (kn := kn) (mn := mn) (tn := tn) (qf := qf) (qu := qu) (qz := qz) (qd := qd) (qx := qx) (ql := ql) (qg := qg) (qb := qb) (qy := qy) (qc := qc) (qe := qe) (qw := qw) (qt := qt) (qr := qr) (qi := qi) (th := (nI 0)) (has := has) (cc := (cc + nI 1)) (sp := sp) (rk := rk) (d := d) ht ht2) (cwV 1 hts gX5_check_X5_reasonOf rfl rfl rfl (by decide +kernel) ⟨Nat.le_of_ble_eq_true rfl, Nat.le_of_ble_eq_true rfl⟩) hK hZ hS (subP hP [0] rfl) (va_recv hK.1 hP (ci := 6) (q0 := 0) rfl rfl) rfl hl.1 rfl (Nat.le_of_ble_eq_true rfl) dX5_check_32 ⟨Nat.zero_le _, Nat.zero_le _⟩ (fun r_243 hr_243 => ?_)
  obtain rfl : r_243 = (nI 1) := hr_243
  refine lv_istore_n (lv' := [(3, .int (nI 1)), (0, .ref m0), (1, .long (lN d))]) hx hb dX5_check_35 rfl hl (by decide) rfl (fun ls hl => ?_)
  refine lv_aload_n hx hb dX5_check_36 rfl (lv_at hl 1 rfl) ?_
  refine lv_iconst (v := (nI 0)) hx hb dX5_check_37 (by decide) ?_
  refine va_put (D := g.1) (ci := 6) (v := .int (nI 0)) (ty := .int) (C := RX5) (T := TX5) (N := 23) hx hb hts hiX5 tyX5 tyX5_ok nmX5 hown hK.1 hP hD hS 0 rfl rfl 10 (by decide) (hts (.fieldLink RX5 202 "StampMakerModel" "typed" "I") (by decide +kernel)) (fun _ h9 => h9) rfl (by decide +kernel) rfl rfl (Nat.le_of_ble_eq_true rfl) dX5_check_38 (fun H locs hP hD hS => ?_)
  have hP : va_P g.1 vwCl [(m0, .inr (6, [.int (nI 0), .int (nI kn), .ref qf, .ref qu, .ref qz, .ref qd, .ref qx, .int (nI mn), .int has, .ref ql, .int (nI 0), .ref qg, .int (cc + (nI 1)), .ref qb, .ref qy, .ref qc, .int sp, .int rk, .ref qe, .ref qw, .ref qt, .ref qr, .ref qi]))] H := hP
  have hD : va_D A [(m0, .inr (6, [.int (nI 0), .int (nI kn), .ref qf, .ref qu, .ref qz, .ref qd, .ref qx, .int (nI mn), .int has, .ref ql, .int (nI 0), .ref qg, .int (cc + (nI 1)), .ref qb, .ref qy, .ref qc, .int sp, .int rk, .ref qe, .ref qw, .ref qt, .ref qr, .ref qi]))] := hD
  refine lv_iload_n hx hb dX5_check_41 rfl (lv_at hl 0 rfl) ?_
  refine lv_if_ne (tgt := 49) hx hb dX5_check_42 (by decide) (fun _ => ?_) (fun c9 => absurd c9 (by decide))
  refine lv_iconst (v := (-1)) hx hb dX5_check_49 (by decide) ?_
  refine lv_iload_n hx hb dX5_check_50 rfl (lv_at hl 0 rfl) ?_
  refine lv_isub hx hb dX5_check_51 ?_
  exact endWi () hx hb hr hlocks hS dX5_check_52 hP hD (by decide)

set_option maxHeartbeats 4000000 in
set_option maxRecDepth 100000 in
/-- refused: reason 2 -/
theorem c_X5_check_let (l : Launch) (g : gE) (hsz : Nat) (m0 kn mn tn qf qu qz qd qx ql qg qb qy qc qe qw qt qr qi : Nat) (th has cc sp rk : Int32) (ft : Nat → Int32) (d : Nat) (hdd : d ≤ 65535) (ht : tn = 16) (bad : Nat) (hb4 : bad < 16) (hb5 : ¬ wo (ft bad) < 32) : Met l yX5_check wsX5_check ({ frames := 7, cells := 0, slots := 0, locals := 155 }) (va_Pc [.ref m0, .long (lN d)] (wr g [(m0, .inr (6, [.int th, .int (nI kn), .ref qf, .ref qu, .ref qz, .ref qd, .ref qx, .int (nI mn), .int has, .ref ql, .int (nI tn), .ref qg, .int cc, .ref qb, .ref qy, .ref qc, .int sp, .int rk, .ref qe, .ref qw, .ref qt, .ref qr, .ref qi])), (qg, .inl (g.2.1 0, 40, .inl ft))] hsz)) (va_Qi (fun (r : Int32) (u : Unit) => r = -3) (wB g (va_A [(m0, .inr (6, [.int th, .int (nI kn), .ref qf, .ref qu, .ref qz, .ref qd, .ref qx, .int (nI mn), .int has, .ref ql, .int (nI tn), .ref qg, .int cc, .ref qb, .ref qy, .ref qc, .int sp, .int rk, .ref qe, .ref qw, .ref qt, .ref qr, .ref qi])), (qg, .inl (g.2.1 0, 40, .inl ft))] hsz) (fun u : Unit => [(m0, .inr (6, [.int (nI 0), .int (nI kn), .ref qf, .ref qu, .ref qz, .ref qd, .ref qx, .int (nI mn), .int has, .ref ql, .int (nI 0), .ref qg, .int (cc + nI 1), .ref qb, .ref qy, .ref qc, .int sp, .int rk, .ref qe, .ref qw, .ref qt, .ref qr, .ref qi])), (qg, .inl (g.2.1 0, 40, .inl ft))])) (va_A [(m0, .inr (6, [.int th, .int (nI kn), .ref qf, .ref qu, .ref qz, .ref qd, .ref qx, .int (nI mn), .int has, .ref ql, .int (nI tn), .ref qg, .int cc, .ref qb, .ref qy, .ref qc, .int sp, .int rk, .ref qe, .ref qw, .ref qt, .ref qr, .ref qi])), (qg, .inl (g.2.1 0, 40, .inl ft))] hsz)) 0 0 (va_A [(m0, .inr (6, [.int th, .int (nI kn), .ref qf, .ref qu, .ref qz, .ref qd, .ref qx, .int (nI mn), .int has, .ref ql, .int (nI tn), .ref qg, .int cc, .ref qb, .ref qy, .ref qc, .int sp, .int rk, .ref qe, .ref qw, .ref qt, .ref qr, .ref qi])), (qg, .inl (g.2.1 0, 40, .inl ft))] hsz) := by
  refine ofWi (cc := cX5_check) (maxL := 4) (ret := (some .int)) (by decide) rfl (Nat.le_of_ble_eq_true rfl) (fun p e s m below meth c hx hb hr hml hts hown hlocks hnm A H hH hA hP hD hK hZ hS ls hl => ?_)
  have hown : s.vm.findClass RX5 = some m.cls := hown
  have hl : lv_has ls 4 [(0, .ref m0), (1, .long (lN d))] := hl
  have tn0 : (nI 0).toInt = 0 := by decide
  have tn1 : (nI 1).toInt = 1 := by decide
  have tl0 : (lN 0).toInt = 0 := by decide
  have tl65535 : (lN 65535).toInt = 65535 := by decide
  have hiX5 : ∀ w ∈ wsX50, w ∈ wsX5_check := by decide +kernel
  have td := tl_n (n := d) (by omega)
  refine lv_aload_n hx hb dX5_check_0 rfl (lv_at hl 0 rfl) ?_
  refine lv_iconst (v := (nI 0)) hx hb dX5_check_1 (by decide) ?_
  refine va_put (D := g.1) (ci := 6) (v := .int (nI 0)) (ty := .int) (C := RX5) (T := TX5) (N := 23) hx hb hts hiX5 tyX5 tyX5_ok nmX5 hown hK.1 hP hD hS 0 rfl rfl 0 (by decide) (hts (.fieldLink RX5 136 "StampMakerModel" "thrown" "I") (by decide +kernel)) (fun _ h9 => h9) rfl (by decide +kernel) rfl rfl (Nat.le_of_ble_eq_true rfl) dX5_check_2 (fun H locs hP hD hS => ?_)
  have hP : va_P g.1 vwCl [(m0, .inr (6, [.int (nI 0), .int (nI kn), .ref qf, .ref qu, .ref qz, .ref qd, .ref qx, .int (nI mn), .int has, .ref ql, .int (nI tn), .ref qg, .int cc, .ref qb, .ref qy, .ref qc, .int sp, .int rk, .ref qe, .ref qw, .ref qt, .ref qr, .ref qi])), (qg, .inl (g.2.1 0, 40, .inl ft))] H := hP
  have hD : va_D A [(m0, .inr (6, [.int (nI 0), .int (nI kn), .ref qf, .ref qu, .ref qz, .ref qd, .ref qx, .int (nI mn), .int has, .ref ql, .int (nI tn), .ref qg, .int cc, .ref qb, .ref qy, .ref qc, .int sp, .int rk, .ref qe, .ref qw, .ref qt, .ref qr, .ref qi])), (qg, .inl (g.2.1 0, 40, .inl ft))] := hD
  refine lv_lload_n hx hb dX5_check_5 rfl (lv_at hl 1 rfl) ?_
  refine lv_lconst (v := lN 0) hx hb dX5_check_6 (by decide) ?_
  refine lv_ldc2 (v := (lN 65535)) hx hb hown (hts (.constantLong RX5 143 (lN 65535)) (by decide +kernel)) dX5_check_7 ?_
  refine cSi (rest := []) ⟨hx, hb, hml, hown, hts⟩ [.long (lN d), .long (lN 0), .long (lN 65535)] (c_X5_within l g (v := lN d) (lo := lN 0) (hi := lN 65535)) (va_cwS 3 hts gX5_check_X5_within rfl rfl rfl (by decide +kernel) ⟨Nat.le_of_ble_eq_true rfl, Nat.le_of_ble_eq_true rfl⟩) hK hZ hS (subP hP [] rfl) rfl hl.1 rfl (Nat.le_of_ble_eq_true rfl) dX5_check_10 ⟨Nat.zero_le _, Nat.zero_le _⟩ (fun r_244 hr_244 => ?_)
  obtain rfl : r_244 = (inI (lN d).toInt (lN 0).toInt (lN 65535).toInt) := hr_244
  refine lv_if_ne (tgt := 19) hx hb dX5_check_13 (by decide) (fun _ => ?_) (fun c9 => absurd c9 (by rw [inI_1 (by omega) (by omega)]; decide))
  refine lv_aload_n hx hb dX5_check_19 rfl (lv_at hl 0 rfl) ?_
  refine lv_dup hx hb dX5_check_20 rfl ?_
  refine va_get (D := g.1) (ci := 6) (v := .int cc) (C := RX5) (T := TX5) (N := 23) hx hb hts hiX5 hown hK.1 hP 0 rfl rfl 12 (by decide) (hts (.fieldLink RX5 205 "StampMakerModel" "checks" "I") (by decide +kernel)) (fun _ h9 => h9) rfl dX5_check_21 ?_
  refine lv_iconst (v := (nI 1)) hx hb dX5_check_24 (by decide) ?_
  refine lv_iadd hx hb dX5_check_25 ?_
  refine va_put (D := g.1) (ci := 6) (v := .int (cc + (nI 1))) (ty := .int) (C := RX5) (T := TX5) (N := 23) hx hb hts hiX5 tyX5 tyX5_ok nmX5 hown hK.1 hP hD hS 0 rfl rfl 12 (by decide) (hts (.fieldLink RX5 205 "StampMakerModel" "checks" "I") (by decide +kernel)) (fun _ h9 => h9) rfl (by decide +kernel) rfl rfl (Nat.le_of_ble_eq_true rfl) dX5_check_26 (fun H locs hP hD hS => ?_)
  have hP : va_P g.1 vwCl [(m0, .inr (6, [.int (nI 0), .int (nI kn), .ref qf, .ref qu, .ref qz, .ref qd, .ref qx, .int (nI mn), .int has, .ref ql, .int (nI tn), .ref qg, .int (cc + (nI 1)), .ref qb, .ref qy, .ref qc, .int sp, .int rk, .ref qe, .ref qw, .ref qt, .ref qr, .ref qi])), (qg, .inl (g.2.1 0, 40, .inl ft))] H := hP
  have hD : va_D A [(m0, .inr (6, [.int (nI 0), .int (nI kn), .ref qf, .ref qu, .ref qz, .ref qd, .ref qx, .int (nI mn), .int has, .ref ql, .int (nI tn), .ref qg, .int (cc + (nI 1)), .ref qb, .ref qy, .ref qc, .int sp, .int rk, .ref qe, .ref qw, .ref qt, .ref qr, .ref qi])), (qg, .inl (g.2.1 0, 40, .inl ft))] := hD
  refine lv_aload_n hx hb dX5_check_29 rfl (lv_at hl 0 rfl) ?_
  refine lv_lload_n hx hb dX5_check_30 rfl (lv_at hl 1 rfl) ?_
  refine lv_l2i hx hb dX5_check_31 rfl ?_
  refine lv_rei (x' := (nI d)) (l_i) ?_
  refine cVi (rest := []) ⟨hx, hb, hml, hown, hts⟩ [.int (nI d)] (c_X5_ro_let l g (m0 := m0) (kn := kn) (mn := mn) (tn := tn) (qf := qf) (qu := qu) (qz := qz) (qd := qd) (qx := qx) (ql := ql) (qg := qg) (qb := qb) (qy := qy) (qc := qc) (qe := qe) (qw := qw) (qt := qt) (qr := qr) (qi := qi) (th := (nI 0)) (has := has) (cc := (cc + nI 1)) (sp := sp) (rk := rk) (ft := ft) (d := d) ht bad hb4 hb5) (cwV 1 hts gX5_check_X5_reasonOf rfl rfl rfl (by decide +kernel) ⟨Nat.le_of_ble_eq_true rfl, Nat.le_of_ble_eq_true rfl⟩) hK hZ hS (subP hP [0, 1] rfl) (va_recv hK.1 hP (ci := 6) (q0 := 0) rfl rfl) rfl hl.1 rfl (Nat.le_of_ble_eq_true rfl) dX5_check_32 ⟨Nat.zero_le _, Nat.zero_le _⟩ (fun r_245 hr_245 => ?_)
  obtain rfl : r_245 = (nI 2) := hr_245
  refine lv_istore_n (lv' := [(3, .int (nI 2)), (0, .ref m0), (1, .long (lN d))]) hx hb dX5_check_35 rfl hl (by decide) rfl (fun ls hl => ?_)
  refine lv_aload_n hx hb dX5_check_36 rfl (lv_at hl 1 rfl) ?_
  refine lv_iconst (v := (nI 0)) hx hb dX5_check_37 (by decide) ?_
  refine va_put (D := g.1) (ci := 6) (v := .int (nI 0)) (ty := .int) (C := RX5) (T := TX5) (N := 23) hx hb hts hiX5 tyX5 tyX5_ok nmX5 hown hK.1 hP hD hS 0 rfl rfl 10 (by decide) (hts (.fieldLink RX5 202 "StampMakerModel" "typed" "I") (by decide +kernel)) (fun _ h9 => h9) rfl (by decide +kernel) rfl rfl (Nat.le_of_ble_eq_true rfl) dX5_check_38 (fun H locs hP hD hS => ?_)
  have hP : va_P g.1 vwCl [(m0, .inr (6, [.int (nI 0), .int (nI kn), .ref qf, .ref qu, .ref qz, .ref qd, .ref qx, .int (nI mn), .int has, .ref ql, .int (nI 0), .ref qg, .int (cc + (nI 1)), .ref qb, .ref qy, .ref qc, .int sp, .int rk, .ref qe, .ref qw, .ref qt, .ref qr, .ref qi])), (qg, .inl (g.2.1 0, 40, .inl ft))] H := hP
  have hD : va_D A [(m0, .inr (6, [.int (nI 0), .int (nI kn), .ref qf, .ref qu, .ref qz, .ref qd, .ref qx, .int (nI mn), .int has, .ref ql, .int (nI 0), .ref qg, .int (cc + (nI 1)), .ref qb, .ref qy, .ref qc, .int sp, .int rk, .ref qe, .ref qw, .ref qt, .ref qr, .ref qi])), (qg, .inl (g.2.1 0, 40, .inl ft))] := hD
  refine lv_iload_n hx hb dX5_check_41 rfl (lv_at hl 0 rfl) ?_
  refine lv_if_ne (tgt := 49) hx hb dX5_check_42 (by decide) (fun _ => ?_) (fun c9 => absurd c9 (by decide))
  refine lv_iconst (v := (-1)) hx hb dX5_check_49 (by decide) ?_
  refine lv_iload_n hx hb dX5_check_50 rfl (lv_at hl 0 rfl) ?_
  refine lv_isub hx hb dX5_check_51 ?_
  exact endWi () hx hb hr hlocks hS dX5_check_52 hP hD (by decide)

set_option maxHeartbeats 4000000 in
set_option maxRecDepth 100000 in
/-- refused: reason 3 -/
theorem c_X5_check_out (l : Launch) (g : gE) (hsz : Nat) (m0 kn mn tn qf qu qz qd qx ql qg qb qy qc qe qw qt qr qi : Nat) (th has cc sp rk : Int32) (ft : Nat → Int32) (d : Nat) (hdd : d ≤ 65535) (ht : tn = 16) (hlet : ∀ j, j < 16 → wo (ft j) < 32) (hkn : kn ≤ 15) (hko : kn ≤ tbF ft 0 11 / 2 ^ 51 % 16) : Met l yX5_check wsX5_check ({ frames := 7, cells := 0, slots := 0, locals := 155 }) (va_Pc [.ref m0, .long (lN d)] (wr g [(m0, .inr (6, [.int th, .int (nI kn), .ref qf, .ref qu, .ref qz, .ref qd, .ref qx, .int (nI mn), .int has, .ref ql, .int (nI tn), .ref qg, .int cc, .ref qb, .ref qy, .ref qc, .int sp, .int rk, .ref qe, .ref qw, .ref qt, .ref qr, .ref qi])), (qg, .inl (g.2.1 0, 40, .inl ft))] hsz)) (va_Qi (fun (r : Int32) (u : Unit) => r = -4) (wB g (va_A [(m0, .inr (6, [.int th, .int (nI kn), .ref qf, .ref qu, .ref qz, .ref qd, .ref qx, .int (nI mn), .int has, .ref ql, .int (nI tn), .ref qg, .int cc, .ref qb, .ref qy, .ref qc, .int sp, .int rk, .ref qe, .ref qw, .ref qt, .ref qr, .ref qi])), (qg, .inl (g.2.1 0, 40, .inl ft))] hsz) (fun u : Unit => [(m0, .inr (6, [.int (nI 0), .int (nI kn), .ref qf, .ref qu, .ref qz, .ref qd, .ref qx, .int (nI mn), .int has, .ref ql, .int (nI 0), .ref qg, .int (cc + nI 1), .ref qb, .ref qy, .ref qc, .int sp, .int rk, .ref qe, .ref qw, .ref qt, .ref qr, .ref qi])), (qg, .inl (g.2.1 0, 40, .inl ft))])) (va_A [(m0, .inr (6, [.int th, .int (nI kn), .ref qf, .ref qu, .ref qz, .ref qd, .ref qx, .int (nI mn), .int has, .ref ql, .int (nI tn), .ref qg, .int cc, .ref qb, .ref qy, .ref qc, .int sp, .int rk, .ref qe, .ref qw, .ref qt, .ref qr, .ref qi])), (qg, .inl (g.2.1 0, 40, .inl ft))] hsz)) 0 0 (va_A [(m0, .inr (6, [.int th, .int (nI kn), .ref qf, .ref qu, .ref qz, .ref qd, .ref qx, .int (nI mn), .int has, .ref ql, .int (nI tn), .ref qg, .int cc, .ref qb, .ref qy, .ref qc, .int sp, .int rk, .ref qe, .ref qw, .ref qt, .ref qr, .ref qi])), (qg, .inl (g.2.1 0, 40, .inl ft))] hsz) := by
  refine ofWi (cc := cX5_check) (maxL := 4) (ret := (some .int)) (by decide) rfl (Nat.le_of_ble_eq_true rfl) (fun p e s m below meth c hx hb hr hml hts hown hlocks hnm A H hH hA hP hD hK hZ hS ls hl => ?_)
  have hown : s.vm.findClass RX5 = some m.cls := hown
  have hl : lv_has ls 4 [(0, .ref m0), (1, .long (lN d))] := hl
  have tn0 : (nI 0).toInt = 0 := by decide
  have tn1 : (nI 1).toInt = 1 := by decide
  have tl0 : (lN 0).toInt = 0 := by decide
  have tl65535 : (lN 65535).toInt = 65535 := by decide
  have hiX5 : ∀ w ∈ wsX50, w ∈ wsX5_check := by decide +kernel
  have td := tl_n (n := d) (by omega)
  refine lv_aload_n hx hb dX5_check_0 rfl (lv_at hl 0 rfl) ?_
  refine lv_iconst (v := (nI 0)) hx hb dX5_check_1 (by decide) ?_
  refine va_put (D := g.1) (ci := 6) (v := .int (nI 0)) (ty := .int) (C := RX5) (T := TX5) (N := 23) hx hb hts hiX5 tyX5 tyX5_ok nmX5 hown hK.1 hP hD hS 0 rfl rfl 0 (by decide) (hts (.fieldLink RX5 136 "StampMakerModel" "thrown" "I") (by decide +kernel)) (fun _ h9 => h9) rfl (by decide +kernel) rfl rfl (Nat.le_of_ble_eq_true rfl) dX5_check_2 (fun H locs hP hD hS => ?_)
  have hP : va_P g.1 vwCl [(m0, .inr (6, [.int (nI 0), .int (nI kn), .ref qf, .ref qu, .ref qz, .ref qd, .ref qx, .int (nI mn), .int has, .ref ql, .int (nI tn), .ref qg, .int cc, .ref qb, .ref qy, .ref qc, .int sp, .int rk, .ref qe, .ref qw, .ref qt, .ref qr, .ref qi])), (qg, .inl (g.2.1 0, 40, .inl ft))] H := hP
  have hD : va_D A [(m0, .inr (6, [.int (nI 0), .int (nI kn), .ref qf, .ref qu, .ref qz, .ref qd, .ref qx, .int (nI mn), .int has, .ref ql, .int (nI tn), .ref qg, .int cc, .ref qb, .ref qy, .ref qc, .int sp, .int rk, .ref qe, .ref qw, .ref qt, .ref qr, .ref qi])), (qg, .inl (g.2.1 0, 40, .inl ft))] := hD
  refine lv_lload_n hx hb dX5_check_5 rfl (lv_at hl 1 rfl) ?_
  refine lv_lconst (v := lN 0) hx hb dX5_check_6 (by decide) ?_
  refine lv_ldc2 (v := (lN 65535)) hx hb hown (hts (.constantLong RX5 143 (lN 65535)) (by decide +kernel)) dX5_check_7 ?_
  refine cSi (rest := []) ⟨hx, hb, hml, hown, hts⟩ [.long (lN d), .long (lN 0), .long (lN 65535)] (c_X5_within l g (v := lN d) (lo := lN 0) (hi := lN 65535)) (va_cwS 3 hts gX5_check_X5_within rfl rfl rfl (by decide +kernel) ⟨Nat.le_of_ble_eq_true rfl, Nat.le_of_ble_eq_true rfl⟩) hK hZ hS (subP hP [] rfl) rfl hl.1 rfl (Nat.le_of_ble_eq_true rfl) dX5_check_10 ⟨Nat.zero_le _, Nat.zero_le _⟩ (fun r_246 hr_246 => ?_)
  obtain rfl : r_246 = (inI (lN d).toInt (lN 0).toInt (lN 65535).toInt) := hr_246
  refine lv_if_ne (tgt := 19) hx hb dX5_check_13 (by decide) (fun _ => ?_) (fun c9 => absurd c9 (by rw [inI_1 (by omega) (by omega)]; decide))
  refine lv_aload_n hx hb dX5_check_19 rfl (lv_at hl 0 rfl) ?_
  refine lv_dup hx hb dX5_check_20 rfl ?_
  refine va_get (D := g.1) (ci := 6) (v := .int cc) (C := RX5) (T := TX5) (N := 23) hx hb hts hiX5 hown hK.1 hP 0 rfl rfl 12 (by decide) (hts (.fieldLink RX5 205 "StampMakerModel" "checks" "I") (by decide +kernel)) (fun _ h9 => h9) rfl dX5_check_21 ?_
  refine lv_iconst (v := (nI 1)) hx hb dX5_check_24 (by decide) ?_
  refine lv_iadd hx hb dX5_check_25 ?_
  refine va_put (D := g.1) (ci := 6) (v := .int (cc + (nI 1))) (ty := .int) (C := RX5) (T := TX5) (N := 23) hx hb hts hiX5 tyX5 tyX5_ok nmX5 hown hK.1 hP hD hS 0 rfl rfl 12 (by decide) (hts (.fieldLink RX5 205 "StampMakerModel" "checks" "I") (by decide +kernel)) (fun _ h9 => h9) rfl (by decide +kernel) rfl rfl (Nat.le_of_ble_eq_true rfl) dX5_check_26 (fun H locs hP hD hS => ?_)
  have hP : va_P g.1 vwCl [(m0, .inr (6, [.int (nI 0), .int (nI kn), .ref qf, .ref qu, .ref qz, .ref qd, .ref qx, .int (nI mn), .int has, .ref ql, .int (nI tn), .ref qg, .int (cc + (nI 1)), .ref qb, .ref qy, .ref qc, .int sp, .int rk, .ref qe, .ref qw, .ref qt, .ref qr, .ref qi])), (qg, .inl (g.2.1 0, 40, .inl ft))] H := hP
  have hD : va_D A [(m0, .inr (6, [.int (nI 0), .int (nI kn), .ref qf, .ref qu, .ref qz, .ref qd, .ref qx, .int (nI mn), .int has, .ref ql, .int (nI tn), .ref qg, .int (cc + (nI 1)), .ref qb, .ref qy, .ref qc, .int sp, .int rk, .ref qe, .ref qw, .ref qt, .ref qr, .ref qi])), (qg, .inl (g.2.1 0, 40, .inl ft))] := hD
  refine lv_aload_n hx hb dX5_check_29 rfl (lv_at hl 0 rfl) ?_
  refine lv_lload_n hx hb dX5_check_30 rfl (lv_at hl 1 rfl) ?_
  refine lv_l2i hx hb dX5_check_31 rfl ?_
  refine lv_rei (x' := (nI d)) (l_i) ?_
  refine cVi (rest := []) ⟨hx, hb, hml, hown, hts⟩ [.int (nI d)] (c_X5_ro_out l g (m0 := m0) (kn := kn) (mn := mn) (tn := tn) (qf := qf) (qu := qu) (qz := qz) (qd := qd) (qx := qx) (ql := ql) (qg := qg) (qb := qb) (qy := qy) (qc := qc) (qe := qe) (qw := qw) (qt := qt) (qr := qr) (qi := qi) (th := (nI 0)) (has := has) (cc := (cc + nI 1)) (sp := sp) (rk := rk) (ft := ft) (d := d) ht hlet hkn hko) (cwV 1 hts gX5_check_X5_reasonOf rfl rfl rfl (by decide +kernel) ⟨Nat.le_of_ble_eq_true rfl, Nat.le_of_ble_eq_true rfl⟩) hK hZ hS (subP hP [0, 1] rfl) (va_recv hK.1 hP (ci := 6) (q0 := 0) rfl rfl) rfl hl.1 rfl (Nat.le_of_ble_eq_true rfl) dX5_check_32 ⟨Nat.zero_le _, Nat.zero_le _⟩ (fun r_247 hr_247 => ?_)
  obtain rfl : r_247 = (nI 3) := hr_247
  refine lv_istore_n (lv' := [(3, .int (nI 3)), (0, .ref m0), (1, .long (lN d))]) hx hb dX5_check_35 rfl hl (by decide) rfl (fun ls hl => ?_)
  refine lv_aload_n hx hb dX5_check_36 rfl (lv_at hl 1 rfl) ?_
  refine lv_iconst (v := (nI 0)) hx hb dX5_check_37 (by decide) ?_
  refine va_put (D := g.1) (ci := 6) (v := .int (nI 0)) (ty := .int) (C := RX5) (T := TX5) (N := 23) hx hb hts hiX5 tyX5 tyX5_ok nmX5 hown hK.1 hP hD hS 0 rfl rfl 10 (by decide) (hts (.fieldLink RX5 202 "StampMakerModel" "typed" "I") (by decide +kernel)) (fun _ h9 => h9) rfl (by decide +kernel) rfl rfl (Nat.le_of_ble_eq_true rfl) dX5_check_38 (fun H locs hP hD hS => ?_)
  have hP : va_P g.1 vwCl [(m0, .inr (6, [.int (nI 0), .int (nI kn), .ref qf, .ref qu, .ref qz, .ref qd, .ref qx, .int (nI mn), .int has, .ref ql, .int (nI 0), .ref qg, .int (cc + (nI 1)), .ref qb, .ref qy, .ref qc, .int sp, .int rk, .ref qe, .ref qw, .ref qt, .ref qr, .ref qi])), (qg, .inl (g.2.1 0, 40, .inl ft))] H := hP
  have hD : va_D A [(m0, .inr (6, [.int (nI 0), .int (nI kn), .ref qf, .ref qu, .ref qz, .ref qd, .ref qx, .int (nI mn), .int has, .ref ql, .int (nI 0), .ref qg, .int (cc + (nI 1)), .ref qb, .ref qy, .ref qc, .int sp, .int rk, .ref qe, .ref qw, .ref qt, .ref qr, .ref qi])), (qg, .inl (g.2.1 0, 40, .inl ft))] := hD
  refine lv_iload_n hx hb dX5_check_41 rfl (lv_at hl 0 rfl) ?_
  refine lv_if_ne (tgt := 49) hx hb dX5_check_42 (by decide) (fun _ => ?_) (fun c9 => absurd c9 (by decide))
  refine lv_iconst (v := (-1)) hx hb dX5_check_49 (by decide) ?_
  refine lv_iload_n hx hb dX5_check_50 rfl (lv_at hl 0 rfl) ?_
  refine lv_isub hx hb dX5_check_51 ?_
  exact endWi () hx hb hr hlocks hS dX5_check_52 hP hD (by decide)

set_option maxHeartbeats 4000000 in
set_option maxRecDepth 100000 in
/-- refused: reason 3 -/
theorem c_X5_check_bad (l : Launch) (g : gE) (hsz : Nat) (m0 kn mn tn qf qu qz qd qx ql qg qb qy qc qe qw qt qr qi : Nat) (th has cc sp rk : Int32) (ft : Nat → Int32) (d : Nat) (hdd : d ≤ 65535) (ht : tn = 16) (hlet : ∀ j, j < 16 → wo (ft j) < 32) (hkn : kn ≤ 15) (hi : tbF ft 0 11 / 2 ^ 51 % 16 < kn) (hbad : ¬ (tbF ft 0 11 / 2 ^ 47 % 16 ≤ 9 ∧ 1 ≤ tbF ft 0 11 / 2 ^ 30 % 131072 ∧ tbF ft 0 11 / 2 ^ 30 % 131072 ≤ 99999)) : Met l yX5_check wsX5_check ({ frames := 7, cells := 0, slots := 0, locals := 155 }) (va_Pc [.ref m0, .long (lN d)] (wr g [(m0, .inr (6, [.int th, .int (nI kn), .ref qf, .ref qu, .ref qz, .ref qd, .ref qx, .int (nI mn), .int has, .ref ql, .int (nI tn), .ref qg, .int cc, .ref qb, .ref qy, .ref qc, .int sp, .int rk, .ref qe, .ref qw, .ref qt, .ref qr, .ref qi])), (qg, .inl (g.2.1 0, 40, .inl ft))] hsz)) (va_Qi (fun (r : Int32) (u : Unit) => r = -4) (wB g (va_A [(m0, .inr (6, [.int th, .int (nI kn), .ref qf, .ref qu, .ref qz, .ref qd, .ref qx, .int (nI mn), .int has, .ref ql, .int (nI tn), .ref qg, .int cc, .ref qb, .ref qy, .ref qc, .int sp, .int rk, .ref qe, .ref qw, .ref qt, .ref qr, .ref qi])), (qg, .inl (g.2.1 0, 40, .inl ft))] hsz) (fun u : Unit => [(m0, .inr (6, [.int (nI 0), .int (nI kn), .ref qf, .ref qu, .ref qz, .ref qd, .ref qx, .int (nI mn), .int has, .ref ql, .int (nI 0), .ref qg, .int (cc + nI 1), .ref qb, .ref qy, .ref qc, .int sp, .int rk, .ref qe, .ref qw, .ref qt, .ref qr, .ref qi])), (qg, .inl (g.2.1 0, 40, .inl ft))])) (va_A [(m0, .inr (6, [.int th, .int (nI kn), .ref qf, .ref qu, .ref qz, .ref qd, .ref qx, .int (nI mn), .int has, .ref ql, .int (nI tn), .ref qg, .int cc, .ref qb, .ref qy, .ref qc, .int sp, .int rk, .ref qe, .ref qw, .ref qt, .ref qr, .ref qi])), (qg, .inl (g.2.1 0, 40, .inl ft))] hsz)) 0 0 (va_A [(m0, .inr (6, [.int th, .int (nI kn), .ref qf, .ref qu, .ref qz, .ref qd, .ref qx, .int (nI mn), .int has, .ref ql, .int (nI tn), .ref qg, .int cc, .ref qb, .ref qy, .ref qc, .int sp, .int rk, .ref qe, .ref qw, .ref qt, .ref qr, .ref qi])), (qg, .inl (g.2.1 0, 40, .inl ft))] hsz) := by
  refine ofWi (cc := cX5_check) (maxL := 4) (ret := (some .int)) (by decide) rfl (Nat.le_of_ble_eq_true rfl) (fun p e s m below meth c hx hb hr hml hts hown hlocks hnm A H hH hA hP hD hK hZ hS ls hl => ?_)
  have hown : s.vm.findClass RX5 = some m.cls := hown
  have hl : lv_has ls 4 [(0, .ref m0), (1, .long (lN d))] := hl
  have tn0 : (nI 0).toInt = 0 := by decide
  have tn1 : (nI 1).toInt = 1 := by decide
  have tl0 : (lN 0).toInt = 0 := by decide
  have tl65535 : (lN 65535).toInt = 65535 := by decide
  have hiX5 : ∀ w ∈ wsX50, w ∈ wsX5_check := by decide +kernel
  have td := tl_n (n := d) (by omega)
  refine lv_aload_n hx hb dX5_check_0 rfl (lv_at hl 0 rfl) ?_
  refine lv_iconst (v := (nI 0)) hx hb dX5_check_1 (by decide) ?_
  refine va_put (D := g.1) (ci := 6) (v := .int (nI 0)) (ty := .int) (C := RX5) (T := TX5) (N := 23) hx hb hts hiX5 tyX5 tyX5_ok nmX5 hown hK.1 hP hD hS 0 rfl rfl 0 (by decide) (hts (.fieldLink RX5 136 "StampMakerModel" "thrown" "I") (by decide +kernel)) (fun _ h9 => h9) rfl (by decide +kernel) rfl rfl (Nat.le_of_ble_eq_true rfl) dX5_check_2 (fun H locs hP hD hS => ?_)
  have hP : va_P g.1 vwCl [(m0, .inr (6, [.int (nI 0), .int (nI kn), .ref qf, .ref qu, .ref qz, .ref qd, .ref qx, .int (nI mn), .int has, .ref ql, .int (nI tn), .ref qg, .int cc, .ref qb, .ref qy, .ref qc, .int sp, .int rk, .ref qe, .ref qw, .ref qt, .ref qr, .ref qi])), (qg, .inl (g.2.1 0, 40, .inl ft))] H := hP
  have hD : va_D A [(m0, .inr (6, [.int (nI 0), .int (nI kn), .ref qf, .ref qu, .ref qz, .ref qd, .ref qx, .int (nI mn), .int has, .ref ql, .int (nI tn), .ref qg, .int cc, .ref qb, .ref qy, .ref qc, .int sp, .int rk, .ref qe, .ref qw, .ref qt, .ref qr, .ref qi])), (qg, .inl (g.2.1 0, 40, .inl ft))] := hD
  refine lv_lload_n hx hb dX5_check_5 rfl (lv_at hl 1 rfl) ?_
  refine lv_lconst (v := lN 0) hx hb dX5_check_6 (by decide) ?_
  refine lv_ldc2 (v := (lN 65535)) hx hb hown (hts (.constantLong RX5 143 (lN 65535)) (by decide +kernel)) dX5_check_7 ?_
  refine cSi (rest := []) ⟨hx, hb, hml, hown, hts⟩ [.long (lN d), .long (lN 0), .long (lN 65535)] (c_X5_within l g (v := lN d) (lo := lN 0) (hi := lN 65535)) (va_cwS 3 hts gX5_check_X5_within rfl rfl rfl (by decide +kernel) ⟨Nat.le_of_ble_eq_true rfl, Nat.le_of_ble_eq_true rfl⟩) hK hZ hS (subP hP [] rfl) rfl hl.1 rfl (Nat.le_of_ble_eq_true rfl) dX5_check_10 ⟨Nat.zero_le _, Nat.zero_le _⟩ (fun r_248 hr_248 => ?_)
  obtain rfl : r_248 = (inI (lN d).toInt (lN 0).toInt (lN 65535).toInt) := hr_248
  refine lv_if_ne (tgt := 19) hx hb dX5_check_13 (by decide) (fun _ => ?_) (fun c9 => absurd c9 (by rw [inI_1 (by omega) (by omega)]; decide))
  refine lv_aload_n hx hb dX5_check_19 rfl (lv_at hl 0 rfl) ?_
  refine lv_dup hx hb dX5_check_20 rfl ?_
  refine va_get (D := g.1) (ci := 6) (v := .int cc) (C := RX5) (T := TX5) (N := 23) hx hb hts hiX5 hown hK.1 hP 0 rfl rfl 12 (by decide) (hts (.fieldLink RX5 205 "StampMakerModel" "checks" "I") (by decide +kernel)) (fun _ h9 => h9) rfl dX5_check_21 ?_
  refine lv_iconst (v := (nI 1)) hx hb dX5_check_24 (by decide) ?_
  refine lv_iadd hx hb dX5_check_25 ?_
  refine va_put (D := g.1) (ci := 6) (v := .int (cc + (nI 1))) (ty := .int) (C := RX5) (T := TX5) (N := 23) hx hb hts hiX5 tyX5 tyX5_ok nmX5 hown hK.1 hP hD hS 0 rfl rfl 12 (by decide) (hts (.fieldLink RX5 205 "StampMakerModel" "checks" "I") (by decide +kernel)) (fun _ h9 => h9) rfl (by decide +kernel) rfl rfl (Nat.le_of_ble_eq_true rfl) dX5_check_26 (fun H locs hP hD hS => ?_)
  have hP : va_P g.1 vwCl [(m0, .inr (6, [.int (nI 0), .int (nI kn), .ref qf, .ref qu, .ref qz, .ref qd, .ref qx, .int (nI mn), .int has, .ref ql, .int (nI tn), .ref qg, .int (cc + (nI 1)), .ref qb, .ref qy, .ref qc, .int sp, .int rk, .ref qe, .ref qw, .ref qt, .ref qr, .ref qi])), (qg, .inl (g.2.1 0, 40, .inl ft))] H := hP
  have hD : va_D A [(m0, .inr (6, [.int (nI 0), .int (nI kn), .ref qf, .ref qu, .ref qz, .ref qd, .ref qx, .int (nI mn), .int has, .ref ql, .int (nI tn), .ref qg, .int (cc + (nI 1)), .ref qb, .ref qy, .ref qc, .int sp, .int rk, .ref qe, .ref qw, .ref qt, .ref qr, .ref qi])), (qg, .inl (g.2.1 0, 40, .inl ft))] := hD
  refine lv_aload_n hx hb dX5_check_29 rfl (lv_at hl 0 rfl) ?_
  refine lv_lload_n hx hb dX5_check_30 rfl (lv_at hl 1 rfl) ?_
  refine lv_l2i hx hb dX5_check_31 rfl ?_
  refine lv_rei (x' := (nI d)) (l_i) ?_
  refine cVi (rest := []) ⟨hx, hb, hml, hown, hts⟩ [.int (nI d)] (c_X5_ro_bad l g (m0 := m0) (kn := kn) (mn := mn) (tn := tn) (qf := qf) (qu := qu) (qz := qz) (qd := qd) (qx := qx) (ql := ql) (qg := qg) (qb := qb) (qy := qy) (qc := qc) (qe := qe) (qw := qw) (qt := qt) (qr := qr) (qi := qi) (th := (nI 0)) (has := has) (cc := (cc + nI 1)) (sp := sp) (rk := rk) (ft := ft) (d := d) ht hlet hkn hi hbad) (cwV 1 hts gX5_check_X5_reasonOf rfl rfl rfl (by decide +kernel) ⟨Nat.le_of_ble_eq_true rfl, Nat.le_of_ble_eq_true rfl⟩) hK hZ hS (subP hP [0, 1] rfl) (va_recv hK.1 hP (ci := 6) (q0 := 0) rfl rfl) rfl hl.1 rfl (Nat.le_of_ble_eq_true rfl) dX5_check_32 ⟨Nat.zero_le _, Nat.zero_le _⟩ (fun r_249 hr_249 => ?_)
  obtain rfl : r_249 = (nI 3) := hr_249
  refine lv_istore_n (lv' := [(3, .int (nI 3)), (0, .ref m0), (1, .long (lN d))]) hx hb dX5_check_35 rfl hl (by decide) rfl (fun ls hl => ?_)
  refine lv_aload_n hx hb dX5_check_36 rfl (lv_at hl 1 rfl) ?_
  refine lv_iconst (v := (nI 0)) hx hb dX5_check_37 (by decide) ?_
  refine va_put (D := g.1) (ci := 6) (v := .int (nI 0)) (ty := .int) (C := RX5) (T := TX5) (N := 23) hx hb hts hiX5 tyX5 tyX5_ok nmX5 hown hK.1 hP hD hS 0 rfl rfl 10 (by decide) (hts (.fieldLink RX5 202 "StampMakerModel" "typed" "I") (by decide +kernel)) (fun _ h9 => h9) rfl (by decide +kernel) rfl rfl (Nat.le_of_ble_eq_true rfl) dX5_check_38 (fun H locs hP hD hS => ?_)
  have hP : va_P g.1 vwCl [(m0, .inr (6, [.int (nI 0), .int (nI kn), .ref qf, .ref qu, .ref qz, .ref qd, .ref qx, .int (nI mn), .int has, .ref ql, .int (nI 0), .ref qg, .int (cc + (nI 1)), .ref qb, .ref qy, .ref qc, .int sp, .int rk, .ref qe, .ref qw, .ref qt, .ref qr, .ref qi])), (qg, .inl (g.2.1 0, 40, .inl ft))] H := hP
  have hD : va_D A [(m0, .inr (6, [.int (nI 0), .int (nI kn), .ref qf, .ref qu, .ref qz, .ref qd, .ref qx, .int (nI mn), .int has, .ref ql, .int (nI 0), .ref qg, .int (cc + (nI 1)), .ref qb, .ref qy, .ref qc, .int sp, .int rk, .ref qe, .ref qw, .ref qt, .ref qr, .ref qi])), (qg, .inl (g.2.1 0, 40, .inl ft))] := hD
  refine lv_iload_n hx hb dX5_check_41 rfl (lv_at hl 0 rfl) ?_
  refine lv_if_ne (tgt := 49) hx hb dX5_check_42 (by decide) (fun _ => ?_) (fun c9 => absurd c9 (by decide))
  refine lv_iconst (v := (-1)) hx hb dX5_check_49 (by decide) ?_
  refine lv_iload_n hx hb dX5_check_50 rfl (lv_at hl 0 rfl) ?_
  refine lv_isub hx hb dX5_check_51 ?_
  exact endWi () hx hb hr hlocks hS dX5_check_52 hP hD (by decide)

set_option maxHeartbeats 4000000 in
set_option maxRecDepth 100000 in
/-- a stamp is checked -/
theorem c_X5_check_go (l : Launch) (g : gE) (hsz : Nat) (m0 kn mn tn qf qu qz qd qx ql qg qb qy qc qe qw qt qr qi : Nat) (th has cc sp rk : Int32) (kf ku fz fx fw fs fe fr9 fb9 f : Nat → Int32) (nz : Nat) (ft ff fd fc : Nat → Int32) (d : Nat) (ht : tn = 16) (hlet : ∀ j, j < 16 → wo (ft j) < 32) (hkn : kn ≤ 15) (hdd : d ≤ 65535) (hi : tbF ft 0 11 / 2 ^ 51 % 16 < kn) (hfz : fz (tbF ft 0 11 / 2 ^ 51 % 16) = nI nz) (hz : nz ≤ 32) (hf : ∀ j, j < nz → f j = fx (32 * (tbF ft 0 11 / 2 ^ 51 % 16) + j)) (hr9 : ∀ j, j < 64 → fr9 j = sK j) (hb9 : ∀ j, j < 8 → fb9 j = sBeg j) (hok1 : tbF ft 0 11 / 2 ^ 47 % 16 ≤ 9) (hok2 : 1 ≤ tbF ft 0 11 / 2 ^ 30 % 131072) (hok3 : tbF ft 0 11 / 2 ^ 30 % 131072 ≤ 99999) : Met l yX5_check wsX5_check ({ frames := 7, cells := 0, slots := 0, locals := 155 }) (va_Pc [.ref m0, .long (lN d)] (wr g [(m0, .inr (6, [.int th, .int (nI kn), .ref qf, .ref qu, .ref qz, .ref qd, .ref qx, .int (nI mn), .int has, .ref ql, .int (nI tn), .ref qg, .int cc, .ref qb, .ref qy, .ref qc, .int sp, .int rk, .ref qe, .ref qw, .ref qt, .ref qr, .ref qi])), (qz, .inl (g.2.1 0, 15, .inl fz)), (qx, .inl (g.2.1 1, 480, .inl fx)), (qw, .inl (g.2.1 0, 64, .inl fw)), (qt, .inl (g.2.1 0, 8, .inl fs)), (qe, .inl (g.2.1 1, 32, .inl fe)), (qr, .inl (g.2.1 0, 64, .inl fr9)), (qi, .inl (g.2.1 0, 8, .inl fb9)), (qf, .inl (g.2.1 0, 15, .inl kf)), (qu, .inl (g.2.1 0, 15, .inl ku)), (qg, .inl (g.2.1 0, 40, .inl ft)), (qb, .inl (g.2.1 1, 16384, .inl ff)), (qy, .inl (g.2.1 0, 16384, .inl fd)), (qc, .inl (g.2.1 0, 16384, .inl fc))] hsz)) (va_Qi (fun (r : Int32) (u : ((Nat → Int32) × (Nat → Int32) × (Nat → Int32) × Int32 × (Nat → Int32) × (Nat → Int32) × (Nat → Int32))) => r = ckG (raR f nz (tbF ft 0 11) (tbF ft 11 5) d (kf ((tbF ft 0 11) / 2 ^ 51 % 16)) (ku ((tbF ft 0 11) / 2 ^ 51 % 16))) (ff ((tbF ft 0 11) % 16384)) ∧ (∀ j, j < 32 → u.2.2.1 j = oB (dG f nz (tbF ft 0 11) (j / 4)) (24 - 8 * (j % 4))) ∧ u.2.2.2.1 = gtS (raR f nz (tbF ft 0 11) (tbF ft 11 5) d (kf ((tbF ft 0 11) / 2 ^ 51 % 16)) (ku ((tbF ft 0 11) / 2 ^ 51 % 16))) (acS (ff ((tbF ft 0 11) % 16384)) sp ((tbF ft 0 11) % 16384)) sp ∧ u.2.2.2.2.1 = gtF (raR f nz (tbF ft 0 11) (tbF ft 11 5) d (kf ((tbF ft 0 11) / 2 ^ 51 % 16)) (ku ((tbF ft 0 11) / 2 ^ 51 % 16))) (acF (ff ((tbF ft 0 11) % 16384)) ff ((tbF ft 0 11) % 16384) (nI 1)) ff ∧ u.2.2.2.2.2.1 = gtF (raR f nz (tbF ft 0 11) (tbF ft 11 5) d (kf ((tbF ft 0 11) / 2 ^ 51 % 16)) (ku ((tbF ft 0 11) / 2 ^ 51 % 16))) (acF (ff ((tbF ft 0 11) % 16384)) fd ((tbF ft 0 11) % 16384) (nI d)) fd ∧ u.2.2.2.2.2.2 = gtF (raR f nz (tbF ft 0 11) (tbF ft 11 5) d (kf ((tbF ft 0 11) / 2 ^ 51 % 16)) (ku ((tbF ft 0 11) / 2 ^ 51 % 16))) (acF (ff ((tbF ft 0 11) % 16384)) fc ((tbF ft 0 11) % 16384) (cc + nI 1)) fc) (wB g (va_A [(m0, .inr (6, [.int th, .int (nI kn), .ref qf, .ref qu, .ref qz, .ref qd, .ref qx, .int (nI mn), .int has, .ref ql, .int (nI tn), .ref qg, .int cc, .ref qb, .ref qy, .ref qc, .int sp, .int rk, .ref qe, .ref qw, .ref qt, .ref qr, .ref qi])), (qz, .inl (g.2.1 0, 15, .inl fz)), (qx, .inl (g.2.1 1, 480, .inl fx)), (qw, .inl (g.2.1 0, 64, .inl fw)), (qt, .inl (g.2.1 0, 8, .inl fs)), (qe, .inl (g.2.1 1, 32, .inl fe)), (qr, .inl (g.2.1 0, 64, .inl fr9)), (qi, .inl (g.2.1 0, 8, .inl fb9)), (qf, .inl (g.2.1 0, 15, .inl kf)), (qu, .inl (g.2.1 0, 15, .inl ku)), (qg, .inl (g.2.1 0, 40, .inl ft)), (qb, .inl (g.2.1 1, 16384, .inl ff)), (qy, .inl (g.2.1 0, 16384, .inl fd)), (qc, .inl (g.2.1 0, 16384, .inl fc))] hsz) (fun u : ((Nat → Int32) × (Nat → Int32) × (Nat → Int32) × Int32 × (Nat → Int32) × (Nat → Int32) × (Nat → Int32)) => [(m0, .inr (6, [.int (nI 0), .int (nI kn), .ref qf, .ref qu, .ref qz, .ref qd, .ref qx, .int (nI mn), .int has, .ref ql, .int (nI 0), .ref qg, .int (cc + nI 1), .ref qb, .ref qy, .ref qc, .int u.2.2.2.1, .int (nI 1), .ref qe, .ref qw, .ref qt, .ref qr, .ref qi])), (qz, .inl (g.2.1 0, 15, .inl fz)), (qx, .inl (g.2.1 1, 480, .inl fx)), (qw, .inl (g.2.1 0, 64, .inl u.1)), (qt, .inl (g.2.1 0, 8, .inl u.2.1)), (qe, .inl (g.2.1 1, 32, .inl u.2.2.1)), (qr, .inl (g.2.1 0, 64, .inl fr9)), (qi, .inl (g.2.1 0, 8, .inl fb9)), (qf, .inl (g.2.1 0, 15, .inl kf)), (qu, .inl (g.2.1 0, 15, .inl ku)), (qg, .inl (g.2.1 0, 40, .inl ft)), (qb, .inl (g.2.1 1, 16384, .inl u.2.2.2.2.1)), (qy, .inl (g.2.1 0, 16384, .inl u.2.2.2.2.2.1)), (qc, .inl (g.2.1 0, 16384, .inl u.2.2.2.2.2.2))])) (va_A [(m0, .inr (6, [.int th, .int (nI kn), .ref qf, .ref qu, .ref qz, .ref qd, .ref qx, .int (nI mn), .int has, .ref ql, .int (nI tn), .ref qg, .int cc, .ref qb, .ref qy, .ref qc, .int sp, .int rk, .ref qe, .ref qw, .ref qt, .ref qr, .ref qi])), (qz, .inl (g.2.1 0, 15, .inl fz)), (qx, .inl (g.2.1 1, 480, .inl fx)), (qw, .inl (g.2.1 0, 64, .inl fw)), (qt, .inl (g.2.1 0, 8, .inl fs)), (qe, .inl (g.2.1 1, 32, .inl fe)), (qr, .inl (g.2.1 0, 64, .inl fr9)), (qi, .inl (g.2.1 0, 8, .inl fb9)), (qf, .inl (g.2.1 0, 15, .inl kf)), (qu, .inl (g.2.1 0, 15, .inl ku)), (qg, .inl (g.2.1 0, 40, .inl ft)), (qb, .inl (g.2.1 1, 16384, .inl ff)), (qy, .inl (g.2.1 0, 16384, .inl fd)), (qc, .inl (g.2.1 0, 16384, .inl fc))] hsz)) 0 0 (va_A [(m0, .inr (6, [.int th, .int (nI kn), .ref qf, .ref qu, .ref qz, .ref qd, .ref qx, .int (nI mn), .int has, .ref ql, .int (nI tn), .ref qg, .int cc, .ref qb, .ref qy, .ref qc, .int sp, .int rk, .ref qe, .ref qw, .ref qt, .ref qr, .ref qi])), (qz, .inl (g.2.1 0, 15, .inl fz)), (qx, .inl (g.2.1 1, 480, .inl fx)), (qw, .inl (g.2.1 0, 64, .inl fw)), (qt, .inl (g.2.1 0, 8, .inl fs)), (qe, .inl (g.2.1 1, 32, .inl fe)), (qr, .inl (g.2.1 0, 64, .inl fr9)), (qi, .inl (g.2.1 0, 8, .inl fb9)), (qf, .inl (g.2.1 0, 15, .inl kf)), (qu, .inl (g.2.1 0, 15, .inl ku)), (qg, .inl (g.2.1 0, 40, .inl ft)), (qb, .inl (g.2.1 1, 16384, .inl ff)), (qy, .inl (g.2.1 0, 16384, .inl fd)), (qc, .inl (g.2.1 0, 16384, .inl fc))] hsz) := by
  refine ofWi (cc := cX5_check) (maxL := 4) (ret := (some .int)) (by decide) rfl (Nat.le_of_ble_eq_true rfl) (fun p e s m below meth c hx hb hr hml hts hown hlocks hnm A H hH hA hP hD hK hZ hS ls hl => ?_)
  have hown : s.vm.findClass RX5 = some m.cls := hown
  have hl : lv_has ls 4 [(0, .ref m0), (1, .long (lN d))] := hl
  have tn0 : (nI 0).toInt = 0 := by decide
  have tn1 : (nI 1).toInt = 1 := by decide
  have tl0 : (lN 0).toInt = 0 := by decide
  have tl65535 : (lN 65535).toInt = 65535 := by decide
  have hiX5 : ∀ w ∈ wsX50, w ∈ wsX5_check := by decide +kernel
  have td := tl_n (n := d) (by omega)
  refine lv_aload_n hx hb dX5_check_0 rfl (lv_at hl 0 rfl) ?_
  refine lv_iconst (v := (nI 0)) hx hb dX5_check_1 (by decide) ?_
  refine va_put (D := g.1) (ci := 6) (v := .int (nI 0)) (ty := .int) (C := RX5) (T := TX5) (N := 23) hx hb hts hiX5 tyX5 tyX5_ok nmX5 hown hK.1 hP hD hS 0 rfl rfl 0 (by decide) (hts (.fieldLink RX5 136 "StampMakerModel" "thrown" "I") (by decide +kernel)) (fun _ h9 => h9) rfl (by decide +kernel) rfl rfl (Nat.le_of_ble_eq_true rfl) dX5_check_2 (fun H locs hP hD hS => ?_)
  have hP : va_P g.1 vwCl [(m0, .inr (6, [.int (nI 0), .int (nI kn), .ref qf, .ref qu, .ref qz, .ref qd, .ref qx, .int (nI mn), .int has, .ref ql, .int (nI tn), .ref qg, .int cc, .ref qb, .ref qy, .ref qc, .int sp, .int rk, .ref qe, .ref qw, .ref qt, .ref qr, .ref qi])), (qz, .inl (g.2.1 0, 15, .inl fz)), (qx, .inl (g.2.1 1, 480, .inl fx)), (qw, .inl (g.2.1 0, 64, .inl fw)), (qt, .inl (g.2.1 0, 8, .inl fs)), (qe, .inl (g.2.1 1, 32, .inl fe)), (qr, .inl (g.2.1 0, 64, .inl fr9)), (qi, .inl (g.2.1 0, 8, .inl fb9)), (qf, .inl (g.2.1 0, 15, .inl kf)), (qu, .inl (g.2.1 0, 15, .inl ku)), (qg, .inl (g.2.1 0, 40, .inl ft)), (qb, .inl (g.2.1 1, 16384, .inl ff)), (qy, .inl (g.2.1 0, 16384, .inl fd)), (qc, .inl (g.2.1 0, 16384, .inl fc))] H := hP
  have hD : va_D A [(m0, .inr (6, [.int (nI 0), .int (nI kn), .ref qf, .ref qu, .ref qz, .ref qd, .ref qx, .int (nI mn), .int has, .ref ql, .int (nI tn), .ref qg, .int cc, .ref qb, .ref qy, .ref qc, .int sp, .int rk, .ref qe, .ref qw, .ref qt, .ref qr, .ref qi])), (qz, .inl (g.2.1 0, 15, .inl fz)), (qx, .inl (g.2.1 1, 480, .inl fx)), (qw, .inl (g.2.1 0, 64, .inl fw)), (qt, .inl (g.2.1 0, 8, .inl fs)), (qe, .inl (g.2.1 1, 32, .inl fe)), (qr, .inl (g.2.1 0, 64, .inl fr9)), (qi, .inl (g.2.1 0, 8, .inl fb9)), (qf, .inl (g.2.1 0, 15, .inl kf)), (qu, .inl (g.2.1 0, 15, .inl ku)), (qg, .inl (g.2.1 0, 40, .inl ft)), (qb, .inl (g.2.1 1, 16384, .inl ff)), (qy, .inl (g.2.1 0, 16384, .inl fd)), (qc, .inl (g.2.1 0, 16384, .inl fc))] := hD
  refine lv_lload_n hx hb dX5_check_5 rfl (lv_at hl 1 rfl) ?_
  refine lv_lconst (v := lN 0) hx hb dX5_check_6 (by decide) ?_
  refine lv_ldc2 (v := (lN 65535)) hx hb hown (hts (.constantLong RX5 143 (lN 65535)) (by decide +kernel)) dX5_check_7 ?_
  refine cSi (rest := []) ⟨hx, hb, hml, hown, hts⟩ [.long (lN d), .long (lN 0), .long (lN 65535)] (c_X5_within l g (v := lN d) (lo := lN 0) (hi := lN 65535)) (va_cwS 3 hts gX5_check_X5_within rfl rfl rfl (by decide +kernel) ⟨Nat.le_of_ble_eq_true rfl, Nat.le_of_ble_eq_true rfl⟩) hK hZ hS (subP hP [] rfl) rfl hl.1 rfl (Nat.le_of_ble_eq_true rfl) dX5_check_10 ⟨Nat.zero_le _, Nat.zero_le _⟩ (fun r_250 hr_250 => ?_)
  obtain rfl : r_250 = (inI (lN d).toInt (lN 0).toInt (lN 65535).toInt) := hr_250
  refine lv_if_ne (tgt := 19) hx hb dX5_check_13 (by decide) (fun _ => ?_) (fun c9 => absurd c9 (by rw [inI_1 (by omega) (by omega)]; decide))
  refine lv_aload_n hx hb dX5_check_19 rfl (lv_at hl 0 rfl) ?_
  refine lv_dup hx hb dX5_check_20 rfl ?_
  refine va_get (D := g.1) (ci := 6) (v := .int cc) (C := RX5) (T := TX5) (N := 23) hx hb hts hiX5 hown hK.1 hP 0 rfl rfl 12 (by decide) (hts (.fieldLink RX5 205 "StampMakerModel" "checks" "I") (by decide +kernel)) (fun _ h9 => h9) rfl dX5_check_21 ?_
  refine lv_iconst (v := (nI 1)) hx hb dX5_check_24 (by decide) ?_
  refine lv_iadd hx hb dX5_check_25 ?_
  refine va_put (D := g.1) (ci := 6) (v := .int (cc + (nI 1))) (ty := .int) (C := RX5) (T := TX5) (N := 23) hx hb hts hiX5 tyX5 tyX5_ok nmX5 hown hK.1 hP hD hS 0 rfl rfl 12 (by decide) (hts (.fieldLink RX5 205 "StampMakerModel" "checks" "I") (by decide +kernel)) (fun _ h9 => h9) rfl (by decide +kernel) rfl rfl (Nat.le_of_ble_eq_true rfl) dX5_check_26 (fun H locs hP hD hS => ?_)
  have hP : va_P g.1 vwCl [(m0, .inr (6, [.int (nI 0), .int (nI kn), .ref qf, .ref qu, .ref qz, .ref qd, .ref qx, .int (nI mn), .int has, .ref ql, .int (nI tn), .ref qg, .int (cc + (nI 1)), .ref qb, .ref qy, .ref qc, .int sp, .int rk, .ref qe, .ref qw, .ref qt, .ref qr, .ref qi])), (qz, .inl (g.2.1 0, 15, .inl fz)), (qx, .inl (g.2.1 1, 480, .inl fx)), (qw, .inl (g.2.1 0, 64, .inl fw)), (qt, .inl (g.2.1 0, 8, .inl fs)), (qe, .inl (g.2.1 1, 32, .inl fe)), (qr, .inl (g.2.1 0, 64, .inl fr9)), (qi, .inl (g.2.1 0, 8, .inl fb9)), (qf, .inl (g.2.1 0, 15, .inl kf)), (qu, .inl (g.2.1 0, 15, .inl ku)), (qg, .inl (g.2.1 0, 40, .inl ft)), (qb, .inl (g.2.1 1, 16384, .inl ff)), (qy, .inl (g.2.1 0, 16384, .inl fd)), (qc, .inl (g.2.1 0, 16384, .inl fc))] H := hP
  have hD : va_D A [(m0, .inr (6, [.int (nI 0), .int (nI kn), .ref qf, .ref qu, .ref qz, .ref qd, .ref qx, .int (nI mn), .int has, .ref ql, .int (nI tn), .ref qg, .int (cc + (nI 1)), .ref qb, .ref qy, .ref qc, .int sp, .int rk, .ref qe, .ref qw, .ref qt, .ref qr, .ref qi])), (qz, .inl (g.2.1 0, 15, .inl fz)), (qx, .inl (g.2.1 1, 480, .inl fx)), (qw, .inl (g.2.1 0, 64, .inl fw)), (qt, .inl (g.2.1 0, 8, .inl fs)), (qe, .inl (g.2.1 1, 32, .inl fe)), (qr, .inl (g.2.1 0, 64, .inl fr9)), (qi, .inl (g.2.1 0, 8, .inl fb9)), (qf, .inl (g.2.1 0, 15, .inl kf)), (qu, .inl (g.2.1 0, 15, .inl ku)), (qg, .inl (g.2.1 0, 40, .inl ft)), (qb, .inl (g.2.1 1, 16384, .inl ff)), (qy, .inl (g.2.1 0, 16384, .inl fd)), (qc, .inl (g.2.1 0, 16384, .inl fc))] := hD
  refine lv_aload_n hx hb dX5_check_29 rfl (lv_at hl 0 rfl) ?_
  refine lv_lload_n hx hb dX5_check_30 rfl (lv_at hl 1 rfl) ?_
  refine lv_l2i hx hb dX5_check_31 rfl ?_
  refine lv_rei (x' := (nI d)) (l_i) ?_
  refine wVi (rest := []) ⟨hx, hb, hml, hown, hts⟩ [.int (nI d)] [0, 1, 2, 3, 4, 5, 6, 7, 8, 9, 10, 11, 12, 13] (c_X5_ro_go l g H.size (m0 := m0) (kn := kn) (mn := mn) (tn := tn) (qf := qf) (qu := qu) (qz := qz) (qd := qd) (qx := qx) (ql := ql) (qg := qg) (qb := qb) (qy := qy) (qc := qc) (qe := qe) (qw := qw) (qt := qt) (qr := qr) (qi := qi) (th := (nI 0)) (has := has) (cc := (cc + nI 1)) (sp := sp) (rk := rk) (kf := kf) (ku := ku) (fz := fz) (fx := fx) (fw := fw) (fs := fs) (fe := fe) (fr9 := fr9) (fb9 := fb9) (f := f) (nz := nz) (ft := ft) (ff := ff) (fd := fd) (fc := fc) (d := d) ht hlet hkn hdd hi hfz hz hf hr9 hb9 hok1 hok2 hok3) (cwV 1 hts gX5_check_X5_reasonOf rfl rfl rfl (by decide +kernel) ⟨Nat.le_of_ble_eq_true rfl, Nat.le_of_ble_eq_true rfl⟩) hK hZ hS hP hD hA rfl (by decide) (fun _ => Nat.le_of_ble_eq_true rfl) (fun _ => rfl) (va_recv hK.1 hP (ci := 6) (q0 := 0) rfl rfl) rfl hl.1 rfl (Nat.le_of_ble_eq_true rfl) dX5_check_32 ⟨Nat.le_of_ble_eq_true rfl, Nat.le_of_ble_eq_true rfl⟩ (fun z1 u H locs hz1 hP hD hS => ?_)
  obtain ⟨u1, u2, u3, u4, u5, u6, u7⟩ := u
  have hP : va_P g.1 vwCl [(m0, .inr (6, [.int (nI 0), .int (nI kn), .ref qf, .ref qu, .ref qz, .ref qd, .ref qx, .int (nI mn), .int has, .ref ql, .int (nI tn), .ref qg, .int (cc + nI 1), .ref qb, .ref qy, .ref qc, .int ((u1, u2, u3, u4, u5, u6, u7).2.2.2.1), .int (nI 1), .ref qe, .ref qw, .ref qt, .ref qr, .ref qi])), (qz, .inl (g.2.1 0, 15, .inl fz)), (qx, .inl (g.2.1 1, 480, .inl fx)), (qw, .inl (g.2.1 0, 64, .inl ((u1, u2, u3, u4, u5, u6, u7).1))), (qt, .inl (g.2.1 0, 8, .inl ((u1, u2, u3, u4, u5, u6, u7).2.1))), (qe, .inl (g.2.1 1, 32, .inl ((u1, u2, u3, u4, u5, u6, u7).2.2.1))), (qr, .inl (g.2.1 0, 64, .inl fr9)), (qi, .inl (g.2.1 0, 8, .inl fb9)), (qf, .inl (g.2.1 0, 15, .inl kf)), (qu, .inl (g.2.1 0, 15, .inl ku)), (qg, .inl (g.2.1 0, 40, .inl ft)), (qb, .inl (g.2.1 1, 16384, .inl ((u1, u2, u3, u4, u5, u6, u7).2.2.2.2.1))), (qy, .inl (g.2.1 0, 16384, .inl ((u1, u2, u3, u4, u5, u6, u7).2.2.2.2.2.1))), (qc, .inl (g.2.1 0, 16384, .inl ((u1, u2, u3, u4, u5, u6, u7).2.2.2.2.2.2)))] H := hP
  have hD : va_D A [(m0, .inr (6, [.int (nI 0), .int (nI kn), .ref qf, .ref qu, .ref qz, .ref qd, .ref qx, .int (nI mn), .int has, .ref ql, .int (nI tn), .ref qg, .int (cc + nI 1), .ref qb, .ref qy, .ref qc, .int ((u1, u2, u3, u4, u5, u6, u7).2.2.2.1), .int (nI 1), .ref qe, .ref qw, .ref qt, .ref qr, .ref qi])), (qz, .inl (g.2.1 0, 15, .inl fz)), (qx, .inl (g.2.1 1, 480, .inl fx)), (qw, .inl (g.2.1 0, 64, .inl ((u1, u2, u3, u4, u5, u6, u7).1))), (qt, .inl (g.2.1 0, 8, .inl ((u1, u2, u3, u4, u5, u6, u7).2.1))), (qe, .inl (g.2.1 1, 32, .inl ((u1, u2, u3, u4, u5, u6, u7).2.2.1))), (qr, .inl (g.2.1 0, 64, .inl fr9)), (qi, .inl (g.2.1 0, 8, .inl fb9)), (qf, .inl (g.2.1 0, 15, .inl kf)), (qu, .inl (g.2.1 0, 15, .inl ku)), (qg, .inl (g.2.1 0, 40, .inl ft)), (qb, .inl (g.2.1 1, 16384, .inl ((u1, u2, u3, u4, u5, u6, u7).2.2.2.2.1))), (qy, .inl (g.2.1 0, 16384, .inl ((u1, u2, u3, u4, u5, u6, u7).2.2.2.2.2.1))), (qc, .inl (g.2.1 0, 16384, .inl ((u1, u2, u3, u4, u5, u6, u7).2.2.2.2.2.2)))] := hD
  have hP : va_P g.1 vwCl [(m0, .inr (6, [.int (nI 0), .int (nI kn), .ref qf, .ref qu, .ref qz, .ref qd, .ref qx, .int (nI mn), .int has, .ref ql, .int (nI tn), .ref qg, .int (cc + nI 1), .ref qb, .ref qy, .ref qc, .int u4, .int (nI 1), .ref qe, .ref qw, .ref qt, .ref qr, .ref qi])), (qz, .inl (g.2.1 0, 15, .inl fz)), (qx, .inl (g.2.1 1, 480, .inl fx)), (qw, .inl (g.2.1 0, 64, .inl u1)), (qt, .inl (g.2.1 0, 8, .inl u2)), (qe, .inl (g.2.1 1, 32, .inl u3)), (qr, .inl (g.2.1 0, 64, .inl fr9)), (qi, .inl (g.2.1 0, 8, .inl fb9)), (qf, .inl (g.2.1 0, 15, .inl kf)), (qu, .inl (g.2.1 0, 15, .inl ku)), (qg, .inl (g.2.1 0, 40, .inl ft)), (qb, .inl (g.2.1 1, 16384, .inl u5)), (qy, .inl (g.2.1 0, 16384, .inl u6)), (qc, .inl (g.2.1 0, 16384, .inl u7))] H := hP
  have hD : va_D A [(m0, .inr (6, [.int (nI 0), .int (nI kn), .ref qf, .ref qu, .ref qz, .ref qd, .ref qx, .int (nI mn), .int has, .ref ql, .int (nI tn), .ref qg, .int (cc + nI 1), .ref qb, .ref qy, .ref qc, .int u4, .int (nI 1), .ref qe, .ref qw, .ref qt, .ref qr, .ref qi])), (qz, .inl (g.2.1 0, 15, .inl fz)), (qx, .inl (g.2.1 1, 480, .inl fx)), (qw, .inl (g.2.1 0, 64, .inl u1)), (qt, .inl (g.2.1 0, 8, .inl u2)), (qe, .inl (g.2.1 1, 32, .inl u3)), (qr, .inl (g.2.1 0, 64, .inl fr9)), (qi, .inl (g.2.1 0, 8, .inl fb9)), (qf, .inl (g.2.1 0, 15, .inl kf)), (qu, .inl (g.2.1 0, 15, .inl ku)), (qg, .inl (g.2.1 0, 40, .inl ft)), (qb, .inl (g.2.1 1, 16384, .inl u5)), (qy, .inl (g.2.1 0, 16384, .inl u6)), (qc, .inl (g.2.1 0, 16384, .inl u7))] := hD
  obtain ⟨e0, e1, e2, e3, e4, e5⟩ := hz1
  refine lv_istore_n (lv' := [(3, .int z1), (0, .ref m0), (1, .long (lN d))]) hx hb dX5_check_35 rfl hl (by decide) rfl (fun ls hl => ?_)
  refine lv_aload_n hx hb dX5_check_36 rfl (lv_at hl 1 rfl) ?_
  refine lv_iconst (v := (nI 0)) hx hb dX5_check_37 (by decide) ?_
  refine va_put (D := g.1) (ci := 6) (v := .int (nI 0)) (ty := .int) (C := RX5) (T := TX5) (N := 23) hx hb hts hiX5 tyX5 tyX5_ok nmX5 hown hK.1 hP hD hS 0 rfl rfl 10 (by decide) (hts (.fieldLink RX5 202 "StampMakerModel" "typed" "I") (by decide +kernel)) (fun _ h9 => h9) rfl (by decide +kernel) rfl rfl (Nat.le_of_ble_eq_true rfl) dX5_check_38 (fun H locs hP hD hS => ?_)
  have hP : va_P g.1 vwCl [(m0, .inr (6, [.int (nI 0), .int (nI kn), .ref qf, .ref qu, .ref qz, .ref qd, .ref qx, .int (nI mn), .int has, .ref ql, .int (nI 0), .ref qg, .int (cc + nI 1), .ref qb, .ref qy, .ref qc, .int u4, .int (nI 1), .ref qe, .ref qw, .ref qt, .ref qr, .ref qi])), (qz, .inl (g.2.1 0, 15, .inl fz)), (qx, .inl (g.2.1 1, 480, .inl fx)), (qw, .inl (g.2.1 0, 64, .inl u1)), (qt, .inl (g.2.1 0, 8, .inl u2)), (qe, .inl (g.2.1 1, 32, .inl u3)), (qr, .inl (g.2.1 0, 64, .inl fr9)), (qi, .inl (g.2.1 0, 8, .inl fb9)), (qf, .inl (g.2.1 0, 15, .inl kf)), (qu, .inl (g.2.1 0, 15, .inl ku)), (qg, .inl (g.2.1 0, 40, .inl ft)), (qb, .inl (g.2.1 1, 16384, .inl u5)), (qy, .inl (g.2.1 0, 16384, .inl u6)), (qc, .inl (g.2.1 0, 16384, .inl u7))] H := hP
  have hD : va_D A [(m0, .inr (6, [.int (nI 0), .int (nI kn), .ref qf, .ref qu, .ref qz, .ref qd, .ref qx, .int (nI mn), .int has, .ref ql, .int (nI 0), .ref qg, .int (cc + nI 1), .ref qb, .ref qy, .ref qc, .int u4, .int (nI 1), .ref qe, .ref qw, .ref qt, .ref qr, .ref qi])), (qz, .inl (g.2.1 0, 15, .inl fz)), (qx, .inl (g.2.1 1, 480, .inl fx)), (qw, .inl (g.2.1 0, 64, .inl u1)), (qt, .inl (g.2.1 0, 8, .inl u2)), (qe, .inl (g.2.1 1, 32, .inl u3)), (qr, .inl (g.2.1 0, 64, .inl fr9)), (qi, .inl (g.2.1 0, 8, .inl fb9)), (qf, .inl (g.2.1 0, 15, .inl kf)), (qu, .inl (g.2.1 0, 15, .inl ku)), (qg, .inl (g.2.1 0, 40, .inl ft)), (qb, .inl (g.2.1 1, 16384, .inl u5)), (qy, .inl (g.2.1 0, 16384, .inl u6)), (qc, .inl (g.2.1 0, 16384, .inl u7))] := hD
  refine lv_iload_n hx hb dX5_check_41 rfl (lv_at hl 0 rfl) ?_
  refine lv_if_ne (tgt := 49) hx hb dX5_check_42 (by decide) (fun ce => ?_) (fun ce => ?_)
  · refine lv_iconst (v := (-1)) hx hb dX5_check_49 (by decide) ?_
    refine lv_iload_n hx hb dX5_check_50 rfl (lv_at hl 0 rfl) ?_
    refine lv_isub hx hb dX5_check_51 ?_
    exact endWi (u1, u2, u3, u4, u5, u6, u7) hx hb hr hlocks hS dX5_check_52 hP hD (by
          refine ⟨?_, e1, e2, e3, e4, e5⟩
          rw [← rs_ck, ← e0, if_neg ce])
  · refine lv_iconst (v := (nI 1)) hx hb dX5_check_45 (by decide) ?_
    refine lv_goto (tgt := 52) hx hb dX5_check_46 (by decide) ?_
    exact endWi (u1, u2, u3, u4, u5, u6, u7) hx hb hr hlocks hS dX5_check_52 hP hD (by
          refine ⟨?_, e1, e2, e3, e4, e5⟩
          rw [← rs_ck, ← e0, if_pos ce])
