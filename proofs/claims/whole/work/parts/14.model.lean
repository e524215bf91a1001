theorem inI_nar (z lo hi : Int) : narrow .boolean (.int (inI z lo hi)) = .int (inI z lo hi) := by
  unfold inI
  split <;> rfl
theorem oB_nar (x : Int32) (n : Nat) : vp_nar .byte (oB x n) = oB x n := pk_vb _
theorem wF_stab (M : Nat → Int32) {n j : Nat} (h : j < 16 + n) : wF M (n + 1) j = wF M n j := by
  rw [wF]
  simp only [upd, if_neg (show ¬ j = 16 + n by omega)]
theorem wF_far (M : Nat → Int32) {n j : Nat} (h : j < 16 + n) : ∀ k, wF M (n + k) j = wF M n j
  | 0 => rfl
  | k + 1 => by rw [show n + (k + 1) = (n + k) + 1 by omega, wF_stab M (by omega), wF_far M h k]
theorem wF_low (M : Nat → Int32) {j : Nat} (h : j < 16) (n : Nat) : wF M n j = M j := by
  have := wF_far M (n := 0) (j := j) (by omega) n
  rw [Nat.zero_add] at this
  exact this
theorem wF_val (M : Nat → Int32) {t : Nat} (h1 : 16 ≤ t) (h2 : t < 64) : wF M 48 t = stE (wF M 48) t := by
  obtain ⟨k, rfl⟩ : ∃ k, t = 16 + k := ⟨t - 16, by omega⟩
  have e1 : wF M 48 (16 + k) = wF M (k + 1) (16 + k) := by
    have := wF_far M (n := k + 1) (j := 16 + k) (by omega) (48 - (k + 1))
    rwa [show k + 1 + (48 - (k + 1)) = 48 by omega] at this
  rw [e1, wF]
  simp only [upd, if_true]
  refine stE_cong (by omega) (fun j hj => ?_)
  have := wF_far M (n := k) (j := j) hj (48 - k)
  rw [show k + (48 - k) = 48 by omega] at this
  exact this.symm
theorem shS {F G : Nat → Int32} {k : Nat} {x : Int32} (h : ∀ e, e < 8 → F e = if k + 1 ≤ e then G (e - 1) else G e) (hx : x = G (k - 1)) : ∀ e, e < 8 → upd F k x e = if k ≤ e then G (e - 1) else G e := by
  intro e he
  unfold upd
  by_cases q : e = k
  · subst q
    rw [if_pos rfl, if_pos (Nat.le_refl _), hx]
  · rw [if_neg q, h e he]
    by_cases q2 : k + 1 ≤ e
    · rw [if_pos q2, if_pos (by omega)]
    · rw [if_neg q2, if_neg (by omega)]
theorem finS {F W : Nat → Int32} {t : Nat} (h : ∀ e, e < 8 → F e = if 1 ≤ e then rN W t (e - 1) else rN W t e) : ∀ e, e < 8 → upd (upd F 4 (rN W (t + 1) 4)) 0 (rN W (t + 1) 0) e = rN W (t + 1) e := by
  intro e he
  unfold upd
  by_cases q : e = 0
  · rw [if_pos q, q]
  · rw [if_neg q]
    by_cases q2 : e = 4
    · rw [if_pos q2, q2]
    · rw [if_neg q2, h e he, if_pos (by omega)]
      show _ = rnd (sK t) (W t) (rN W t) e
      unfold rnd
      rw [if_neg q, if_neg q2]
set_option maxHeartbeats 4000000 in
set_option maxRecDepth 100000 in
/-- did it throw -/
theorem c_X5_thrown (l : Launch) (g : gE) (m0 kn mn tn qf qu qz qd qx ql qg qb qy qc qe qw qt qr qi : Nat) (th has cc sp rk : Int32)  : Met l yX5_thrown wsX5_thrown ({ frames := 0, cells := 0, slots := 0, locals := 0 }) (va_Pc [.ref m0] (ro g [(m0, .inr (6, [.int th, .int (nI kn), .ref qf, .ref qu, .ref qz, .ref qd, .ref qx, .int (nI mn), .int has, .ref ql, .int (nI tn), .ref qg, .int cc, .ref qb, .ref qy, .ref qc, .int sp, .int rk, .ref qe, .ref qw, .ref qt, .ref qr, .ref qi]))])) (vp_Si (fun r : Int32 => r = th)) 0 0 nA := by
  refine ofRo (cc := cX5_thrown) (maxL := 1) (ret := (some .int)) (by decide) rfl (Nat.le_of_ble_eq_true rfl) (fun p e s m below meth c hx hb hr hml hts hown hlocks hnm hP hK hZ hS ls hl => ?_)
  have hown : s.vm.findClass RX5 = some m.cls := hown
  have hl : lv_has ls 1 [(0, .ref m0)] := hl
  have hiX5 : ∀ w ∈ wsX50, w ∈ wsX5_thrown := by decide +kernel
  refine lv_aload_n hx hb dX5_thrown_0 rfl (lv_at hl 0 rfl) ?_
  refine va_get (D := g.1) (ci := 6) (v := .int th) (C := RX5) (T := TX5) (N := 23) hx hb hts hiX5 hown hK.1 hP 0 rfl rfl 0 (by decide) (hts (.fieldLink RX5 136 "StampMakerModel" "thrown" "I") (by decide +kernel)) (fun _ h9 => h9) rfl dX5_thrown_1 ?_
  exact endRi hx hb hr hlocks dX5_thrown_4 (rfl)

set_option maxHeartbeats 4000000 in
set_option maxRecDepth 100000 in
/-- is there such a key -/
theorem c_X5_isKey (l : Launch) (g : gE) (m0 kn mn tn qf qu qz qd qx ql qg qb qy qc qe qw qt qr qi : Nat) (th has cc sp rk : Int32) (x : Int32) (hkn : kn ≤ 15) : Met l yX5_isKey wsX5_isKey ({ frames := 1, cells := 0, slots := 0, locals := 25 }) (va_Pc [.ref m0, .int x] (ro g [(m0, .inr (6, [.int th, .int (nI kn), .ref qf, .ref qu, .ref qz, .ref qd, .ref qx, .int (nI mn), .int has, .ref ql, .int (nI tn), .ref qg, .int cc, .ref qb, .ref qy, .ref qc, .int sp, .int rk, .ref qe, .ref qw, .ref qt, .ref qr, .ref qi]))])) (vp_Si (fun r : Int32 => r = inI x.toInt 0 ((kn : Int) - 1))) 0 0 nA := by
  refine ofRo (cc := cX5_isKey) (maxL := 2) (ret := (some .boolean)) (by decide) rfl (Nat.le_of_ble_eq_true rfl) (fun p e s m below meth c hx hb hr hml hts hown hlocks hnm hP hK hZ hS ls hl => ?_)
  have hown : s.vm.findClass RX5 = some m.cls := hown
  have hl : lv_has ls 2 [(0, .ref m0), (1, .int x)] := hl
  have tn1 : (nI 1).toInt = 1 := by decide
  have tl0 : (lN 0).toInt = 0 := by decide
  have hiX5 : ∀ w ∈ wsX50, w ∈ wsX5_isKey := by decide +kernel
  refine lv_iload_n hx hb dX5_isKey_0 rfl (lv_at hl 1 rfl) ?_
  refine lv_i2l hx hb dX5_isKey_1 rfl ?_
  refine lv_lconst (v := lN 0) hx hb dX5_isKey_2 (by decide) ?_
  refine lv_aload_n hx hb dX5_isKey_3 rfl (lv_at hl 0 rfl) ?_
  refine va_get (D := g.1) (ci := 6) (v := .int (nI kn)) (C := RX5) (T := TX5) (N := 23) hx hb hts hiX5 hown hK.1 hP 0 rfl rfl 1 (by decide) (hts (.fieldLink RX5 133 "StampMakerModel" "keys" "I") (by decide +kernel)) (fun _ h9 => h9) rfl dX5_isKey_4 ?_
  refine lv_iconst (v := (nI 1)) hx hb dX5_isKey_7 (by decide) ?_
  refine lv_isub hx hb dX5_isKey_8 ?_
  refine lv_i2l hx hb dX5_isKey_9 rfl ?_
  refine cSi (rest := []) ⟨hx, hb, hml, hown, hts⟩ [.long x.toInt64, .long (lN 0), .long ((nI kn - nI 1).toInt64)] (c_X5_within l g (v := x.toInt64) (lo := (lN 0)) (hi := ((nI kn - nI 1).toInt64))) (va_cwS 3 hts gX5_isKey_X5_within rfl rfl rfl (by decide +kernel) ⟨Nat.le_of_ble_eq_true rfl, Nat.le_of_ble_eq_true rfl⟩) hK hZ hS (subP hP [] rfl) rfl hl.1 rfl (Nat.le_of_ble_eq_true rfl) dX5_isKey_10 ⟨Nat.zero_le _, Nat.zero_le _⟩ (fun r_167 hr_167 => ?_)
  obtain rfl : r_167 = (inI (x.toInt64).toInt (lN 0).toInt ((nI kn - nI 1).toInt64).toInt) := hr_167
  refine lv_rei (x' := (inI x.toInt 0 ((kn : Int) - 1))) (by rw [Int32.toInt_toInt64, Int32.toInt_toInt64, pk_sub_toInt (by omega) (by omega), tl0]; rfl) ?_
  exact endRz hx hb hr hlocks dX5_isKey_13 (inI_nar _ _ _) (rfl)

set_option maxHeartbeats 4000000 in
set_option maxRecDepth 100000 in
/-- out of range -/
theorem c_X5_key_dom (l : Launch) (g : gE) (hsz : Nat) (m0 kn mn tn qf qu qz qd qx ql qg qb qy qc qe qw qt qr qi : Nat) (th has cc sp rk : Int32) (x y : Int64) (hd : ¬ (0 ≤ x.toInt ∧ x.toInt ≤ y.toInt ∧ y.toInt ≤ 65535)) : Met l yX5_key wsX5_key ({ frames := 0, cells := 0, slots := 0, locals := 0 }) (va_Pc [.ref m0, .long x, .long y] (wr g [(m0, .inr (6, [.int th, .int (nI kn), .ref qf, .ref qu, .ref qz, .ref qd, .ref qx, .int (nI mn), .int has, .ref ql, .int (nI tn), .ref qg, .int cc, .ref qb, .ref qy, .ref qc, .int sp, .int rk, .ref qe, .ref qw, .ref qt, .ref qr, .ref qi]))] hsz)) (va_Qi (fun (r : Int32) (u : Unit) => r = -22) (wB g (va_A [(m0, .inr (6, [.int th, .int (nI kn), .ref qf, .ref qu, .ref qz, .ref qd, .ref qx, .int (nI mn), .int has, .ref ql, .int (nI tn), .ref qg, .int cc, .ref qb, .ref qy, .ref qc, .int sp, .int rk, .ref qe, .ref qw, .ref qt, .ref qr, .ref qi]))] hsz) (fun u : Unit => [(m0, .inr (6, [.int (nI 0), .int (nI kn), .ref qf, .ref qu, .ref qz, .ref qd, .ref qx, .int (nI mn), .int has, .ref ql, .int (nI tn), .ref qg, .int cc, .ref qb, .ref qy, .ref qc, .int sp, .int rk, .ref qe, .ref qw, .ref qt, .ref qr, .ref qi]))])) (va_A [(m0, .inr (6, [.int th, .int (nI kn), .ref qf, .ref qu, .ref qz, .ref qd, .ref qx, .int (nI mn), .int has, .ref ql, .int (nI tn), .ref qg, .int cc, .ref qb, .ref qy, .ref qc, .int sp, .int rk, .ref qe, .ref qw, .ref qt, .ref qr, .ref qi]))] hsz)) 0 0 (va_A [(m0, .inr (6, [.int th, .int (nI kn), .ref qf, .ref qu, .ref qz, .ref qd, .ref qx, .int (nI mn), .int has, .ref ql, .int (nI tn), .ref qg, .int cc, .ref qb, .ref qy, .ref qc, .int sp, .int rk, .ref qe, .ref qw, .ref qt, .ref qr, .ref qi]))] hsz) := by
  refine ofWi (cc := cX5_key) (maxL := 5) (ret := (some .int)) (by decide) rfl (Nat.le_of_ble_eq_true rfl) (fun p e s m below meth c hx hb hr hml hts hown hlocks hnm A H hH hA hP hD hK hZ hS ls hl => ?_)
  have hown : s.vm.findClass RX5 = some m.cls := hown
  have hl : lv_has ls 5 [(0, .ref m0), (1, .long x), (3, .long y)] := hl
  have tn0 : (nI 0).toInt = 0 := by decide
  have tn1 : (nI 1).toInt = 1 := by decide
  have tn15 : (nI 15).toInt = 15 := by decide
  have tl0 : (lN 0).toInt = 0 := by decide
  have tl65535 : (lN 65535).toInt = 65535 := by decide
  have hiX5 : ∀ w ∈ wsX50, w ∈ wsX5_key := by decide +kernel
  refine lv_aload_n hx hb dX5_key_0 rfl (lv_at hl 0 rfl) ?_
  refine lv_iconst (v := (nI 0)) hx hb dX5_key_1 (by decide) ?_
  refine va_put (D := g.1) (ci := 6) (v := .int (nI 0)) (ty := .int) (C := RX5) (T := TX5) (N := 23) hx hb hts hiX5 tyX5 tyX5_ok nmX5 hown hK.1 hP hD hS 0 rfl rfl 0 (by decide) (hts (.fieldLink RX5 136 "StampMakerModel" "thrown" "I") (by decide +kernel)) (fun _ h9 => h9) rfl (by decide +kernel) rfl rfl (Nat.le_of_ble_eq_true rfl) dX5_key_2 (fun H locs hP hD hS => ?_)
  have hP : va_P g.1 vwCl [(m0, .inr (6, [.int (nI 0), .int (nI kn), .ref qf, .ref qu, .ref qz, .ref qd, .ref qx, .int (nI mn), .int has, .ref ql, .int (nI tn), .ref qg, .int cc, .ref qb, .ref qy, .ref qc, .int sp, .int rk, .ref qe, .ref qw, .ref qt, .ref qr, .ref qi]))] H := hP
  have hD : va_D A [(m0, .inr (6, [.int (nI 0), .int (nI kn), .ref qf, .ref qu, .ref qz, .ref qd, .ref qx, .int (nI mn), .int has, .ref ql, .int (nI tn), .ref qg, .int cc, .ref qb, .ref qy, .ref qc, .int sp, .int rk, .ref qe, .ref qw, .ref qt, .ref qr, .ref qi]))] := hD
  refine lv_lload_n hx hb dX5_key_5 rfl (lv_at hl 1 rfl) ?_
  refine lv_lconst (v := lN 0) hx hb dX5_key_6 (by decide) ?_
  refine W.lcmp hx hb dX5_key_7 ?_
  refine lv_if_lt (tgt := 25) hx hb dX5_key_8 (by decide) (fun c_168 => ?_) (fun c_168 => ?_)
  · refine lv_bipush (v := (-22)) hx hb dX5_key_25 (by decide) ?_
    exact endWi () hx hb hr hlocks hS dX5_key_27 hP hD (rfl)
  · refine lv_lload_n hx hb dX5_key_11 rfl (lv_at hl 2 rfl) ?_
    refine lv_lload_n hx hb dX5_key_12 rfl (lv_at hl 1 rfl) ?_
    refine W.lcmp hx hb dX5_key_13 ?_
    refine lv_if_lt (tgt := 25) hx hb dX5_key_14 (by decide) (fun c_169 => ?_) (fun c_169 => ?_)
    · refine lv_bipush (v := (-22)) hx hb dX5_key_25 (by decide) ?_
      exact endWi () hx hb hr hlocks hS dX5_key_27 hP hD (rfl)
    · refine lv_lload_n hx hb dX5_key_17 rfl (lv_at hl 2 rfl) ?_
      refine lv_ldc2 (v := (lN 65535)) hx hb hown (hts (.constantLong RX5 143 (lN 65535)) (by decide +kernel)) dX5_key_18 ?_
      refine W.lcmp hx hb dX5_key_21 ?_
      refine lv_if_le (tgt := 28) hx hb dX5_key_22 (by decide) (fun c_170 => ?_) (fun c_170 => ?_)
      · exact absurd (by simp only [lc_lt, lc_le] at c_168 c_169 c_170; omega) hd
      · refine lv_bipush (v := (-22)) hx hb dX5_key_25 (by decide) ?_
        exact endWi () hx hb hr hlocks hS dX5_key_27 hP hD (rfl)

set_option maxHeartbeats 4000000 in
set_option maxRecDepth 100000 in
/-- no room -/
theorem c_X5_key_room (l : Launch) (g : gE) (hsz : Nat) (m0 kn mn tn qf qu qz qd qx ql qg qb qy qc qe qw qt qr qi : Nat) (th has cc sp rk : Int32) (x y : Int64) (hd : 0 ≤ x.toInt ∧ x.toInt ≤ y.toInt ∧ y.toInt ≤ 65535) (hkn : kn = 15) : Met l yX5_key wsX5_key ({ frames := 0, cells := 0, slots := 0, locals := 0 }) (va_Pc [.ref m0, .long x, .long y] (wr g [(m0, .inr (6, [.int th, .int (nI kn), .ref qf, .ref qu, .ref qz, .ref qd, .ref qx, .int (nI mn), .int has, .ref ql, .int (nI tn), .ref qg, .int cc, .ref qb, .ref qy, .ref qc, .int sp, .int rk, .ref qe, .ref qw, .ref qt, .ref qr, .ref qi]))] hsz)) (va_Qi (fun (r : Int32) (u : Unit) => r = -24) (wB g (va_A [(m0, .inr (6, [.int th, .int (nI kn), .ref qf, .ref qu, .ref qz, .ref qd, .ref qx, .int (nI mn), .int has, .ref ql, .int (nI tn), .ref qg, .int cc, .ref qb, .ref qy, .ref qc, .int sp, .int rk, .ref qe, .ref qw, .ref qt, .ref qr, .ref qi]))] hsz) (fun u : Unit => [(m0, .inr (6, [.int (nI 0), .int (nI kn), .ref qf, .ref qu, .ref qz, .ref qd, .ref qx, .int (nI mn), .int has, .ref ql, .int (nI tn), .ref qg, .int cc, .ref qb, .ref qy, .ref qc, .int sp, .int rk, .ref qe, .ref qw, .ref qt, .ref qr, .ref qi]))])) (va_A [(m0, .inr (6, [.int th, .int (nI kn), .ref qf, .ref qu, .ref qz, .ref qd, .ref qx, .int (nI mn), .int has, .ref ql, .int (nI tn), .ref qg, .int cc, .ref qb, .ref qy, .ref qc, .int sp, .int rk, .ref qe, .ref qw, .ref qt, .ref qr, .ref qi]))] hsz)) 0 0 (va_A [(m0, .inr (6, [.int th, .int (nI kn), .ref qf, .ref qu, .ref qz, .ref qd, .ref qx, .int (nI mn), .int has, .ref ql, .int (nI tn), .ref qg, .int cc, .ref qb, .ref qy, .ref qc, .int sp, .int rk, .ref qe, .ref qw, .ref qt, .ref qr, .ref qi]))] hsz) := by
  refine ofWi (cc := cX5_key) (maxL := 5) (ret := (some .int)) (by decide) rfl (Nat.le_of_ble_eq_true rfl) (fun p e s m below meth c hx hb hr hml hts hown hlocks hnm A H hH hA hP hD hK hZ hS ls hl => ?_)
  have hown : s.vm.findClass RX5 = some m.cls := hown
  have hl : lv_has ls 5 [(0, .ref m0), (1, .long x), (3, .long y)] := hl
  have tn0 : (nI 0).toInt = 0 := by decide
  have tn1 : (nI 1).toInt = 1 := by decide
  have tn15 : (nI 15).toInt = 15 := by decide
  have tl0 : (lN 0).toInt = 0 := by decide
  have tl65535 : (lN 65535).toInt = 65535 := by decide
  have hiX5 : ∀ w ∈ wsX50, w ∈ wsX5_key := by decide +kernel
  refine lv_aload_n hx hb dX5_key_0 rfl (lv_at hl 0 rfl) ?_
  refine lv_iconst (v := (nI 0)) hx hb dX5_key_1 (by decide) ?_
  refine va_put (D := g.1) (ci := 6) (v := .int (nI 0)) (ty := .int) (C := RX5) (T := TX5) (N := 23) hx hb hts hiX5 tyX5 tyX5_ok nmX5 hown hK.1 hP hD hS 0 rfl rfl 0 (by decide) (hts (.fieldLink RX5 136 "StampMakerModel" "thrown" "I") (by decide +kernel)) (fun _ h9 => h9) rfl (by decide +kernel) rfl rfl (Nat.le_of_ble_eq_true rfl) dX5_key_2 (fun H locs hP hD hS => ?_)
  have hP : va_P g.1 vwCl [(m0, .inr (6, [.int (nI 0), .int (nI kn), .ref qf, .ref qu, .ref qz, .ref qd, .ref qx, .int (nI mn), .int has, .ref ql, .int (nI tn), .ref qg, .int cc, .ref qb, .ref qy, .ref qc, .int sp, .int rk, .ref qe, .ref qw, .ref qt, .ref qr, .ref qi]))] H := hP
  have hD : va_D A [(m0, .inr (6, [.int (nI 0), .int (nI kn), .ref qf, .ref qu, .ref qz, .ref qd, .ref qx, .int (nI mn), .int has, .ref ql, .int (nI tn), .ref qg, .int cc, .ref qb, .ref qy, .ref qc, .int sp, .int rk, .ref qe, .ref qw, .ref qt, .ref qr, .ref qi]))] := hD
  refine lv_lload_n hx hb dX5_key_5 rfl (lv_at hl 1 rfl) ?_
  refine lv_lconst (v := lN 0) hx hb dX5_key_6 (by decide) ?_
  refine W.lcmp hx hb dX5_key_7 ?_
  refine lv_if_lt (tgt := 25) hx hb dX5_key_8 (by decide) (fun c9 => absurd c9 (by rw [lc_lt]; omega)) (fun _ => ?_)
  refine lv_lload_n hx hb dX5_key_11 rfl (lv_at hl 2 rfl) ?_
  refine lv_lload_n hx hb dX5_key_12 rfl (lv_at hl 1 rfl) ?_
  refine W.lcmp hx hb dX5_key_13 ?_
  refine lv_if_lt (tgt := 25) hx hb dX5_key_14 (by decide) (fun c9 => absurd c9 (by rw [lc_lt]; omega)) (fun _ => ?_)
  refine lv_lload_n hx hb dX5_key_17 rfl (lv_at hl 2 rfl) ?_
  refine lv_ldc2 (v := (lN 65535)) hx hb hown (hts (.constantLong RX5 143 (lN 65535)) (by decide +kernel)) dX5_key_18 ?_
  refine W.lcmp hx hb dX5_key_21 ?_
  refine lv_if_le (tgt := 28) hx hb dX5_key_22 (by decide) (fun _ => ?_) (fun c9 => absurd (by rw [lc_le]; omega) c9)
  refine lv_aload_n hx hb dX5_key_28 rfl (lv_at hl 0 rfl) ?_
  refine va_get (D := g.1) (ci := 6) (v := .int (nI kn)) (C := RX5) (T := TX5) (N := 23) hx hb hts hiX5 hown hK.1 hP 0 rfl rfl 1 (by decide) (hts (.fieldLink RX5 133 "StampMakerModel" "keys" "I") (by decide +kernel)) (fun _ h9 => h9) rfl dX5_key_29 ?_
  refine lv_bipush (v := (nI 15)) hx hb dX5_key_32 (by decide) ?_
  refine lv_icmp_ne (tgt := 40) hx hb dX5_key_34 (by decide) (fun c9 => absurd (by rw [hkn]) c9) (fun _ => ?_)
  refine lv_bipush (v := (-24)) hx hb dX5_key_37 (by decide) ?_
  exact endWi () hx hb hr hlocks hS dX5_key_39 hP hD (rfl)

set_option maxHeartbeats 4000000 in
set_option maxRecDepth 100000 in
/-- a key more -/
theorem c_X5_key_yes (l : Launch) (g : gE) (hsz : Nat) (m0 kn mn tn qf qu qz qd qx ql qg qb qy qc qe qw qt qr qi : Nat) (th has cc sp rk : Int32) (kf ku : Nat → Int32) (x y : Int64) (hd : 0 ≤ x.toInt ∧ x.toInt ≤ y.toInt ∧ y.toInt ≤ 65535) (hkn : kn < 15) : Met l yX5_key wsX5_key ({ frames := 0, cells := 0, slots := 0, locals := 0 }) (va_Pc [.ref m0, .long x, .long y] (wr g [(m0, .inr (6, [.int th, .int (nI kn), .ref qf, .ref qu, .ref qz, .ref qd, .ref qx, .int (nI mn), .int has, .ref ql, .int (nI tn), .ref qg, .int cc, .ref qb, .ref qy, .ref qc, .int sp, .int rk, .ref qe, .ref qw, .ref qt, .ref qr, .ref qi])), (qf, .inl (g.2.1 0, 15, .inl kf)), (qu, .inl (g.2.1 0, 15, .inl ku))] hsz)) (va_Qi (fun (r : Int32) (u : Unit) => r = nI kn) (wB g (va_A [(m0, .inr (6, [.int th, .int (nI kn), .ref qf, .ref qu, .ref qz, .ref qd, .ref qx, .int (nI mn), .int has, .ref ql, .int (nI tn), .ref qg, .int cc, .ref qb, .ref qy, .ref qc, .int sp, .int rk, .ref qe, .ref qw, .ref qt, .ref qr, .ref qi])), (qf, .inl (g.2.1 0, 15, .inl kf)), (qu, .inl (g.2.1 0, 15, .inl ku))] hsz) (fun u : Unit => [(m0, .inr (6, [.int (nI 0), .int (nI (kn + 1)), .ref qf, .ref qu, .ref qz, .ref qd, .ref qx, .int (nI mn), .int has, .ref ql, .int (nI tn), .ref qg, .int cc, .ref qb, .ref qy, .ref qc, .int sp, .int rk, .ref qe, .ref qw, .ref qt, .ref qr, .ref qi])), (qf, .inl (g.2.1 0, 15, .inl (upd kf kn (x.toInt32)))), (qu, .inl (g.2.1 0, 15, .inl (upd ku kn (y.toInt32))))])) (va_A [(m0, .inr (6, [.int th, .int (nI kn), .ref qf, .ref qu, .ref qz, .ref qd, .ref qx, .int (nI mn), .int has, .ref ql, .int (nI tn), .ref qg, .int cc, .ref qb, .ref qy, .ref qc, .int sp, .int rk, .ref qe, .ref qw, .ref qt, .ref qr, .ref qi])), (qf, .inl (g.2.1 0, 15, .inl kf)), (qu, .inl (g.2.1 0, 15, .inl ku))] hsz)) 0 0 (va_A [(m0, .inr (6, [.int th, .int (nI kn), .ref qf, .ref qu, .ref qz, .ref qd, .ref qx, .int (nI mn), .int has, .ref ql, .int (nI tn), .ref qg, .int cc, .ref qb, .ref qy, .ref qc, .int sp, .int rk, .ref qe, .ref qw, .ref qt, .ref qr, .ref qi])), (qf, .inl (g.2.1 0, 15, .inl kf)), (qu, .inl (g.2.1 0, 15, .inl ku))] hsz) := by
  refine ofWi (cc := cX5_key) (maxL := 5) (ret := (some .int)) (by decide) rfl (Nat.le_of_ble_eq_true rfl) (fun p e s m below meth c hx hb hr hml hts hown hlocks hnm A H hH hA hP hD hK hZ hS ls hl => ?_)
  have hown : s.vm.findClass RX5 = some m.cls := hown
  have hl : lv_has ls 5 [(0, .ref m0), (1, .long x), (3, .long y)] := hl
  have tn0 : (nI 0).toInt = 0 := by decide
  have tn1 : (nI 1).toInt = 1 := by decide
  have tn15 : (nI 15).toInt = 15 := by decide
  have tl0 : (lN 0).toInt = 0 := by decide
  have tl65535 : (lN 65535).toInt = 65535 := by decide
  have hiX5 : ∀ w ∈ wsX50, w ∈ wsX5_key := by decide +kernel
  refine lv_aload_n hx hb dX5_key_0 rfl (lv_at hl 0 rfl) ?_
  refine lv_iconst (v := (nI 0)) hx hb dX5_key_1 (by decide) ?_
  refine va_put (D := g.1) (ci := 6) (v := .int (nI 0)) (ty := .int) (C := RX5) (T := TX5) (N := 23) hx hb hts hiX5 tyX5 tyX5_ok nmX5 hown hK.1 hP hD hS 0 rfl rfl 0 (by decide) (hts (.fieldLink RX5 136 "StampMakerModel" "thrown" "I") (by decide +kernel)) (fun _ h9 => h9) rfl (by decide +kernel) rfl rfl (Nat.le_of_ble_eq_true rfl) dX5_key_2 (fun H locs hP hD hS => ?_)
  have hP : va_P g.1 vwCl [(m0, .inr (6, [.int (nI 0), .int (nI kn), .ref qf, .ref qu, .ref qz, .ref qd, .ref qx, .int (nI mn), .int has, .ref ql, .int (nI tn), .ref qg, .int cc, .ref qb, .ref qy, .ref qc, .int sp, .int rk, .ref qe, .ref qw, .ref qt, .ref qr, .ref qi])), (qf, .inl (g.2.1 0, 15, .inl kf)), (qu, .inl (g.2.1 0, 15, .inl ku))] H := hP
  have hD : va_D A [(m0, .inr (6, [.int (nI 0), .int (nI kn), .ref qf, .ref qu, .ref qz, .ref qd, .ref qx, .int (nI mn), .int has, .ref ql, .int (nI tn), .ref qg, .int cc, .ref qb, .ref qy, .ref qc, .int sp, .int rk, .ref qe, .ref qw, .ref qt, .ref qr, .ref qi])), (qf, .inl (g.2.1 0, 15, .inl kf)), (qu, .inl (g.2.1 0, 15, .inl ku))] := hD
  refine lv_lload_n hx hb dX5_key_5 rfl (lv_at hl 1 rfl) ?_
  refine lv_lconst (v := lN 0) hx hb dX5_key_6 (by decide) ?_
  refine W.lcmp hx hb dX5_key_7 ?_
  refine lv_if_lt (tgt := 25) hx hb dX5_key_8 (by decide) (fun c9 => absurd c9 (by rw [lc_lt]; omega)) (fun _ => ?_)
  refine lv_lload_n hx hb dX5_key_11 rfl (lv_at hl 2 rfl) ?_
  refine lv_lload_n hx hb dX5_key_12 rfl (lv_at hl 1 rfl) ?_
  refine W.lcmp hx hb dX5_key_13 ?_
  refine lv_if_lt (tgt := 25) hx hb dX5_key_14 (by decide) (fun c9 => absurd c9 (by rw [lc_lt]; omega)) (fun _ => ?_)
  refine lv_lload_n hx hb dX5_key_17 rfl (lv_at hl 2 rfl) ?_
  refine lv_ldc2 (v := (lN 65535)) hx hb hown (hts (.constantLong RX5 143 (lN 65535)) (by decide +kernel)) dX5_key_18 ?_
  refine W.lcmp hx hb dX5_key_21 ?_
  refine lv_if_le (tgt := 28) hx hb dX5_key_22 (by decide) (fun _ => ?_) (fun c9 => absurd (by rw [lc_le]; omega) c9)
  refine lv_aload_n hx hb dX5_key_28 rfl (lv_at hl 0 rfl) ?_
  refine va_get (D := g.1) (ci := 6) (v := .int (nI kn)) (C := RX5) (T := TX5) (N := 23) hx hb hts hiX5 hown hK.1 hP 0 rfl rfl 1 (by decide) (hts (.fieldLink RX5 133 "StampMakerModel" "keys" "I") (by decide +kernel)) (fun _ h9 => h9) rfl dX5_key_29 ?_
  refine lv_bipush (v := (nI 15)) hx hb dX5_key_32 (by decide) ?_
  refine lv_icmp_ne (tgt := 40) hx hb dX5_key_34 (by decide) (fun _ => ?_) (fun c9 => absurd c9 (fun z => absurd ((nI_eq (by omega) (by omega)).mp z) (by omega)))
  refine lv_aload_n hx hb dX5_key_40 rfl (lv_at hl 0 rfl) ?_
  refine va_get (D := g.1) (ci := 6) (v := .ref qf) (C := RX5) (T := TX5) (N := 23) hx hb hts hiX5 hown hK.1 hP 0 rfl rfl 2 (by decide) (hts (.fieldLink RX5 7 "StampMakerModel" "from" "[I") (by decide +kernel)) (fun _ h9 => h9) rfl dX5_key_41 ?_
  refine lv_aload_n hx hb dX5_key_44 rfl (lv_at hl 0 rfl) ?_
  refine va_get (D := g.1) (ci := 6) (v := .int (nI kn)) (C := RX5) (T := TX5) (N := 23) hx hb hts hiX5 hown hK.1 hP 0 rfl rfl 1 (by decide) (hts (.fieldLink RX5 133 "StampMakerModel" "keys" "I") (by decide +kernel)) (fun _ h9 => h9) rfl dX5_key_45 ?_
  refine lv_lload_n hx hb dX5_key_48 rfl (lv_at hl 1 rfl) ?_
  refine lv_l2i hx hb dX5_key_49 rfl ?_
  refine va_iast hx hb hK.1 hP hD hS 1 0 rfl rfl (vp_in_nI (by omega) (by omega)) dX5_key_50 (fun H locs hP hD hS => ?_)
  rw [nI_clamp (by omega)] at hP hD
  have hP : va_P g.1 vwCl [(m0, .inr (6, [.int (nI 0), .int (nI kn), .ref qf, .ref qu, .ref qz, .ref qd, .ref qx, .int (nI mn), .int has, .ref ql, .int (nI tn), .ref qg, .int cc, .ref qb, .ref qy, .ref qc, .int sp, .int rk, .ref qe, .ref qw, .ref qt, .ref qr, .ref qi])), (qf, .inl (g.2.1 0, 15, .inl (upd kf kn ((x).toInt32)))), (qu, .inl (g.2.1 0, 15, .inl ku))] H := hP
  have hD : va_D A [(m0, .inr (6, [.int (nI 0), .int (nI kn), .ref qf, .ref qu, .ref qz, .ref qd, .ref qx, .int (nI mn), .int has, .ref ql, .int (nI tn), .ref qg, .int cc, .ref qb, .ref qy, .ref qc, .int sp, .int rk, .ref qe, .ref qw, .ref qt, .ref qr, .ref qi])), (qf, .inl (g.2.1 0, 15, .inl (upd kf kn ((x).toInt32)))), (qu, .inl (g.2.1 0, 15, .inl ku))] := hD
  refine lv_aload_n hx hb dX5_key_51 rfl (lv_at hl 0 rfl) ?_
  refine va_get (D := g.1) (ci := 6) (v := .ref qu) (C := RX5) (T := TX5) (N := 23) hx hb hts hiX5 hown hK.1 hP 0 rfl rfl 3 (by decide) (hts (.fieldLink RX5 13 "StampMakerModel" "until" "[I") (by decide +kernel)) (fun _ h9 => h9) rfl dX5_key_52 ?_
  refine lv_aload_n hx hb dX5_key_55 rfl (lv_at hl 0 rfl) ?_
  refine va_get (D := g.1) (ci := 6) (v := .int (nI kn)) (C := RX5) (T := TX5) (N := 23) hx hb hts hiX5 hown hK.1 hP 0 rfl rfl 1 (by decide) (hts (.fieldLink RX5 133 "StampMakerModel" "keys" "I") (by decide +kernel)) (fun _ h9 => h9) rfl dX5_key_56 ?_
  refine lv_lload_n hx hb dX5_key_59 rfl (lv_at hl 2 rfl) ?_
  refine lv_l2i hx hb dX5_key_60 rfl ?_
  refine va_iast hx hb hK.1 hP hD hS 2 0 rfl rfl (vp_in_nI (by omega) (by omega)) dX5_key_61 (fun H locs hP hD hS => ?_)
  rw [nI_clamp (by omega)] at hP hD
  have hP : va_P g.1 vwCl [(m0, .inr (6, [.int (nI 0), .int (nI kn), .ref qf, .ref qu, .ref qz, .ref qd, .ref qx, .int (nI mn), .int has, .ref ql, .int (nI tn), .ref qg, .int cc, .ref qb, .ref qy, .ref qc, .int sp, .int rk, .ref qe, .ref qw, .ref qt, .ref qr, .ref qi])), (qf, .inl (g.2.1 0, 15, .inl (upd kf kn ((x).toInt32)))), (qu, .inl (g.2.1 0, 15, .inl (upd ku kn ((y).toInt32))))] H := hP
  have hD : va_D A [(m0, .inr (6, [.int (nI 0), .int (nI kn), .ref qf, .ref qu, .ref qz, .ref qd, .ref qx, .int (nI mn), .int has, .ref ql, .int (nI tn), .ref qg, .int cc, .ref qb, .ref qy, .ref qc, .int sp, .int rk, .ref qe, .ref qw, .ref qt, .ref qr, .ref qi])), (qf, .inl (g.2.1 0, 15, .inl (upd kf kn ((x).toInt32)))), (qu, .inl (g.2.1 0, 15, .inl (upd ku kn ((y).toInt32))))] := hD
  refine lv_aload_n hx hb dX5_key_62 rfl (lv_at hl 0 rfl) ?_
  refine lv_dup hx hb dX5_key_63 rfl ?_
  refine va_get (D := g.1) (ci := 6) (v := .int (nI kn)) (C := RX5) (T := TX5) (N := 23) hx hb hts hiX5 hown hK.1 hP 0 rfl rfl 1 (by decide) (hts (.fieldLink RX5 133 "StampMakerModel" "keys" "I") (by decide +kernel)) (fun _ h9 => h9) rfl dX5_key_64 ?_
  refine lv_iconst (v := (nI 1)) hx hb dX5_key_67 (by decide) ?_
  refine lv_iadd hx hb dX5_key_68 ?_
  refine lv_rei (x' := (nI (kn + 1))) (nI_1 _) ?_
  refine va_put (D := g.1) (ci := 6) (v := .int (nI (kn + 1))) (ty := .int) (C := RX5) (T := TX5) (N := 23) hx hb hts hiX5 tyX5 tyX5_ok nmX5 hown hK.1 hP hD hS 0 rfl rfl 1 (by decide) (hts (.fieldLink RX5 133 "StampMakerModel" "keys" "I") (by decide +kernel)) (fun _ h9 => h9) rfl (by decide +kernel) rfl rfl (Nat.le_of_ble_eq_true rfl) dX5_key_69 (fun H locs hP hD hS => ?_)
  have hP : va_P g.1 vwCl [(m0, .inr (6, [.int (nI 0), .int (nI (kn + 1)), .ref qf, .ref qu, .ref qz, .ref qd, .ref qx, .int (nI mn), .int has, .ref ql, .int (nI tn), .ref qg, .int cc, .ref qb, .ref qy, .ref qc, .int sp, .int rk, .ref qe, .ref qw, .ref qt, .ref qr, .ref qi])), (qf, .inl (g.2.1 0, 15, .inl (upd kf kn ((x).toInt32)))), (qu, .inl (g.2.1 0, 15, .inl (upd ku kn ((y).toInt32))))] H := hP
  have hD : va_D A [(m0, .inr (6, [.int (nI 0), .int (nI (kn + 1)), .ref qf, .ref qu, .ref qz, .ref qd, .ref qx, .int (nI mn), .int has, .ref ql, .int (nI tn), .ref qg, .int cc, .ref qb, .ref qy, .ref qc, .int sp, .int rk, .ref qe, .ref qw, .ref qt, .ref qr, .ref qi])), (qf, .inl (g.2.1 0, 15, .inl (upd kf kn ((x).toInt32)))), (qu, .inl (g.2.1 0, 15, .inl (upd ku kn ((y).toInt32))))] := hD
  refine lv_aload_n hx hb dX5_key_72 rfl (lv_at hl 0 rfl) ?_
  refine va_get (D := g.1) (ci := 6) (v := .int (nI (kn + 1))) (C := RX5) (T := TX5) (N := 23) hx hb hts hiX5 hown hK.1 hP 0 rfl rfl 1 (by decide) (hts (.fieldLink RX5 133 "StampMakerModel" "keys" "I") (by decide +kernel)) (fun _ h9 => h9) rfl dX5_key_73 ?_
  refine lv_iconst (v := (nI 1)) hx hb dX5_key_76 (by decide) ?_
  refine lv_isub hx hb dX5_key_77 ?_
  refine lv_rei (x' := (nI kn)) (nI_pred kn) ?_
  exact endWi () hx hb hr hlocks hS dX5_key_78 hP hD (rfl)

set_option maxHeartbeats 4000000 in
set_option maxRecDepth 100000 in
/-- no such key -/
theorem c_X5_octet_out (l : Launch) (g : gE) (hsz : Nat) (m0 kn mn tn qf qu qz qd qx ql qg qb qy qc qe qw qt qr qi : Nat) (th has cc sp rk : Int32) (x xb : Int32) (hx0 : ¬ (0 ≤ x.toInt ∧ x.toInt < kn)) (hkn : kn ≤ 15) : Met l yX5_octet wsX5_octet ({ frames := 2, cells := 0, slots := 0, locals := 46 }) (va_Pc [.ref m0, .int x, .int xb] (wr g [(m0, .inr (6, [.int th, .int (nI kn), .ref qf, .ref qu, .ref qz, .ref qd, .ref qx, .int (nI mn), .int has, .ref ql, .int (nI tn), .ref qg, .int cc, .ref qb, .ref qy, .ref qc, .int sp, .int rk, .ref qe, .ref qw, .ref qt, .ref qr, .ref qi]))] hsz)) (va_Qv (fun (u : Unit) => True) (wB g (va_A [(m0, .inr (6, [.int th, .int (nI kn), .ref qf, .ref qu, .ref qz, .ref qd, .ref qx, .int (nI mn), .int has, .ref ql, .int (nI tn), .ref qg, .int cc, .ref qb, .ref qy, .ref qc, .int sp, .int rk, .ref qe, .ref qw, .ref qt, .ref qr, .ref qi]))] hsz) (fun u : Unit => [(m0, .inr (6, [.int (nI 0), .int (nI kn), .ref qf, .ref qu, .ref qz, .ref qd, .ref qx, .int (nI mn), .int has, .ref ql, .int (nI tn), .ref qg, .int cc, .ref qb, .ref qy, .ref qc, .int sp, .int rk, .ref qe, .ref qw, .ref qt, .ref qr, .ref qi]))])) (va_A [(m0, .inr (6, [.int th, .int (nI kn), .ref qf, .ref qu, .ref qz, .ref qd, .ref qx, .int (nI mn), .int has, .ref ql, .int (nI tn), .ref qg, .int cc, .ref qb, .ref qy, .ref qc, .int sp, .int rk, .ref qe, .ref qw, .ref qt, .ref qr, .ref qi]))] hsz)) 0 0 (va_A [(m0, .inr (6, [.int th, .int (nI kn), .ref qf, .ref qu, .ref qz, .ref qd, .ref qx, .int (nI mn), .int has, .ref ql, .int (nI tn), .ref qg, .int cc, .ref qb, .ref qy, .ref qc, .int sp, .int rk, .ref qe, .ref qw, .ref qt, .ref qr, .ref qi]))] hsz) := by
  refine ofWv (cc := cX5_octet) (maxL := 3) (ret := none) (by decide) rfl (Nat.le_of_ble_eq_true rfl) (fun p e s m below meth c hx hb hr hml hts hown hlocks hnm A H hH hA hP hD hK hZ hS ls hl => ?_)
  have hown : s.vm.findClass RX5 = some m.cls := hown
  have hl : lv_has ls 3 [(0, .ref m0), (1, .int x), (2, .int xb)] := hl
  have hiX5 : ∀ w ∈ wsX50, w ∈ wsX5_octet := by decide +kernel
  refine lv_aload_n hx hb dX5_octet_0 rfl (lv_at hl 0 rfl) ?_
  refine lv_iconst (v := (nI 0)) hx hb dX5_octet_1 (by decide) ?_
  refine va_put (D := g.1) (ci := 6) (v := .int (nI 0)) (ty := .int) (C := RX5) (T := TX5) (N := 23) hx hb hts hiX5 tyX5 tyX5_ok nmX5 hown hK.1 hP hD hS 0 rfl rfl 0 (by decide) (hts (.fieldLink RX5 136 "StampMakerModel" "thrown" "I") (by decide +kernel)) (fun _ h9 => h9) rfl (by decide +kernel) rfl rfl (Nat.le_of_ble_eq_true rfl) dX5_octet_2 (fun H locs hP hD hS => ?_)
  have hP : va_P g.1 vwCl [(m0, .inr (6, [.int (nI 0), .int (nI kn), .ref qf, .ref qu, .ref qz, .ref qd, .ref qx, .int (nI mn), .int has, .ref ql, .int (nI tn), .ref qg, .int cc, .ref qb, .ref qy, .ref qc, .int sp, .int rk, .ref qe, .ref qw, .ref qt, .ref qr, .ref qi]))] H := hP
  have hD : va_D A [(m0, .inr (6, [.int (nI 0), .int (nI kn), .ref qf, .ref qu, .ref qz, .ref qd, .ref qx, .int (nI mn), .int has, .ref ql, .int (nI tn), .ref qg, .int cc, .ref qb, .ref qy, .ref qc, .int sp, .int rk, .ref qe, .ref qw, .ref qt, .ref qr, .ref qi]))] := hD
  refine lv_aload_n hx hb dX5_octet_5 rfl (lv_at hl 0 rfl) ?_
  refine lv_iload_n hx hb dX5_octet_6 rfl (lv_at hl 1 rfl) ?_
  refine cVi (rest := []) ⟨hx, hb, hml, hown, hts⟩ [.int x] (c_X5_isKey l g (m0 := m0) (kn := kn) (mn := mn) (tn := tn) (qf := qf) (qu := qu) (qz := qz) (qd := qd) (qx := qx) (ql := ql) (qg := qg) (qb := qb) (qy := qy) (qc := qc) (qe := qe) (qw := qw) (qt := qt) (qr := qr) (qi := qi) (th := (nI 0)) (has := has) (cc := cc) (sp := sp) (rk := rk) (x := x) hkn) (cwV 1 hts gX5_octet_X5_isKey rfl rfl rfl (by decide +kernel) ⟨Nat.le_of_ble_eq_true rfl, Nat.le_of_ble_eq_true rfl⟩) hK hZ hS (subP hP [0] rfl) (va_recv hK.1 hP (ci := 6) (q0 := 0) rfl rfl) rfl hl.1 rfl (Nat.le_of_ble_eq_true rfl) dX5_octet_7 ⟨Nat.zero_le _, Nat.zero_le _⟩ (fun r_171 hr_171 => ?_)
  obtain rfl : r_171 = (inI (x).toInt 0 ((kn : Int) - 1)) := hr_171
  refine lv_if_eq (tgt := 60) hx hb dX5_octet_10 (by decide) (fun _ => ?_) (fun c9 => absurd (inI_0 (by omega)) c9)
  exact endWv () hx hb hr hlocks hS dX5_octet_60 hP hD (trivial)

set_option maxHeartbeats 4000000 in
set_option maxRecDepth 100000 in
/-- nothing comes of it -/
theorem c_X5_octet_no (l : Launch) (g : gE) (hsz : Nat) (m0 kn mn tn qf qu qz qd qx ql qg qb qy qc qe qw qt qr qi : Nat) (th has cc sp rk : Int32) (fz fus : Nat → Int32) (i nz : Nat) (xb : Int32) (hi : i < kn) (hkn : kn ≤ 15) (hfz : fz i = nI nz) (hz : nz ≤ 32) (hno : ¬ (fus i = 0 ∧ nz < 32)) : Met l yX5_octet wsX5_octet ({ frames := 2, cells := 0, slots := 0, locals := 46 }) (va_Pc [.ref m0, .int (nI i), .int xb] (wr g [(m0, .inr (6, [.int th, .int (nI kn), .ref qf, .ref qu, .ref qz, .ref qd, .ref qx, .int (nI mn), .int has, .ref ql, .int (nI tn), .ref qg, .int cc, .ref qb, .ref qy, .ref qc, .int sp, .int rk, .ref qe, .ref qw, .ref qt, .ref qr, .ref qi])), (qz, .inl (g.2.1 0, 15, .inl fz)), (qd, .inl (g.2.1 2, 15, .inl fus))] hsz)) (va_Qv (fun (u : Unit) => True) (wB g (va_A [(m0, .inr (6, [.int th, .int (nI kn), .ref qf, .ref qu, .ref qz, .ref qd, .ref qx, .int (nI mn), .int has, .ref ql, .int (nI tn), .ref qg, .int cc, .ref qb, .ref qy, .ref qc, .int sp, .int rk, .ref qe, .ref qw, .ref qt, .ref qr, .ref qi])), (qz, .inl (g.2.1 0, 15, .inl fz)), (qd, .inl (g.2.1 2, 15, .inl fus))] hsz) (fun u : Unit => [(m0, .inr (6, [.int (nI 0), .int (nI kn), .ref qf, .ref qu, .ref qz, .ref qd, .ref qx, .int (nI mn), .int has, .ref ql, .int (nI tn), .ref qg, .int cc, .ref qb, .ref qy, .ref qc, .int sp, .int rk, .ref qe, .ref qw, .ref qt, .ref qr, .ref qi])), (qz, .inl (g.2.1 0, 15, .inl fz)), (qd, .inl (g.2.1 2, 15, .inl fus))])) (va_A [(m0, .inr (6, [.int th, .int (nI kn), .ref qf, .ref qu, .ref qz, .ref qd, .ref qx, .int (nI mn), .int has, .ref ql, .int (nI tn), .ref qg, .int cc, .ref qb, .ref qy, .ref qc, .int sp, .int rk, .ref qe, .ref qw, .ref qt, .ref qr, .ref qi])), (qz, .inl (g.2.1 0, 15, .inl fz)), (qd, .inl (g.2.1 2, 15, .inl fus))] hsz)) 0 0 (va_A [(m0, .inr (6, [.int th, .int (nI kn), .ref qf, .ref qu, .ref qz, .ref qd, .ref qx, .int (nI mn), .int has, .ref ql, .int (nI tn), .ref qg, .int cc, .ref qb, .ref qy, .ref qc, .int sp, .int rk, .ref qe, .ref qw, .ref qt, .ref qr, .ref qi])), (qz, .inl (g.2.1 0, 15, .inl fz)), (qd, .inl (g.2.1 2, 15, .inl fus))] hsz) := by
  refine ofWv (cc := cX5_octet) (maxL := 3) (ret := none) (by decide) rfl (Nat.le_of_ble_eq_true rfl) (fun p e s m below meth c hx hb hr hml hts hown hlocks hnm A H hH hA hP hD hK hZ hS ls hl => ?_)
  have hown : s.vm.findClass RX5 = some m.cls := hown
  have hl : lv_has ls 3 [(0, .ref m0), (1, .int (nI i)), (2, .int xb)] := hl
  have hiX5 : ∀ w ∈ wsX50, w ∈ wsX5_octet := by decide +kernel
  have tni := ti_n (n := i) (by omega)
  refine lv_aload_n hx hb dX5_octet_0 rfl (lv_at hl 0 rfl) ?_
  refine lv_iconst (v := (nI 0)) hx hb dX5_octet_1 (by decide) ?_
  refine va_put (D := g.1) (ci := 6) (v := .int (nI 0)) (ty := .int) (C := RX5) (T := TX5) (N := 23) hx hb hts hiX5 tyX5 tyX5_ok nmX5 hown hK.1 hP hD hS 0 rfl rfl 0 (by decide) (hts (.fieldLink RX5 136 "StampMakerModel" "thrown" "I") (by decide +kernel)) (fun _ h9 => h9) rfl (by decide +kernel) rfl rfl (Nat.le_of_ble_eq_true rfl) dX5_octet_2 (fun H locs hP hD hS => ?_)
  have hP : va_P g.1 vwCl [(m0, .inr (6, [.int (nI 0), .int (nI kn), .ref qf, .ref qu, .ref qz, .ref qd, .ref qx, .int (nI mn), .int has, .ref ql, .int (nI tn), .ref qg, .int cc, .ref qb, .ref qy, .ref qc, .int sp, .int rk, .ref qe, .ref qw, .ref qt, .ref qr, .ref qi])), (qz, .inl (g.2.1 0, 15, .inl fz)), (qd, .inl (g.2.1 2, 15, .inl fus))] H := hP
  have hD : va_D A [(m0, .inr (6, [.int (nI 0), .int (nI kn), .ref qf, .ref qu, .ref qz, .ref qd, .ref qx, .int (nI mn), .int has, .ref ql, .int (nI tn), .ref qg, .int cc, .ref qb, .ref qy, .ref qc, .int sp, .int rk, .ref qe, .ref qw, .ref qt, .ref qr, .ref qi])), (qz, .inl (g.2.1 0, 15, .inl fz)), (qd, .inl (g.2.1 2, 15, .inl fus))] := hD
  refine lv_aload_n hx hb dX5_octet_5 rfl (lv_at hl 0 rfl) ?_
  refine lv_iload_n hx hb dX5_octet_6 rfl (lv_at hl 1 rfl) ?_
  refine cVi (rest := []) ⟨hx, hb, hml, hown, hts⟩ [.int (nI i)] (c_X5_isKey l g (m0 := m0) (kn := kn) (mn := mn) (tn := tn) (qf := qf) (qu := qu) (qz := qz) (qd := qd) (qx := qx) (ql := ql) (qg := qg) (qb := qb) (qy := qy) (qc := qc) (qe := qe) (qw := qw) (qt := qt) (qr := qr) (qi := qi) (th := (nI 0)) (has := has) (cc := cc) (sp := sp) (rk := rk) (x := (nI i)) hkn) (cwV 1 hts gX5_octet_X5_isKey rfl rfl rfl (by decide +kernel) ⟨Nat.le_of_ble_eq_true rfl, Nat.le_of_ble_eq_true rfl⟩) hK hZ hS (subP hP [0] rfl) (va_recv hK.1 hP (ci := 6) (q0 := 0) rfl rfl) rfl hl.1 rfl (Nat.le_of_ble_eq_true rfl) dX5_octet_7 ⟨Nat.zero_le _, Nat.zero_le _⟩ (fun r_172 hr_172 => ?_)
  obtain rfl : r_172 = (inI ((nI i)).toInt 0 ((kn : Int) - 1)) := hr_172
  refine lv_if_eq (tgt := 60) hx hb dX5_octet_10 (by decide) (fun c9 => absurd c9 (by rw [inI_1 (by omega) (by omega)]; decide)) (fun _ => ?_)
  refine lv_aload_n hx hb dX5_octet_13 rfl (lv_at hl 0 rfl) ?_
  refine va_get (D := g.1) (ci := 6) (v := .ref qz) (C := RX5) (T := TX5) (N := 23) hx hb hts hiX5 hown hK.1 hP 0 rfl rfl 4 (by decide) (hts (.fieldLink RX5 16 "StampMakerModel" "sizes" "[I") (by decide +kernel)) (fun _ h9 => h9) rfl dX5_octet_14 ?_
  refine lv_iload_n hx hb dX5_octet_17 rfl (lv_at hl 1 rfl) ?_
  refine va_iald hx hb hK.1 hP 1 0 rfl rfl (vp_in_nI (by omega) (by omega)) dX5_octet_18 ?_
  refine lv_rei (x' := fz i) (congrArg fz (nI_clamp (by omega))) ?_
  refine lv_rei (x' := (nI nz)) (hfz) ?_
  refine lv_bipush (v := (nI 32)) hx hb dX5_octet_19 (by decide) ?_
  rcases Nat.lt_or_ge nz 32 with q | q
  · refine lv_icmp_ge (tgt := 60) hx hb dX5_octet_21 (by decide) (fun c9 => absurd c9 (nI_ge q (by omega))) (fun _ => ?_)
    refine lv_aload_n hx hb dX5_octet_24 rfl (lv_at hl 0 rfl) ?_
    refine va_get (D := g.1) (ci := 6) (v := .ref qd) (C := RX5) (T := TX5) (N := 23) hx hb hts hiX5 hown hK.1 hP 0 rfl rfl 5 (by decide) (hts (.fieldLink RX5 19 "StampMakerModel" "used" "[Z") (by decide +kernel)) (fun _ h9 => h9) rfl dX5_octet_25 ?_
    refine lv_iload_n hx hb dX5_octet_28 rfl (lv_at hl 1 rfl) ?_
    refine va_zald hx hb hK.1 hP 2 2 rfl rfl (vp_in_nI (by omega) (by omega)) dX5_octet_29 ?_
    refine lv_rei (x' := fus i) (congrArg fus (nI_clamp (by omega))) ?_
    refine lv_if_ne (tgt := 60) hx hb dX5_octet_30 (by decide) (fun _ => ?_) (fun c9 => absurd c9 (fun z => hno ⟨z, q⟩))
    exact endWv () hx hb hr hlocks hS dX5_octet_60 hP hD (trivial)
  · refine lv_icmp_ge (tgt := 60) hx hb dX5_octet_21 (by decide) (fun _ => ?_) (fun c9 => absurd (nI_le q (by omega)) c9)
    exact endWv () hx hb hr hlocks hS dX5_octet_60 hP hD (trivial)

set_option maxHeartbeats 4000000 in
set_option maxRecDepth 100000 in
/-- a byte more -/
theorem c_X5_octet_yes (l : Launch) (g : gE) (hsz : Nat) (m0 kn mn tn qf qu qz qd qx ql qg qb qy qc qe qw qt qr qi : Nat) (th has cc sp rk : Int32) (fz fus : Nat → Int32) (i nz : Nat) (xb : Int32) (fx : Nat → Int32) (hi : i < kn) (hkn : kn ≤ 15) (hfz : fz i = nI nz) (hz : nz ≤ 32) (hu0 : fus i = 0) (hz2 : nz < 32) : Met l yX5_octet wsX5_octet ({ frames := 2, cells := 0, slots := 0, locals := 46 }) (va_Pc [.ref m0, .int (nI i), .int xb] (wr g [(m0, .inr (6, [.int th, .int (nI kn), .ref qf, .ref qu, .ref qz, .ref qd, .ref qx, .int (nI mn), .int has, .ref ql, .int (nI tn), .ref qg, .int cc, .ref qb, .ref qy, .ref qc, .int sp, .int rk, .ref qe, .ref qw, .ref qt, .ref qr, .ref qi])), (qz, .inl (g.2.1 0, 15, .inl fz)), (qd, .inl (g.2.1 2, 15, .inl fus)), (qx, .inl (g.2.1 1, 480, .inl fx))] hsz)) (va_Qv (fun (u : Unit) => True) (wB g (va_A [(m0, .inr (6, [.int th, .int (nI kn), .ref qf, .ref qu, .ref qz, .ref qd, .ref qx, .int (nI mn), .int has, .ref ql, .int (nI tn), .ref qg, .int cc, .ref qb, .ref qy, .ref qc, .int sp, .int rk, .ref qe, .ref qw, .ref qt, .ref qr, .ref qi])), (qz, .inl (g.2.1 0, 15, .inl fz)), (qd, .inl (g.2.1 2, 15, .inl fus)), (qx, .inl (g.2.1 1, 480, .inl fx))] hsz) (fun u : Unit => [(m0, .inr (6, [.int (nI 0), .int (nI kn), .ref qf, .ref qu, .ref qz, .ref qd, .ref qx, .int (nI mn), .int has, .ref ql, .int (nI tn), .ref qg, .int cc, .ref qb, .ref qy, .ref qc, .int sp, .int rk, .ref qe, .ref qw, .ref qt, .ref qr, .ref qi])), (qz, .inl (g.2.1 0, 15, .inl (upd fz i (nI (nz + 1))))), (qd, .inl (g.2.1 2, 15, .inl fus)), (qx, .inl (g.2.1 1, 480, .inl (upd fx (32 * i + nz) (vp_nar .byte xb))))])) (va_A [(m0, .inr (6, [.int th, .int (nI kn), .ref qf, .ref qu, .ref qz, .ref qd, .ref qx, .int (nI mn), .int has, .ref ql, .int (nI tn), .ref qg, .int cc, .ref qb, .ref qy, .ref qc, .int sp, .int rk, .ref qe, .ref qw, .ref qt, .ref qr, .ref qi])), (qz, .inl (g.2.1 0, 15, .inl fz)), (qd, .inl (g.2.1 2, 15, .inl fus)), (qx, .inl (g.2.1 1, 480, .inl fx))] hsz)) 0 0 (va_A [(m0, .inr (6, [.int th, .int (nI kn), .ref qf, .ref qu, .ref qz, .ref qd, .ref qx, .int (nI mn), .int has, .ref ql, .int (nI tn), .ref qg, .int cc, .ref qb, .ref qy, .ref qc, .int sp, .int rk, .ref qe, .ref qw, .ref qt, .ref qr, .ref qi])), (qz, .inl (g.2.1 0, 15, .inl fz)), (qd, .inl (g.2.1 2, 15, .inl fus)), (qx, .inl (g.2.1 1, 480, .inl fx))] hsz) := by
  refine ofWv (cc := cX5_octet) (maxL := 3) (ret := none) (by decide) rfl (Nat.le_of_ble_eq_true rfl) (fun p e s m below meth c hx hb hr hml hts hown hlocks hnm A H hH hA hP hD hK hZ hS ls hl => ?_)
  have hown : s.vm.findClass RX5 = some m.cls := hown
  have hl : lv_has ls 3 [(0, .ref m0), (1, .int (nI i)), (2, .int xb)] := hl
  have hiX5 : ∀ w ∈ wsX50, w ∈ wsX5_octet := by decide +kernel
  have tni := ti_n (n := i) (by omega)
  refine lv_aload_n hx hb dX5_octet_0 rfl (lv_at hl 0 rfl) ?_
  refine lv_iconst (v := (nI 0)) hx hb dX5_octet_1 (by decide) ?_
  refine va_put (D := g.1) (ci := 6) (v := .int (nI 0)) (ty := .int) (C := RX5) (T := TX5) (N := 23) hx hb hts hiX5 tyX5 tyX5_ok nmX5 hown hK.1 hP hD hS 0 rfl rfl 0 (by decide) (hts (.fieldLink RX5 136 "StampMakerModel" "thrown" "I") (by decide +kernel)) (fun _ h9 => h9) rfl (by decide +kernel) rfl rfl (Nat.le_of_ble_eq_true rfl) dX5_octet_2 (fun H locs hP hD hS => ?_)
  have hP : va_P g.1 vwCl [(m0, .inr (6, [.int (nI 0), .int (nI kn), .ref qf, .ref qu, .ref qz, .ref qd, .ref qx, .int (nI mn), .int has, .ref ql, .int (nI tn), .ref qg, .int cc, .ref qb, .ref qy, .ref qc, .int sp, .int rk, .ref qe, .ref qw, .ref qt, .ref qr, .ref qi])), (qz, .inl (g.2.1 0, 15, .inl fz)), (qd, .inl (g.2.1 2, 15, .inl fus)), (qx, .inl (g.2.1 1, 480, .inl fx))] H := hP
  have hD : va_D A [(m0, .inr (6, [.int (nI 0), .int (nI kn), .ref qf, .ref qu, .ref qz, .ref qd, .ref qx, .int (nI mn), .int has, .ref ql, .int (nI tn), .ref qg, .int cc, .ref qb, .ref qy, .ref qc, .int sp, .int rk, .ref qe, .ref qw, .ref qt, .ref qr, .ref qi])), (qz, .inl (g.2.1 0, 15, .inl fz)), (qd, .inl (g.2.1 2, 15, .inl fus)), (qx, .inl (g.2.1 1, 480, .inl fx))] := hD
  refine lv_aload_n hx hb dX5_octet_5 rfl (lv_at hl 0 rfl) ?_
  refine lv_iload_n hx hb dX5_octet_6 rfl (lv_at hl 1 rfl) ?_
  refine cVi (rest := []) ⟨hx, hb, hml, hown, hts⟩ [.int (nI i)] (c_X5_isKey l g (m0 := m0) (kn := kn) (mn := mn) (tn := tn) (qf := qf) (qu := qu) (qz := qz) (qd := qd) (qx := qx) (ql := ql) (qg := qg) (qb := qb) (qy := qy) (qc := qc) (qe := qe) (qw := qw) (qt := qt) (qr := qr) (qi := qi) (th := (nI 0)) (has := has) (cc := cc) (sp := sp) (rk := rk) (x := (nI i)) hkn) (cwV 1 hts gX5_octet_X5_isKey rfl rfl rfl (by decide +kernel) ⟨Nat.le_of_ble_eq_true rfl, Nat.le_of_ble_eq_true rfl⟩) hK hZ hS (subP hP [0] rfl) (va_recv hK.1 hP (ci := 6) (q0 := 0) rfl rfl) rfl hl.1 rfl (Nat.le_of_ble_eq_true rfl) dX5_octet_7 ⟨Nat.zero_le _, Nat.zero_le _⟩ (fun r_173 hr_173 => ?_)
  obtain rfl : r_173 = (inI ((nI i)).toInt 0 ((kn : Int) - 1)) := hr_173
  refine lv_if_eq (tgt := 60) hx hb dX5_octet_10 (by decide) (fun c9 => absurd c9 (by rw [inI_1 (by omega) (by omega)]; decide)) (fun _ => ?_)
  refine lv_aload_n hx hb dX5_octet_13 rfl (lv_at hl 0 rfl) ?_
  refine va_get (D := g.1) (ci := 6) (v := .ref qz) (C := RX5) (T := TX5) (N := 23) hx hb hts hiX5 hown hK.1 hP 0 rfl rfl 4 (by decide) (hts (.fieldLink RX5 16 "StampMakerModel" "sizes" "[I") (by decide +kernel)) (fun _ h9 => h9) rfl dX5_octet_14 ?_
  refine lv_iload_n hx hb dX5_octet_17 rfl (lv_at hl 1 rfl) ?_
  refine va_iald hx hb hK.1 hP 1 0 rfl rfl (vp_in_nI (by omega) (by omega)) dX5_octet_18 ?_
  refine lv_rei (x' := fz i) (congrArg fz (nI_clamp (by omega))) ?_
  refine lv_rei (x' := (nI nz)) (hfz) ?_
  refine lv_bipush (v := (nI 32)) hx hb dX5_octet_19 (by decide) ?_
  refine lv_icmp_ge (tgt := 60) hx hb dX5_octet_21 (by decide) (fun c9 => absurd c9 (nI_ge hz2 (by omega))) (fun _ => ?_)
  refine lv_aload_n hx hb dX5_octet_24 rfl (lv_at hl 0 rfl) ?_
  refine va_get (D := g.1) (ci := 6) (v := .ref qd) (C := RX5) (T := TX5) (N := 23) hx hb hts hiX5 hown hK.1 hP 0 rfl rfl 5 (by decide) (hts (.fieldLink RX5 19 "StampMakerModel" "used" "[Z") (by decide +kernel)) (fun _ h9 => h9) rfl dX5_octet_25 ?_
  refine lv_iload_n hx hb dX5_octet_28 rfl (lv_at hl 1 rfl) ?_
  refine va_zald hx hb hK.1 hP 2 2 rfl rfl (vp_in_nI (by omega) (by omega)) dX5_octet_29 ?_
  refine lv_rei (x' := fus i) (congrArg fus (nI_clamp (by omega))) ?_
  refine lv_if_ne (tgt := 60) hx hb dX5_octet_30 (by decide) (fun c9 => absurd (hu0) c9) (fun _ => ?_)
  refine lv_aload_n hx hb dX5_octet_33 rfl (lv_at hl 0 rfl) ?_
  refine va_get (D := g.1) (ci := 6) (v := .ref qx) (C := RX5) (T := TX5) (N := 23) hx hb hts hiX5 hown hK.1 hP 0 rfl rfl 6 (by decide) (hts (.fieldLink RX5 23 "StampMakerModel" "secret" "[B") (by decide +kernel)) (fun _ h9 => h9) rfl dX5_octet_34 ?_
  refine lv_bipush (v := (nI 32)) hx hb dX5_octet_37 (by decide) ?_
  refine lv_iload_n hx hb dX5_octet_39 rfl (lv_at hl 1 rfl) ?_
  refine lv_imul hx hb dX5_octet_40 ?_
  refine lv_rei (x' := (nI (32 * i))) (pk_mul _ _) ?_
  refine lv_aload_n hx hb dX5_octet_41 rfl (lv_at hl 0 rfl) ?_
  refine va_get (D := g.1) (ci := 6) (v := .ref qz) (C := RX5) (T := TX5) (N := 23) hx hb hts hiX5 hown hK.1 hP 0 rfl rfl 4 (by decide) (hts (.fieldLink RX5 16 "StampMakerModel" "sizes" "[I") (by decide +kernel)) (fun _ h9 => h9) rfl dX5_octet_42 ?_
  refine lv_iload_n hx hb dX5_octet_45 rfl (lv_at hl 1 rfl) ?_
  refine va_iald hx hb hK.1 hP 1 0 rfl rfl (vp_in_nI (by omega) (by omega)) dX5_octet_46 ?_
  refine lv_rei (x' := fz i) (congrArg fz (nI_clamp (by omega))) ?_
  refine lv_rei (x' := (nI nz)) (hfz) ?_
  refine lv_iadd hx hb dX5_octet_47 ?_
  refine lv_rei (x' := (nI (32 * i + nz))) (nI_add _ _) ?_
  refine lv_iload_n hx hb dX5_octet_48 rfl (lv_at hl 2 rfl) ?_
  refine va_bast hx hb hK.1 hP hD hS 3 1 rfl rfl (vp_in_nI (by omega) (by omega)) dX5_octet_49 (fun H locs hP hD hS => ?_)
  rw [nI_clamp (by omega)] at hP hD
  have hP : va_P g.1 vwCl [(m0, .inr (6, [.int (nI 0), .int (nI kn), .ref qf, .ref qu, .ref qz, .ref qd, .ref qx, .int (nI mn), .int has, .ref ql, .int (nI tn), .ref qg, .int cc, .ref qb, .ref qy, .ref qc, .int sp, .int rk, .ref qe, .ref qw, .ref qt, .ref qr, .ref qi])), (qz, .inl (g.2.1 0, 15, .inl fz)), (qd, .inl (g.2.1 2, 15, .inl fus)), (qx, .inl (g.2.1 1, 480, .inl (upd fx (32 * i + nz) (vp_nar .byte xb))))] H := hP
  have hD : va_D A [(m0, .inr (6, [.int (nI 0), .int (nI kn), .ref qf, .ref qu, .ref qz, .ref qd, .ref qx, .int (nI mn), .int has, .ref ql, .int (nI tn), .ref qg, .int cc, .ref qb, .ref qy, .ref qc, .int sp, .int rk, .ref qe, .ref qw, .ref qt, .ref qr, .ref qi])), (qz, .inl (g.2.1 0, 15, .inl fz)), (qd, .inl (g.2.1 2, 15, .inl fus)), (qx, .inl (g.2.1 1, 480, .inl (upd fx (32 * i + nz) (vp_nar .byte xb))))] := hD
  refine lv_aload_n hx hb dX5_octet_50 rfl (lv_at hl 0 rfl) ?_
  refine va_get (D := g.1) (ci := 6) (v := .ref qz) (C := RX5) (T := TX5) (N := 23) hx hb hts hiX5 hown hK.1 hP 0 rfl rfl 4 (by decide) (hts (.fieldLink RX5 16 "StampMakerModel" "sizes" "[I") (by decide +kernel)) (fun _ h9 => h9) rfl dX5_octet_51 ?_
  refine lv_iload_n hx hb dX5_octet_54 rfl (lv_at hl 1 rfl) ?_
  refine lv_dup2_11 hx hb dX5_octet_55 rfl rfl ?_
  refine va_iald hx hb hK.1 hP 1 0 rfl rfl (vp_in_nI (by omega) (by omega)) dX5_octet_56 ?_
  refine lv_rei (x' := fz i) (congrArg fz (nI_clamp (by omega))) ?_
  refine lv_rei (x' := (nI nz)) (hfz) ?_
  refine lv_iconst (v := (nI 1)) hx hb dX5_octet_57 (by decide) ?_
  refine lv_iadd hx hb dX5_octet_58 ?_
  refine lv_rei (x' := (nI (nz + 1))) (nI_1 _) ?_
  refine va_iast hx hb hK.1 hP hD hS 1 0 rfl rfl (vp_in_nI (by omega) (by omega)) dX5_octet_59 (fun H locs hP hD hS => ?_)
  rw [nI_clamp (by omega)] at hP hD
  have hP : va_P g.1 vwCl [(m0, .inr (6, [.int (nI 0), .int (nI kn), .ref qf, .ref qu, .ref qz, .ref qd, .ref qx, .int (nI mn), .int has, .ref ql, .int (nI tn), .ref qg, .int cc, .ref qb, .ref qy, .ref qc, .int sp, .int rk, .ref qe, .ref qw, .ref qt, .ref qr, .ref qi])), (qz, .inl (g.2.1 0, 15, .inl (upd fz i (nI (nz + 1))))), (qd, .inl (g.2.1 2, 15, .inl fus)), (qx, .inl (g.2.1 1, 480, .inl (upd fx (32 * i + nz) (vp_nar .byte xb))))] H := hP
  have hD : va_D A [(m0, .inr (6, [.int (nI 0), .int (nI kn), .ref qf, .ref qu, .ref qz, .ref qd, .ref qx, .int (nI mn), .int has, .ref ql, .int (nI tn), .ref qg, .int cc, .ref qb, .ref qy, .ref qc, .int sp, .int rk, .ref qe, .ref qw, .ref qt, .ref qr, .ref qi])), (qz, .inl (g.2.1 0, 15, .inl (upd fz i (nI (nz + 1))))), (qd, .inl (g.2.1 2, 15, .inl fus)), (qx, .inl (g.2.1 1, 480, .inl (upd fx (32 * i + nz) (vp_nar .byte xb))))] := hD
  exact endWv () hx hb hr hlocks hS dX5_octet_60 hP hD (trivial)

set_option maxHeartbeats 4000000 in
set_option maxRecDepth 100000 in
/-- letter i -/
theorem c_X5_letter_in (l : Launch) (g : gE) (hsz : Nat) (m0 kn mn tn qf qu qz qd qx ql qg qb qy qc qe qw qt qr qi : Nat) (th has cc sp rk : Int32) (fl : Nat → Int32) (i : Nat) (hi : i < 16) : Met l yX5_letter wsX5_letter ({ frames := 1, cells := 0, slots := 0, locals := 25 }) (va_Pc [.ref m0, .int (nI i)] (wr g [(m0, .inr (6, [.int th, .int (nI kn), .ref qf, .ref qu, .ref qz, .ref qd, .ref qx, .int (nI mn), .int has, .ref ql, .int (nI tn), .ref qg, .int cc, .ref qb, .ref qy, .ref qc, .int sp, .int rk, .ref qe, .ref qw, .ref qt, .ref qr, .ref qi])), (ql, .inl (g.2.1 0, 16, .inl fl))] hsz)) (va_Qi (fun (r : Int32) (u : Unit) => r = if has = 0 then nI 0 else fl i) (wB g (va_A [(m0, .inr (6, [.int th, .int (nI kn), .ref qf, .ref qu, .ref qz, .ref qd, .ref qx, .int (nI mn), .int has, .ref ql, .int (nI tn), .ref qg, .int cc, .ref qb, .ref qy, .ref qc, .int sp, .int rk, .ref qe, .ref qw, .ref qt, .ref qr, .ref qi])), (ql, .inl (g.2.1 0, 16, .inl fl))] hsz) (fun u : Unit => [(m0, .inr (6, [.int (nI 0), .int (nI kn), .ref qf, .ref qu, .ref qz, .ref qd, .ref qx, .int (nI mn), .int has, .ref ql, .int (nI tn), .ref qg, .int cc, .ref qb, .ref qy, .ref qc, .int sp, .int rk, .ref qe, .ref qw, .ref qt, .ref qr, .ref qi])), (ql, .inl (g.2.1 0, 16, .inl fl))])) (va_A [(m0, .inr (6, [.int th, .int (nI kn), .ref qf, .ref qu, .ref qz, .ref qd, .ref qx, .int (nI mn), .int has, .ref ql, .int (nI tn), .ref qg, .int cc, .ref qb, .ref qy, .ref qc, .int sp, .int rk, .ref qe, .ref qw, .ref qt, .ref qr, .ref qi])), (ql, .inl (g.2.1 0, 16, .inl fl))] hsz)) 0 0 (va_A [(m0, .inr (6, [.int th, .int (nI kn), .ref qf, .ref qu, .ref qz, .ref qd, .ref qx, .int (nI mn), .int has, .ref ql, .int (nI tn), .ref qg, .int cc, .ref qb, .ref qy, .ref qc, .int sp, .int rk, .ref qe, .ref qw, .ref qt, .ref qr, .ref qi])), (ql, .inl (g.2.1 0, 16, .inl fl))] hsz) := by
  refine ofWi (cc := cX5_letter) (maxL := 2) (ret := (some .int)) (by decide) rfl (Nat.le_of_ble_eq_true rfl) (fun p e s m below meth c hx hb hr hml hts hown hlocks hnm A H hH hA hP hD hK hZ hS ls hl => ?_)
  have hown : s.vm.findClass RX5 = some m.cls := hown
  have hl : lv_has ls 2 [(0, .ref m0), (1, .int (nI i))] := hl
  have tn0 : (nI 0).toInt = 0 := by decide
  have tl0 : (lN 0).toInt = 0 := by decide
  have tl15 : (lN 15).toInt = 15 := by decide
  have hiX5 : ∀ w ∈ wsX50, w ∈ wsX5_letter := by decide +kernel
  have tli := tl_n (n := i) (by omega)
  refine lv_aload_n hx hb dX5_letter_0 rfl (lv_at hl 0 rfl) ?_
  refine lv_iconst (v := (nI 0)) hx hb dX5_letter_1 (by decide) ?_
  refine va_put (D := g.1) (ci := 6) (v := .int (nI 0)) (ty := .int) (C := RX5) (T := TX5) (N := 23) hx hb hts hiX5 tyX5 tyX5_ok nmX5 hown hK.1 hP hD hS 0 rfl rfl 0 (by decide) (hts (.fieldLink RX5 136 "StampMakerModel" "thrown" "I") (by decide +kernel)) (fun _ h9 => h9) rfl (by decide +kernel) rfl rfl (Nat.le_of_ble_eq_true rfl) dX5_letter_2 (fun H locs hP hD hS => ?_)
  have hP : va_P g.1 vwCl [(m0, .inr (6, [.int (nI 0), .int (nI kn), .ref qf, .ref qu, .ref qz, .ref qd, .ref qx, .int (nI mn), .int has, .ref ql, .int (nI tn), .ref qg, .int cc, .ref qb, .ref qy, .ref qc, .int sp, .int rk, .ref qe, .ref qw, .ref qt, .ref qr, .ref qi])), (ql, .inl (g.2.1 0, 16, .inl fl))] H := hP
  have hD : va_D A [(m0, .inr (6, [.int (nI 0), .int (nI kn), .ref qf, .ref qu, .ref qz, .ref qd, .ref qx, .int (nI mn), .int has, .ref ql, .int (nI tn), .ref qg, .int cc, .ref qb, .ref qy, .ref qc, .int sp, .int rk, .ref qe, .ref qw, .ref qt, .ref qr, .ref qi])), (ql, .inl (g.2.1 0, 16, .inl fl))] := hD
  refine lv_aload_n hx hb dX5_letter_5 rfl (lv_at hl 0 rfl) ?_
  refine va_get (D := g.1) (ci := 6) (v := .int has) (C := RX5) (T := TX5) (N := 23) hx hb hts hiX5 hown hK.1 hP 0 rfl rfl 8 (by decide) (hts (.fieldLink RX5 197 "StampMakerModel" "has" "Z") (by decide +kernel)) (fun _ h9 => h9) rfl dX5_letter_6 ?_
  refine lv_if_eq (tgt := 33) hx hb dX5_letter_9 (by decide) (fun c_174 => ?_) (fun c_174 => ?_)
  · refine lv_iconst (v := (nI 0)) hx hb dX5_letter_33 (by decide) ?_
    exact endWi () hx hb hr hlocks hS dX5_letter_34 hP hD ((if_pos c_174).symm)
  · refine lv_iload_n hx hb dX5_letter_12 rfl (lv_at hl 1 rfl) ?_
    refine lv_i2l hx hb dX5_letter_13 rfl ?_
    refine lv_rel (x' := (lN i)) (nI_L (by omega)) ?_
    refine lv_lconst (v := lN 0) hx hb dX5_letter_14 (by decide) ?_
    refine lv_ldc2 (v := (lN 15)) hx hb hown (hts (.constantLong RX5 200 (lN 15)) (by decide +kernel)) dX5_letter_15 ?_
    refine cSi (rest := []) ⟨hx, hb, hml, hown, hts⟩ [.long (lN i), .long (lN 0), .long (lN 15)] (c_X5_within l g (v := (lN i)) (lo := (lN 0)) (hi := (lN 15))) (va_cwS 3 hts gX5_letter_X5_within rfl rfl rfl (by decide +kernel) ⟨Nat.le_of_ble_eq_true rfl, Nat.le_of_ble_eq_true rfl⟩) hK hZ hS (subP hP [] rfl) rfl hl.1 rfl (Nat.le_of_ble_eq_true rfl) dX5_letter_18 ⟨Nat.zero_le _, Nat.zero_le _⟩ (fun r_175 hr_175 => ?_)
    obtain rfl : r_175 = (inI (lN i).toInt (lN 0).toInt (lN 15).toInt) := hr_175
    refine lv_if_eq (tgt := 33) hx hb dX5_letter_21 (by decide) (fun c9 => absurd c9 (by rw [inI_1 (by omega) (by omega)]; decide)) (fun _ => ?_)
    refine lv_aload_n hx hb dX5_letter_24 rfl (lv_at hl 0 rfl) ?_
    refine va_get (D := g.1) (ci := 6) (v := .ref ql) (C := RX5) (T := TX5) (N := 23) hx hb hts hiX5 hown hK.1 hP 0 rfl rfl 9 (by decide) (hts (.fieldLink RX5 27 "StampMakerModel" "letters" "[I") (by decide +kernel)) (fun _ h9 => h9) rfl dX5_letter_25 ?_
    refine lv_iload_n hx hb dX5_letter_28 rfl (lv_at hl 1 rfl) ?_
    refine va_iald hx hb hK.1 hP 1 0 rfl rfl (vp_in_nI (by omega) (by omega)) dX5_letter_29 ?_
    refine lv_rei (x' := fl i) (congrArg fl (nI_clamp (by omega))) ?_
    refine lv_goto (tgt := 34) hx hb dX5_letter_30 (by decide) ?_
    exact endWi () hx hb hr hlocks hS dX5_letter_34 hP hD ((if_neg c_174).symm)

set_option maxHeartbeats 4000000 in
set_option maxRecDepth 100000 in
/-- no such letter -/
theorem c_X5_letter_out (l : Launch) (g : gE) (hsz : Nat) (m0 kn mn tn qf qu qz qd qx ql qg qb qy qc qe qw qt qr qi : Nat) (th has cc sp rk : Int32) (x : Int32) (hx0 : ¬ (0 ≤ x.toInt ∧ x.toInt < 16)) : Met l yX5_letter wsX5_letter ({ frames := 1, cells := 0, slots := 0, locals := 25 }) (va_Pc [.ref m0, .int x] (wr g [(m0, .inr (6, [.int th, .int (nI kn), .ref qf, .ref qu, .ref qz, .ref qd, .ref qx, .int (nI mn), .int has, .ref ql, .int (nI tn), .ref qg, .int cc, .ref qb, .ref qy, .ref qc, .int sp, .int rk, .ref qe, .ref qw, .ref qt, .ref qr, .ref qi]))] hsz)) (va_Qi (fun (r : Int32) (u : Unit) => r = nI 0) (wB g (va_A [(m0, .inr (6, [.int th, .int (nI kn), .ref qf, .ref qu, .ref qz, .ref qd, .ref qx, .int (nI mn), .int has, .ref ql, .int (nI tn), .ref qg, .int cc, .ref qb, .ref qy, .ref qc, .int sp, .int rk, .ref qe, .ref qw, .ref qt, .ref qr, .ref qi]))] hsz) (fun u : Unit => [(m0, .inr (6, [.int (nI 0), .int (nI kn), .ref qf, .ref qu, .ref qz, .ref qd, .ref qx, .int (nI mn), .int has, .ref ql, .int (nI tn), .ref qg, .int cc, .ref qb, .ref qy, .ref qc, .int sp, .int rk, .ref qe, .ref qw, .ref qt, .ref qr, .ref qi]))])) (va_A [(m0, .inr (6, [.int th, .int (nI kn), .ref qf, .ref qu, .ref qz, .ref qd, .ref qx, .int (nI mn), .int has, .ref ql, .int (nI tn), .ref qg, .int cc, .ref qb, .ref qy, .ref qc, .int sp, .int rk, .ref qe, .ref qw, .ref qt, .ref qr, .ref qi]))] hsz)) 0 0 (va_A [(m0, .inr (6, [.int th, .int (nI kn), .ref qf, .ref qu, .ref qz, .ref qd, .ref qx, .int (nI mn), .int has, .ref ql, .int (nI tn), .ref qg, .int cc, .ref qb, .ref qy, .ref qc, .int sp, .int rk, .ref qe, .ref qw, .ref qt, .ref qr, .ref qi]))] hsz) := by
  refine ofWi (cc := cX5_letter) (maxL := 2) (ret := (some .int)) (by decide) rfl (Nat.le_of_ble_eq_true rfl) (fun p e s m below meth c hx hb hr hml hts hown hlocks hnm A H hH hA hP hD hK hZ hS ls hl => ?_)
  have hown : s.vm.findClass RX5 = some m.cls := hown
  have hl : lv_has ls 2 [(0, .ref m0), (1, .int x)] := hl
  have tn0 : (nI 0).toInt = 0 := by decide
  have tl0 : (lN 0).toInt = 0 := by decide
  have tl15 : (lN 15).toInt = 15 := by decide
  have hiX5 : ∀ w ∈ wsX50, w ∈ wsX5_letter := by decide +kernel
  have tx := Int32.toInt_toInt64 x
  refine lv_aload_n hx hb dX5_letter_0 rfl (lv_at hl 0 rfl) ?_
  refine lv_iconst (v := (nI 0)) hx hb dX5_letter_1 (by decide) ?_
  refine va_put (D := g.1) (ci := 6) (v := .int (nI 0)) (ty := .int) (C := RX5) (T := TX5) (N := 23) hx hb hts hiX5 tyX5 tyX5_ok nmX5 hown hK.1 hP hD hS 0 rfl rfl 0 (by decide) (hts (.fieldLink RX5 136 "StampMakerModel" "thrown" "I") (by decide +kernel)) (fun _ h9 => h9) rfl (by decide +kernel) rfl rfl (Nat.le_of_ble_eq_true rfl) dX5_letter_2 (fun H locs hP hD hS => ?_)
  have hP : va_P g.1 vwCl [(m0, .inr (6, [.int (nI 0), .int (nI kn), .ref qf, .ref qu, .ref qz, .ref qd, .ref qx, .int (nI mn), .int has, .ref ql, .int (nI tn), .ref qg, .int cc, .ref qb, .ref qy, .ref qc, .int sp, .int rk, .ref qe, .ref qw, .ref qt, .ref qr, .ref qi]))] H := hP
  have hD : va_D A [(m0, .inr (6, [.int (nI 0), .int (nI kn), .ref qf, .ref qu, .ref qz, .ref qd, .ref qx, .int (nI mn), .int has, .ref ql, .int (nI tn), .ref qg, .int cc, .ref qb, .ref qy, .ref qc, .int sp, .int rk, .ref qe, .ref qw, .ref qt, .ref qr, .ref qi]))] := hD
  refine lv_aload_n hx hb dX5_letter_5 rfl (lv_at hl 0 rfl) ?_
  refine va_get (D := g.1) (ci := 6) (v := .int has) (C := RX5) (T := TX5) (N := 23) hx hb hts hiX5 hown hK.1 hP 0 rfl rfl 8 (by decide) (hts (.fieldLink RX5 197 "StampMakerModel" "has" "Z") (by decide +kernel)) (fun _ h9 => h9) rfl dX5_letter_6 ?_
  refine lv_if_eq (tgt := 33) hx hb dX5_letter_9 (by decide) (fun c_176 => ?_) (fun c_176 => ?_)
  · refine lv_iconst (v := (nI 0)) hx hb dX5_letter_33 (by decide) ?_
    exact endWi () hx hb hr hlocks hS dX5_letter_34 hP hD (rfl)
  · refine lv_iload_n hx hb dX5_letter_12 rfl (lv_at hl 1 rfl) ?_
    refine lv_i2l hx hb dX5_letter_13 rfl ?_
    refine lv_lconst (v := lN 0) hx hb dX5_letter_14 (by decide) ?_
    refine lv_ldc2 (v := (lN 15)) hx hb hown (hts (.constantLong RX5 200 (lN 15)) (by decide +kernel)) dX5_letter_15 ?_
    refine cSi (rest := []) ⟨hx, hb, hml, hown, hts⟩ [.long (x.toInt64), .long (lN 0), .long (lN 15)] (c_X5_within l g (v := (x.toInt64)) (lo := (lN 0)) (hi := (lN 15))) (va_cwS 3 hts gX5_letter_X5_within rfl rfl rfl (by decide +kernel) ⟨Nat.le_of_ble_eq_true rfl, Nat.le_of_ble_eq_true rfl⟩) hK hZ hS (subP hP [] rfl) rfl hl.1 rfl (Nat.le_of_ble_eq_true rfl) dX5_letter_18 ⟨Nat.zero_le _, Nat.zero_le _⟩ (fun r_177 hr_177 => ?_)
    obtain rfl : r_177 = (inI (x.toInt64).toInt (lN 0).toInt (lN 15).toInt) := hr_177
    refine lv_if_eq (tgt := 33) hx hb dX5_letter_21 (by decide) (fun _ => ?_) (fun c9 => absurd (inI_0 (by omega)) c9)
    refine lv_iconst (v := (nI 0)) hx hb dX5_letter_33 (by decide) ?_
    exact endWi () hx hb hr hlocks hS dX5_letter_34 hP hD (rfl)

set_option maxHeartbeats 4000000 in
set_option maxRecDepth 100000 in
/-- a character typed -/
theorem c_X5_type_yes (l : Launch) (g : gE) (hsz : Nat) (m0 kn mn tn qf qu qz qd qx ql qg qb qy qc qe qw qt qr qi : Nat) (th has cc sp rk : Int32) (ft : Nat → Int32) (x : Int32) (ht : tn < 40) : Met l yX5_type wsX5_type ({ frames := 0, cells := 0, slots := 0, locals := 0 }) (va_Pc [.ref m0, .int x] (wr g [(m0, .inr (6, [.int th, .int (nI kn), .ref qf, .ref qu, .ref qz, .ref qd, .ref qx, .int (nI mn), .int has, .ref ql, .int (nI tn), .ref qg, .int cc, .ref qb, .ref qy, .ref qc, .int sp, .int rk, .ref qe, .ref qw, .ref qt, .ref qr, .ref qi])), (qg, .inl (g.2.1 0, 40, .inl ft))] hsz)) (va_Qv (fun (u : Unit) => True) (wB g (va_A [(m0, .inr (6, [.int th, .int (nI kn), .ref qf, .ref qu, .ref qz, .ref qd, .ref qx, .int (nI mn), .int has, .ref ql, .int (nI tn), .ref qg, .int cc, .ref qb, .ref qy, .ref qc, .int sp, .int rk, .ref qe, .ref qw, .ref qt, .ref qr, .ref qi])), (qg, .inl (g.2.1 0, 40, .inl ft))] hsz) (fun u : Unit => [(m0, .inr (6, [.int (nI 0), .int (nI kn), .ref qf, .ref qu, .ref qz, .ref qd, .ref qx, .int (nI mn), .int has, .ref ql, .int (nI (tn + 1)), .ref qg, .int cc, .ref qb, .ref qy, .ref qc, .int sp, .int rk, .ref qe, .ref qw, .ref qt, .ref qr, .ref qi])), (qg, .inl (g.2.1 0, 40, .inl (upd ft tn x)))])) (va_A [(m0, .inr (6, [.int th, .int (nI kn), .ref qf, .ref qu, .ref qz, .ref qd, .ref qx, .int (nI mn), .int has, .ref ql, .int (nI tn), .ref qg, .int cc, .ref qb, .ref qy, .ref qc, .int sp, .int rk, .ref qe, .ref qw, .ref qt, .ref qr, .ref qi])), (qg, .inl (g.2.1 0, 40, .inl ft))] hsz)) 0 0 (va_A [(m0, .inr (6, [.int th, .int (nI kn), .ref qf, .ref qu, .ref qz, .ref qd, .ref qx, .int (nI mn), .int has, .ref ql, .int (nI tn), .ref qg, .int cc, .ref qb, .ref qy, .ref qc, .int sp, .int rk, .ref qe, .ref qw, .ref qt, .ref qr, .ref qi])), (qg, .inl (g.2.1 0, 40, .inl ft))] hsz) := by
  refine ofWv (cc := cX5_type) (maxL := 2) (ret := none) (by decide) rfl (Nat.le_of_ble_eq_true rfl) (fun p e s m below meth c hx hb hr hml hts hown hlocks hnm A H hH hA hP hD hK hZ hS ls hl => ?_)
  have hown : s.vm.findClass RX5 = some m.cls := hown
  have hl : lv_has ls 2 [(0, .ref m0), (1, .int x)] := hl
  have hiX5 : ∀ w ∈ wsX50, w ∈ wsX5_type := by decide +kernel
  refine lv_aload_n hx hb dX5_type_0 rfl (lv_at hl 0 rfl) ?_
  refine lv_iconst (v := (nI 0)) hx hb dX5_type_1 (by decide) ?_
  refine va_put (D := g.1) (ci := 6) (v := .int (nI 0)) (ty := .int) (C := RX5) (T := TX5) (N := 23) hx hb hts hiX5 tyX5 tyX5_ok nmX5 hown hK.1 hP hD hS 0 rfl rfl 0 (by decide) (hts (.fieldLink RX5 136 "StampMakerModel" "thrown" "I") (by decide +kernel)) (fun _ h9 => h9) rfl (by decide +kernel) rfl rfl (Nat.le_of_ble_eq_true rfl) dX5_type_2 (fun H locs hP hD hS => ?_)
  have hP : va_P g.1 vwCl [(m0, .inr (6, [.int (nI 0), .int (nI kn), .ref qf, .ref qu, .ref qz, .ref qd, .ref qx, .int (nI mn), .int has, .ref ql, .int (nI tn), .ref qg, .int cc, .ref qb, .ref qy, .ref qc, .int sp, .int rk, .ref qe, .ref qw, .ref qt, .ref qr, .ref qi])), (qg, .inl (g.2.1 0, 40, .inl ft))] H := hP
  have hD : va_D A [(m0, .inr (6, [.int (nI 0), .int (nI kn), .ref qf, .ref qu, .ref qz, .ref qd, .ref qx, .int (nI mn), .int has, .ref ql, .int (nI tn), .ref qg, .int cc, .ref qb, .ref qy, .ref qc, .int sp, .int rk, .ref qe, .ref qw, .ref qt, .ref qr, .ref qi])), (qg, .inl (g.2.1 0, 40, .inl ft))] := hD
  refine lv_aload_n hx hb dX5_type_5 rfl (lv_at hl 0 rfl) ?_
  refine va_get (D := g.1) (ci := 6) (v := .int (nI tn)) (C := RX5) (T := TX5) (N := 23) hx hb hts hiX5 hown hK.1 hP 0 rfl rfl 10 (by decide) (hts (.fieldLink RX5 202 "StampMakerModel" "typed" "I") (by decide +kernel)) (fun _ h9 => h9) rfl dX5_type_6 ?_
  refine lv_bipush (v := (nI 40)) hx hb dX5_type_9 (by decide) ?_
  refine lv_icmp_ge (tgt := 34) hx hb dX5_type_11 (by decide) (fun c9 => absurd c9 (nI_ge ht (by omega))) (fun _ => ?_)
  refine lv_aload_n hx hb dX5_type_14 rfl (lv_at hl 0 rfl) ?_
  refine va_get (D := g.1) (ci := 6) (v := .ref qg) (C := RX5) (T := TX5) (N := 23) hx hb hts hiX5 hown hK.1 hP 0 rfl rfl 11 (by decide) (hts (.fieldLink RX5 30 "StampMakerModel" "signs" "[I") (by decide +kernel)) (fun _ h9 => h9) rfl dX5_type_15 ?_
  refine lv_aload_n hx hb dX5_type_18 rfl (lv_at hl 0 rfl) ?_
  refine va_get (D := g.1) (ci := 6) (v := .int (nI tn)) (C := RX5) (T := TX5) (N := 23) hx hb hts hiX5 hown hK.1 hP 0 rfl rfl 10 (by decide) (hts (.fieldLink RX5 202 "StampMakerModel" "typed" "I") (by decide +kernel)) (fun _ h9 => h9) rfl dX5_type_19 ?_
  refine lv_iload_n hx hb dX5_type_22 rfl (lv_at hl 1 rfl) ?_
  refine va_iast hx hb hK.1 hP hD hS 1 0 rfl rfl (vp_in_nI (by omega) (by omega)) dX5_type_23 (fun H locs hP hD hS => ?_)
  rw [nI_clamp (by omega)] at hP hD
  have hP : va_P g.1 vwCl [(m0, .inr (6, [.int (nI 0), .int (nI kn), .ref qf, .ref qu, .ref qz, .ref qd, .ref qx, .int (nI mn), .int has, .ref ql, .int (nI tn), .ref qg, .int cc, .ref qb, .ref qy, .ref qc, .int sp, .int rk, .ref qe, .ref qw, .ref qt, .ref qr, .ref qi])), (qg, .inl (g.2.1 0, 40, .inl (upd ft tn x)))] H := hP
  have hD : va_D A [(m0, .inr (6, [.int (nI 0), .int (nI kn), .ref qf, .ref qu, .ref qz, .ref qd, .ref qx, .int (nI mn), .int has, .ref ql, .int (nI tn), .ref qg, .int cc, .ref qb, .ref qy, .ref qc, .int sp, .int rk, .ref qe, .ref qw, .ref qt, .ref qr, .ref qi])), (qg, .inl (g.2.1 0, 40, .inl (upd ft tn x)))] := hD
  refine lv_aload_n hx hb dX5_type_24 rfl (lv_at hl 0 rfl) ?_
  refine lv_dup hx hb dX5_type_25 rfl ?_
  refine va_get (D := g.1) (ci := 6) (v := .int (nI tn)) (C := RX5) (T := TX5) (N := 23) hx hb hts hiX5 hown hK.1 hP 0 rfl rfl 10 (by decide) (hts (.fieldLink RX5 202 "StampMakerModel" "typed" "I") (by decide +kernel)) (fun _ h9 => h9) rfl dX5_type_26 ?_
  refine lv_iconst (v := (nI 1)) hx hb dX5_type_29 (by decide) ?_
  refine lv_iadd hx hb dX5_type_30 ?_
  refine lv_rei (x' := (nI (tn + 1))) (nI_1 _) ?_
  refine va_put (D := g.1) (ci := 6) (v := .int (nI (tn + 1))) (ty := .int) (C := RX5) (T := TX5) (N := 23) hx hb hts hiX5 tyX5 tyX5_ok nmX5 hown hK.1 hP hD hS 0 rfl rfl 10 (by decide) (hts (.fieldLink RX5 202 "StampMakerModel" "typed" "I") (by decide +kernel)) (fun _ h9 => h9) rfl (by decide +kernel) rfl rfl (Nat.le_of_ble_eq_true rfl) dX5_type_31 (fun H locs hP hD hS => ?_)
  have hP : va_P g.1 vwCl [(m0, .inr (6, [.int (nI 0), .int (nI kn), .ref qf, .ref qu, .ref qz, .ref qd, .ref qx, .int (nI mn), .int has, .ref ql, .int (nI (tn + 1)), .ref qg, .int cc, .ref qb, .ref qy, .ref qc, .int sp, .int rk, .ref qe, .ref qw, .ref qt, .ref qr, .ref qi])), (qg, .inl (g.2.1 0, 40, .inl (upd ft tn x)))] H := hP
  have hD : va_D A [(m0, .inr (6, [.int (nI 0), .int (nI kn), .ref qf, .ref qu, .ref qz, .ref qd, .ref qx, .int (nI mn), .int has, .ref ql, .int (nI (tn + 1)), .ref qg, .int cc, .ref qb, .ref qy, .ref qc, .int sp, .int rk, .ref qe, .ref qw, .ref qt, .ref qr, .ref qi])), (qg, .inl (g.2.1 0, 40, .inl (upd ft tn x)))] := hD
  exact endWv () hx hb hr hlocks hS dX5_type_34 hP hD (trivial)

set_option maxHeartbeats 4000000 in
set_option maxRecDepth 100000 in
/-- 40 are typed -/
theorem c_X5_type_no (l : Launch) (g : gE) (hsz : Nat) (m0 kn mn tn qf qu qz qd qx ql qg qb qy qc qe qw qt qr qi : Nat) (th has cc sp rk : Int32) (x : Int32) (ht : 40 ≤ tn) (ht2 : tn < 100) : Met l yX5_type wsX5_type ({ frames := 0, cells := 0, slots := 0, locals := 0 }) (va_Pc [.ref m0, .int x] (wr g [(m0, .inr (6, [.int th, .int (nI kn), .ref qf, .ref qu, .ref qz, .ref qd, .ref qx, .int (nI mn), .int has, .ref ql, .int (nI tn), .ref qg, .int cc, .ref qb, .ref qy, .ref qc, .int sp, .int rk, .ref qe, .ref qw, .ref qt, .ref qr, .ref qi]))] hsz)) (va_Qv (fun (u : Unit) => True) (wB g (va_A [(m0, .inr (6, [.int th, .int (nI kn), .ref qf, .ref qu, .ref qz, .ref qd, .ref qx, .int (nI mn), .int has, .ref ql, .int (nI tn), .ref qg, .int cc, .ref qb, .ref qy, .ref qc, .int sp, .int rk, .ref qe, .ref qw, .ref qt, .ref qr, .ref qi]))] hsz) (fun u : Unit => [(m0, .inr (6, [.int (nI 0), .int (nI kn), .ref qf, .ref qu, .ref qz, .ref qd, .ref qx, .int (nI mn), .int has, .ref ql, .int (nI tn), .ref qg, .int cc, .ref qb, .ref qy, .ref qc, .int sp, .int rk, .ref qe, .ref qw, .ref qt, .ref qr, .ref qi]))])) (va_A [(m0, .inr (6, [.int th, .int (nI kn), .ref qf, .ref qu, .ref qz, .ref qd, .ref qx, .int (nI mn), .int has, .ref ql, .int (nI tn), .ref qg, .int cc, .ref qb, .ref qy, .ref qc, .int sp, .int rk, .ref qe, .ref qw, .ref qt, .ref qr, .ref qi]))] hsz)) 0 0 (va_A [(m0, .inr (6, [.int th, .int (nI kn), .ref qf, .ref qu, .ref qz, .ref qd, .ref qx, .int (nI mn), .int has, .ref ql, .int (nI tn), .ref qg, .int cc, .ref qb, .ref qy, .ref qc, .int sp, .int rk, .ref qe, .ref qw, .ref qt, .ref qr, .ref qi]))] hsz) := by
  refine ofWv (cc := cX5_type) (maxL := 2) (ret := none) (by decide) rfl (Nat.le_of_ble_eq_true rfl) (fun p e s m below meth c hx hb hr hml hts hown hlocks hnm A H hH hA hP hD hK hZ hS ls hl => ?_)
  have hown : s.vm.findClass RX5 = some m.cls := hown
  have hl : lv_has ls 2 [(0, .ref m0), (1, .int x)] := hl
  have hiX5 : ∀ w ∈ wsX50, w ∈ wsX5_type := by decide +kernel
  refine lv_aload_n hx hb dX5_type_0 rfl (lv_at hl 0 rfl) ?_
  refine lv_iconst (v := (nI 0)) hx hb dX5_type_1 (by decide) ?_
  refine va_put (D := g.1) (ci := 6) (v := .int (nI 0)) (ty := .int) (C := RX5) (T := TX5) (N := 23) hx hb hts hiX5 tyX5 tyX5_ok nmX5 hown hK.1 hP hD hS 0 rfl rfl 0 (by decide) (hts (.fieldLink RX5 136 "StampMakerModel" "thrown" "I") (by decide +kernel)) (fun _ h9 => h9) rfl (by decide +kernel) rfl rfl (Nat.le_of_ble_eq_true rfl) dX5_type_2 (fun H locs hP hD hS => ?_)
  have hP : va_P g.1 vwCl [(m0, .inr (6, [.int (nI 0), .int (nI kn), .ref qf, .ref qu, .ref qz, .ref qd, .ref qx, .int (nI mn), .int has, .ref ql, .int (nI tn), .ref qg, .int cc, .ref qb, .ref qy, .ref qc, .int sp, .int rk, .ref qe, .ref qw, .ref qt, .ref qr, .ref qi]))] H := hP
  have hD : va_D A [(m0, .inr (6, [.int (nI 0), .int (nI kn), .ref qf, .ref qu, .ref qz, .ref qd, .ref qx, .int (nI mn), .int has, .ref ql, .int (nI tn), .ref qg, .int cc, .ref qb, .ref qy, .ref qc, .int sp, .int rk, .ref qe, .ref qw, .ref qt, .ref qr, .ref qi]))] := hD
  refine lv_aload_n hx hb dX5_type_5 rfl (lv_at hl 0 rfl) ?_
  refine va_get (D := g.1) (ci := 6) (v := .int (nI tn)) (C := RX5) (T := TX5) (N := 23) hx hb hts hiX5 hown hK.1 hP 0 rfl rfl 10 (by decide) (hts (.fieldLink RX5 202 "StampMakerModel" "typed" "I") (by decide +kernel)) (fun _ h9 => h9) rfl dX5_type_6 ?_
  refine lv_bipush (v := (nI 40)) hx hb dX5_type_9 (by decide) ?_
  refine lv_icmp_ge (tgt := 34) hx hb dX5_type_11 (by decide) (fun _ => ?_) (fun c9 => absurd (nI_le ht (by omega)) c9)
  exact endWv () hx hb hr hlocks hS dX5_type_34 hP hD (trivial)

set_option maxHeartbeats 4000000 in
set_option maxRecDepth 100000 in
/-- of the stamp found spent or accepted latest -/
theorem c_X5_first (l : Launch) (g : gE) (hsz : Nat) (m0 kn mn tn qf qu qz qd qx ql qg qb qy qc qe qw qt qr qi : Nat) (th has cc sp rk : Int32) (fd fc : Nat → Int32) (x : Int32) (hsp : sp = -1 ∨ ∃ j, j < 16384 ∧ sp = nI j) : Met l yX5_first wsX5_first ({ frames := 1, cells := 0, slots := 0, locals := 25 }) (va_Pc [.ref m0, .int x] (wr g [(m0, .inr (6, [.int th, .int (nI kn), .ref qf, .ref qu, .ref qz, .ref qd, .ref qx, .int (nI mn), .int has, .ref ql, .int (nI tn), .ref qg, .int cc, .ref qb, .ref qy, .ref qc, .int sp, .int rk, .ref qe, .ref qw, .ref qt, .ref qr, .ref qi])), (qy, .inl (g.2.1 0, 16384, .inl fd)), (qc, .inl (g.2.1 0, 16384, .inl fc))] hsz)) (va_Qi (fun (r : Int32) (u : Unit) => r = fi x sp fd fc) (wB g (va_A [(m0, .inr (6, [.int th, .int (nI kn), .ref qf, .ref qu, .ref qz, .ref qd, .ref qx, .int (nI mn), .int has, .ref ql, .int (nI tn), .ref qg, .int cc, .ref qb, .ref qy, .ref qc, .int sp, .int rk, .ref qe, .ref qw, .ref qt, .ref qr, .ref qi])), (qy, .inl (g.2.1 0, 16384, .inl fd)), (qc, .inl (g.2.1 0, 16384, .inl fc))] hsz) (fun u : Unit => [(m0, .inr (6, [.int (nI 0), .int (nI kn), .ref qf, .ref qu, .ref qz, .ref qd, .ref qx, .int (nI mn), .int has, .ref ql, .int (nI tn), .ref qg, .int cc, .ref qb, .ref qy, .ref qc, .int sp, .int rk, .ref qe, .ref qw, .ref qt, .ref qr, .ref qi])), (qy, .inl (g.2.1 0, 16384, .inl fd)), (qc, .inl (g.2.1 0, 16384, .inl fc))])) (va_A [(m0, .inr (6, [.int th, .int (nI kn), .ref qf, .ref qu, .ref qz, .ref qd, .ref qx, .int (nI mn), .int has, .ref ql, .int (nI tn), .ref qg, .int cc, .ref qb, .ref qy, .ref qc, .int sp, .int rk, .ref qe, .ref qw, .ref qt, .ref qr, .ref qi])), (qy, .inl (g.2.1 0, 16384, .inl fd)), (qc, .inl (g.2.1 0, 16384, .inl fc))] hsz)) 0 0 (va_A [(m0, .inr (6, [.int th, .int (nI kn), .ref qf, .ref qu, .ref qz, .ref qd, .ref qx, .int (nI mn), .int has, .ref ql, .int (nI tn), .ref qg, .int cc, .ref qb, .ref qy, .ref qc, .int sp, .int rk, .ref qe, .ref qw, .ref qt, .ref qr, .ref qi])), (qy, .inl (g.2.1 0, 16384, .inl fd)), (qc, .inl (g.2.1 0, 16384, .inl fc))] hsz) := by
  refine ofWi (cc := cX5_first) (maxL := 2) (ret := (some .int)) (by decide) rfl (Nat.le_of_ble_eq_true rfl) (fun p e s m below meth c hx hb hr hml hts hown hlocks hnm A H hH hA hP hD hK hZ hS ls hl => ?_)
  have hown : s.vm.findClass RX5 = some m.cls := hown
  have hl : lv_has ls 2 [(0, .ref m0), (1, .int x)] := hl
  have tn0 : (nI 0).toInt = 0 := by decide
  have tn1 : (nI 1).toInt = 1 := by decide
  have tl0 : (lN 0).toInt = 0 := by decide
  have tl2 : (lN 2).toInt = 2 := by decide
  have hiX5 : ∀ w ∈ wsX50, w ∈ wsX5_first := by decide +kernel
  have tx := Int32.toInt_toInt64 x
  refine lv_aload_n hx hb dX5_first_0 rfl (lv_at hl 0 rfl) ?_
  refine lv_iconst (v := (nI 0)) hx hb dX5_first_1 (by decide) ?_
  refine va_put (D := g.1) (ci := 6) (v := .int (nI 0)) (ty := .int) (C := RX5) (T := TX5) (N := 23) hx hb hts hiX5 tyX5 tyX5_ok nmX5 hown hK.1 hP hD hS 0 rfl rfl 0 (by decide) (hts (.fieldLink RX5 136 "StampMakerModel" "thrown" "I") (by decide +kernel)) (fun _ h9 => h9) rfl (by decide +kernel) rfl rfl (Nat.le_of_ble_eq_true rfl) dX5_first_2 (fun H locs hP hD hS => ?_)
  have hP : va_P g.1 vwCl [(m0, .inr (6, [.int (nI 0), .int (nI kn), .ref qf, .ref qu, .ref qz, .ref qd, .ref qx, .int (nI mn), .int has, .ref ql, .int (nI tn), .ref qg, .int cc, .ref qb, .ref qy, .ref qc, .int sp, .int rk, .ref qe, .ref qw, .ref qt, .ref qr, .ref qi])), (qy, .inl (g.2.1 0, 16384, .inl fd)), (qc, .inl (g.2.1 0, 16384, .inl fc))] H := hP
  have hD : va_D A [(m0, .inr (6, [.int (nI 0), .int (nI kn), .ref qf, .ref qu, .ref qz, .ref qd, .ref qx, .int (nI mn), .int has, .ref ql, .int (nI tn), .ref qg, .int cc, .ref qb, .ref qy, .ref qc, .int sp, .int rk, .ref qe, .ref qw, .ref qt, .ref qr, .ref qi])), (qy, .inl (g.2.1 0, 16384, .inl fd)), (qc, .inl (g.2.1 0, 16384, .inl fc))] := hD
  refine lv_iload_n hx hb dX5_first_5 rfl (lv_at hl 1 rfl) ?_
  refine lv_i2l hx hb dX5_first_6 rfl ?_
  refine lv_lconst (v := lN 0) hx hb dX5_first_7 (by decide) ?_
  refine lv_ldc2 (v := (lN 2)) hx hb hown (hts (.constantLong RX5 220 (lN 2)) (by decide +kernel)) dX5_first_8 ?_
  refine cSi (rest := []) ⟨hx, hb, hml, hown, hts⟩ [.long (x.toInt64), .long (lN 0), .long (lN 2)] (c_X5_within l g (v := (x.toInt64)) (lo := (lN 0)) (hi := (lN 2))) (va_cwS 3 hts gX5_first_X5_within rfl rfl rfl (by decide +kernel) ⟨Nat.le_of_ble_eq_true rfl, Nat.le_of_ble_eq_true rfl⟩) hK hZ hS (subP hP [] rfl) rfl hl.1 rfl (Nat.le_of_ble_eq_true rfl) dX5_first_11 ⟨Nat.zero_le _, Nat.zero_le _⟩ (fun r_178 hr_178 => ?_)
  obtain rfl : r_178 = (inI (x.toInt64).toInt (lN 0).toInt (lN 2).toInt) := hr_178
  refine lv_if_ne (tgt := 20) hx hb dX5_first_14 (by decide) (fun c_179 => ?_) (fun c_179 => ?_)
  · have hin : ¬ ¬ (0 ≤ x.toInt ∧ x.toInt ≤ 2) := by rw [inI_eq0] at c_179; omega
    refine lv_aload_n hx hb dX5_first_20 rfl (lv_at hl 0 rfl) ?_
    refine va_get (D := g.1) (ci := 6) (v := .int sp) (C := RX5) (T := TX5) (N := 23) hx hb hts hiX5 hown hK.1 hP 0 rfl rfl 16 (by decide) (hts (.fieldLink RX5 42 "StampMakerModel" "told" "I") (by decide +kernel)) (fun _ h9 => h9) rfl dX5_first_21 ?_
    rcases hsp with hsp | ⟨j, hj, hsp⟩
    · refine lv_if_ge (tgt := 31) hx hb dX5_first_24 (by decide) (fun c9 => absurd c9 (by rw [hsp]; decide)) (fun _ => ?_)
      refine lv_iconst (v := (-1)) hx hb dX5_first_27 (by decide) ?_
      refine lv_goto (tgt := 68) hx hb dX5_first_28 (by decide) ?_
      exact endWi () hx hb hr hlocks hS dX5_first_68 hP hD (by unfold fi; rw [if_neg hin, if_pos (by rw [hsp]; decide)])
    · have hs0 : ¬ sp < 0 := by rw [hsp]; exact nI_pos (by omega)
      refine lv_if_ge (tgt := 31) hx hb dX5_first_24 (by decide) (fun _ => ?_) (fun c9 => absurd (by rw [hsp]; exact nI_pos' (by omega)) c9)
      refine lv_iload_n hx hb dX5_first_31 rfl (lv_at hl 1 rfl) ?_
      refine lv_if_ne (tgt := 42) hx hb dX5_first_32 (by decide) (fun c_180 => ?_) (fun c_180 => ?_)
      · refine lv_iload_n hx hb dX5_first_42 rfl (lv_at hl 1 rfl) ?_
        refine lv_iconst (v := (nI 1)) hx hb dX5_first_43 (by decide) ?_
        refine lv_icmp_ne (tgt := 59) hx hb dX5_first_44 (by decide) (fun c_181 => ?_) (fun c_181 => ?_)
        · refine lv_aload_n hx hb dX5_first_59 rfl (lv_at hl 0 rfl) ?_
          refine va_get (D := g.1) (ci := 6) (v := .ref qc) (C := RX5) (T := TX5) (N := 23) hx hb hts hiX5 hown hK.1 hP 0 rfl rfl 15 (by decide) (hts (.fieldLink RX5 39 "StampMakerModel" "spentBy" "[I") (by decide +kernel)) (fun _ h9 => h9) rfl dX5_first_60 ?_
          refine lv_aload_n hx hb dX5_first_63 rfl (lv_at hl 0 rfl) ?_
          refine va_get (D := g.1) (ci := 6) (v := .int sp) (C := RX5) (T := TX5) (N := 23) hx hb hts hiX5 hown hK.1 hP 0 rfl rfl 16 (by decide) (hts (.fieldLink RX5 42 "StampMakerModel" "told" "I") (by decide +kernel)) (fun _ h9 => h9) rfl dX5_first_64 ?_
          refine lv_rei (x' := (nI j)) (hsp) ?_
          refine va_iald hx hb hK.1 hP 2 0 rfl rfl (vp_in_nI (by omega) (by omega)) dX5_first_67 ?_
          refine lv_rei (x' := fc j) (congrArg fc (nI_clamp (by omega))) ?_
          exact endWi () hx hb hr hlocks hS dX5_first_68 hP hD (by unfold fi; rw [if_neg hin, if_neg hs0, if_neg c_180, if_neg c_181, hsp, nI_clamp (by omega)])
        · refine lv_aload_n hx hb dX5_first_47 rfl (lv_at hl 0 rfl) ?_
          refine va_get (D := g.1) (ci := 6) (v := .ref qy) (C := RX5) (T := TX5) (N := 23) hx hb hts hiX5 hown hK.1 hP 0 rfl rfl 14 (by decide) (hts (.fieldLink RX5 36 "StampMakerModel" "spentDay" "[I") (by decide +kernel)) (fun _ h9 => h9) rfl dX5_first_48 ?_
          refine lv_aload_n hx hb dX5_first_51 rfl (lv_at hl 0 rfl) ?_
          refine va_get (D := g.1) (ci := 6) (v := .int sp) (C := RX5) (T := TX5) (N := 23) hx hb hts hiX5 hown hK.1 hP 0 rfl rfl 16 (by decide) (hts (.fieldLink RX5 42 "StampMakerModel" "told" "I") (by decide +kernel)) (fun _ h9 => h9) rfl dX5_first_52 ?_
          refine lv_rei (x' := (nI j)) (hsp) ?_
          refine va_iald hx hb hK.1 hP 1 0 rfl rfl (vp_in_nI (by omega) (by omega)) dX5_first_55 ?_
          refine lv_rei (x' := fd j) (congrArg fd (nI_clamp (by omega))) ?_
          refine lv_goto (tgt := 68) hx hb dX5_first_56 (by decide) ?_
          exact endWi () hx hb hr hlocks hS dX5_first_68 hP hD (by unfold fi; rw [if_neg hin, if_neg hs0, if_neg c_180, if_pos c_181, hsp, nI_clamp (by omega)])
      · refine lv_aload_n hx hb dX5_first_35 rfl (lv_at hl 0 rfl) ?_
        refine va_get (D := g.1) (ci := 6) (v := .int sp) (C := RX5) (T := TX5) (N := 23) hx hb hts hiX5 hown hK.1 hP 0 rfl rfl 16 (by decide) (hts (.fieldLink RX5 42 "StampMakerModel" "told" "I") (by decide +kernel)) (fun _ h9 => h9) rfl dX5_first_36 ?_
        refine lv_goto (tgt := 68) hx hb dX5_first_39 (by decide) ?_
        exact endWi () hx hb hr hlocks hS dX5_first_68 hP hD (by unfold fi; rw [if_neg hin, if_neg hs0, if_pos c_180])
  · refine lv_bipush (v := (-22)) hx hb dX5_first_17 (by decide) ?_
    exact endWi () hx hb hr hlocks hS dX5_first_19 hP hD (by unfold fi; rw [if_pos (by rw [inI_eq0] at c_179; omega)])

set_option maxHeartbeats 4000000 in
set_option maxRecDepth 100000 in
/-- made by nobody -/
theorem c_X5_refund_out (l : Launch) (g : gE) (hsz : Nat) (m0 kn mn tn qf qu qz qd qx ql qg qb qy qc qe qw qt qr qi : Nat) (th has cc sp rk : Int32) (x : Int64) (hx0 : ¬ (0 ≤ x.toInt ∧ x.toInt < mn)) (hmn : mn < 16384) : Met l yX5_refund wsX5_refund ({ frames := 1, cells := 0, slots := 0, locals := 25 }) (va_Pc [.ref m0, .long x] (wr g [(m0, .inr (6, [.int th, .int (nI kn), .ref qf, .ref qu, .ref qz, .ref qd, .ref qx, .int (nI mn), .int has, .ref ql, .int (nI tn), .ref qg, .int cc, .ref qb, .ref qy, .ref qc, .int sp, .int rk, .ref qe, .ref qw, .ref qt, .ref qr, .ref qi]))] hsz)) (va_Qi (fun (r : Int32) (u : Unit) => r = nI 0) (wB g (va_A [(m0, .inr (6, [.int th, .int (nI kn), .ref qf, .ref qu, .ref qz, .ref qd, .ref qx, .int (nI mn), .int has, .ref ql, .int (nI tn), .ref qg, .int cc, .ref qb, .ref qy, .ref qc, .int sp, .int rk, .ref qe, .ref qw, .ref qt, .ref qr, .ref qi]))] hsz) (fun u : Unit => [(m0, .inr (6, [.int (nI 0), .int (nI kn), .ref qf, .ref qu, .ref qz, .ref qd, .ref qx, .int (nI mn), .int has, .ref ql, .int (nI tn), .ref qg, .int cc, .ref qb, .ref qy, .ref qc, .int sp, .int rk, .ref qe, .ref qw, .ref qt, .ref qr, .ref qi]))])) (va_A [(m0, .inr (6, [.int th, .int (nI kn), .ref qf, .ref qu, .ref qz, .ref qd, .ref qx, .int (nI mn), .int has, .ref ql, .int (nI tn), .ref qg, .int cc, .ref qb, .ref qy, .ref qc, .int sp, .int rk, .ref qe, .ref qw, .ref qt, .ref qr, .ref qi]))] hsz)) 0 0 (va_A [(m0, .inr (6, [.int th, .int (nI kn), .ref qf, .ref qu, .ref qz, .ref qd, .ref qx, .int (nI mn), .int has, .ref ql, .int (nI tn), .ref qg, .int cc, .ref qb, .ref qy, .ref qc, .int sp, .int rk, .ref qe, .ref qw, .ref qt, .ref qr, .ref qi]))] hsz) := by
  refine ofWi (cc := cX5_refund) (maxL := 3) (ret := (some .int)) (by decide) rfl (Nat.le_of_ble_eq_true rfl) (fun p e s m below meth c hx hb hr hml hts hown hlocks hnm A H hH hA hP hD hK hZ hS ls hl => ?_)
  have hown : s.vm.findClass RX5 = some m.cls := hown
  have hl : lv_has ls 3 [(0, .ref m0), (1, .long x)] := hl
  have tn0 : (nI 0).toInt = 0 := by decide
  have tn1 : (nI 1).toInt = 1 := by decide
  have tn2 : (nI 2).toInt = 2 := by decide
  have tl0 : (lN 0).toInt = 0 := by decide
  have hiX5 : ∀ w ∈ wsX50, w ∈ wsX5_refund := by decide +kernel
  have tm : ((nI mn - nI 1).toInt64).toInt = (mn : Int) - 1 := by rw [Int32.toInt_toInt64, pk_sub_toInt (by omega) (by omega)]; rfl
  refine lv_aload_n hx hb dX5_refund_0 rfl (lv_at hl 0 rfl) ?_
  refine lv_iconst (v := (nI 0)) hx hb dX5_refund_1 (by decide) ?_
  refine va_put (D := g.1) (ci := 6) (v := .int (nI 0)) (ty := .int) (C := RX5) (T := TX5) (N := 23) hx hb hts hiX5 tyX5 tyX5_ok nmX5 hown hK.1 hP hD hS 0 rfl rfl 0 (by decide) (hts (.fieldLink RX5 136 "StampMakerModel" "thrown" "I") (by decide +kernel)) (fun _ h9 => h9) rfl (by decide +kernel) rfl rfl (Nat.le_of_ble_eq_true rfl) dX5_refund_2 (fun H locs hP hD hS => ?_)
  have hP : va_P g.1 vwCl [(m0, .inr (6, [.int (nI 0), .int (nI kn), .ref qf, .ref qu, .ref qz, .ref qd, .ref qx, .int (nI mn), .int has, .ref ql, .int (nI tn), .ref qg, .int cc, .ref qb, .ref qy, .ref qc, .int sp, .int rk, .ref qe, .ref qw, .ref qt, .ref qr, .ref qi]))] H := hP
  have hD : va_D A [(m0, .inr (6, [.int (nI 0), .int (nI kn), .ref qf, .ref qu, .ref qz, .ref qd, .ref qx, .int (nI mn), .int has, .ref ql, .int (nI tn), .ref qg, .int cc, .ref qb, .ref qy, .ref qc, .int sp, .int rk, .ref qe, .ref qw, .ref qt, .ref qr, .ref qi]))] := hD
  refine lv_lload_n hx hb dX5_refund_5 rfl (lv_at hl 1 rfl) ?_
  refine lv_lconst (v := lN 0) hx hb dX5_refund_6 (by decide) ?_
  refine lv_aload_n hx hb dX5_refund_7 rfl (lv_at hl 0 rfl) ?_
  refine va_get (D := g.1) (ci := 6) (v := .int (nI mn)) (C := RX5) (T := TX5) (N := 23) hx hb hts hiX5 hown hK.1 hP 0 rfl rfl 7 (by decide) (hts (.fieldLink RX5 177 "StampMakerModel" "serial" "I") (by decide +kernel)) (fun _ h9 => h9) rfl dX5_refund_8 ?_
  refine lv_iconst (v := (nI 1)) hx hb dX5_refund_11 (by decide) ?_
  refine lv_isub hx hb dX5_refund_12 ?_
  refine lv_i2l hx hb dX5_refund_13 rfl ?_
  refine cSi (rest := []) ⟨hx, hb, hml, hown, hts⟩ [.long x, .long (lN 0), .long ((nI mn - nI 1).toInt64)] (c_X5_within l g (v := x) (lo := (lN 0)) (hi := ((nI mn - nI 1).toInt64))) (va_cwS 3 hts gX5_refund_X5_within rfl rfl rfl (by decide +kernel) ⟨Nat.le_of_ble_eq_true rfl, Nat.le_of_ble_eq_true rfl⟩) hK hZ hS (subP hP [] rfl) rfl hl.1 rfl (Nat.le_of_ble_eq_true rfl) dX5_refund_14 ⟨Nat.zero_le _, Nat.zero_le _⟩ (fun r_182 hr_182 => ?_)
  obtain rfl : r_182 = (inI (x).toInt (lN 0).toInt ((nI mn - nI 1).toInt64).toInt) := hr_182
  refine lv_if_eq (tgt := 30) hx hb dX5_refund_17 (by decide) (fun _ => ?_) (fun c9 => absurd (inI_0 (by omega)) c9)
  refine lv_iconst (v := (nI 0)) hx hb dX5_refund_30 (by decide) ?_
  exact endWi () hx hb hr hlocks hS dX5_refund_31 hP hD (rfl)

set_option maxHeartbeats 4000000 in
set_option maxRecDepth 100000 in
/-- given back, or not -/
theorem c_X5_refund_used (l : Launch) (g : gE) (hsz : Nat) (m0 kn mn tn qf qu qz qd qx ql qg qb qy qc qe qw qt qr qi : Nat) (th has cc sp rk : Int32) (ff : Nat → Int32) (j : Nat) (hj : j < mn) (hmn : mn < 16384) (hu : 0 < ff j) : Met l yX5_refund wsX5_refund ({ frames := 1, cells := 0, slots := 0, locals := 25 }) (va_Pc [.ref m0, .long (lN j)] (wr g [(m0, .inr (6, [.int th, .int (nI kn), .ref qf, .ref qu, .ref qz, .ref qd, .ref qx, .int (nI mn), .int has, .ref ql, .int (nI tn), .ref qg, .int cc, .ref qb, .ref qy, .ref qc, .int sp, .int rk, .ref qe, .ref qw, .ref qt, .ref qr, .ref qi])), (qb, .inl (g.2.1 1, 16384, .inl ff))] hsz)) (va_Qi (fun (r : Int32) (u : Unit) => r = nI 0) (wB g (va_A [(m0, .inr (6, [.int th, .int (nI kn), .ref qf, .ref qu, .ref qz, .ref qd, .ref qx, .int (nI mn), .int has, .ref ql, .int (nI tn), .ref qg, .int cc, .ref qb, .ref qy, .ref qc, .int sp, .int rk, .ref qe, .ref qw, .ref qt, .ref qr, .ref qi])), (qb, .inl (g.2.1 1, 16384, .inl ff))] hsz) (fun u : Unit => [(m0, .inr (6, [.int (nI 0), .int (nI kn), .ref qf, .ref qu, .ref qz, .ref qd, .ref qx, .int (nI mn), .int has, .ref ql, .int (nI tn), .ref qg, .int cc, .ref qb, .ref qy, .ref qc, .int sp, .int rk, .ref qe, .ref qw, .ref qt, .ref qr, .ref qi])), (qb, .inl (g.2.1 1, 16384, .inl ff))])) (va_A [(m0, .inr (6, [.int th, .int (nI kn), .ref qf, .ref qu, .ref qz, .ref qd, .ref qx, .int (nI mn), .int has, .ref ql, .int (nI tn), .ref qg, .int cc, .ref qb, .ref qy, .ref qc, .int sp, .int rk, .ref qe, .ref qw, .ref qt, .ref qr, .ref qi])), (qb, .inl (g.2.1 1, 16384, .inl ff))] hsz)) 0 0 (va_A [(m0, .inr (6, [.int th, .int (nI kn), .ref qf, .ref qu, .ref qz, .ref qd, .ref qx, .int (nI mn), .int has, .ref ql, .int (nI tn), .ref qg, .int cc, .ref qb, .ref qy, .ref qc, .int sp, .int rk, .ref qe, .ref qw, .ref qt, .ref qr, .ref qi])), (qb, .inl (g.2.1 1, 16384, .inl ff))] hsz) := by
  refine ofWi (cc := cX5_refund) (maxL := 3) (ret := (some .int)) (by decide) rfl (Nat.le_of_ble_eq_true rfl) (fun p e s m below meth c hx hb hr hml hts hown hlocks hnm A H hH hA hP hD hK hZ hS ls hl => ?_)
  have hown : s.vm.findClass RX5 = some m.cls := hown
  have hl : lv_has ls 3 [(0, .ref m0), (1, .long (lN j))] := hl
  have tn0 : (nI 0).toInt = 0 := by decide
  have tn1 : (nI 1).toInt = 1 := by decide
  have tn2 : (nI 2).toInt = 2 := by decide
  have tl0 : (lN 0).toInt = 0 := by decide
  have hiX5 : ∀ w ∈ wsX50, w ∈ wsX5_refund := by decide +kernel
  have tm : ((nI mn - nI 1).toInt64).toInt = (mn : Int) - 1 := by rw [Int32.toInt_toInt64, pk_sub_toInt (by omega) (by omega)]; rfl
  have tj := tl_n (n := j) (by omega)
  refine lv_aload_n hx hb dX5_refund_0 rfl (lv_at hl 0 rfl) ?_
  refine lv_iconst (v := (nI 0)) hx hb dX5_refund_1 (by decide) ?_
  refine va_put (D := g.1) (ci := 6) (v := .int (nI 0)) (ty := .int) (C := RX5) (T := TX5) (N := 23) hx hb hts hiX5 tyX5 tyX5_ok nmX5 hown hK.1 hP hD hS 0 rfl rfl 0 (by decide) (hts (.fieldLink RX5 136 "StampMakerModel" "thrown" "I") (by decide +kernel)) (fun _ h9 => h9) rfl (by decide +kernel) rfl rfl (Nat.le_of_ble_eq_true rfl) dX5_refund_2 (fun H locs hP hD hS => ?_)
  have hP : va_P g.1 vwCl [(m0, .inr (6, [.int (nI 0), .int (nI kn), .ref qf, .ref qu, .ref qz, .ref qd, .ref qx, .int (nI mn), .int has, .ref ql, .int (nI tn), .ref qg, .int cc, .ref qb, .ref qy, .ref qc, .int sp, .int rk, .ref qe, .ref qw, .ref qt, .ref qr, .ref qi])), (qb, .inl (g.2.1 1, 16384, .inl ff))] H := hP
  have hD : va_D A [(m0, .inr (6, [.int (nI 0), .int (nI kn), .ref qf, .ref qu, .ref qz, .ref qd, .ref qx, .int (nI mn), .int has, .ref ql, .int (nI tn), .ref qg, .int cc, .ref qb, .ref qy, .ref qc, .int sp, .int rk, .ref qe, .ref qw, .ref qt, .ref qr, .ref qi])), (qb, .inl (g.2.1 1, 16384, .inl ff))] := hD
  refine lv_lload_n hx hb dX5_refund_5 rfl (lv_at hl 1 rfl) ?_
  refine lv_lconst (v := lN 0) hx hb dX5_refund_6 (by decide) ?_
  refine lv_aload_n hx hb dX5_refund_7 rfl (lv_at hl 0 rfl) ?_
  refine va_get (D := g.1) (ci := 6) (v := .int (nI mn)) (C := RX5) (T := TX5) (N := 23) hx hb hts hiX5 hown hK.1 hP 0 rfl rfl 7 (by decide) (hts (.fieldLink RX5 177 "StampMakerModel" "serial" "I") (by decide +kernel)) (fun _ h9 => h9) rfl dX5_refund_8 ?_
  refine lv_iconst (v := (nI 1)) hx hb dX5_refund_11 (by decide) ?_
  refine lv_isub hx hb dX5_refund_12 ?_
  refine lv_i2l hx hb dX5_refund_13 rfl ?_
  refine cSi (rest := []) ⟨hx, hb, hml, hown, hts⟩ [.long (lN j), .long (lN 0), .long ((nI mn - nI 1).toInt64)] (c_X5_within l g (v := (lN j)) (lo := (lN 0)) (hi := ((nI mn - nI 1).toInt64))) (va_cwS 3 hts gX5_refund_X5_within rfl rfl rfl (by decide +kernel) ⟨Nat.le_of_ble_eq_true rfl, Nat.le_of_ble_eq_true rfl⟩) hK hZ hS (subP hP [] rfl) rfl hl.1 rfl (Nat.le_of_ble_eq_true rfl) dX5_refund_14 ⟨Nat.zero_le _, Nat.zero_le _⟩ (fun r_183 hr_183 => ?_)
  obtain rfl : r_183 = (inI ((lN j)).toInt (lN 0).toInt ((nI mn - nI 1).toInt64).toInt) := hr_183
  refine lv_if_eq (tgt := 30) hx hb dX5_refund_17 (by decide) (fun c9 => absurd c9 (by rw [inI_1 (by omega) (by omega)]; decide)) (fun _ => ?_)
  refine lv_aload_n hx hb dX5_refund_20 rfl (lv_at hl 0 rfl) ?_
  refine va_get (D := g.1) (ci := 6) (v := .ref qb) (C := RX5) (T := TX5) (N := 23) hx hb hts hiX5 hown hK.1 hP 0 rfl rfl 13 (by decide) (hts (.fieldLink RX5 33 "StampMakerModel" "became" "[B") (by decide +kernel)) (fun _ h9 => h9) rfl dX5_refund_21 ?_
  refine lv_lload_n hx hb dX5_refund_24 rfl (lv_at hl 1 rfl) ?_
  refine lv_l2i hx hb dX5_refund_25 rfl ?_
  refine lv_rei (x' := (nI j)) (l_i) ?_
  refine va_bald hx hb hK.1 hP 1 1 rfl rfl (vp_in_nI (by omega) (by omega)) dX5_refund_26 ?_
  refine lv_rei (x' := ff j) (congrArg ff (nI_clamp (by omega))) ?_
  refine lv_if_le (tgt := 32) hx hb dX5_refund_27 (by decide) (fun c9 => absurd c9 (Int32.not_le.mpr hu)) (fun _ => ?_)
  refine lv_iconst (v := (nI 0)) hx hb dX5_refund_30 (by decide) ?_
  exact endWi () hx hb hr hlocks hS dX5_refund_31 hP hD (rfl)

set_option maxHeartbeats 4000000 in
set_option maxRecDepth 100000 in
/-- given back, or not -/
theorem c_X5_refund_yes (l : Launch) (g : gE) (hsz : Nat) (m0 kn mn tn qf qu qz qd qx ql qg qb qy qc qe qw qt qr qi : Nat) (th has cc sp rk : Int32) (ff : Nat → Int32) (j : Nat) (hj : j < mn) (hmn : mn < 16384) (hu : ff j = 0) : Met l yX5_refund wsX5_refund ({ frames := 1, cells := 0, slots := 0, locals := 25 }) (va_Pc [.ref m0, .long (lN j)] (wr g [(m0, .inr (6, [.int th, .int (nI kn), .ref qf, .ref qu, .ref qz, .ref qd, .ref qx, .int (nI mn), .int has, .ref ql, .int (nI tn), .ref qg, .int cc, .ref qb, .ref qy, .ref qc, .int sp, .int rk, .ref qe, .ref qw, .ref qt, .ref qr, .ref qi])), (qb, .inl (g.2.1 1, 16384, .inl ff))] hsz)) (va_Qi (fun (r : Int32) (u : Unit) => r = nI 1) (wB g (va_A [(m0, .inr (6, [.int th, .int (nI kn), .ref qf, .ref qu, .ref qz, .ref qd, .ref qx, .int (nI mn), .int has, .ref ql, .int (nI tn), .ref qg, .int cc, .ref qb, .ref qy, .ref qc, .int sp, .int rk, .ref qe, .ref qw, .ref qt, .ref qr, .ref qi])), (qb, .inl (g.2.1 1, 16384, .inl ff))] hsz) (fun u : Unit => [(m0, .inr (6, [.int (nI 0), .int (nI kn), .ref qf, .ref qu, .ref qz, .ref qd, .ref qx, .int (nI mn), .int has, .ref ql, .int (nI tn), .ref qg, .int cc, .ref qb, .ref qy, .ref qc, .int sp, .int rk, .ref qe, .ref qw, .ref qt, .ref qr, .ref qi])), (qb, .inl (g.2.1 1, 16384, .inl (upd ff j (nI 2))))])) (va_A [(m0, .inr (6, [.int th, .int (nI kn), .ref qf, .ref qu, .ref qz, .ref qd, .ref qx, .int (nI mn), .int has, .ref ql, .int (nI tn), .ref qg, .int cc, .ref qb, .ref qy, .ref qc, .int sp, .int rk, .ref qe, .ref qw, .ref qt, .ref qr, .ref qi])), (qb, .inl (g.2.1 1, 16384, .inl ff))] hsz)) 0 0 (va_A [(m0, .inr (6, [.int th, .int (nI kn), .ref qf, .ref qu, .ref qz, .ref qd, .ref qx, .int (nI mn), .int has, .ref ql, .int (nI tn), .ref qg, .int cc, .ref qb, .ref qy, .ref qc, .int sp, .int rk, .ref qe, .ref qw, .ref qt, .ref qr, .ref qi])), (qb, .inl (g.2.1 1, 16384, .inl ff))] hsz) := by
  refine ofWi (cc := cX5_refund) (maxL := 3) (ret := (some .int)) (by decide) rfl (Nat.le_of_ble_eq_true rfl) (fun p e s m below meth c hx hb hr hml hts hown hlocks hnm A H hH hA hP hD hK hZ hS ls hl => ?_)
  have hown : s.vm.findClass RX5 = some m.cls := hown
  have hl : lv_has ls 3 [(0, .ref m0), (1, .long (lN j))] := hl
  have tn0 : (nI 0).toInt = 0 := by decide
  have tn1 : (nI 1).toInt = 1 := by decide
  have tn2 : (nI 2).toInt = 2 := by decide
  have tl0 : (lN 0).toInt = 0 := by decide
  have hiX5 : ∀ w ∈ wsX50, w ∈ wsX5_refund := by decide +kernel
  have tm : ((nI mn - nI 1).toInt64).toInt = (mn : Int) - 1 := by rw [Int32.toInt_toInt64, pk_sub_toInt (by omega) (by omega)]; rfl
  have tj := tl_n (n := j) (by omega)
  refine lv_aload_n hx hb dX5_refund_0 rfl (lv_at hl 0 rfl) ?_
  refine lv_iconst (v := (nI 0)) hx hb dX5_refund_1 (by decide) ?_
  refine va_put (D := g.1) (ci := 6) (v := .int (nI 0)) (ty := .int) (C := RX5) (T := TX5) (N := 23) hx hb hts hiX5 tyX5 tyX5_ok nmX5 hown hK.1 hP hD hS 0 rfl rfl 0 (by decide) (hts (.fieldLink RX5 136 "StampMakerModel" "thrown" "I") (by decide +kernel)) (fun _ h9 => h9) rfl (by decide +kernel) rfl rfl (Nat.le_of_ble_eq_true rfl) dX5_refund_2 (fun H locs hP hD hS => ?_)
  have hP : va_P g.1 vwCl [(m0, .inr (6, [.int (nI 0), .int (nI kn), .ref qf, .ref qu, .ref qz, .ref qd, .ref qx, .int (nI mn), .int has, .ref ql, .int (nI tn), .ref qg, .int cc, .ref qb, .ref qy, .ref qc, .int sp, .int rk, .ref qe, .ref qw, .ref qt, .ref qr, .ref qi])), (qb, .inl (g.2.1 1, 16384, .inl ff))] H := hP
  have hD : va_D A [(m0, .inr (6, [.int (nI 0), .int (nI kn), .ref qf, .ref qu, .ref qz, .ref qd, .ref qx, .int (nI mn), .int has, .ref ql, .int (nI tn), .ref qg, .int cc, .ref qb, .ref qy, .ref qc, .int sp, .int rk, .ref qe, .ref qw, .ref qt, .ref qr, .ref qi])), (qb, .inl (g.2.1 1, 16384, .inl ff))] := hD
  refine lv_lload_n hx hb dX5_refund_5 rfl (lv_at hl 1 rfl) ?_
  refine lv_lconst (v := lN 0) hx hb dX5_refund_6 (by decide) ?_
  refine lv_aload_n hx hb dX5_refund_7 rfl (lv_at hl 0 rfl) ?_
  refine va_get (D := g.1) (ci := 6) (v := .int (nI mn)) (C := RX5) (T := TX5) (N := 23) hx hb hts hiX5 hown hK.1 hP 0 rfl rfl 7 (by decide) (hts (.fieldLink RX5 177 "StampMakerModel" "serial" "I") (by decide +kernel)) (fun _ h9 => h9) rfl dX5_refund_8 ?_
  refine lv_iconst (v := (nI 1)) hx hb dX5_refund_11 (by decide) ?_
  refine lv_isub hx hb dX5_refund_12 ?_
  refine lv_i2l hx hb dX5_refund_13 rfl ?_
  refine cSi (rest := []) ⟨hx, hb, hml, hown, hts⟩ [.long (lN j), .long (lN 0), .long ((nI mn - nI 1).toInt64)] (c_X5_within l g (v := (lN j)) (lo := (lN 0)) (hi := ((nI mn - nI 1).toInt64))) (va_cwS 3 hts gX5_refund_X5_within rfl rfl rfl (by decide +kernel) ⟨Nat.le_of_ble_eq_true rfl, Nat.le_of_ble_eq_true rfl⟩) hK hZ hS (subP hP [] rfl) rfl hl.1 rfl (Nat.le_of_ble_eq_true rfl) dX5_refund_14 ⟨Nat.zero_le _, Nat.zero_le _⟩ (fun r_184 hr_184 => ?_)
  obtain rfl : r_184 = (inI ((lN j)).toInt (lN 0).toInt ((nI mn - nI 1).toInt64).toInt) := hr_184
  refine lv_if_eq (tgt := 30) hx hb dX5_refund_17 (by decide) (fun c9 => absurd c9 (by rw [inI_1 (by omega) (by omega)]; decide)) (fun _ => ?_)
  refine lv_aload_n hx hb dX5_refund_20 rfl (lv_at hl 0 rfl) ?_
  refine va_get (D := g.1) (ci := 6) (v := .ref qb) (C := RX5) (T := TX5) (N := 23) hx hb hts hiX5 hown hK.1 hP 0 rfl rfl 13 (by decide) (hts (.fieldLink RX5 33 "StampMakerModel" "became" "[B") (by decide +kernel)) (fun _ h9 => h9) rfl dX5_refund_21 ?_
  refine lv_lload_n hx hb dX5_refund_24 rfl (lv_at hl 1 rfl) ?_
  refine lv_l2i hx hb dX5_refund_25 rfl ?_
  refine lv_rei (x' := (nI j)) (l_i) ?_
  refine va_bald hx hb hK.1 hP 1 1 rfl rfl (vp_in_nI (by omega) (by omega)) dX5_refund_26 ?_
  refine lv_rei (x' := ff j) (congrArg ff (nI_clamp (by omega))) ?_
  refine lv_if_le (tgt := 32) hx hb dX5_refund_27 (by decide) (fun _ => ?_) (fun c9 => absurd (by rw [hu]; decide) c9)
  refine lv_aload_n hx hb dX5_refund_32 rfl (lv_at hl 0 rfl) ?_
  refine va_get (D := g.1) (ci := 6) (v := .ref qb) (C := RX5) (T := TX5) (N := 23) hx hb hts hiX5 hown hK.1 hP 0 rfl rfl 13 (by decide) (hts (.fieldLink RX5 33 "StampMakerModel" "became" "[B") (by decide +kernel)) (fun _ h9 => h9) rfl dX5_refund_33 ?_
  refine lv_lload_n hx hb dX5_refund_36 rfl (lv_at hl 1 rfl) ?_
  refine lv_l2i hx hb dX5_refund_37 rfl ?_
  refine lv_rei (x' := (nI j)) (l_i) ?_
  refine lv_iconst (v := (nI 2)) hx hb dX5_refund_38 (by decide) ?_
  refine va_bast hx hb hK.1 hP hD hS 1 1 rfl rfl (vp_in_nI (by omega) (by omega)) dX5_refund_39 (fun H locs hP hD hS => ?_)
  rw [nI_clamp (by omega)] at hP hD
  rw [(by decide : vp_nar .byte (nI 2) = nI 2)] at hP hD
  have hP : va_P g.1 vwCl [(m0, .inr (6, [.int (nI 0), .int (nI kn), .ref qf, .ref qu, .ref qz, .ref qd, .ref qx, .int (nI mn), .int has, .ref ql, .int (nI tn), .ref qg, .int cc, .ref qb, .ref qy, .ref qc, .int sp, .int rk, .ref qe, .ref qw, .ref qt, .ref qr, .ref qi])), (qb, .inl (g.2.1 1, 16384, .inl (upd ff j (nI 2))))] H := hP
  have hD : va_D A [(m0, .inr (6, [.int (nI 0), .int (nI kn), .ref qf, .ref qu, .ref qz, .ref qd, .ref qx, .int (nI mn), .int has, .ref ql, .int (nI tn), .ref qg, .int cc, .ref qb, .ref qy, .ref qc, .int sp, .int rk, .ref qe, .ref qw, .ref qt, .ref qr, .ref qi])), (qb, .inl (g.2.1 1, 16384, .inl (upd ff j (nI 2))))] := hD
  refine lv_iconst (v := (nI 1)) hx hb dX5_refund_40 (by decide) ?_
  exact endWi () hx hb hr hlocks hS dX5_refund_41 hP hD (rfl)

set_option maxHeartbeats 4000000 in
set_option maxRecDepth 100000 in
/-- what became of j -/
theorem c_X5_spent_in (l : Launch) (g : gE) (hsz : Nat) (m0 kn mn tn qf qu qz qd qx ql qg qb qy qc qe qw qt qr qi : Nat) (th has cc sp rk : Int32) (ff : Nat → Int32) (j : Nat) (hj : j < 16384) : Met l yX5_spent wsX5_spent ({ frames := 1, cells := 0, slots := 0, locals := 25 }) (va_Pc [.ref m0, .long (lN j)] (wr g [(m0, .inr (6, [.int th, .int (nI kn), .ref qf, .ref qu, .ref qz, .ref qd, .ref qx, .int (nI mn), .int has, .ref ql, .int (nI tn), .ref qg, .int cc, .ref qb, .ref qy, .ref qc, .int sp, .int rk, .ref qe, .ref qw, .ref qt, .ref qr, .ref qi])), (qb, .inl (g.2.1 1, 16384, .inl ff))] hsz)) (va_Qi (fun (r : Int32) (u : Unit) => r = ff j) (wB g (va_A [(m0, .inr (6, [.int th, .int (nI kn), .ref qf, .ref qu, .ref qz, .ref qd, .ref qx, .int (nI mn), .int has, .ref ql, .int (nI tn), .ref qg, .int cc, .ref qb, .ref qy, .ref qc, .int sp, .int rk, .ref qe, .ref qw, .ref qt, .ref qr, .ref qi])), (qb, .inl (g.2.1 1, 16384, .inl ff))] hsz) (fun u : Unit => [(m0, .inr (6, [.int (nI 0), .int (nI kn), .ref qf, .ref qu, .ref qz, .ref qd, .ref qx, .int (nI mn), .int has, .ref ql, .int (nI tn), .ref qg, .int cc, .ref qb, .ref qy, .ref qc, .int sp, .int rk, .ref qe, .ref qw, .ref qt, .ref qr, .ref qi])), (qb, .inl (g.2.1 1, 16384, .inl ff))])) (va_A [(m0, .inr (6, [.int th, .int (nI kn), .ref qf, .ref qu, .ref qz, .ref qd, .ref qx, .int (nI mn), .int has, .ref ql, .int (nI tn), .ref qg, .int cc, .ref qb, .ref qy, .ref qc, .int sp, .int rk, .ref qe, .ref qw, .ref qt, .ref qr, .ref qi])), (qb, .inl (g.2.1 1, 16384, .inl ff))] hsz)) 0 0 (va_A [(m0, .inr (6, [.int th, .int (nI kn), .ref qf, .ref qu, .ref qz, .ref qd, .ref qx, .int (nI mn), .int has, .ref ql, .int (nI tn), .ref qg, .int cc, .ref qb, .ref qy, .ref qc, .int sp, .int rk, .ref qe, .ref qw, .ref qt, .ref qr, .ref qi])), (qb, .inl (g.2.1 1, 16384, .inl ff))] hsz) := by
  refine ofWi (cc := cX5_spent) (maxL := 3) (ret := (some .int)) (by decide) rfl (Nat.le_of_ble_eq_true rfl) (fun p e s m below meth c hx hb hr hml hts hown hlocks hnm A H hH hA hP hD hK hZ hS ls hl => ?_)
  have hown : s.vm.findClass RX5 = some m.cls := hown
  have hl : lv_has ls 3 [(0, .ref m0), (1, .long (lN j))] := hl
  have tn0 : (nI 0).toInt = 0 := by decide
  have tl0 : (lN 0).toInt = 0 := by decide
  have tl16383 : (lN 16383).toInt = 16383 := by decide
  have hiX5 : ∀ w ∈ wsX50, w ∈ wsX5_spent := by decide +kernel
  have tj := tl_n (n := j) (by omega)
  refine lv_aload_n hx hb dX5_spent_0 rfl (lv_at hl 0 rfl) ?_
  refine lv_iconst (v := (nI 0)) hx hb dX5_spent_1 (by decide) ?_
  refine va_put (D := g.1) (ci := 6) (v := .int (nI 0)) (ty := .int) (C := RX5) (T := TX5) (N := 23) hx hb hts hiX5 tyX5 tyX5_ok nmX5 hown hK.1 hP hD hS 0 rfl rfl 0 (by decide) (hts (.fieldLink RX5 136 "StampMakerModel" "thrown" "I") (by decide +kernel)) (fun _ h9 => h9) rfl (by decide +kernel) rfl rfl (Nat.le_of_ble_eq_true rfl) dX5_spent_2 (fun H locs hP hD hS => ?_)
  have hP : va_P g.1 vwCl [(m0, .inr (6, [.int (nI 0), .int (nI kn), .ref qf, .ref qu, .ref qz, .ref qd, .ref qx, .int (nI mn), .int has, .ref ql, .int (nI tn), .ref qg, .int cc, .ref qb, .ref qy, .ref qc, .int sp, .int rk, .ref qe, .ref qw, .ref qt, .ref qr, .ref qi])), (qb, .inl (g.2.1 1, 16384, .inl ff))] H := hP
  have hD : va_D A [(m0, .inr (6, [.int (nI 0), .int (nI kn), .ref qf, .ref qu, .ref qz, .ref qd, .ref qx, .int (nI mn), .int has, .ref ql, .int (nI tn), .ref qg, .int cc, .ref qb, .ref qy, .ref qc, .int sp, .int rk, .ref qe, .ref qw, .ref qt, .ref qr, .ref qi])), (qb, .inl (g.2.1 1, 16384, .inl ff))] := hD
  refine lv_lload_n hx hb dX5_spent_5 rfl (lv_at hl 1 rfl) ?_
  refine lv_lconst (v := lN 0) hx hb dX5_spent_6 (by decide) ?_
  refine lv_ldc2 (v := (lN 16383)) hx hb hown (hts (.constantLong RX5 218 (lN 16383)) (by decide +kernel)) dX5_spent_7 ?_
  refine cSi (rest := []) ⟨hx, hb, hml, hown, hts⟩ [.long (lN j), .long (lN 0), .long (lN 16383)] (c_X5_within l g (v := (lN j)) (lo := (lN 0)) (hi := (lN 16383))) (va_cwS 3 hts gX5_spent_X5_within rfl rfl rfl (by decide +kernel) ⟨Nat.le_of_ble_eq_true rfl, Nat.le_of_ble_eq_true rfl⟩) hK hZ hS (subP hP [] rfl) rfl hl.1 rfl (Nat.le_of_ble_eq_true rfl) dX5_spent_10 ⟨Nat.zero_le _, Nat.zero_le _⟩ (fun r_185 hr_185 => ?_)
  obtain rfl : r_185 = (inI (lN j).toInt (lN 0).toInt (lN 16383).toInt) := hr_185
  refine lv_if_eq (tgt := 26) hx hb dX5_spent_13 (by decide) (fun c9 => absurd c9 (by rw [inI_1 (by omega) (by omega)]; decide)) (fun _ => ?_)
  refine lv_aload_n hx hb dX5_spent_16 rfl (lv_at hl 0 rfl) ?_
  refine va_get (D := g.1) (ci := 6) (v := .ref qb) (C := RX5) (T := TX5) (N := 23) hx hb hts hiX5 hown hK.1 hP 0 rfl rfl 13 (by decide) (hts (.fieldLink RX5 33 "StampMakerModel" "became" "[B") (by decide +kernel)) (fun _ h9 => h9) rfl dX5_spent_17 ?_
  refine lv_lload_n hx hb dX5_spent_20 rfl (lv_at hl 1 rfl) ?_
  refine lv_l2i hx hb dX5_spent_21 rfl ?_
  refine lv_rei (x' := (nI j)) (l_i) ?_
  refine va_bald hx hb hK.1 hP 1 1 rfl rfl (vp_in_nI (by omega) (by omega)) dX5_spent_22 ?_
  refine lv_rei (x' := ff j) (congrArg ff (nI_clamp (by omega))) ?_
  refine lv_goto (tgt := 27) hx hb dX5_spent_23 (by decide) ?_
  exact endWi () hx hb hr hlocks hS dX5_spent_27 hP hD (rfl)

set_option maxHeartbeats 4000000 in
set_option maxRecDepth 100000 in
/-- none such -/
theorem c_X5_spent_out (l : Launch) (g : gE) (hsz : Nat) (m0 kn mn tn qf qu qz qd qx ql qg qb qy qc qe qw qt qr qi : Nat) (th has cc sp rk : Int32) (x : Int64) (hx0 : ¬ (0 ≤ x.toInt ∧ x.toInt ≤ 16383)) : Met l yX5_spent wsX5_spent ({ frames := 1, cells := 0, slots := 0, locals := 25 }) (va_Pc [.ref m0, .long x] (wr g [(m0, .inr (6, [.int th, .int (nI kn), .ref qf, .ref qu, .ref qz, .ref qd, .ref qx, .int (nI mn), .int has, .ref ql, .int (nI tn), .ref qg, .int cc, .ref qb, .ref qy, .ref qc, .int sp, .int rk, .ref qe, .ref qw, .ref qt, .ref qr, .ref qi]))] hsz)) (va_Qi (fun (r : Int32) (u : Unit) => r = nI 0) (wB g (va_A [(m0, .inr (6, [.int th, .int (nI kn), .ref qf, .ref qu, .ref qz, .ref qd, .ref qx, .int (nI mn), .int has, .ref ql, .int (nI tn), .ref qg, .int cc, .ref qb, .ref qy, .ref qc, .int sp, .int rk, .ref qe, .ref qw, .ref qt, .ref qr, .ref qi]))] hsz) (fun u : Unit => [(m0, .inr (6, [.int (nI 0), .int (nI kn), .ref qf, .ref qu, .ref qz, .ref qd, .ref qx, .int (nI mn), .int has, .ref ql, .int (nI tn), .ref qg, .int cc, .ref qb, .ref qy, .ref qc, .int sp, .int rk, .ref qe, .ref qw, .ref qt, .ref qr, .ref qi]))])) (va_A [(m0, .inr (6, [.int th, .int (nI kn), .ref qf, .ref qu, .ref qz, .ref qd, .ref qx, .int (nI mn), .int has, .ref ql, .int (nI tn), .ref qg, .int cc, .ref qb, .ref qy, .ref qc, .int sp, .int rk, .ref qe, .ref qw, .ref qt, .ref qr, .ref qi]))] hsz)) 0 0 (va_A [(m0, .inr (6, [.int th, .int (nI kn), .ref qf, .ref qu, .ref qz, .ref qd, .ref qx, .int (nI mn), .int has, .ref ql, .int (nI tn), .ref qg, .int cc, .ref qb, .ref qy, .ref qc, .int sp, .int rk, .ref qe, .ref qw, .ref qt, .ref qr, .ref qi]))] hsz) := by
  refine ofWi (cc := cX5_spent) (maxL := 3) (ret := (some .int)) (by decide) rfl (Nat.le_of_ble_eq_true rfl) (fun p e s m below meth c hx hb hr hml hts hown hlocks hnm A H hH hA hP hD hK hZ hS ls hl => ?_)
  have hown : s.vm.findClass RX5 = some m.cls := hown
  have hl : lv_has ls 3 [(0, .ref m0), (1, .long x)] := hl
  have tn0 : (nI 0).toInt = 0 := by decide
  have tl0 : (lN 0).toInt = 0 := by decide
  have tl16383 : (lN 16383).toInt = 16383 := by decide
  have hiX5 : ∀ w ∈ wsX50, w ∈ wsX5_spent := by decide +kernel
  refine lv_aload_n hx hb dX5_spent_0 rfl (lv_at hl 0 rfl) ?_
  refine lv_iconst (v := (nI 0)) hx hb dX5_spent_1 (by decide) ?_
  refine va_put (D := g.1) (ci := 6) (v := .int (nI 0)) (ty := .int) (C := RX5) (T := TX5) (N := 23) hx hb hts hiX5 tyX5 tyX5_ok nmX5 hown hK.1 hP hD hS 0 rfl rfl 0 (by decide) (hts (.fieldLink RX5 136 "StampMakerModel" "thrown" "I") (by decide +kernel)) (fun _ h9 => h9) rfl (by decide +kernel) rfl rfl (Nat.le_of_ble_eq_true rfl) dX5_spent_2 (fun H locs hP hD hS => ?_)
  have hP : va_P g.1 vwCl [(m0, .inr (6, [.int (nI 0), .int (nI kn), .ref qf, .ref qu, .ref qz, .ref qd, .ref qx, .int (nI mn), .int has, .ref ql, .int (nI tn), .ref qg, .int cc, .ref qb, .ref qy, .ref qc, .int sp, .int rk, .ref qe, .ref qw, .ref qt, .ref qr, .ref qi]))] H := hP
  have hD : va_D A [(m0, .inr (6, [.int (nI 0), .int (nI kn), .ref qf, .ref qu, .ref qz, .ref qd, .ref qx, .int (nI mn), .int has, .ref ql, .int (nI tn), .ref qg, .int cc, .ref qb, .ref qy, .ref qc, .int sp, .int rk, .ref qe, .ref qw, .ref qt, .ref qr, .ref qi]))] := hD
  refine lv_lload_n hx hb dX5_spent_5 rfl (lv_at hl 1 rfl) ?_
  refine lv_lconst (v := lN 0) hx hb dX5_spent_6 (by decide) ?_
  refine lv_ldc2 (v := (lN 16383)) hx hb hown (hts (.constantLong RX5 218 (lN 16383)) (by decide +kernel)) dX5_spent_7 ?_
  refine cSi (rest := []) ⟨hx, hb, hml, hown, hts⟩ [.long x, .long (lN 0), .long (lN 16383)] (c_X5_within l g (v := x) (lo := (lN 0)) (hi := (lN 16383))) (va_cwS 3 hts gX5_spent_X5_within rfl rfl rfl (by decide +kernel) ⟨Nat.le_of_ble_eq_true rfl, Nat.le_of_ble_eq_true rfl⟩) hK hZ hS (subP hP [] rfl) rfl hl.1 rfl (Nat.le_of_ble_eq_true rfl) dX5_spent_10 ⟨Nat.zero_le _, Nat.zero_le _⟩ (fun r_186 hr_186 => ?_)
  obtain rfl : r_186 = (inI x.toInt (lN 0).toInt (lN 16383).toInt) := hr_186
  refine lv_if_eq (tgt := 26) hx hb dX5_spent_13 (by decide) (fun _ => ?_) (fun c9 => absurd (inI_0 (by omega)) c9)
  refine lv_iconst (v := (nI 0)) hx hb dX5_spent_26 (by decide) ?_
  exact endWi () hx hb hr hlocks hS dX5_spent_27 hP hD (rfl)

set_option maxHeartbeats 4000000 in
set_option maxRecDepth 100000 in
/-- the next serial number -/
theorem c_X5_serial (l : Launch) (g : gE) (hsz : Nat) (m0 kn mn tn qf qu qz qd qx ql qg qb qy qc qe qw qt qr qi : Nat) (th has cc sp rk : Int32)  : Met l yX5_serial wsX5_serial ({ frames := 0, cells := 0, slots := 0, locals := 0 }) (va_Pc [.ref m0] (wr g [(m0, .inr (6, [.int th, .int (nI kn), .ref qf, .ref qu, .ref qz, .ref qd, .ref qx, .int (nI mn), .int has, .ref ql, .int (nI tn), .ref qg, .int cc, .ref qb, .ref qy, .ref qc, .int sp, .int rk, .ref qe, .ref qw, .ref qt, .ref qr, .ref qi]))] hsz)) (va_Ql (fun (r : Int64) (u : Unit) => r = (nI mn).toInt64) (wB g (va_A [(m0, .inr (6, [.int th, .int (nI kn), .ref qf, .ref qu, .ref qz, .ref qd, .ref qx, .int (nI mn), .int has, .ref ql, .int (nI tn), .ref qg, .int cc, .ref qb, .ref qy, .ref qc, .int sp, .int rk, .ref qe, .ref qw, .ref qt, .ref qr, .ref qi]))] hsz) (fun u : Unit => [(m0, .inr (6, [.int (nI 0), .int (nI kn), .ref qf, .ref qu, .ref qz, .ref qd, .ref qx, .int (nI mn), .int has, .ref ql, .int (nI tn), .ref qg, .int cc, .ref qb, .ref qy, .ref qc, .int sp, .int rk, .ref qe, .ref qw, .ref qt, .ref qr, .ref qi]))])) (va_A [(m0, .inr (6, [.int th, .int (nI kn), .ref qf, .ref qu, .ref qz, .ref qd, .ref qx, .int (nI mn), .int has, .ref ql, .int (nI tn), .ref qg, .int cc, .ref qb, .ref qy, .ref qc, .int sp, .int rk, .ref qe, .ref qw, .ref qt, .ref qr, .ref qi]))] hsz)) 0 0 (va_A [(m0, .inr (6, [.int th, .int (nI kn), .ref qf, .ref qu, .ref qz, .ref qd, .ref qx, .int (nI mn), .int has, .ref ql, .int (nI tn), .ref qg, .int cc, .ref qb, .ref qy, .ref qc, .int sp, .int rk, .ref qe, .ref qw, .ref qt, .ref qr, .ref qi]))] hsz) := by
  refine ofWl (cc := cX5_serial) (maxL := 1) (ret := (some .long)) (by decide) rfl (Nat.le_of_ble_eq_true rfl) (fun p e s m below meth c hx hb hr hml hts hown hlocks hnm A H hH hA hP hD hK hZ hS ls hl => ?_)
  have hown : s.vm.findClass RX5 = some m.cls := hown
  have hl : lv_has ls 1 [(0, .ref m0)] := hl
  have hiX5 : ∀ w ∈ wsX50, w ∈ wsX5_serial := by decide +kernel
  refine lv_aload_n hx hb dX5_serial_0 rfl (lv_at hl 0 rfl) ?_
  refine lv_iconst (v := (nI 0)) hx hb dX5_serial_1 (by decide) ?_
  refine va_put (D := g.1) (ci := 6) (v := .int (nI 0)) (ty := .int) (C := RX5) (T := TX5) (N := 23) hx hb hts hiX5 tyX5 tyX5_ok nmX5 hown hK.1 hP hD hS 0 rfl rfl 0 (by decide) (hts (.fieldLink RX5 136 "StampMakerModel" "thrown" "I") (by decide +kernel)) (fun _ h9 => h9) rfl (by decide +kernel) rfl rfl (Nat.le_of_ble_eq_true rfl) dX5_serial_2 (fun H locs hP hD hS => ?_)
  have hP : va_P g.1 vwCl [(m0, .inr (6, [.int (nI 0), .int (nI kn), .ref qf, .ref qu, .ref qz, .ref qd, .ref qx, .int (nI mn), .int has, .ref ql, .int (nI tn), .ref qg, .int cc, .ref qb, .ref qy, .ref qc, .int sp, .int rk, .ref qe, .ref qw, .ref qt, .ref qr, .ref qi]))] H := hP
  have hD : va_D A [(m0, .inr (6, [.int (nI 0), .int (nI kn), .ref qf, .ref qu, .ref qz, .ref qd, .ref qx, .int (nI mn), .int has, .ref ql, .int (nI tn), .ref qg, .int cc, .ref qb, .ref qy, .ref qc, .int sp, .int rk, .ref qe, .ref qw, .ref qt, .ref qr, .ref qi]))] := hD
  refine lv_aload_n hx hb dX5_serial_5 rfl (lv_at hl 0 rfl) ?_
  refine va_get (D := g.1) (ci := 6) (v := .int (nI mn)) (C := RX5) (T := TX5) (N := 23) hx hb hts hiX5 hown hK.1 hP 0 rfl rfl 7 (by decide) (hts (.fieldLink RX5 177 "StampMakerModel" "serial" "I") (by decide +kernel)) (fun _ h9 => h9) rfl dX5_serial_6 ?_
  refine lv_i2l hx hb dX5_serial_9 rfl ?_
  exact endWl () hx hb hr hlocks hS dX5_serial_10 hP hD (rfl)

set_option maxHeartbeats 4000000 in
set_option maxRecDepth 100000 in
/-- byte i of the digest -/
theorem c_X5_digest_ok (l : Launch) (g : gE) (hsz : Nat) (m0 kn mn tn qf qu qz qd qx ql qg qb qy qc qe qw qt qr qi : Nat) (th has cc sp rk : Int32) (fe : Nat → Int32) (i : Nat) (hi : i < 32) (hrk : rk = 1) (hnar : narrow .byte (.int (fe i)) = .int (fe i)) : Met l yX5_digest wsX5_digest ({ frames := 1, cells := 0, slots := 0, locals := 25 }) (va_Pc [.ref m0, .int (nI i)] (wr g [(m0, .inr (6, [.int th, .int (nI kn), .ref qf, .ref qu, .ref qz, .ref qd, .ref qx, .int (nI mn), .int has, .ref ql, .int (nI tn), .ref qg, .int cc, .ref qb, .ref qy, .ref qc, .int sp, .int rk, .ref qe, .ref qw, .ref qt, .ref qr, .ref qi])), (qe, .inl (g.2.1 1, 32, .inl fe))] hsz)) (va_Qi (fun (r : Int32) (u : Unit) => r = fe i) (wB g (va_A [(m0, .inr (6, [.int th, .int (nI kn), .ref qf, .ref qu, .ref qz, .ref qd, .ref qx, .int (nI mn), .int has, .ref ql, .int (nI tn), .ref qg, .int cc, .ref qb, .ref qy, .ref qc, .int sp, .int rk, .ref qe, .ref qw, .ref qt, .ref qr, .ref qi])), (qe, .inl (g.2.1 1, 32, .inl fe))] hsz) (fun u : Unit => [(m0, .inr (6, [.int (nI 0), .int (nI kn), .ref qf, .ref qu, .ref qz, .ref qd, .ref qx, .int (nI mn), .int has, .ref ql, .int (nI tn), .ref qg, .int cc, .ref qb, .ref qy, .ref qc, .int sp, .int rk, .ref qe, .ref qw, .ref qt, .ref qr, .ref qi])), (qe, .inl (g.2.1 1, 32, .inl fe))])) (va_A [(m0, .inr (6, [.int th, .int (nI kn), .ref qf, .ref qu, .ref qz, .ref qd, .ref qx, .int (nI mn), .int has, .ref ql, .int (nI tn), .ref qg, .int cc, .ref qb, .ref qy, .ref qc, .int sp, .int rk, .ref qe, .ref qw, .ref qt, .ref qr, .ref qi])), (qe, .inl (g.2.1 1, 32, .inl fe))] hsz)) 0 0 (va_A [(m0, .inr (6, [.int th, .int (nI kn), .ref qf, .ref qu, .ref qz, .ref qd, .ref qx, .int (nI mn), .int has, .ref ql, .int (nI tn), .ref qg, .int cc, .ref qb, .ref qy, .ref qc, .int sp, .int rk, .ref qe, .ref qw, .ref qt, .ref qr, .ref qi])), (qe, .inl (g.2.1 1, 32, .inl fe))] hsz) := by
  refine ofWi (cc := cX5_digest) (maxL := 2) (ret := (some .byte)) (by decide) rfl (Nat.le_of_ble_eq_true rfl) (fun p e s m below meth c hx hb hr hml hts hown hlocks hnm A H hH hA hP hD hK hZ hS ls hl => ?_)
  have hown : s.vm.findClass RX5 = some m.cls := hown
  have hl : lv_has ls 2 [(0, .ref m0), (1, .int (nI i))] := hl
  have tn0 : (nI 0).toInt = 0 := by decide
  have tn1 : (nI 1).toInt = 1 := by decide
  have tl0 : (lN 0).toInt = 0 := by decide
  have tl31 : (lN 31).toInt = 31 := by decide
  have hiX5 : ∀ w ∈ wsX50, w ∈ wsX5_digest := by decide +kernel
  have tli := tl_n (n := i) (by omega)
  refine lv_aload_n hx hb dX5_digest_0 rfl (lv_at hl 0 rfl) ?_
  refine lv_aload_n hx hb dX5_digest_1 rfl (lv_at hl 0 rfl) ?_
  refine va_get (D := g.1) (ci := 6) (v := .int rk) (C := RX5) (T := TX5) (N := 23) hx hb hts hiX5 hown hK.1 hP 0 rfl rfl 17 (by decide) (hts (.fieldLink RX5 157 "StampMakerModel" "reckoned" "Z") (by decide +kernel)) (fun _ h9 => h9) rfl dX5_digest_2 ?_
  refine lv_if_eq (tgt := 24) hx hb dX5_digest_5 (by decide) (fun c9 => absurd c9 (by rw [hrk]; decide)) (fun _ => ?_)
  refine lv_iload_n hx hb dX5_digest_8 rfl (lv_at hl 1 rfl) ?_
  refine lv_i2l hx hb dX5_digest_9 rfl ?_
  refine lv_rel (x' := (lN i)) (nI_L (by omega)) ?_
  refine lv_lconst (v := lN 0) hx hb dX5_digest_10 (by decide) ?_
  refine lv_ldc2 (v := (lN 31)) hx hb hown (hts (.constantLong RX5 192 (lN 31)) (by decide +kernel)) dX5_digest_11 ?_
  refine cSi (rest := [.ref m0]) ⟨hx, hb, hml, hown, hts⟩ [.long (lN i), .long (lN 0), .long (lN 31)] (c_X5_within l g (v := (lN i)) (lo := (lN 0)) (hi := (lN 31))) (va_cwS 3 hts gX5_digest_X5_within rfl rfl rfl (by decide +kernel) ⟨Nat.le_of_ble_eq_true rfl, Nat.le_of_ble_eq_true rfl⟩) hK hZ hS (subP hP [] rfl) rfl hl.1 rfl (Nat.le_of_ble_eq_true rfl) dX5_digest_14 ⟨Nat.zero_le _, Nat.zero_le _⟩ (fun r_187 hr_187 => ?_)
  obtain rfl : r_187 = (inI (lN i).toInt (lN 0).toInt (lN 31).toInt) := hr_187
  refine lv_if_eq (tgt := 24) hx hb dX5_digest_17 (by decide) (fun c9 => absurd c9 (by rw [inI_1 (by omega) (by omega)]; decide)) (fun _ => ?_)
  refine lv_iconst (v := (nI 0)) hx hb dX5_digest_20 (by decide) ?_
  refine lv_goto (tgt := 25) hx hb dX5_digest_21 (by decide) ?_
  refine va_put (D := g.1) (ci := 6) (v := .int (nI 0)) (ty := .int) (C := RX5) (T := TX5) (N := 23) hx hb hts hiX5 tyX5 tyX5_ok nmX5 hown hK.1 hP hD hS 0 rfl rfl 0 (by decide) (hts (.fieldLink RX5 136 "StampMakerModel" "thrown" "I") (by decide +kernel)) (fun _ h9 => h9) rfl (by decide +kernel) rfl rfl (Nat.le_of_ble_eq_true rfl) dX5_digest_25 (fun H locs hP hD hS => ?_)
  have hP : va_P g.1 vwCl [(m0, .inr (6, [.int (nI 0), .int (nI kn), .ref qf, .ref qu, .ref qz, .ref qd, .ref qx, .int (nI mn), .int has, .ref ql, .int (nI tn), .ref qg, .int cc, .ref qb, .ref qy, .ref qc, .int sp, .int rk, .ref qe, .ref qw, .ref qt, .ref qr, .ref qi])), (qe, .inl (g.2.1 1, 32, .inl fe))] H := hP
  have hD : va_D A [(m0, .inr (6, [.int (nI 0), .int (nI kn), .ref qf, .ref qu, .ref qz, .ref qd, .ref qx, .int (nI mn), .int has, .ref ql, .int (nI tn), .ref qg, .int cc, .ref qb, .ref qy, .ref qc, .int sp, .int rk, .ref qe, .ref qw, .ref qt, .ref qr, .ref qi])), (qe, .inl (g.2.1 1, 32, .inl fe))] := hD
  refine lv_aload_n hx hb dX5_digest_28 rfl (lv_at hl 0 rfl) ?_
  refine va_get (D := g.1) (ci := 6) (v := .int (nI 0)) (C := RX5) (T := TX5) (N := 23) hx hb hts hiX5 hown hK.1 hP 0 rfl rfl 0 (by decide) (hts (.fieldLink RX5 136 "StampMakerModel" "thrown" "I") (by decide +kernel)) (fun _ h9 => h9) rfl dX5_digest_29 ?_
  refine lv_if_le (tgt := 39) hx hb dX5_digest_32 (by decide) (fun _ => ?_) (fun c9 => absurd (by decide) c9)
  refine lv_aload_n hx hb dX5_digest_39 rfl (lv_at hl 0 rfl) ?_
  refine va_get (D := g.1) (ci := 6) (v := .ref qe) (C := RX5) (T := TX5) (N := 23) hx hb hts hiX5 hown hK.1 hP 0 rfl rfl 18 (by decide) (hts (.fieldLink RX5 46 "StampMakerModel" "digest" "[B") (by decide +kernel)) (fun _ h9 => h9) rfl dX5_digest_40 ?_
  refine lv_iload_n hx hb dX5_digest_43 rfl (lv_at hl 1 rfl) ?_
  refine va_bald hx hb hK.1 hP 1 1 rfl rfl (vp_in_nI (by omega) (by omega)) dX5_digest_44 ?_
  refine lv_rei (x' := fe i) (congrArg fe (nI_clamp (by omega))) ?_
  exact endWz () hx hb hr hlocks hS dX5_digest_45 (hnar) hP hD (rfl)

set_option maxHeartbeats 4000000 in
set_option maxRecDepth 100000 in
/-- none such -/
theorem c_X5_digest_no (l : Launch) (g : gE) (hsz : Nat) (m0 kn mn tn qf qu qz qd qx ql qg qb qy qc qe qw qt qr qi : Nat) (th has cc sp rk : Int32) (x : Int32) (hno : ¬ (rk ≠ 0 ∧ 0 ≤ x.toInt ∧ x.toInt < 32)) : Met l yX5_digest wsX5_digest ({ frames := 1, cells := 0, slots := 0, locals := 25 }) (va_Pc [.ref m0, .int x] (wr g [(m0, .inr (6, [.int th, .int (nI kn), .ref qf, .ref qu, .ref qz, .ref qd, .ref qx, .int (nI mn), .int has, .ref ql, .int (nI tn), .ref qg, .int cc, .ref qb, .ref qy, .ref qc, .int sp, .int rk, .ref qe, .ref qw, .ref qt, .ref qr, .ref qi]))] hsz)) (va_Qi (fun (r : Int32) (u : Unit) => True) (wB g (va_A [(m0, .inr (6, [.int th, .int (nI kn), .ref qf, .ref qu, .ref qz, .ref qd, .ref qx, .int (nI mn), .int has, .ref ql, .int (nI tn), .ref qg, .int cc, .ref qb, .ref qy, .ref qc, .int sp, .int rk, .ref qe, .ref qw, .ref qt, .ref qr, .ref qi]))] hsz) (fun u : Unit => [(m0, .inr (6, [.int (nI 1), .int (nI kn), .ref qf, .ref qu, .ref qz, .ref qd, .ref qx, .int (nI mn), .int has, .ref ql, .int (nI tn), .ref qg, .int cc, .ref qb, .ref qy, .ref qc, .int sp, .int rk, .ref qe, .ref qw, .ref qt, .ref qr, .ref qi]))])) (va_A [(m0, .inr (6, [.int th, .int (nI kn), .ref qf, .ref qu, .ref qz, .ref qd, .ref qx, .int (nI mn), .int has, .ref ql, .int (nI tn), .ref qg, .int cc, .ref qb, .ref qy, .ref qc, .int sp, .int rk, .ref qe, .ref qw, .ref qt, .ref qr, .ref qi]))] hsz)) 0 0 (va_A [(m0, .inr (6, [.int th, .int (nI kn), .ref qf, .ref qu, .ref qz, .ref qd, .ref qx, .int (nI mn), .int has, .ref ql, .int (nI tn), .ref qg, .int cc, .ref qb, .ref qy, .ref qc, .int sp, .int rk, .ref qe, .ref qw, .ref qt, .ref qr, .ref qi]))] hsz) := by
  refine ofWi (cc := cX5_digest) (maxL := 2) (ret := (some .byte)) (by decide) rfl (Nat.le_of_ble_eq_true rfl) (fun p e s m below meth c hx hb hr hml hts hown hlocks hnm A H hH hA hP hD hK hZ hS ls hl => ?_)
  have hown : s.vm.findClass RX5 = some m.cls := hown
  have hl : lv_has ls 2 [(0, .ref m0), (1, .int x)] := hl
  have tn0 : (nI 0).toInt = 0 := by decide
  have tn1 : (nI 1).toInt = 1 := by decide
  have tl0 : (lN 0).toInt = 0 := by decide
  have tl31 : (lN 31).toInt = 31 := by decide
  have hiX5 : ∀ w ∈ wsX50, w ∈ wsX5_digest := by decide +kernel
  have tx := Int32.toInt_toInt64 x
  refine lv_aload_n hx hb dX5_digest_0 rfl (lv_at hl 0 rfl) ?_
  refine lv_aload_n hx hb dX5_digest_1 rfl (lv_at hl 0 rfl) ?_
  refine va_get (D := g.1) (ci := 6) (v := .int rk) (C := RX5) (T := TX5) (N := 23) hx hb hts hiX5 hown hK.1 hP 0 rfl rfl 17 (by decide) (hts (.fieldLink RX5 157 "StampMakerModel" "reckoned" "Z") (by decide +kernel)) (fun _ h9 => h9) rfl dX5_digest_2 ?_
  refine lv_if_eq (tgt := 24) hx hb dX5_digest_5 (by decide) (fun c_188 => ?_) (fun c_188 => ?_)
  · refine lv_iconst (v := (nI 1)) hx hb dX5_digest_24 (by decide) ?_
    refine va_put (D := g.1) (ci := 6) (v := .int (nI 1)) (ty := .int) (C := RX5) (T := TX5) (N := 23) hx hb hts hiX5 tyX5 tyX5_ok nmX5 hown hK.1 hP hD hS 0 rfl rfl 0 (by decide) (hts (.fieldLink RX5 136 "StampMakerModel" "thrown" "I") (by decide +kernel)) (fun _ h9 => h9) rfl (by decide +kernel) rfl rfl (Nat.le_of_ble_eq_true rfl) dX5_digest_25 (fun H locs hP hD hS => ?_)
    have hP : va_P g.1 vwCl [(m0, .inr (6, [.int (nI 1), .int (nI kn), .ref qf, .ref qu, .ref qz, .ref qd, .ref qx, .int (nI mn), .int has, .ref ql, .int (nI tn), .ref qg, .int cc, .ref qb, .ref qy, .ref qc, .int sp, .int rk, .ref qe, .ref qw, .ref qt, .ref qr, .ref qi]))] H := hP
    have hD : va_D A [(m0, .inr (6, [.int (nI 1), .int (nI kn), .ref qf, .ref qu, .ref qz, .ref qd, .ref qx, .int (nI mn), .int has, .ref ql, .int (nI tn), .ref qg, .int cc, .ref qb, .ref qy, .ref qc, .int sp, .int rk, .ref qe, .ref qw, .ref qt, .ref qr, .ref qi]))] := hD
    refine lv_aload_n hx hb dX5_digest_28 rfl (lv_at hl 0 rfl) ?_
    refine va_get (D := g.1) (ci := 6) (v := .int (nI 1)) (C := RX5) (T := TX5) (N := 23) hx hb hts hiX5 hown hK.1 hP 0 rfl rfl 0 (by decide) (hts (.fieldLink RX5 136 "StampMakerModel" "thrown" "I") (by decide +kernel)) (fun _ h9 => h9) rfl dX5_digest_29 ?_
    refine lv_if_le (tgt := 39) hx hb dX5_digest_32 (by decide) (fun c9 => absurd c9 (by decide)) (fun _ => ?_)
    refine lv_iconst (v := (nI 0)) hx hb dX5_digest_35 (by decide) ?_
    refine lv_goto (tgt := 45) hx hb dX5_digest_36 (by decide) ?_
    exact endWz () hx hb hr hlocks hS dX5_digest_45 (by decide) hP hD (trivial)
  · refine lv_iload_n hx hb dX5_digest_8 rfl (lv_at hl 1 rfl) ?_
    refine lv_i2l hx hb dX5_digest_9 rfl ?_
    refine lv_lconst (v := lN 0) hx hb dX5_digest_10 (by decide) ?_
    refine lv_ldc2 (v := (lN 31)) hx hb hown (hts (.constantLong RX5 192 (lN 31)) (by decide +kernel)) dX5_digest_11 ?_
    refine cSi (rest := [.ref m0]) ⟨hx, hb, hml, hown, hts⟩ [.long (x.toInt64), .long (lN 0), .long (lN 31)] (c_X5_within l g (v := (x.toInt64)) (lo := (lN 0)) (hi := (lN 31))) (va_cwS 3 hts gX5_digest_X5_within rfl rfl rfl (by decide +kernel) ⟨Nat.le_of_ble_eq_true rfl, Nat.le_of_ble_eq_true rfl⟩) hK hZ hS (subP hP [] rfl) rfl hl.1 rfl (Nat.le_of_ble_eq_true rfl) dX5_digest_14 ⟨Nat.zero_le _, Nat.zero_le _⟩ (fun r_189 hr_189 => ?_)
    obtain rfl : r_189 = (inI (x.toInt64).toInt (lN 0).toInt (lN 31).toInt) := hr_189
    refine lv_if_eq (tgt := 24) hx hb dX5_digest_17 (by decide) (fun _ => ?_) (fun c9 => absurd (inI_0 (fun z => hno ⟨c_188, by omega, by omega⟩)) c9)
    refine lv_iconst (v := (nI 1)) hx hb dX5_digest_24 (by decide) ?_
    refine va_put (D := g.1) (ci := 6) (v := .int (nI 1)) (ty := .int) (C := RX5) (T := TX5) (N := 23) hx hb hts hiX5 tyX5 tyX5_ok nmX5 hown hK.1 hP hD hS 0 rfl rfl 0 (by decide) (hts (.fieldLink RX5 136 "StampMakerModel" "thrown" "I") (by decide +kernel)) (fun _ h9 => h9) rfl (by decide +kernel) rfl rfl (Nat.le_of_ble_eq_true rfl) dX5_digest_25 (fun H locs hP hD hS => ?_)
    have hP : va_P g.1 vwCl [(m0, .inr (6, [.int (nI 1), .int (nI kn), .ref qf, .ref qu, .ref qz, .ref qd, .ref qx, .int (nI mn), .int has, .ref ql, .int (nI tn), .ref qg, .int cc, .ref qb, .ref qy, .ref qc, .int sp, .int rk, .ref qe, .ref qw, .ref qt, .ref qr, .ref qi]))] H := hP
    have hD : va_D A [(m0, .inr (6, [.int (nI 1), .int (nI kn), .ref qf, .ref qu, .ref qz, .ref qd, .ref qx, .int (nI mn), .int has, .ref ql, .int (nI tn), .ref qg, .int cc, .ref qb, .ref qy, .ref qc, .int sp, .int rk, .ref qe, .ref qw, .ref qt, .ref qr, .ref qi]))] := hD
    refine lv_aload_n hx hb dX5_digest_28 rfl (lv_at hl 0 rfl) ?_
    refine va_get (D := g.1) (ci := 6) (v := .int (nI 1)) (C := RX5) (T := TX5) (N := 23) hx hb hts hiX5 hown hK.1 hP 0 rfl rfl 0 (by decide) (hts (.fieldLink RX5 136 "StampMakerModel" "thrown" "I") (by decide +kernel)) (fun _ h9 => h9) rfl dX5_digest_29 ?_
    refine lv_if_le (tgt := 39) hx hb dX5_digest_32 (by decide) (fun c9 => absurd c9 (by decide)) (fun _ => ?_)
    refine lv_iconst (v := (nI 0)) hx hb dX5_digest_35 (by decide) ?_
    refine lv_goto (tgt := 45) hx hb dX5_digest_36 (by decide) ?_
    exact endWz () hx hb hr hlocks hS dX5_digest_45 (by decide) hP hD (trivial)

set_option maxHeartbeats 4000000 in
set_option maxRecDepth 100000 in
/-- bit b of the block -/
theorem c_X5_bitAt (l : Launch) (g : gE) (m0 kn mn tn qf qu qz qd qx ql qg qb qy qc qe qw qt qr qi : Nat) (th has cc sp rk : Int32) (fz fx f : Nat → Int32) (i nz N : Nat) (b : Nat) (hi : i < 15) (hfz : fz i = nI nz) (hz : nz ≤ 32) (hN : N < 36028797018963968) (hf : ∀ j, j < nz → f j = fx (32 * i + j)) (hb5 : b < 512) : Met l yX5_bitAt wsX5_bitAt ({ frames := 0, cells := 0, slots := 0, locals := 0 }) (va_Pc [.ref m0, .int (nI i), .long (lN N), .int (nI b)] (ro g [(m0, .inr (6, [.int th, .int (nI kn), .ref qf, .ref qu, .ref qz, .ref qd, .ref qx, .int (nI mn), .int has, .ref ql, .int (nI tn), .ref qg, .int cc, .ref qb, .ref qy, .ref qc, .int sp, .int rk, .ref qe, .ref qw, .ref qt, .ref qr, .ref qi])), (qz, .inl (g.2.1 0, 15, .inl fz)), (qx, .inl (g.2.1 1, 480, .inl fx))])) (vp_Si (fun r : Int32 => r = nI (mbit f nz N b))) 0 0 nA := by
  refine ofRo (cc := cX5_bitAt) (maxL := 6) (ret := (some .int)) (by decide) rfl (Nat.le_of_ble_eq_true rfl) (fun p e s m below meth c hx hb hr hml hts hown hlocks hnm hP hK hZ hS ls hl => ?_)
  have hown : s.vm.findClass RX5 = some m.cls := hown
  have hl : lv_has ls 6 [(0, .ref m0), (1, .int (nI i)), (2, .long (lN N)), (4, .int (nI b))] := hl
  have hiX5 : ∀ w ∈ wsX50, w ∈ wsX5_bitAt := by decide +kernel
  refine lv_bipush (v := (nI 8)) hx hb dX5_bitAt_0 (by decide) ?_
  refine lv_aload_n hx hb dX5_bitAt_2 rfl (lv_at hl 0 rfl) ?_
  refine va_get (D := g.1) (ci := 6) (v := .ref qz) (C := RX5) (T := TX5) (N := 23) hx hb hts hiX5 hown hK.1 hP 0 rfl rfl 4 (by decide) (hts (.fieldLink RX5 16 "StampMakerModel" "sizes" "[I") (by decide +kernel)) (fun _ h9 => h9) rfl dX5_bitAt_3 ?_
  refine lv_iload_n hx hb dX5_bitAt_6 rfl (lv_at hl 1 rfl) ?_
  refine va_iald hx hb hK.1 hP 1 0 rfl rfl (vp_in_nI (by omega) (by omega)) dX5_bitAt_7 ?_
  refine lv_rei (x' := fz i) (congrArg fz (nI_clamp (by omega))) ?_
  refine lv_rei (x' := (nI nz)) (hfz) ?_
  refine lv_imul hx hb dX5_bitAt_8 ?_
  refine lv_rei (x' := (nI (8 * nz))) (pk_mul _ _) ?_
  refine lv_istore (lv' := [(5, .int (nI (8 * nz))), (0, .ref m0), (1, .int (nI i)), (2, .long (lN N)), (4, .int (nI b))]) hx hb dX5_bitAt_9 hl (by decide) rfl (fun ls hl => ?_)
  refine lv_iload hx hb dX5_bitAt_11 (lv_at hl 4 rfl) ?_
  refine lv_iload hx hb dX5_bitAt_13 (lv_at hl 0 rfl) ?_
  rcases Nat.lt_or_ge b (8 * nz) with q | q
  · refine lv_icmp_ge (tgt := 45) hx hb dX5_bitAt_15 (by decide) (fun c9 => absurd c9 (nI_ge q (by omega))) (fun _ => ?_)
    refine lv_aload_n hx hb dX5_bitAt_18 rfl (lv_at hl 1 rfl) ?_
    refine va_get (D := g.1) (ci := 6) (v := .ref qx) (C := RX5) (T := TX5) (N := 23) hx hb hts hiX5 hown hK.1 hP 0 rfl rfl 6 (by decide) (hts (.fieldLink RX5 23 "StampMakerModel" "secret" "[B") (by decide +kernel)) (fun _ h9 => h9) rfl dX5_bitAt_19 ?_
    refine lv_bipush (v := (nI 32)) hx hb dX5_bitAt_22 (by decide) ?_
    refine lv_iload_n hx hb dX5_bitAt_24 rfl (lv_at hl 2 rfl) ?_
    refine lv_imul hx hb dX5_bitAt_25 ?_
    refine lv_rei (x' := (nI (32 * i))) (pk_mul _ _) ?_
    refine lv_iload hx hb dX5_bitAt_26 (lv_at hl 4 rfl) ?_
    refine lv_bipush (v := (nI 8)) hx hb dX5_bitAt_28 (by decide) ?_
    refine lv_idiv hx hb dX5_bitAt_30 (by decide) ?_
    refine lv_rei (x' := (nI (b / 8))) (pk_div (by omega) (by decide) (by decide)) ?_
    refine lv_iadd hx hb dX5_bitAt_31 ?_
    refine lv_rei (x' := (nI (32 * i + b / 8))) (nI_add _ _) ?_
    refine va_bald hx hb hK.1 hP 2 1 rfl rfl (vp_in_nI (by omega) (by omega)) dX5_bitAt_32 ?_
    refine lv_rei (x' := fx (32 * i + b / 8)) (congrArg fx (nI_clamp (by omega))) ?_
    refine lv_rei (x' := (f (b / 8))) ((hf (b / 8) (by omega)).symm) ?_
    refine lv_bipush (v := (nI 7)) hx hb dX5_bitAt_33 (by decide) ?_
    refine lv_iload hx hb dX5_bitAt_35 (lv_at hl 4 rfl) ?_
    refine lv_bipush (v := (nI 8)) hx hb dX5_bitAt_37 (by decide) ?_
    refine lv_irem hx hb dX5_bitAt_39 (by decide) ?_
    refine lv_rei (x' := (nI (b % 8))) (pk_rem (by omega) (by decide) (by decide)) ?_
    refine lv_isub hx hb dX5_bitAt_40 ?_
    refine lv_rei (x' := (nI (7 - b % 8))) (pk_sub (by omega)) ?_
    refine lv_ishr hx hb dX5_bitAt_41 ?_
    refine lv_iconst (v := (nI 1)) hx hb dX5_bitAt_42 (by decide) ?_
    refine lv_iand hx hb dX5_bitAt_43 ?_
    exact endRi hx hb hr hlocks dX5_bitAt_44 (by rw [bit1 _ (by omega), bit_a q hz])
  · refine lv_icmp_ge (tgt := 45) hx hb dX5_bitAt_15 (by decide) (fun _ => ?_) (fun c9 => absurd (nI_le q (by omega)) c9)
    refine lv_iload hx hb dX5_bitAt_45 (lv_at hl 4 rfl) ?_
    refine lv_iload hx hb dX5_bitAt_47 (lv_at hl 0 rfl) ?_
    refine lv_bipush (v := (nI 55)) hx hb dX5_bitAt_49 (by decide) ?_
    refine lv_iadd hx hb dX5_bitAt_51 ?_
    refine lv_rei (x' := (nI (8 * nz + 55))) (nI_add _ _) ?_
    rcases Nat.lt_or_ge b (8 * nz + 55) with q2 | q2
    · refine lv_icmp_ge (tgt := 69) hx hb dX5_bitAt_52 (by decide) (fun c9 => absurd c9 (nI_ge q2 (by omega))) (fun _ => ?_)
      refine lv_lload_n hx hb dX5_bitAt_55 rfl (lv_at hl 3 rfl) ?_
      refine lv_bipush (v := (nI 54)) hx hb dX5_bitAt_56 (by decide) ?_
      refine lv_iload hx hb dX5_bitAt_58 (lv_at hl 4 rfl) ?_
      refine lv_iload hx hb dX5_bitAt_60 (lv_at hl 0 rfl) ?_
      refine lv_isub hx hb dX5_bitAt_62 ?_
      refine lv_rei (x' := (nI (b - 8 * nz))) (pk_sub q) ?_
      refine lv_isub hx hb dX5_bitAt_63 ?_
      refine lv_rei (x' := (nI (54 - (b - 8 * nz)))) (pk_sub (by omega)) ?_
      refine lv_lshr hx hb dX5_bitAt_64 rfl ?_
      refine lv_rel (x' := (lN (N / 2 ^ (54 - (b - 8 * nz))))) (l_sshr (by omega) (by omega)) ?_
      refine lv_lconst (v := lN 1) hx hb dX5_bitAt_65 (by decide) ?_
      refine lv_land hx hb dX5_bitAt_66 ?_
      refine lv_rel (x' := (lN (N / 2 ^ (54 - (b - 8 * nz)) % 2))) (land1 _) ?_
      refine lv_l2i hx hb dX5_bitAt_67 rfl ?_
      refine lv_rei (x' := (nI (N / 2 ^ (54 - (b - 8 * nz)) % 2))) (l_i) ?_
      exact endRi hx hb hr hlocks dX5_bitAt_68 (by rw [bit_b q q2 hz])
    · refine lv_icmp_ge (tgt := 69) hx hb dX5_bitAt_52 (by decide) (fun _ => ?_) (fun c9 => absurd (nI_le q2 (by omega)) c9)
      refine lv_iload hx hb dX5_bitAt_69 (lv_at hl 4 rfl) ?_
      refine lv_iload hx hb dX5_bitAt_71 (lv_at hl 0 rfl) ?_
      refine lv_bipush (v := (nI 56)) hx hb dX5_bitAt_73 (by decide) ?_
      refine lv_iadd hx hb dX5_bitAt_75 ?_
      refine lv_rei (x' := (nI (8 * nz + 56))) (nI_add _ _) ?_
      by_cases q3 : b = 8 * nz + 56
      · refine lv_icmp_ne (tgt := 81) hx hb dX5_bitAt_76 (by decide) (fun c9 => absurd (by rw [q3]) c9) (fun _ => ?_)
        refine lv_iconst (v := (nI 1)) hx hb dX5_bitAt_79 (by decide) ?_
        exact endRi hx hb hr hlocks dX5_bitAt_80 (by rw [bit_c q3 hz])
      · refine lv_icmp_ne (tgt := 81) hx hb dX5_bitAt_76 (by decide) (fun _ => ?_) (fun c9 => absurd c9 (fun z => q3 ((nI_eq (by omega) (by omega)).mp z)))
        refine lv_iload hx hb dX5_bitAt_81 (lv_at hl 4 rfl) ?_
        refine lv_sipush (v := (nI 448)) hx hb dX5_bitAt_83 (by decide) ?_
        rcases Nat.lt_or_ge b 448 with q4 | q4
        · refine lv_icmp_ge (tgt := 93) hx hb dX5_bitAt_86 (by decide) (fun c9 => absurd c9 (nI_ge q4 (by omega))) (fun _ => ?_)
          refine lv_iconst (v := (nI 0)) hx hb dX5_bitAt_89 (by decide) ?_
          refine lv_goto (tgt := 109) hx hb dX5_bitAt_90 (by decide) ?_
          exact endRi hx hb hr hlocks dX5_bitAt_109 (by rw [bit_d q2 q3 q4 hz])
        · refine lv_icmp_ge (tgt := 93) hx hb dX5_bitAt_86 (by decide) (fun _ => ?_) (fun c9 => absurd (nI_le q4 (by omega)) c9)
          refine lv_iload hx hb dX5_bitAt_93 (lv_at hl 0 rfl) ?_
          refine lv_bipush (v := (nI 56)) hx hb dX5_bitAt_95 (by decide) ?_
          refine lv_iadd hx hb dX5_bitAt_97 ?_
          refine lv_rei (x' := (nI (8 * nz + 56))) (nI_add _ _) ?_
          refine lv_i2l hx hb dX5_bitAt_98 rfl ?_
          refine lv_rel (x' := (lN (8 * nz + 56))) (nI_L (by omega)) ?_
          refine lv_sipush (v := (nI 511)) hx hb dX5_bitAt_99 (by decide) ?_
          refine lv_iload hx hb dX5_bitAt_102 (lv_at hl 4 rfl) ?_
          refine lv_isub hx hb dX5_bitAt_104 ?_
          refine lv_rei (x' := (nI (511 - b))) (pk_sub (by omega)) ?_
          refine lv_lshr hx hb dX5_bitAt_105 rfl ?_
          refine lv_rel (x' := (lN ((8 * nz + 56) / 2 ^ (511 - b)))) (l_sshr (by omega) (by omega)) ?_
          refine lv_lconst (v := lN 1) hx hb dX5_bitAt_106 (by decide) ?_
          refine lv_land hx hb dX5_bitAt_107 ?_
          refine lv_rel (x' := (lN ((8 * nz + 56) / 2 ^ (511 - b) % 2))) (land1 _) ?_
          refine lv_l2i hx hb dX5_bitAt_108 rfl ?_
          refine lv_rei (x' := (nI ((8 * nz + 56) / 2 ^ (511 - b) % 2))) (l_i) ?_
          exact endRi hx hb hr hlocks dX5_bitAt_109 (by rw [bit_e q4])

set_option maxHeartbeats 4000000 in
set_option maxRecDepth 100000 in
/-- five bits of the digest -/
theorem c_X5_five (l : Launch) (g : gE) (m0 kn mn tn qf qu qz qd qx ql qg qb qy qc qe qw qt qr qi : Nat) (th has cc sp rk : Int32) (fe : Nat → Int32) (xU : Int32) (b : Nat) (hb5 : b < 5) (hE : ∀ j, j < 4 → fe j = oB xU (24 - 8 * (j % 4))) : Met l yX5_five wsX5_five ({ frames := 0, cells := 0, slots := 0, locals := 0 }) (va_Pc [.ref m0, .int (nI b)] (ro g [(m0, .inr (6, [.int th, .int (nI kn), .ref qf, .ref qu, .ref qz, .ref qd, .ref qx, .int (nI mn), .int has, .ref ql, .int (nI tn), .ref qg, .int cc, .ref qb, .ref qy, .ref qc, .int sp, .int rk, .ref qe, .ref qw, .ref qt, .ref qr, .ref qi])), (qe, .inl (g.2.1 1, 32, .inl fe))])) (vp_Si (fun r : Int32 => r = nI (xU.toBitVec.toNat / 2 ^ (27 - 5 * b) % 32))) 0 0 nA := by
  refine ofRo (cc := cX5_five) (maxL := 4) (ret := (some .int)) (by decide) rfl (Nat.le_of_ble_eq_true rfl) (fun p e s m below meth c hx hb hr hml hts hown hlocks hnm hP hK hZ hS ls hl => ?_)
  have hown : s.vm.findClass RX5 = some m.cls := hown
  have hl : lv_has ls 4 [(0, .ref m0), (1, .int (nI b))] := hl
  have hiX5 : ∀ w ∈ wsX50, w ∈ wsX5_five := by decide +kernel
  obtain ⟨V, eV⟩ : ∃ z, z = xU.toBitVec.toNat := ⟨_, rfl⟩
  refine lv_iconst (v := (nI 0)) hx hb dX5_five_0 (by decide) ?_
  refine lv_rei (x' := (nI (fvF V b 0))) (rfl) ?_
  refine lv_istore_n (lv' := [(2, .int (nI (fvF V b 0))), (0, .ref m0), (1, .int (nI b))]) hx hb dX5_five_1 rfl hl (by decide) rfl (fun ls hl => ?_)
  refine lv_iconst (v := (nI 5)) hx hb dX5_five_2 (by decide) ?_
  refine lv_iload_n hx hb dX5_five_3 rfl (lv_at hl 2 rfl) ?_
  refine lv_imul hx hb dX5_five_4 ?_
  refine lv_rei (x' := (nI (5 * b + 0))) (pk_mul _ _) ?_
  refine lv_istore_n (lv' := [(3, .int (nI (5 * b + 0))), (2, .int (nI (fvF V b 0))), (0, .ref m0), (1, .int (nI b))]) hx hb dX5_five_5 rfl hl (by decide) rfl (fun ls hl => ?_)
  have L1 : ∀ (fu : Nat) (n : Nat), (6 ≤ n + fu) → (n ≤ 5) → ∀ ls : Array Slot, lv_has ls 4 [(0, .ref m0), (1, .int (nI b)), (2, .int (nI (fvF V b n))), (3, .int (nI (5 * b + n)))] → W p l e (headSpec wsX5_five ({ frames := 0, cells := 0, slots := 0, locals := 0 } : Room)).room s m ([.ref m0, .int (nI b)] : List Value).toArray below meth c s.heap [] 0 0 (MQ below (vp_Si (fun r : Int32 => r = nI (xU.toBitVec.toNat / 2 ^ (27 - 5 * b) % 32))) ([.ref m0, .int (nI b)] : List Value).toArray s 0 0 nA) (F0 m 6 ls []) := by
    intro fu
    induction fu with
    | zero => intro n h1 h2 ls hl; exact absurd h1 (by omega)
    | succ fu ihL1 =>
      intro n h1 h2 ls hl
      refine lv_iload_n hx hb dX5_five_6 rfl (lv_at hl 3 rfl) ?_
      refine lv_iconst (v := (nI 5)) hx hb dX5_five_7 (by decide) ?_
      refine lv_iload_n hx hb dX5_five_8 rfl (lv_at hl 1 rfl) ?_
      refine lv_imul hx hb dX5_five_9 ?_
      refine lv_rei (x' := (nI (5 * b))) (pk_mul _ _) ?_
      refine lv_iconst (v := (nI 5)) hx hb dX5_five_10 (by decide) ?_
      refine lv_iadd hx hb dX5_five_11 ?_
      refine lv_rei (x' := (nI (5 * b + 5))) (nI_add _ _) ?_
      rcases Nat.lt_or_ge n 5 with q | q
      · refine lv_icmp_ge (tgt := 45) hx hb dX5_five_12 (by decide) (fun c9 => absurd c9 (nI_ge (by omega) (by omega))) (fun _ => ?_)
        refine lv_iconst (v := (nI 2)) hx hb dX5_five_15 (by decide) ?_
        refine lv_iload_n hx hb dX5_five_16 rfl (lv_at hl 2 rfl) ?_
        refine lv_imul hx hb dX5_five_17 ?_
        refine lv_aload_n hx hb dX5_five_18 rfl (lv_at hl 0 rfl) ?_
        refine va_get (D := g.1) (ci := 6) (v := .ref qe) (C := RX5) (T := TX5) (N := 23) hx hb hts hiX5 hown hK.1 hP 0 rfl rfl 18 (by decide) (hts (.fieldLink RX5 46 "StampMakerModel" "digest" "[B") (by decide +kernel)) (fun _ h9 => h9) rfl dX5_five_19 ?_
        refine lv_iload_n hx hb dX5_five_22 rfl (lv_at hl 3 rfl) ?_
        refine lv_bipush (v := (nI 8)) hx hb dX5_five_23 (by decide) ?_
        refine lv_idiv hx hb dX5_five_25 (by decide) ?_
        refine lv_rei (x' := (nI ((5 * b + n) / 8))) (pk_div (by omega) (by decide) (by decide)) ?_
        refine va_bald hx hb hK.1 hP 1 1 rfl rfl (vp_in_nI (by omega) (by omega)) dX5_five_26 ?_
        refine lv_rei (x' := fe ((5 * b + n) / 8)) (congrArg fe (nI_clamp (by omega))) ?_
        refine lv_bipush (v := (nI 7)) hx hb dX5_five_27 (by decide) ?_
        refine lv_iload_n hx hb dX5_five_29 rfl (lv_at hl 3 rfl) ?_
        refine lv_bipush (v := (nI 8)) hx hb dX5_five_30 (by decide) ?_
        refine lv_irem hx hb dX5_five_32 (by decide) ?_
        refine lv_rei (x' := (nI ((5 * b + n) % 8))) (pk_rem (by omega) (by decide) (by decide)) ?_
        refine lv_isub hx hb dX5_five_33 ?_
        refine lv_rei (x' := (nI (7 - (5 * b + n) % 8))) (pk_sub (by omega)) ?_
        refine lv_ishr hx hb dX5_five_34 ?_
        refine lv_iconst (v := (nI 1)) hx hb dX5_five_35 (by decide) ?_
        refine lv_iand hx hb dX5_five_36 ?_
        refine lv_rei (x' := (nI (V / 2 ^ (31 - (5 * b + n)) % 2))) (by rw [bit1 _ (by omega), hE _ (by omega), bit_dig xU (k := 5 * b + n) (by omega), ← eV]) ?_
        refine lv_iadd hx hb dX5_five_37 ?_
        refine lv_rei (x' := (nI (fvF V b (n + 1)))) (by rw [pk_mul, nI_add]; rfl) ?_
        refine lv_istore_n (lv' := [(2, .int (nI (fvF V b (n + 1)))), (0, .ref m0), (1, .int (nI b)), (3, .int (nI (5 * b + n)))]) hx hb dX5_five_38 rfl hl (by decide) rfl (fun ls hl => ?_)
        refine lv_iinc (v := (nI (5 * b + (n + 1)))) (lv' := [(3, .int (nI (5 * b + (n + 1)))), (2, .int (nI (fvF V b (n + 1)))), (0, .ref m0), (1, .int (nI b))]) hx hb dX5_five_39 hl (k := 3) rfl (nI_1 _) (by decide) rfl (fun ls hl => ?_)
        refine lv_goto (tgt := 6) hx hb dX5_five_42 (by decide) ?_
        exact ihL1 (n + 1) (by omega) (by omega) ls (lv_sub hl [2, 3, 1, 0] rfl)
      · refine lv_icmp_ge (tgt := 45) hx hb dX5_five_12 (by decide) (fun _ => ?_) (fun c9 => absurd (nI_le (by omega) (by omega)) c9)
        refine lv_iload_n hx hb dX5_five_45 rfl (lv_at hl 2 rfl) ?_
        exact endRi hx hb hr hlocks dX5_five_46 (by rw [← eV, show n = 5 by omega, fvF_5 hb5])
  exact L1 6 0 (by omega) (by omega) ls (lv_sub hl [2, 3, 1, 0] rfl)
