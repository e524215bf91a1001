set_option maxHeartbeats 4000000 in
set_option maxRecDepth 100000 in
/-- no such key -/
theorem c_X4_ra_out (l : Launch) (g : gE) (s0 ks lt ty lg dg kn mn tn : Nat) (cc sp : Int32) (fk : Nat → Option Nat) (N S1 : Nat) (xd : Int32) (hN : N < 36028797018963968) (hkn : kn ≤ 15) (hko : kn ≤ N / 2 ^ 51 % 16) : Met l yX4_reasonAgainst wsX4_reasonAgainst ({ frames := 1, cells := 0, slots := 0, locals := 21 }) (va_Pc [.ref s0, .long (lN N), .long (lN S1), .int xd] (ro g [(s0, .inr (5, [.ref ks, .int (nI kn), .int (nI mn), .ref lt, .ref ty, .int (nI tn), .int cc, .int sp, .ref lg, .ref dg])), (ks, .inl (g.2.1 4, 15, .inr (.inr (.inr (.inr fk)))))])) (vp_Si (fun r : Int32 => r = nI 3)) 0 0 nA := by
  refine ofRo (cc := cX4_reasonAgainst) (maxL := 8) (ret := (some .int)) (by decide) rfl (Nat.le_of_ble_eq_true rfl) (fun p e s m below meth c hx hb hr hml hts hown hlocks hnm hP hK hZ hS ls hl => ?_)
  have hown : s.vm.findClass RX4 = some m.cls := hown
  have hl : lv_has ls 8 [(0, .ref s0), (1, .long (lN N)), (3, .long (lN S1)), (5, .int xd)] := hl
  have hiX4 : ∀ w ∈ wsX40, w ∈ wsX4_reasonAgainst := by decide +kernel
  refine lv_aload_n hx hb dX4_reasonAgainst_0 rfl (lv_at hl 0 rfl) ?_
  refine lv_lload_n hx hb dX4_reasonAgainst_1 rfl (lv_at hl 1 rfl) ?_
  refine cSi (rest := [.ref s0]) ⟨hx, hb, hml, hown, hts⟩ [.long (lN N)] (c_X1_keyOf l g (x := (lN N))) (va_cwS 1 hts gX4_reasonAgainst_X1_keyOf rfl rfl rfl (by decide +kernel) ⟨Nat.le_of_ble_eq_true rfl, Nat.le_of_ble_eq_true rfl⟩) hK hZ hS (subP hP [] rfl) rfl hl.1 rfl (Nat.le_of_ble_eq_true rfl) dX4_reasonAgainst_2 ⟨Nat.zero_le _, Nat.zero_le _⟩ (fun r_117 hr_117 => ?_)
  obtain rfl : r_117 = (cutE (lN N) (nI 51) (nI 15)) := hr_117
  refine lv_rei (x' := (nI (N / 2 ^ 51 % 16))) (cutE_n (k := 4) hN (by decide) (by decide) rfl (by decide)) ?_
  refine cVq (rest := []) ⟨hx, hb, hml, hown, hts⟩ [.int (nI (N / 2 ^ 51 % 16))] (c_X4_kn_out l g (s0 := s0) (ks := ks) (lt := lt) (ty := ty) (lg := lg) (dg := dg) (kn := kn) (mn := mn) (tn := tn) (cc := cc) (sp := sp) (fk := fk) (x := (nI (N / 2 ^ 51 % 16))) (by rw [ti_n (by omega)]; omega) hkn) (cwV 1 hts gX4_reasonAgainst_X4_keyNumbered rfl rfl rfl (by decide +kernel) ⟨Nat.le_of_ble_eq_true rfl, Nat.le_of_ble_eq_true rfl⟩) hK hZ hS (subP hP [0, 1] rfl) (va_recv hK.1 hP (ci := 5) (q0 := 0) rfl rfl) rfl hl.1 rfl (Nat.le_of_ble_eq_true rfl) dX4_reasonAgainst_5 ⟨Nat.zero_le _, Nat.zero_le _⟩ (fun r_118 hr_118 => ?_)
  obtain rfl : r_118 = none := hr_118
  refine lv_reN (rfl) ?_
  refine lv_astoreN (lv' := [(6, .null), (0, .ref s0), (1, .long (lN N)), (3, .long (lN S1)), (5, .int xd)]) hx hb dX4_reasonAgainst_8 hl (by decide) rfl (fun ls hl => ?_)
  refine lv_aloadN hx hb dX4_reasonAgainst_10 (lv_at hl 0 rfl) ?_
  refine lv_ifnullN (tgt := 35) hx hb dX4_reasonAgainst_12 (by decide) ?_
  refine lv_iconst (v := (nI 3)) hx hb dX4_reasonAgainst_35 (by decide) ?_
  exact endRi hx hb hr hlocks dX4_reasonAgainst_36 (rfl)

set_option maxHeartbeats 4000000 in
set_option maxRecDepth 100000 in
/-- a field is not as said -/
theorem c_X4_ra_bad (l : Launch) (g : gE) (s0 ks lt ty lg dg kn mn tn : Nat) (cc sp : Int32) (fk : Nat → Option Nat) (N S1 k : Nat) (xd : Int32) (hN : N < 36028797018963968) (hkn : kn ≤ 15) (hi : N / 2 ^ 51 % 16 < kn) (hk : fk (N / 2 ^ 51 % 16) = some k) (hbad : ¬ (N / 2 ^ 47 % 16 ≤ 9 ∧ 1 ≤ N / 2 ^ 30 % 131072 ∧ N / 2 ^ 30 % 131072 ≤ 99999)) : Met l yX4_reasonAgainst wsX4_reasonAgainst ({ frames := 1, cells := 0, slots := 0, locals := 21 }) (va_Pc [.ref s0, .long (lN N), .long (lN S1), .int xd] (ro g [(s0, .inr (5, [.ref ks, .int (nI kn), .int (nI mn), .ref lt, .ref ty, .int (nI tn), .int cc, .int sp, .ref lg, .ref dg])), (ks, .inl (g.2.1 4, 15, .inr (.inr (.inr (.inr fk)))))])) (vp_Si (fun r : Int32 => r = nI 3)) 0 0 nA := by
  refine ofRo (cc := cX4_reasonAgainst) (maxL := 8) (ret := (some .int)) (by decide) rfl (Nat.le_of_ble_eq_true rfl) (fun p e s m below meth c hx hb hr hml hts hown hlocks hnm hP hK hZ hS ls hl => ?_)
  have hown : s.vm.findClass RX4 = some m.cls := hown
  have hl : lv_has ls 8 [(0, .ref s0), (1, .long (lN N)), (3, .long (lN S1)), (5, .int xd)] := hl
  have hiX4 : ∀ w ∈ wsX40, w ∈ wsX4_reasonAgainst := by decide +kernel
  have tq1 := ti_n (n := N / 2 ^ 47 % 16) (by omega)
  have tq2 := ti_n (n := N / 2 ^ 30 % 131072) (by omega)
  refine lv_aload_n hx hb dX4_reasonAgainst_0 rfl (lv_at hl 0 rfl) ?_
  refine lv_lload_n hx hb dX4_reasonAgainst_1 rfl (lv_at hl 1 rfl) ?_
  refine cSi (rest := [.ref s0]) ⟨hx, hb, hml, hown, hts⟩ [.long (lN N)] (c_X1_keyOf l g (x := (lN N))) (va_cwS 1 hts gX4_reasonAgainst_X1_keyOf rfl rfl rfl (by decide +kernel) ⟨Nat.le_of_ble_eq_true rfl, Nat.le_of_ble_eq_true rfl⟩) hK hZ hS (subP hP [] rfl) rfl hl.1 rfl (Nat.le_of_ble_eq_true rfl) dX4_reasonAgainst_2 ⟨Nat.zero_le _, Nat.zero_le _⟩ (fun r_119 hr_119 => ?_)
  obtain rfl : r_119 = (cutE (lN N) (nI 51) (nI 15)) := hr_119
  refine lv_rei (x' := (nI (N / 2 ^ 51 % 16))) (cutE_n (k := 4) hN (by decide) (by decide) rfl (by decide)) ?_
  refine cVq (rest := []) ⟨hx, hb, hml, hown, hts⟩ [.int (nI (N / 2 ^ 51 % 16))] (c_X4_kn_in l g (s0 := s0) (ks := ks) (lt := lt) (ty := ty) (lg := lg) (dg := dg) (kn := kn) (mn := mn) (tn := tn) (cc := cc) (sp := sp) (fk := fk) (i := (N / 2 ^ 51 % 16)) hi hkn) (cwV 1 hts gX4_reasonAgainst_X4_keyNumbered rfl rfl rfl (by decide +kernel) ⟨Nat.le_of_ble_eq_true rfl, Nat.le_of_ble_eq_true rfl⟩) hK hZ hS (subP hP [0, 1] rfl) (va_recv hK.1 hP (ci := 5) (q0 := 0) rfl rfl) rfl hl.1 rfl (Nat.le_of_ble_eq_true rfl) dX4_reasonAgainst_5 ⟨Nat.zero_le _, Nat.zero_le _⟩ (fun r_120 hr_120 => ?_)
  obtain rfl : r_120 = (fk (N / 2 ^ 51 % 16)) := hr_120
  refine lv_reR (a := k) (hk) ?_
  refine lv_astore (lv' := [(6, .ref k), (0, .ref s0), (1, .long (lN N)), (3, .long (lN S1)), (5, .int xd)]) hx hb dX4_reasonAgainst_8 hl (by decide) rfl (fun ls hl => ?_)
  refine lv_aload hx hb dX4_reasonAgainst_10 (lv_at hl 0 rfl) ?_
  refine lv_ifnull hx hb dX4_reasonAgainst_12 ?_
  refine lv_lload_n hx hb dX4_reasonAgainst_15 rfl (lv_at hl 2 rfl) ?_
  refine cSi (rest := []) ⟨hx, hb, hml, hown, hts⟩ [.long (lN N)] (c_X1_kindOf l g (x := (lN N))) (va_cwS 1 hts gX4_reasonAgainst_X1_kindOf rfl rfl rfl (by decide +kernel) ⟨Nat.le_of_ble_eq_true rfl, Nat.le_of_ble_eq_true rfl⟩) hK hZ hS (subP hP [] rfl) rfl hl.1 rfl (Nat.le_of_ble_eq_true rfl) dX4_reasonAgainst_16 ⟨Nat.zero_le _, Nat.zero_le _⟩ (fun r_121 hr_121 => ?_)
  obtain rfl : r_121 = (cutE (lN N) (nI 47) (nI 15)) := hr_121
  refine lv_rei (x' := (nI (N / 2 ^ 47 % 16))) (cutE_n (k := 4) hN (by decide) (by decide) rfl (by decide)) ?_
  refine cSi (rest := []) ⟨hx, hb, hml, hown, hts⟩ [.int (nI (N / 2 ^ 47 % 16))] (c_X4_isKind l g (x := (nI (N / 2 ^ 47 % 16)))) (va_cwS 1 hts gX4_reasonAgainst_X4_isKind rfl rfl rfl (by decide +kernel) ⟨Nat.le_of_ble_eq_true rfl, Nat.le_of_ble_eq_true rfl⟩) hK hZ hS (subP hP [] rfl) rfl hl.1 rfl (Nat.le_of_ble_eq_true rfl) dX4_reasonAgainst_19 ⟨Nat.zero_le _, Nat.zero_le _⟩ (fun r_122 hr_122 => ?_)
  obtain rfl : r_122 = (inI (nI (N / 2 ^ 47 % 16)).toInt 0 9) := hr_122
  refine lv_if_eq (tgt := 35) hx hb dX4_reasonAgainst_22 (by decide) (fun c_123 => ?_) (fun c_123 => ?_)
  · refine lv_iconst (v := (nI 3)) hx hb dX4_reasonAgainst_35 (by decide) ?_
    exact endRi hx hb hr hlocks dX4_reasonAgainst_36 (rfl)
  · refine lv_lload_n hx hb dX4_reasonAgainst_25 rfl (lv_at hl 2 rfl) ?_
    refine cSi (rest := []) ⟨hx, hb, hml, hown, hts⟩ [.long (lN N)] (c_X1_valueOf l g (x := (lN N))) (va_cwS 1 hts gX4_reasonAgainst_X1_valueOf rfl rfl rfl (by decide +kernel) ⟨Nat.le_of_ble_eq_true rfl, Nat.le_of_ble_eq_true rfl⟩) hK hZ hS (subP hP [] rfl) rfl hl.1 rfl (Nat.le_of_ble_eq_true rfl) dX4_reasonAgainst_26 ⟨Nat.zero_le _, Nat.zero_le _⟩ (fun r_124 hr_124 => ?_)
    obtain rfl : r_124 = (cutE (lN N) (nI 30) (nI 131071)) := hr_124
    refine lv_rei (x' := (nI (N / 2 ^ 30 % 131072))) (cutE_n (k := 17) hN (by decide) (by decide) rfl (by decide)) ?_
    refine cSi (rest := []) ⟨hx, hb, hml, hown, hts⟩ [.int (nI (N / 2 ^ 30 % 131072))] (c_X4_isValue l g (x := (nI (N / 2 ^ 30 % 131072)))) (va_cwS 1 hts gX4_reasonAgainst_X4_isValue rfl rfl rfl (by decide +kernel) ⟨Nat.le_of_ble_eq_true rfl, Nat.le_of_ble_eq_true rfl⟩) hK hZ hS (subP hP [] rfl) rfl hl.1 rfl (Nat.le_of_ble_eq_true rfl) dX4_reasonAgainst_29 ⟨Nat.zero_le _, Nat.zero_le _⟩ (fun r_125 hr_125 => ?_)
    obtain rfl : r_125 = (inI (nI (N / 2 ^ 30 % 131072)).toInt 1 99999) := hr_125
    refine lv_if_ne (tgt := 37) hx hb dX4_reasonAgainst_32 (by decide) (fun c_126 => ?_) (fun c_126 => ?_)
    · exact absurd (by rw [inI_eq0] at c_123 c_126; omega) hbad
    · refine lv_iconst (v := (nI 3)) hx hb dX4_reasonAgainst_35 (by decide) ?_
      exact endRi hx hb hr hlocks dX4_reasonAgainst_36 (rfl)

set_option maxHeartbeats 4000000 in
set_option maxRecDepth 100000 in
/-- the reasons 4 and 5 -/
theorem c_X4_ra_go (l : Launch) (g : gE) (hsz : Nat) (s0 ks lt ty lg dg kn mn tn : Nat) (cc sp : Int32) (fk : Nat → Option Nat) (wa st : Nat) (rk : Int32) (fw fs : Nat → Int32) (k kb : Nat) (fr un cl : Int32) (f : Nat → Int32) (nz N S1 d : Nat) (hN : N < 36028797018963968) (hS1 : S1 < 33554432) (hdd : d ≤ 65535) (hz : nz ≤ 32) (hkn : kn ≤ 15) (hi : N / 2 ^ 51 % 16 < kn) (hk : fk (N / 2 ^ 51 % 16) = some k) (hok1 : N / 2 ^ 47 % 16 ≤ 9) (hok2 : 1 ≤ N / 2 ^ 30 % 131072) (hok3 : N / 2 ^ 30 % 131072 ≤ 99999) : Met l yX4_reasonAgainst wsX4_reasonAgainst ({ frames := 4, cells := 0, slots := 0, locals := 94 }) (va_Pc [.ref s0, .long (lN N), .long (lN S1), .int (nI d)] (wr g [(s0, .inr (5, [.ref ks, .int (nI kn), .int (nI mn), .ref lt, .ref ty, .int (nI tn), .int cc, .int sp, .ref lg, .ref dg])), (ks, .inl (g.2.1 4, 15, .inr (.inr (.inr (.inr fk))))), (dg, .inr (2, [.ref wa, .ref st, .int rk])), (wa, .inl (g.2.1 0, 64, .inl fw)), (st, .inl (g.2.1 0, 8, .inl fs)), (k, .inr (3, [.int fr, .int un, .ref kb, .int (nI nz), .int cl])), (kb, .inl (g.2.1 1, 32, .inl f))] hsz)) (va_Qi (fun (r : Int32) (u : ((Nat → Int32) × (Nat → Int32))) => r = raR f nz N S1 d fr un ∧ ∀ j, j < 8 → u.2 j = dG f nz N j) (wB g (va_A [(s0, .inr (5, [.ref ks, .int (nI kn), .int (nI mn), .ref lt, .ref ty, .int (nI tn), .int cc, .int sp, .ref lg, .ref dg])), (ks, .inl (g.2.1 4, 15, .inr (.inr (.inr (.inr fk))))), (dg, .inr (2, [.ref wa, .ref st, .int rk])), (wa, .inl (g.2.1 0, 64, .inl fw)), (st, .inl (g.2.1 0, 8, .inl fs)), (k, .inr (3, [.int fr, .int un, .ref kb, .int (nI nz), .int cl])), (kb, .inl (g.2.1 1, 32, .inl f))] hsz) (fun u : ((Nat → Int32) × (Nat → Int32)) => [(s0, .inr (5, [.ref ks, .int (nI kn), .int (nI mn), .ref lt, .ref ty, .int (nI tn), .int cc, .int sp, .ref lg, .ref dg])), (ks, .inl (g.2.1 4, 15, .inr (.inr (.inr (.inr fk))))), (dg, .inr (2, [.ref wa, .ref st, .int (nI 1)])), (wa, .inl (g.2.1 0, 64, .inl u.1)), (st, .inl (g.2.1 0, 8, .inl u.2)), (k, .inr (3, [.int fr, .int un, .ref kb, .int (nI nz), .int cl])), (kb, .inl (g.2.1 1, 32, .inl f))])) (va_A [(s0, .inr (5, [.ref ks, .int (nI kn), .int (nI mn), .ref lt, .ref ty, .int (nI tn), .int cc, .int sp, .ref lg, .ref dg])), (ks, .inl (g.2.1 4, 15, .inr (.inr (.inr (.inr fk))))), (dg, .inr (2, [.ref wa, .ref st, .int rk])), (wa, .inl (g.2.1 0, 64, .inl fw)), (st, .inl (g.2.1 0, 8, .inl fs)), (k, .inr (3, [.int fr, .int un, .ref kb, .int (nI nz), .int cl])), (kb, .inl (g.2.1 1, 32, .inl f))] hsz)) 0 0 (va_A [(s0, .inr (5, [.ref ks, .int (nI kn), .int (nI mn), .ref lt, .ref ty, .int (nI tn), .int cc, .int sp, .ref lg, .ref dg])), (ks, .inl (g.2.1 4, 15, .inr (.inr (.inr (.inr fk))))), (dg, .inr (2, [.ref wa, .ref st, .int rk])), (wa, .inl (g.2.1 0, 64, .inl fw)), (st, .inl (g.2.1 0, 8, .inl fs)), (k, .inr (3, [.int fr, .int un, .ref kb, .int (nI nz), .int cl])), (kb, .inl (g.2.1 1, 32, .inl f))] hsz) := by
  refine ofWi (cc := cX4_reasonAgainst) (maxL := 8) (ret := (some .int)) (by decide) rfl (Nat.le_of_ble_eq_true rfl) (fun p e s m below meth c hx hb hr hml hts hown hlocks hnm A H hH hA hP hD hK hZ hS ls hl => ?_)
  have hown : s.vm.findClass RX4 = some m.cls := hown
  have hl : lv_has ls 8 [(0, .ref s0), (1, .long (lN N)), (3, .long (lN S1)), (5, .int (nI d))] := hl
  have hiX4 : ∀ w ∈ wsX40, w ∈ wsX4_reasonAgainst := by decide +kernel
  have tq1 := ti_n (n := N / 2 ^ 47 % 16) (by omega)
  have tq2 := ti_n (n := N / 2 ^ 30 % 131072) (by omega)
  refine lv_aload_n hx hb dX4_reasonAgainst_0 rfl (lv_at hl 0 rfl) ?_
  refine lv_lload_n hx hb dX4_reasonAgainst_1 rfl (lv_at hl 1 rfl) ?_
  refine cSi (rest := [.ref s0]) ⟨hx, hb, hml, hown, hts⟩ [.long (lN N)] (c_X1_keyOf l g (x := (lN N))) (va_cwS 1 hts gX4_reasonAgainst_X1_keyOf rfl rfl rfl (by decide +kernel) ⟨Nat.le_of_ble_eq_true rfl, Nat.le_of_ble_eq_true rfl⟩) hK hZ hS (subP hP [] rfl) rfl hl.1 rfl (Nat.le_of_ble_eq_true rfl) dX4_reasonAgainst_2 ⟨Nat.zero_le _, Nat.zero_le _⟩ (fun r_127 hr_127 => ?_)
  obtain rfl : r_127 = (cutE (lN N) (nI 51) (nI 15)) := hr_127
  refine lv_rei (x' := (nI (N / 2 ^ 51 % 16))) (cutE_n (k := 4) hN (by decide) (by decide) rfl (by decide)) ?_
  refine cVq (rest := []) ⟨hx, hb, hml, hown, hts⟩ [.int (nI (N / 2 ^ 51 % 16))] (c_X4_kn_in l g (s0 := s0) (ks := ks) (lt := lt) (ty := ty) (lg := lg) (dg := dg) (kn := kn) (mn := mn) (tn := tn) (cc := cc) (sp := sp) (fk := fk) (i := (N / 2 ^ 51 % 16)) hi hkn) (cwV 1 hts gX4_reasonAgainst_X4_keyNumbered rfl rfl rfl (by decide +kernel) ⟨Nat.le_of_ble_eq_true rfl, Nat.le_of_ble_eq_true rfl⟩) hK hZ hS (subP hP [0, 1] rfl) (va_recv hK.1 hP (ci := 5) (q0 := 0) rfl rfl) rfl hl.1 rfl (Nat.le_of_ble_eq_true rfl) dX4_reasonAgainst_5 ⟨Nat.zero_le _, Nat.zero_le _⟩ (fun r_128 hr_128 => ?_)
  obtain rfl : r_128 = (fk (N / 2 ^ 51 % 16)) := hr_128
  refine lv_reR (a := k) (hk) ?_
  refine lv_astore (lv' := [(6, .ref k), (0, .ref s0), (1, .long (lN N)), (3, .long (lN S1)), (5, .int (nI d))]) hx hb dX4_reasonAgainst_8 hl (by decide) rfl (fun ls hl => ?_)
  refine lv_aload hx hb dX4_reasonAgainst_10 (lv_at hl 0 rfl) ?_
  refine lv_ifnull hx hb dX4_reasonAgainst_12 ?_
  refine lv_lload_n hx hb dX4_reasonAgainst_15 rfl (lv_at hl 2 rfl) ?_
  refine cSi (rest := []) ⟨hx, hb, hml, hown, hts⟩ [.long (lN N)] (c_X1_kindOf l g (x := (lN N))) (va_cwS 1 hts gX4_reasonAgainst_X1_kindOf rfl rfl rfl (by decide +kernel) ⟨Nat.le_of_ble_eq_true rfl, Nat.le_of_ble_eq_true rfl⟩) hK hZ hS (subP hP [] rfl) rfl hl.1 rfl (Nat.le_of_ble_eq_true rfl) dX4_reasonAgainst_16 ⟨Nat.zero_le _, Nat.zero_le _⟩ (fun r_129 hr_129 => ?_)
  obtain rfl : r_129 = (cutE (lN N) (nI 47) (nI 15)) := hr_129
  refine lv_rei (x' := (nI (N / 2 ^ 47 % 16))) (cutE_n (k := 4) hN (by decide) (by decide) rfl (by decide)) ?_
  refine cSi (rest := []) ⟨hx, hb, hml, hown, hts⟩ [.int (nI (N / 2 ^ 47 % 16))] (c_X4_isKind l g (x := (nI (N / 2 ^ 47 % 16)))) (va_cwS 1 hts gX4_reasonAgainst_X4_isKind rfl rfl rfl (by decide +kernel) ⟨Nat.le_of_ble_eq_true rfl, Nat.le_of_ble_eq_true rfl⟩) hK hZ hS (subP hP [] rfl) rfl hl.1 rfl (Nat.le_of_ble_eq_true rfl) dX4_reasonAgainst_19 ⟨Nat.zero_le _, Nat.zero_le _⟩ (fun r_130 hr_130 => ?_)
  obtain rfl : r_130 = (inI (nI (N / 2 ^ 47 % 16)).toInt 0 9) := hr_130
  refine lv_if_eq (tgt := 35) hx hb dX4_reasonAgainst_22 (by decide) (fun c9 => absurd c9 (by rw [inI_1 (by omega) (by omega)]; decide)) (fun _ => ?_)
  refine lv_lload_n hx hb dX4_reasonAgainst_25 rfl (lv_at hl 2 rfl) ?_
  refine cSi (rest := []) ⟨hx, hb, hml, hown, hts⟩ [.long (lN N)] (c_X1_valueOf l g (x := (lN N))) (va_cwS 1 hts gX4_reasonAgainst_X1_valueOf rfl rfl rfl (by decide +kernel) ⟨Nat.le_of_ble_eq_true rfl, Nat.le_of_ble_eq_true rfl⟩) hK hZ hS (subP hP [] rfl) rfl hl.1 rfl (Nat.le_of_ble_eq_true rfl) dX4_reasonAgainst_26 ⟨Nat.zero_le _, Nat.zero_le _⟩ (fun r_131 hr_131 => ?_)
  obtain rfl : r_131 = (cutE (lN N) (nI 30) (nI 131071)) := hr_131
  refine lv_rei (x' := (nI (N / 2 ^ 30 % 131072))) (cutE_n (k := 17) hN (by decide) (by decide) rfl (by decide)) ?_
  refine cSi (rest := []) ⟨hx, hb, hml, hown, hts⟩ [.int (nI (N / 2 ^ 30 % 131072))] (c_X4_isValue l g (x := (nI (N / 2 ^ 30 % 131072)))) (va_cwS 1 hts gX4_reasonAgainst_X4_isValue rfl rfl rfl (by decide +kernel) ⟨Nat.le_of_ble_eq_true rfl, Nat.le_of_ble_eq_true rfl⟩) hK hZ hS (subP hP [] rfl) rfl hl.1 rfl (Nat.le_of_ble_eq_true rfl) dX4_reasonAgainst_29 ⟨Nat.zero_le _, Nat.zero_le _⟩ (fun r_132 hr_132 => ?_)
  obtain rfl : r_132 = (inI (nI (N / 2 ^ 30 % 131072)).toInt 1 99999) := hr_132
  refine lv_if_ne (tgt := 37) hx hb dX4_reasonAgainst_32 (by decide) (fun _ => ?_) (fun c9 => absurd c9 (by rw [inI_1 (by omega) (by omega)]; decide))
  refine lv_aload_n hx hb dX4_reasonAgainst_37 rfl (lv_at hl 1 rfl) ?_
  refine va_get (D := g.1) (ci := 5) (v := .ref dg) (C := RX4) (T := TX4) (N := 10) hx hb hts hiX4 hown hK.1 hP 0 rfl rfl 9 (by decide) (hts (.fieldLink RX4 36 "StampMaker" "latestDigest" "LStampMaker$Digest;") (by decide +kernel)) (fun _ h9 => h9) rfl dX4_reasonAgainst_38 ?_
  refine lv_aload hx hb dX4_reasonAgainst_41 (lv_at hl 0 rfl) ?_
  refine lv_lload_n hx hb dX4_reasonAgainst_43 rfl (lv_at hl 2 rfl) ?_
  refine wVv (rest := []) ⟨hx, hb, hml, hown, hts⟩ [.ref k, .long (lN N)] [2, 3, 4, 5, 6] (c_X0_reckon l g H.size (dg := dg) (wa := wa) (st := st) (rk := rk) (fw := fw) (fs := fs) (k := k) (kb := kb) (fr := fr) (un := un) (cl := cl) (f := f) (sz := nz) (N := N) hz hN) (cwV 2 hts gX4_reasonAgainst_X0_reckon rfl rfl rfl (by decide +kernel) ⟨Nat.le_of_ble_eq_true rfl, Nat.le_of_ble_eq_true rfl⟩) hK hZ hS hP hD hA rfl (by decide) (fun _ => Nat.le_of_ble_eq_true rfl) (fun _ => rfl) (va_recv hK.1 hP (ci := 2) (q0 := 2) rfl rfl) rfl hl.1 rfl (Nat.le_of_ble_eq_true rfl) dX4_reasonAgainst_44 ⟨Nat.le_of_ble_eq_true rfl, Nat.le_of_ble_eq_true rfl⟩ (fun u H locs hz1 hP hD hS => ?_)
  obtain ⟨G, T⟩ := u
  have hP : va_P g.1 vwCl [(s0, .inr (5, [.ref ks, .int (nI kn), .int (nI mn), .ref lt, .ref ty, .int (nI tn), .int cc, .int sp, .ref lg, .ref dg])), (ks, .inl (g.2.1 4, 15, .inr (.inr (.inr (.inr fk))))), (dg, .inr (2, [.ref wa, .ref st, .int (nI 1)])), (wa, .inl (g.2.1 0, 64, .inl ((G, T).1))), (st, .inl (g.2.1 0, 8, .inl ((G, T).2))), (k, .inr (3, [.int fr, .int un, .ref kb, .int (nI nz), .int cl])), (kb, .inl (g.2.1 1, 32, .inl f))] H := hP
  have hD : va_D A [(s0, .inr (5, [.ref ks, .int (nI kn), .int (nI mn), .ref lt, .ref ty, .int (nI tn), .int cc, .int sp, .ref lg, .ref dg])), (ks, .inl (g.2.1 4, 15, .inr (.inr (.inr (.inr fk))))), (dg, .inr (2, [.ref wa, .ref st, .int (nI 1)])), (wa, .inl (g.2.1 0, 64, .inl ((G, T).1))), (st, .inl (g.2.1 0, 8, .inl ((G, T).2))), (k, .inr (3, [.int fr, .int un, .ref kb, .int (nI nz), .int cl])), (kb, .inl (g.2.1 1, 32, .inl f))] := hD
  have hz1 : ∀ j, j < 8 → T j = dG f nz N j := hz1
  have hP : va_P g.1 vwCl [(s0, .inr (5, [.ref ks, .int (nI kn), .int (nI mn), .ref lt, .ref ty, .int (nI tn), .int cc, .int sp, .ref lg, .ref dg])), (ks, .inl (g.2.1 4, 15, .inr (.inr (.inr (.inr fk))))), (dg, .inr (2, [.ref wa, .ref st, .int (nI 1)])), (wa, .inl (g.2.1 0, 64, .inl G)), (st, .inl (g.2.1 0, 8, .inl T)), (k, .inr (3, [.int fr, .int un, .ref kb, .int (nI nz), .int cl])), (kb, .inl (g.2.1 1, 32, .inl f))] H := hP
  have hD : va_D A [(s0, .inr (5, [.ref ks, .int (nI kn), .int (nI mn), .ref lt, .ref ty, .int (nI tn), .int cc, .int sp, .ref lg, .ref dg])), (ks, .inl (g.2.1 4, 15, .inr (.inr (.inr (.inr fk))))), (dg, .inr (2, [.ref wa, .ref st, .int (nI 1)])), (wa, .inl (g.2.1 0, 64, .inl G)), (st, .inl (g.2.1 0, 8, .inl T)), (k, .inr (3, [.int fr, .int un, .ref kb, .int (nI nz), .int cl])), (kb, .inl (g.2.1 1, 32, .inl f))] := hD
  refine lv_lload_n hx hb dX4_reasonAgainst_47 rfl (lv_at hl 3 rfl) ?_
  refine lv_aload_n hx hb dX4_reasonAgainst_48 rfl (lv_at hl 1 rfl) ?_
  refine va_get (D := g.1) (ci := 5) (v := .ref dg) (C := RX4) (T := TX4) (N := 10) hx hb hts hiX4 hown hK.1 hP 0 rfl rfl 9 (by decide) (hts (.fieldLink RX4 36 "StampMaker" "latestDigest" "LStampMaker$Digest;") (by decide +kernel)) (fun _ h9 => h9) rfl dX4_reasonAgainst_49 ?_
  refine cVi (rest := [.long (lN S1)]) ⟨hx, hb, hml, hown, hts⟩ [] (c_X0_first25Bits l g (dg := dg) (wa := wa) (st := st) (rk := (nI 1)) (fs := T)) (cwV 0 hts gX4_reasonAgainst_X0_first25Bits rfl rfl rfl (by decide +kernel) ⟨Nat.le_of_ble_eq_true rfl, Nat.le_of_ble_eq_true rfl⟩) hK hZ hS (subP hP [2, 4] rfl) (va_recv hK.1 hP (ci := 2) (q0 := 2) rfl rfl) rfl hl.1 rfl (Nat.le_of_ble_eq_true rfl) dX4_reasonAgainst_52 ⟨Nat.zero_le _, Nat.zero_le _⟩ (fun r_133 hr_133 => ?_)
  obtain rfl : r_133 = (fB (T 0)) := hr_133
  refine lv_rei (x' := (nI (sN f nz N))) (by rw [hz1 0 (by decide), fB_n]; rfl) ?_
  have hsl := sN_lt f nz N
  generalize eSg : sN f nz N = Sg at hsl ⊢
  have ts1 := tl_n (n := S1) (by omega)
  have ts2 := tl_n (n := Sg) (by omega)
  refine lv_i2l hx hb dX4_reasonAgainst_55 rfl ?_
  refine lv_rel (x' := (lN Sg)) (nI_L (by omega)) ?_
  refine W.lcmp hx hb dX4_reasonAgainst_56 ?_
  refine lv_if_eq (tgt := 62) hx hb dX4_reasonAgainst_57 (by decide) (fun c_134 => ?_) (fun c_134 => ?_)
  · have hse : ¬ S1 ≠ Sg := by rw [lc_eq, ts1, ts2] at c_134; omega
    refine lv_iload hx hb dX4_reasonAgainst_62 (lv_at hl 4 rfl) ?_
    refine lv_lload_n hx hb dX4_reasonAgainst_64 rfl (lv_at hl 2 rfl) ?_
    refine cSi (rest := [.int (nI d)]) ⟨hx, hb, hml, hown, hts⟩ [.long (lN N)] (c_X1_dayOf l g (x := (lN N))) (va_cwS 1 hts gX4_reasonAgainst_X1_dayOf rfl rfl rfl (by decide +kernel) ⟨Nat.le_of_ble_eq_true rfl, Nat.le_of_ble_eq_true rfl⟩) hK hZ hS (subP hP [] rfl) rfl hl.1 rfl (Nat.le_of_ble_eq_true rfl) dX4_reasonAgainst_65 ⟨Nat.zero_le _, Nat.zero_le _⟩ (fun r_135 hr_135 => ?_)
    obtain rfl : r_135 = (cutE (lN N) (nI 14) (nI 65535)) := hr_135
    refine lv_rei (x' := (nI (N / 2 ^ 14 % 65536))) (cutE_n (k := 16) hN (by decide) (by decide) rfl (by decide)) ?_
    rcases Nat.lt_or_ge d (N / 2 ^ 14 % 65536) with q | q
    · refine lv_isub hx hb dX4_reasonAgainst_68 ?_
      refine lv_istore (lv' := [(7, .int ((nI d) - (nI (N / 2 ^ 14 % 65536)))), (6, .ref k), (0, .ref s0), (1, .long (lN N)), (3, .long (lN S1)), (5, .int (nI d))]) hx hb dX4_reasonAgainst_69 hl (by decide) rfl (fun ls hl => ?_)
      refine lv_iload hx hb dX4_reasonAgainst_71 (lv_at hl 0 rfl) ?_
      refine lv_if_lt (tgt := 94) hx hb dX4_reasonAgainst_73 (by decide) (fun _ => ?_) (fun c9 => absurd (pk_sneg (by omega) q) c9)
      refine lv_iconst (v := (nI 5)) hx hb dX4_reasonAgainst_94 (by decide) ?_
      refine lv_goto (tgt := 99) hx hb dX4_reasonAgainst_95 (by decide) ?_
      exact endWi (G, T) hx hb hr hlocks hS dX4_reasonAgainst_99 hP hD (by
              refine ⟨?_, hz1⟩
              unfold raR
              rw [eSg, if_neg hse, if_neg (by omega)])
    · refine lv_isub hx hb dX4_reasonAgainst_68 ?_
      refine lv_rei (x' := (nI (d - (N / 2 ^ 14 % 65536)))) (pk_sub q) ?_
      refine lv_istore (lv' := [(7, .int (nI (d - (N / 2 ^ 14 % 65536)))), (6, .ref k), (0, .ref s0), (1, .long (lN N)), (3, .long (lN S1)), (5, .int (nI d))]) hx hb dX4_reasonAgainst_69 hl (by decide) rfl (fun ls hl => ?_)
      refine lv_iload hx hb dX4_reasonAgainst_71 (lv_at hl 0 rfl) ?_
      refine lv_if_lt (tgt := 94) hx hb dX4_reasonAgainst_73 (by decide) (fun c9 => absurd c9 (nI_pos (by omega))) (fun _ => ?_)
      refine lv_iload hx hb dX4_reasonAgainst_76 (lv_at hl 0 rfl) ?_
      refine lv_bipush (v := (nI 100)) hx hb dX4_reasonAgainst_78 (by decide) ?_
      rcases Nat.lt_or_ge 100 (d - (N / 2 ^ 14 % 65536)) with q2 | q2
      · refine lv_icmp_gt (tgt := 94) hx hb dX4_reasonAgainst_80 (by decide) (fun _ => ?_) (fun c9 => absurd (nI_lt q2 (by omega)) c9)
        refine lv_iconst (v := (nI 5)) hx hb dX4_reasonAgainst_94 (by decide) ?_
        refine lv_goto (tgt := 99) hx hb dX4_reasonAgainst_95 (by decide) ?_
        exact endWi (G, T) hx hb hr hlocks hS dX4_reasonAgainst_99 hP hD (by
                refine ⟨?_, hz1⟩
                unfold raR
                rw [eSg, if_neg hse, if_neg (by omega)])
      · refine lv_icmp_gt (tgt := 94) hx hb dX4_reasonAgainst_80 (by decide) (fun c9 => absurd c9 (nI_nlt q2 (by omega))) (fun _ => ?_)
        refine lv_aload hx hb dX4_reasonAgainst_83 (lv_at hl 1 rfl) ?_
        refine lv_iload hx hb dX4_reasonAgainst_85 (lv_at hl 5 rfl) ?_
        refine lv_i2l hx hb dX4_reasonAgainst_87 rfl ?_
        refine lv_rel (x' := (lN d)) (nI_L (by omega)) ?_
        have td := tl_n (n := d) (by omega)
        refine cVi (rest := []) ⟨hx, hb, hml, hown, hts⟩ [.long (lN d)] (c_X2_holdsOn l g (k := k) (kb := kb) (fr := fr) (un := un) (cn := (nI nz)) (cl := cl) (x := (lN d))) (cwV 1 hts gX4_reasonAgainst_X2_holdsOn rfl rfl rfl (by decide +kernel) ⟨Nat.le_of_ble_eq_true rfl, Nat.le_of_ble_eq_true rfl⟩) hK hZ hS (subP hP [5] rfl) (va_recv hK.1 hP (ci := 3) (q0 := 5) rfl rfl) rfl hl.1 rfl (Nat.le_of_ble_eq_true rfl) dX4_reasonAgainst_88 ⟨Nat.zero_le _, Nat.zero_le _⟩ (fun r_136 hr_136 => ?_)
        obtain rfl : r_136 = (inI (lN d).toInt fr.toInt un.toInt) := hr_136
        refine lv_if_ne (tgt := 98) hx hb dX4_reasonAgainst_91 (by decide) (fun c_137 => ?_) (fun c_137 => ?_)
        · refine lv_iconst (v := (nI 0)) hx hb dX4_reasonAgainst_98 (by decide) ?_
          exact endWi (G, T) hx hb hr hlocks hS dX4_reasonAgainst_99 hP hD (by
                  refine ⟨?_, hz1⟩
                  unfold raR
                  rw [eSg, if_neg hse, if_pos (by rw [inI_eq0] at c_137; omega)])
        · refine lv_iconst (v := (nI 5)) hx hb dX4_reasonAgainst_94 (by decide) ?_
          refine lv_goto (tgt := 99) hx hb dX4_reasonAgainst_95 (by decide) ?_
          exact endWi (G, T) hx hb hr hlocks hS dX4_reasonAgainst_99 hP hD (by
                  refine ⟨?_, hz1⟩
                  unfold raR
                  rw [eSg, if_neg hse, if_neg (by rw [inI_eq0] at c_137; omega)])
  · refine lv_iconst (v := (nI 4)) hx hb dX4_reasonAgainst_60 (by decide) ?_
    exact endWi (G, T) hx hb hr hlocks hS dX4_reasonAgainst_61 hP hD (by
          refine ⟨?_, hz1⟩
          unfold raR
          rw [eSg, if_pos]
          rw [lc_eq, ts1, ts2] at c_134
          omega)

set_option maxHeartbeats 4000000 in
set_option maxRecDepth 100000 in
/-- no day -/
theorem c_X4_check_dom (l : Launch) (g : gE) (s0 ks lt ty lg dg kn mn tn : Nat) (cc sp : Int32) (x : Int64) (hx0 : ¬ (0 ≤ x.toInt ∧ x.toInt ≤ 65535)) : Met l yX4_check wsX4_check ({ frames := 1, cells := 0, slots := 0, locals := 21 }) (va_Pc [.ref s0, .long x] (ro g [(s0, .inr (5, [.ref ks, .int (nI kn), .int (nI mn), .ref lt, .ref ty, .int (nI tn), .int cc, .int sp, .ref lg, .ref dg]))])) (vp_Si (fun r : Int32 => r = -22)) 0 0 nA := by
  refine ofRo (cc := cX4_check) (maxL := 9) (ret := (some .int)) (by decide) rfl (Nat.le_of_ble_eq_true rfl) (fun p e s m below meth c hx hb hr hml hts hown hlocks hnm hP hK hZ hS ls hl => ?_)
  have hown : s.vm.findClass RX4 = some m.cls := hown
  have hl : lv_has ls 9 [(0, .ref s0), (1, .long x)] := hl
  have hiX4 : ∀ w ∈ wsX40, w ∈ wsX4_check := by decide +kernel
  refine lv_lload_n hx hb dX4_check_0 rfl (lv_at hl 1 rfl) ?_
  refine cSi (rest := []) ⟨hx, hb, hml, hown, hts⟩ [.long x] (c_X4_isDay l g (x := x)) (va_cwS 1 hts gX4_check_X4_isDay rfl rfl rfl (by decide +kernel) ⟨Nat.le_of_ble_eq_true rfl, Nat.le_of_ble_eq_true rfl⟩) hK hZ hS (subP hP [] rfl) rfl hl.1 rfl (Nat.le_of_ble_eq_true rfl) dX4_check_1 ⟨Nat.zero_le _, Nat.zero_le _⟩ (fun r_138 hr_138 => ?_)
  obtain rfl : r_138 = (inI x.toInt 0 65535) := hr_138
  refine lv_if_ne (tgt := 10) hx hb dX4_check_4 (by decide) (fun c9 => absurd (inI_0 hx0) c9) (fun _ => ?_)
  refine lv_bipush (v := (-22)) hx hb dX4_check_7 (by decide) ?_
  exact endRi hx hb hr hlocks dX4_check_9 (rfl)

set_option maxHeartbeats 4000000 in
set_option maxRecDepth 100000 in
/-- not sixteen -/
theorem c_X4_check_len (l : Launch) (g : gE) (hsz : Nat) (s0 ks lt ty lg dg kn mn tn : Nat) (cc sp : Int32) (d : Nat) (hdd : d ≤ 65535) (ht : tn ≠ 16) (ht2 : tn ≤ 40) : Met l yX4_check wsX4_check ({ frames := 1, cells := 0, slots := 0, locals := 21 }) (va_Pc [.ref s0, .long (lN d)] (wr g [(s0, .inr (5, [.ref ks, .int (nI kn), .int (nI mn), .ref lt, .ref ty, .int (nI tn), .int cc, .int sp, .ref lg, .ref dg]))] hsz)) (va_Qi (fun (r : Int32) (u : Unit) => r = -2) (wB g (va_A [(s0, .inr (5, [.ref ks, .int (nI kn), .int (nI mn), .ref lt, .ref ty, .int (nI tn), .int cc, .int sp, .ref lg, .ref dg]))] hsz) (fun u : Unit => [(s0, .inr (5, [.ref ks, .int (nI kn), .int (nI mn), .ref lt, .ref ty, .int (nI 0), .int (cc + nI 1), .int sp, .ref lg, .ref dg]))])) (va_A [(s0, .inr (5, [.ref ks, .int (nI kn), .int (nI mn), .ref lt, .ref ty, .int (nI tn), .int cc, .int sp, .ref lg, .ref dg]))] hsz)) 0 0 (va_A [(s0, .inr (5, [.ref ks, .int (nI kn), .int (nI mn), .ref lt, .ref ty, .int (nI tn), .int cc, .int sp, .ref lg, .ref dg]))] hsz) := by
  refine ofWi (cc := cX4_check) (maxL := 9) (ret := (some .int)) (by decide) rfl (Nat.le_of_ble_eq_true rfl) (fun p e s m below meth c hx hb hr hml hts hown hlocks hnm A H hH hA hP hD hK hZ hS ls hl => ?_)
  have hown : s.vm.findClass RX4 = some m.cls := hown
  have hl : lv_has ls 9 [(0, .ref s0), (1, .long (lN d))] := hl
  have hiX4 : ∀ w ∈ wsX40, w ∈ wsX4_check := by decide +kernel
  have td := tl_n (n := d) (by omega)
  refine lv_lload_n hx hb dX4_check_0 rfl (lv_at hl 1 rfl) ?_
  refine cSi (rest := []) ⟨hx, hb, hml, hown, hts⟩ [.long (lN d)] (c_X4_isDay l g (x := (lN d))) (va_cwS 1 hts gX4_check_X4_isDay rfl rfl rfl (by decide +kernel) ⟨Nat.le_of_ble_eq_true rfl, Nat.le_of_ble_eq_true rfl⟩) hK hZ hS (subP hP [] rfl) rfl hl.1 rfl (Nat.le_of_ble_eq_true rfl) dX4_check_1 ⟨Nat.zero_le _, Nat.zero_le _⟩ (fun r_139 hr_139 => ?_)
  obtain rfl : r_139 = (inI (lN d).toInt 0 65535) := hr_139
  refine lv_if_ne (tgt := 10) hx hb dX4_check_4 (by decide) (fun _ => ?_) (fun c9 => absurd c9 (by rw [inI_1 (by omega) (by omega)]; decide))
  refine lv_aload_n hx hb dX4_check_10 rfl (lv_at hl 0 rfl) ?_
  refine lv_dup hx hb dX4_check_11 rfl ?_
  refine va_get (D := g.1) (ci := 5) (v := .int cc) (C := RX4) (T := TX4) (N := 10) hx hb hts hiX4 hown hK.1 hP 0 rfl rfl 6 (by decide) (hts (.fieldLink RX4 95 "StampMaker" "checkCount" "I") (by decide +kernel)) (fun _ h9 => h9) rfl dX4_check_12 ?_
  refine lv_iconst (v := (nI 1)) hx hb dX4_check_15 (by decide) ?_
  refine lv_iadd hx hb dX4_check_16 ?_
  refine va_put (D := g.1) (ci := 5) (v := .int (cc + (nI 1))) (ty := .int) (C := RX4) (T := TX4) (N := 10) hx hb hts hiX4 tyX4 tyX4_ok nmX4 hown hK.1 hP hD hS 0 rfl rfl 6 (by decide) (hts (.fieldLink RX4 95 "StampMaker" "checkCount" "I") (by decide +kernel)) (fun _ h9 => h9) rfl (by decide +kernel) rfl rfl (Nat.le_of_ble_eq_true rfl) dX4_check_17 (fun H locs hP hD hS => ?_)
  have hP : va_P g.1 vwCl [(s0, .inr (5, [.ref ks, .int (nI kn), .int (nI mn), .ref lt, .ref ty, .int (nI tn), .int (cc + (nI 1)), .int sp, .ref lg, .ref dg]))] H := hP
  have hD : va_D A [(s0, .inr (5, [.ref ks, .int (nI kn), .int (nI mn), .ref lt, .ref ty, .int (nI tn), .int (cc + (nI 1)), .int sp, .ref lg, .ref dg]))] := hD
  refine lv_aload_n hx hb dX4_check_20 rfl (lv_at hl 0 rfl) ?_
  refine va_get (D := g.1) (ci := 5) (v := .int (nI tn)) (C := RX4) (T := TX4) (N := 10) hx hb hts hiX4 hown hK.1 hP 0 rfl rfl 5 (by decide) (hts (.fieldLink RX4 92 "StampMaker" "typedCount" "I") (by decide +kernel)) (fun _ h9 => h9) rfl dX4_check_21 ?_
  refine lv_istore_n (lv' := [(3, .int (nI tn)), (0, .ref s0), (1, .long (lN d))]) hx hb dX4_check_24 rfl hl (by decide) rfl (fun ls hl => ?_)
  refine lv_aload_n hx hb dX4_check_25 rfl (lv_at hl 1 rfl) ?_
  refine lv_iconst (v := (nI 0)) hx hb dX4_check_26 (by decide) ?_
  refine va_put (D := g.1) (ci := 5) (v := .int (nI 0)) (ty := .int) (C := RX4) (T := TX4) (N := 10) hx hb hts hiX4 tyX4 tyX4_ok nmX4 hown hK.1 hP hD hS 0 rfl rfl 5 (by decide) (hts (.fieldLink RX4 92 "StampMaker" "typedCount" "I") (by decide +kernel)) (fun _ h9 => h9) rfl (by decide +kernel) rfl rfl (Nat.le_of_ble_eq_true rfl) dX4_check_27 (fun H locs hP hD hS => ?_)
  have hP : va_P g.1 vwCl [(s0, .inr (5, [.ref ks, .int (nI kn), .int (nI mn), .ref lt, .ref ty, .int (nI 0), .int (cc + (nI 1)), .int sp, .ref lg, .ref dg]))] H := hP
  have hD : va_D A [(s0, .inr (5, [.ref ks, .int (nI kn), .int (nI mn), .ref lt, .ref ty, .int (nI 0), .int (cc + (nI 1)), .int sp, .ref lg, .ref dg]))] := hD
  refine lv_iload_n hx hb dX4_check_30 rfl (lv_at hl 0 rfl) ?_
  refine lv_bipush (v := (nI 16)) hx hb dX4_check_31 (by decide) ?_
  refine lv_icmp_eq (tgt := 41) hx hb dX4_check_33 (by decide) (fun c9 => absurd c9 (fun z => ht ((nI_eq (by omega) (by omega)).mp z))) (fun _ => ?_)
  refine lv_iconst (v := (nI 1)) hx hb dX4_check_36 (by decide) ?_
  refine cSi (rest := []) ⟨hx, hb, hml, hown, hts⟩ [.int (nI 1)] (c_X4_refusedFor l g (x := (nI 1))) (va_cwS 1 hts gX4_check_X4_refusedFor rfl rfl rfl (by decide +kernel) ⟨Nat.le_of_ble_eq_true rfl, Nat.le_of_ble_eq_true rfl⟩) hK hZ hS (subP hP [] rfl) rfl hl.1 rfl (Nat.le_of_ble_eq_true rfl) dX4_check_37 ⟨Nat.zero_le _, Nat.zero_le _⟩ (fun r_140 hr_140 => ?_)
  obtain rfl : r_140 = ((-1) - nI 1) := hr_140
  refine lv_rei (x' := (-2)) (by decide) ?_
  exact endWi () hx hb hr hlocks hS dX4_check_40 hP hD (rfl)

set_option maxHeartbeats 4000000 in
set_option maxRecDepth 100000 in
/-- one is no letter -/
theorem c_X4_check_let (l : Launch) (g : gE) (hsz : Nat) (s0 ks lt ty lg dg kn mn tn : Nat) (cc sp : Int32) (ft : Nat → Int32) (d : Nat) (hdd : d ≤ 65535) (ht : tn = 16) (hbad : ¬ ∀ j, j < 16 → wo (ft j) < 32) : Met l yX4_check wsX4_check ({ frames := 7, cells := 0, slots := 0, locals := 153 }) (va_Pc [.ref s0, .long (lN d)] (wr g [(s0, .inr (5, [.ref ks, .int (nI kn), .int (nI mn), .ref lt, .ref ty, .int (nI tn), .int cc, .int sp, .ref lg, .ref dg])), (ty, .inl (g.2.1 0, 40, .inl ft))] hsz)) (va_Qi (fun (r : Int32) (u : Unit) => r = -3) (wB g (va_A [(s0, .inr (5, [.ref ks, .int (nI kn), .int (nI mn), .ref lt, .ref ty, .int (nI tn), .int cc, .int sp, .ref lg, .ref dg])), (ty, .inl (g.2.1 0, 40, .inl ft))] hsz) (fun u : Unit => [(s0, .inr (5, [.ref ks, .int (nI kn), .int (nI mn), .ref lt, .ref ty, .int (nI 0), .int (cc + nI 1), .int sp, .ref lg, .ref dg])), (ty, .inl (g.2.1 0, 40, .inl ft))])) (va_A [(s0, .inr (5, [.ref ks, .int (nI kn), .int (nI mn), .ref lt, .ref ty, .int (nI tn), .int cc, .int sp, .ref lg, .ref dg])), (ty, .inl (g.2.1 0, 40, .inl ft))] hsz)) 0 0 (va_A [(s0, .inr (5, [.ref ks, .int (nI kn), .int (nI mn), .ref lt, .ref ty, .int (nI tn), .int cc, .int sp, .ref lg, .ref dg])), (ty, .inl (g.2.1 0, 40, .inl ft))] hsz) := by
  refine ofWi (cc := cX4_check) (maxL := 9) (ret := (some .int)) (by decide) rfl (Nat.le_of_ble_eq_true rfl) (fun p e s m below meth c hx hb hr hml hts hown hlocks hnm A H hH hA hP hD hK hZ hS ls hl => ?_)
  have hown : s.vm.findClass RX4 = some m.cls := hown
  have hl : lv_has ls 9 [(0, .ref s0), (1, .long (lN d))] := hl
  have hiX4 : ∀ w ∈ wsX40, w ∈ wsX4_check := by decide +kernel
  have td := tl_n (n := d) (by omega)
  refine lv_lload_n hx hb dX4_check_0 rfl (lv_at hl 1 rfl) ?_
  refine cSi (rest := []) ⟨hx, hb, hml, hown, hts⟩ [.long (lN d)] (c_X4_isDay l g (x := (lN d))) (va_cwS 1 hts gX4_check_X4_isDay rfl rfl rfl (by decide +kernel) ⟨Nat.le_of_ble_eq_true rfl, Nat.le_of_ble_eq_true rfl⟩) hK hZ hS (subP hP [] rfl) rfl hl.1 rfl (Nat.le_of_ble_eq_true rfl) dX4_check_1 ⟨Nat.zero_le _, Nat.zero_le _⟩ (fun r_141 hr_141 => ?_)
  obtain rfl : r_141 = (inI (lN d).toInt 0 65535) := hr_141
  refine lv_if_ne (tgt := 10) hx hb dX4_check_4 (by decide) (fun _ => ?_) (fun c9 => absurd c9 (by rw [inI_1 (by omega) (by omega)]; decide))
  refine lv_aload_n hx hb dX4_check_10 rfl (lv_at hl 0 rfl) ?_
  refine lv_dup hx hb dX4_check_11 rfl ?_
  refine va_get (D := g.1) (ci := 5) (v := .int cc) (C := RX4) (T := TX4) (N := 10) hx hb hts hiX4 hown hK.1 hP 0 rfl rfl 6 (by decide) (hts (.fieldLink RX4 95 "StampMaker" "checkCount" "I") (by decide +kernel)) (fun _ h9 => h9) rfl dX4_check_12 ?_
  refine lv_iconst (v := (nI 1)) hx hb dX4_check_15 (by decide) ?_
  refine lv_iadd hx hb dX4_check_16 ?_
  refine va_put (D := g.1) (ci := 5) (v := .int (cc + (nI 1))) (ty := .int) (C := RX4) (T := TX4) (N := 10) hx hb hts hiX4 tyX4 tyX4_ok nmX4 hown hK.1 hP hD hS 0 rfl rfl 6 (by decide) (hts (.fieldLink RX4 95 "StampMaker" "checkCount" "I") (by decide +kernel)) (fun _ h9 => h9) rfl (by decide +kernel) rfl rfl (Nat.le_of_ble_eq_true rfl) dX4_check_17 (fun H locs hP hD hS => ?_)
  have hP : va_P g.1 vwCl [(s0, .inr (5, [.ref ks, .int (nI kn), .int (nI mn), .ref lt, .ref ty, .int (nI tn), .int (cc + (nI 1)), .int sp, .ref lg, .ref dg])), (ty, .inl (g.2.1 0, 40, .inl ft))] H := hP
  have hD : va_D A [(s0, .inr (5, [.ref ks, .int (nI kn), .int (nI mn), .ref lt, .ref ty, .int (nI tn), .int (cc + (nI 1)), .int sp, .ref lg, .ref dg])), (ty, .inl (g.2.1 0, 40, .inl ft))] := hD
  refine lv_aload_n hx hb dX4_check_20 rfl (lv_at hl 0 rfl) ?_
  refine va_get (D := g.1) (ci := 5) (v := .int (nI tn)) (C := RX4) (T := TX4) (N := 10) hx hb hts hiX4 hown hK.1 hP 0 rfl rfl 5 (by decide) (hts (.fieldLink RX4 92 "StampMaker" "typedCount" "I") (by decide +kernel)) (fun _ h9 => h9) rfl dX4_check_21 ?_
  refine lv_istore_n (lv' := [(3, .int (nI tn)), (0, .ref s0), (1, .long (lN d))]) hx hb dX4_check_24 rfl hl (by decide) rfl (fun ls hl => ?_)
  refine lv_aload_n hx hb dX4_check_25 rfl (lv_at hl 1 rfl) ?_
  refine lv_iconst (v := (nI 0)) hx hb dX4_check_26 (by decide) ?_
  refine va_put (D := g.1) (ci := 5) (v := .int (nI 0)) (ty := .int) (C := RX4) (T := TX4) (N := 10) hx hb hts hiX4 tyX4 tyX4_ok nmX4 hown hK.1 hP hD hS 0 rfl rfl 5 (by decide) (hts (.fieldLink RX4 92 "StampMaker" "typedCount" "I") (by decide +kernel)) (fun _ h9 => h9) rfl (by decide +kernel) rfl rfl (Nat.le_of_ble_eq_true rfl) dX4_check_27 (fun H locs hP hD hS => ?_)
  have hP : va_P g.1 vwCl [(s0, .inr (5, [.ref ks, .int (nI kn), .int (nI mn), .ref lt, .ref ty, .int (nI 0), .int (cc + (nI 1)), .int sp, .ref lg, .ref dg])), (ty, .inl (g.2.1 0, 40, .inl ft))] H := hP
  have hD : va_D A [(s0, .inr (5, [.ref ks, .int (nI kn), .int (nI mn), .ref lt, .ref ty, .int (nI 0), .int (cc + (nI 1)), .int sp, .ref lg, .ref dg])), (ty, .inl (g.2.1 0, 40, .inl ft))] := hD
  refine lv_iload_n hx hb dX4_check_30 rfl (lv_at hl 0 rfl) ?_
  refine lv_bipush (v := (nI 16)) hx hb dX4_check_31 (by decide) ?_
  by_cases k1 : ∀ j, j < 11 → wo (ft j) < 32
  · have k2 : ∃ b2, 11 ≤ b2 ∧ b2 < 16 ∧ ¬ wo (ft b2) < 32 := by
        apply Classical.byContradiction
        intro hno
        apply hbad
        intro j hj
        rcases Nat.lt_or_ge j 11 with q | q
        · exact k1 j q
        · exact Classical.byContradiction fun z => hno ⟨j, q, hj, z⟩
    obtain ⟨b2, hc0, hc1, hc2⟩ := k2
    have hT := tbF_11 (ft := ft) (a := 0) (n := 11 - 0) (by decide) (fun i _ h2 => k1 i (by omega))
    have tT := tl_n (n := tbF ft 0 (11 - 0)) (by omega)
    have t0 := tl_n (n := 0) (by omega)
    refine lv_icmp_eq (tgt := 41) hx hb dX4_check_33 (by decide) (fun _ => ?_) (fun c9 => absurd (by rw [ht]) c9)
    refine lv_aload_n hx hb dX4_check_41 rfl (lv_at hl 1 rfl) ?_
    refine lv_iconst (v := (nI 0)) hx hb dX4_check_42 (by decide) ?_
    refine lv_bipush (v := (nI 11)) hx hb dX4_check_43 (by decide) ?_
    refine cVl (rest := []) ⟨hx, hb, hml, hown, hts⟩ [.int (nI 0), .int (nI 11)] (c_X4_tb_yes l g (s0 := s0) (ks := ks) (lt := lt) (ty := ty) (lg := lg) (dg := dg) (kn := kn) (mn := mn) (tn := 0) (cc := (cc + nI 1)) (sp := sp) (ft := ft) (a0 := 0) (b0 := 11) (by decide) (by decide) (by decide) (fun j _ h => k1 j h)) (cwV 2 hts gX4_check_X4_typedBits rfl rfl rfl (by decide +kernel) ⟨Nat.le_of_ble_eq_true rfl, Nat.le_of_ble_eq_true rfl⟩) hK hZ hS (subP hP [0, 1] rfl) (va_recv hK.1 hP (ci := 5) (q0 := 0) rfl rfl) rfl hl.1 rfl (Nat.le_of_ble_eq_true rfl) dX4_check_45 ⟨Nat.zero_le _, Nat.zero_le _⟩ (fun r_142 hr_142 => ?_)
    obtain rfl : r_142 = (lN (tbF ft 0 (11 - 0))) := hr_142
    refine lv_lstore (lv' := [(4, .long (lN (tbF ft 0 (11 - 0)))), (3, .int (nI tn)), (0, .ref s0), (1, .long (lN d))]) hx hb dX4_check_48 hl (by decide) rfl (fun ls hl => ?_)
    refine lv_aload_n hx hb dX4_check_50 rfl (lv_at hl 2 rfl) ?_
    refine lv_bipush (v := (nI 11)) hx hb dX4_check_51 (by decide) ?_
    refine lv_bipush (v := (nI 16)) hx hb dX4_check_53 (by decide) ?_
    refine cVl (rest := []) ⟨hx, hb, hml, hown, hts⟩ [.int (nI 11), .int (nI 16)] (c_X4_tb_no l g (s0 := s0) (ks := ks) (lt := lt) (ty := ty) (lg := lg) (dg := dg) (kn := kn) (mn := mn) (tn := 0) (cc := (cc + nI 1)) (sp := sp) (ft := ft) (a0 := 11) (b0 := 16) (by decide) b2 hc0 hc1 hc2) (cwV 2 hts gX4_check_X4_typedBits rfl rfl rfl (by decide +kernel) ⟨Nat.le_of_ble_eq_true rfl, Nat.le_of_ble_eq_true rfl⟩) hK hZ hS (subP hP [0, 1] rfl) (va_recv hK.1 hP (ci := 5) (q0 := 0) rfl rfl) rfl hl.1 rfl (Nat.le_of_ble_eq_true rfl) dX4_check_55 ⟨Nat.zero_le _, Nat.zero_le _⟩ (fun r_143 hr_143 => ?_)
    obtain rfl : r_143 = (-1) := hr_143
    refine lv_lstore (lv' := [(6, .long (-1)), (4, .long (lN (tbF ft 0 (11 - 0)))), (3, .int (nI tn)), (0, .ref s0), (1, .long (lN d))]) hx hb dX4_check_58 hl (by decide) rfl (fun ls hl => ?_)
    refine lv_lload hx hb dX4_check_60 (lv_at hl 1 rfl) ?_
    refine lv_lconst (v := lN 0) hx hb dX4_check_62 (by decide) ?_
    refine W.lcmp hx hb dX4_check_63 ?_
    refine lv_if_lt (tgt := 74) hx hb dX4_check_64 (by decide) (fun c9 => absurd c9 (by rw [lc_lt]; omega)) (fun _ => ?_)
    refine lv_lload hx hb dX4_check_67 (lv_at hl 0 rfl) ?_
    refine lv_lconst (v := lN 0) hx hb dX4_check_69 (by decide) ?_
    refine W.lcmp hx hb dX4_check_70 ?_
    refine lv_if_ge (tgt := 79) hx hb dX4_check_71 (by decide) (fun c9 => absurd c9 (by decide)) (fun _ => ?_)
    refine lv_iconst (v := (nI 2)) hx hb dX4_check_74 (by decide) ?_
    refine cSi (rest := []) ⟨hx, hb, hml, hown, hts⟩ [.int (nI 2)] (c_X4_refusedFor l g (x := (nI 2))) (va_cwS 1 hts gX4_check_X4_refusedFor rfl rfl rfl (by decide +kernel) ⟨Nat.le_of_ble_eq_true rfl, Nat.le_of_ble_eq_true rfl⟩) hK hZ hS (subP hP [] rfl) rfl hl.1 rfl (Nat.le_of_ble_eq_true rfl) dX4_check_75 ⟨Nat.zero_le _, Nat.zero_le _⟩ (fun r_144 hr_144 => ?_)
    obtain rfl : r_144 = ((-1) - nI 2) := hr_144
    refine lv_rei (x' := (-3)) (by decide) ?_
    exact endWi () hx hb hr hlocks hS dX4_check_78 hP hD (rfl)
  · obtain ⟨b1, hb1, hb2⟩ : ∃ b1, b1 < 11 ∧ ¬ wo (ft b1) < 32 := by
        apply Classical.byContradiction
        intro hno
        exact k1 (fun j hj => Classical.byContradiction fun z => hno ⟨j, hj, z⟩)
    by_cases k2 : ∀ j, 11 ≤ j → j < 16 → wo (ft j) < 32
    · refine lv_icmp_eq (tgt := 41) hx hb dX4_check_33 (by decide) (fun _ => ?_) (fun c9 => absurd (by rw [ht]) c9)
      refine lv_aload_n hx hb dX4_check_41 rfl (lv_at hl 1 rfl) ?_
      refine lv_iconst (v := (nI 0)) hx hb dX4_check_42 (by decide) ?_
      refine lv_bipush (v := (nI 11)) hx hb dX4_check_43 (by decide) ?_
      refine cVl (rest := []) ⟨hx, hb, hml, hown, hts⟩ [.int (nI 0), .int (nI 11)] (c_X4_tb_no l g (s0 := s0) (ks := ks) (lt := lt) (ty := ty) (lg := lg) (dg := dg) (kn := kn) (mn := mn) (tn := 0) (cc := (cc + nI 1)) (sp := sp) (ft := ft) (a0 := 0) (b0 := 11) (by decide) b1 (Nat.zero_le _) hb1 hb2) (cwV 2 hts gX4_check_X4_typedBits rfl rfl rfl (by decide +kernel) ⟨Nat.le_of_ble_eq_true rfl, Nat.le_of_ble_eq_true rfl⟩) hK hZ hS (subP hP [0, 1] rfl) (va_recv hK.1 hP (ci := 5) (q0 := 0) rfl rfl) rfl hl.1 rfl (Nat.le_of_ble_eq_true rfl) dX4_check_45 ⟨Nat.zero_le _, Nat.zero_le _⟩ (fun r_145 hr_145 => ?_)
      obtain rfl : r_145 = (-1) := hr_145
      refine lv_lstore (lv' := [(4, .long (-1)), (3, .int (nI tn)), (0, .ref s0), (1, .long (lN d))]) hx hb dX4_check_48 hl (by decide) rfl (fun ls hl => ?_)
      refine lv_aload_n hx hb dX4_check_50 rfl (lv_at hl 2 rfl) ?_
      refine lv_bipush (v := (nI 11)) hx hb dX4_check_51 (by decide) ?_
      refine lv_bipush (v := (nI 16)) hx hb dX4_check_53 (by decide) ?_
      refine cVl (rest := []) ⟨hx, hb, hml, hown, hts⟩ [.int (nI 11), .int (nI 16)] (c_X4_tb_yes l g (s0 := s0) (ks := ks) (lt := lt) (ty := ty) (lg := lg) (dg := dg) (kn := kn) (mn := mn) (tn := 0) (cc := (cc + nI 1)) (sp := sp) (ft := ft) (a0 := 11) (b0 := 16) (by decide) (by decide) (by decide) (fun j h1 h2 => k2 j h1 h2)) (cwV 2 hts gX4_check_X4_typedBits rfl rfl rfl (by decide +kernel) ⟨Nat.le_of_ble_eq_true rfl, Nat.le_of_ble_eq_true rfl⟩) hK hZ hS (subP hP [0, 1] rfl) (va_recv hK.1 hP (ci := 5) (q0 := 0) rfl rfl) rfl hl.1 rfl (Nat.le_of_ble_eq_true rfl) dX4_check_55 ⟨Nat.zero_le _, Nat.zero_le _⟩ (fun r_146 hr_146 => ?_)
      obtain rfl : r_146 = (lN (tbF ft 11 (16 - 11))) := hr_146
      refine lv_lstore (lv' := [(6, .long (lN (tbF ft 11 (16 - 11)))), (4, .long (-1)), (3, .int (nI tn)), (0, .ref s0), (1, .long (lN d))]) hx hb dX4_check_58 hl (by decide) rfl (fun ls hl => ?_)
      refine lv_lload hx hb dX4_check_60 (lv_at hl 1 rfl) ?_
      refine lv_lconst (v := lN 0) hx hb dX4_check_62 (by decide) ?_
      refine W.lcmp hx hb dX4_check_63 ?_
      refine lv_if_lt (tgt := 74) hx hb dX4_check_64 (by decide) (fun _ => ?_) (fun c9 => absurd (by decide) c9)
      refine lv_iconst (v := (nI 2)) hx hb dX4_check_74 (by decide) ?_
      refine cSi (rest := []) ⟨hx, hb, hml, hown, hts⟩ [.int (nI 2)] (c_X4_refusedFor l g (x := (nI 2))) (va_cwS 1 hts gX4_check_X4_refusedFor rfl rfl rfl (by decide +kernel) ⟨Nat.le_of_ble_eq_true rfl, Nat.le_of_ble_eq_true rfl⟩) hK hZ hS (subP hP [] rfl) rfl hl.1 rfl (Nat.le_of_ble_eq_true rfl) dX4_check_75 ⟨Nat.zero_le _, Nat.zero_le _⟩ (fun r_147 hr_147 => ?_)
      obtain rfl : r_147 = ((-1) - nI 2) := hr_147
      refine lv_rei (x' := (-3)) (by decide) ?_
      exact endWi () hx hb hr hlocks hS dX4_check_78 hP hD (rfl)
    · obtain ⟨b2, hc0, hc1, hc2⟩ : ∃ b2, 11 ≤ b2 ∧ b2 < 16 ∧ ¬ wo (ft b2) < 32 := by
          apply Classical.byContradiction
          intro hno
          exact k2 (fun j h1 h2 => Classical.byContradiction fun z => hno ⟨j, h1, h2, z⟩)
      refine lv_icmp_eq (tgt := 41) hx hb dX4_check_33 (by decide) (fun _ => ?_) (fun c9 => absurd (by rw [ht]) c9)
      refine lv_aload_n hx hb dX4_check_41 rfl (lv_at hl 1 rfl) ?_
      refine lv_iconst (v := (nI 0)) hx hb dX4_check_42 (by decide) ?_
      refine lv_bipush (v := (nI 11)) hx hb dX4_check_43 (by decide) ?_
      refine cVl (rest := []) ⟨hx, hb, hml, hown, hts⟩ [.int (nI 0), .int (nI 11)] (c_X4_tb_no l g (s0 := s0) (ks := ks) (lt := lt) (ty := ty) (lg := lg) (dg := dg) (kn := kn) (mn := mn) (tn := 0) (cc := (cc + nI 1)) (sp := sp) (ft := ft) (a0 := 0) (b0 := 11) (by decide) b1 (Nat.zero_le _) hb1 hb2) (cwV 2 hts gX4_check_X4_typedBits rfl rfl rfl (by decide +kernel) ⟨Nat.le_of_ble_eq_true rfl, Nat.le_of_ble_eq_true rfl⟩) hK hZ hS (subP hP [0, 1] rfl) (va_recv hK.1 hP (ci := 5) (q0 := 0) rfl rfl) rfl hl.1 rfl (Nat.le_of_ble_eq_true rfl) dX4_check_45 ⟨Nat.zero_le _, Nat.zero_le _⟩ (fun r_148 hr_148 => ?_)
      obtain rfl : r_148 = (-1) := hr_148
      refine lv_lstore (lv' := [(4, .long (-1)), (3, .int (nI tn)), (0, .ref s0), (1, .long (lN d))]) hx hb dX4_check_48 hl (by decide) rfl (fun ls hl => ?_)
      refine lv_aload_n hx hb dX4_check_50 rfl (lv_at hl 2 rfl) ?_
      refine lv_bipush (v := (nI 11)) hx hb dX4_check_51 (by decide) ?_
      refine lv_bipush (v := (nI 16)) hx hb dX4_check_53 (by decide) ?_
      refine cVl (rest := []) ⟨hx, hb, hml, hown, hts⟩ [.int (nI 11), .int (nI 16)] (c_X4_tb_no l g (s0 := s0) (ks := ks) (lt := lt) (ty := ty) (lg := lg) (dg := dg) (kn := kn) (mn := mn) (tn := 0) (cc := (cc + nI 1)) (sp := sp) (ft := ft) (a0 := 11) (b0 := 16) (by decide) b2 hc0 hc1 hc2) (cwV 2 hts gX4_check_X4_typedBits rfl rfl rfl (by decide +kernel) ⟨Nat.le_of_ble_eq_true rfl, Nat.le_of_ble_eq_true rfl⟩) hK hZ hS (subP hP [0, 1] rfl) (va_recv hK.1 hP (ci := 5) (q0 := 0) rfl rfl) rfl hl.1 rfl (Nat.le_of_ble_eq_true rfl) dX4_check_55 ⟨Nat.zero_le _, Nat.zero_le _⟩ (fun r_149 hr_149 => ?_)
      obtain rfl : r_149 = (-1) := hr_149
      refine lv_lstore (lv' := [(6, .long (-1)), (4, .long (-1)), (3, .int (nI tn)), (0, .ref s0), (1, .long (lN d))]) hx hb dX4_check_58 hl (by decide) rfl (fun ls hl => ?_)
      refine lv_lload hx hb dX4_check_60 (lv_at hl 1 rfl) ?_
      refine lv_lconst (v := lN 0) hx hb dX4_check_62 (by decide) ?_
      refine W.lcmp hx hb dX4_check_63 ?_
      refine lv_if_lt (tgt := 74) hx hb dX4_check_64 (by decide) (fun _ => ?_) (fun c9 => absurd (by decide) c9)
      refine lv_iconst (v := (nI 2)) hx hb dX4_check_74 (by decide) ?_
      refine cSi (rest := []) ⟨hx, hb, hml, hown, hts⟩ [.int (nI 2)] (c_X4_refusedFor l g (x := (nI 2))) (va_cwS 1 hts gX4_check_X4_refusedFor rfl rfl rfl (by decide +kernel) ⟨Nat.le_of_ble_eq_true rfl, Nat.le_of_ble_eq_true rfl⟩) hK hZ hS (subP hP [] rfl) rfl hl.1 rfl (Nat.le_of_ble_eq_true rfl) dX4_check_75 ⟨Nat.zero_le _, Nat.zero_le _⟩ (fun r_150 hr_150 => ?_)
      obtain rfl : r_150 = ((-1) - nI 2) := hr_150
      refine lv_rei (x' := (-3)) (by decide) ?_
      exact endWi () hx hb hr hlocks hS dX4_check_78 hP hD (rfl)

set_option maxHeartbeats 4000000 in
set_option maxRecDepth 100000 in
/-- no such key -/
theorem c_X4_check_out (l : Launch) (g : gE) (hsz : Nat) (s0 ks lt ty lg dg kn mn tn : Nat) (cc sp : Int32) (fk : Nat → Option Nat) (ft : Nat → Int32) (d : Nat) (hdd : d ≤ 65535) (ht : tn = 16) (hlet : ∀ j, j < 16 → wo (ft j) < 32) (hkn : kn ≤ 15) (hko : kn ≤ tbF ft 0 11 / 2 ^ 51 % 16) : Met l yX4_check wsX4_check ({ frames := 7, cells := 0, slots := 0, locals := 153 }) (va_Pc [.ref s0, .long (lN d)] (wr g [(s0, .inr (5, [.ref ks, .int (nI kn), .int (nI mn), .ref lt, .ref ty, .int (nI tn), .int cc, .int sp, .ref lg, .ref dg])), (ty, .inl (g.2.1 0, 40, .inl ft)), (ks, .inl (g.2.1 4, 15, .inr (.inr (.inr (.inr fk)))))] hsz)) (va_Qi (fun (r : Int32) (u : Unit) => r = -4) (wB g (va_A [(s0, .inr (5, [.ref ks, .int (nI kn), .int (nI mn), .ref lt, .ref ty, .int (nI tn), .int cc, .int sp, .ref lg, .ref dg])), (ty, .inl (g.2.1 0, 40, .inl ft)), (ks, .inl (g.2.1 4, 15, .inr (.inr (.inr (.inr fk)))))] hsz) (fun u : Unit => [(s0, .inr (5, [.ref ks, .int (nI kn), .int (nI mn), .ref lt, .ref ty, .int (nI 0), .int (cc + nI 1), .int sp, .ref lg, .ref dg])), (ty, .inl (g.2.1 0, 40, .inl ft)), (ks, .inl (g.2.1 4, 15, .inr (.inr (.inr (.inr fk)))))])) (va_A [(s0, .inr (5, [.ref ks, .int (nI kn), .int (nI mn), .ref lt, .ref ty, .int (nI tn), .int cc, .int sp, .ref lg, .ref dg])), (ty, .inl (g.2.1 0, 40, .inl ft)), (ks, .inl (g.2.1 4, 15, .inr (.inr (.inr (.inr fk)))))] hsz)) 0 0 (va_A [(s0, .inr (5, [.ref ks, .int (nI kn), .int (nI mn), .ref lt, .ref ty, .int (nI tn), .int cc, .int sp, .ref lg, .ref dg])), (ty, .inl (g.2.1 0, 40, .inl ft)), (ks, .inl (g.2.1 4, 15, .inr (.inr (.inr (.inr fk)))))] hsz) := by
  refine ofWi (cc := cX4_check) (maxL := 9) (ret := (some .int)) (by decide) rfl (Nat.le_of_ble_eq_true rfl) (fun p e s m below meth c hx hb hr hml hts hown hlocks hnm A H hH hA hP hD hK hZ hS ls hl => ?_)
  have hown : s.vm.findClass RX4 = some m.cls := hown
  have hl : lv_has ls 9 [(0, .ref s0), (1, .long (lN d))] := hl
  have hiX4 : ∀ w ∈ wsX40, w ∈ wsX4_check := by decide +kernel
  have hN : tbF ft 0 11 < 36028797018963968 := tbF_11 (by decide) (fun i _ h2 => hlet i (by omega))
  have hS1 : tbF ft 11 5 < 33554432 := tbF_lt 5 (fun i _ h2 => hlet i (by omega))
  have tT := tl_n (n := tbF ft 0 11) (by omega)
  have tS := tl_n (n := tbF ft 11 5) (by omega)
  have t0 := tl_n (n := 0) (by omega)
  have td := tl_n (n := d) (by omega)
  refine lv_lload_n hx hb dX4_check_0 rfl (lv_at hl 1 rfl) ?_
  refine cSi (rest := []) ⟨hx, hb, hml, hown, hts⟩ [.long (lN d)] (c_X4_isDay l g (x := (lN d))) (va_cwS 1 hts gX4_check_X4_isDay rfl rfl rfl (by decide +kernel) ⟨Nat.le_of_ble_eq_true rfl, Nat.le_of_ble_eq_true rfl⟩) hK hZ hS (subP hP [] rfl) rfl hl.1 rfl (Nat.le_of_ble_eq_true rfl) dX4_check_1 ⟨Nat.zero_le _, Nat.zero_le _⟩ (fun r_151 hr_151 => ?_)
  obtain rfl : r_151 = (inI (lN d).toInt 0 65535) := hr_151
  refine lv_if_ne (tgt := 10) hx hb dX4_check_4 (by decide) (fun _ => ?_) (fun c9 => absurd c9 (by rw [inI_1 (by omega) (by omega)]; decide))
  refine lv_aload_n hx hb dX4_check_10 rfl (lv_at hl 0 rfl) ?_
  refine lv_dup hx hb dX4_check_11 rfl ?_
  refine va_get (D := g.1) (ci := 5) (v := .int cc) (C := RX4) (T := TX4) (N := 10) hx hb hts hiX4 hown hK.1 hP 0 rfl rfl 6 (by decide) (hts (.fieldLink RX4 95 "StampMaker" "checkCount" "I") (by decide +kernel)) (fun _ h9 => h9) rfl dX4_check_12 ?_
  refine lv_iconst (v := (nI 1)) hx hb dX4_check_15 (by decide) ?_
  refine lv_iadd hx hb dX4_check_16 ?_
  refine va_put (D := g.1) (ci := 5) (v := .int (cc + (nI 1))) (ty := .int) (C := RX4) (T := TX4) (N := 10) hx hb hts hiX4 tyX4 tyX4_ok nmX4 hown hK.1 hP hD hS 0 rfl rfl 6 (by decide) (hts (.fieldLink RX4 95 "StampMaker" "checkCount" "I") (by decide +kernel)) (fun _ h9 => h9) rfl (by decide +kernel) rfl rfl (Nat.le_of_ble_eq_true rfl) dX4_check_17 (fun H locs hP hD hS => ?_)
  have hP : va_P g.1 vwCl [(s0, .inr (5, [.ref ks, .int (nI kn), .int (nI mn), .ref lt, .ref ty, .int (nI tn), .int (cc + (nI 1)), .int sp, .ref lg, .ref dg])), (ty, .inl (g.2.1 0, 40, .inl ft)), (ks, .inl (g.2.1 4, 15, .inr (.inr (.inr (.inr fk)))))] H := hP
  have hD : va_D A [(s0, .inr (5, [.ref ks, .int (nI kn), .int (nI mn), .ref lt, .ref ty, .int (nI tn), .int (cc + (nI 1)), .int sp, .ref lg, .ref dg])), (ty, .inl (g.2.1 0, 40, .inl ft)), (ks, .inl (g.2.1 4, 15, .inr (.inr (.inr (.inr fk)))))] := hD
  refine lv_aload_n hx hb dX4_check_20 rfl (lv_at hl 0 rfl) ?_
  refine va_get (D := g.1) (ci := 5) (v := .int (nI tn)) (C := RX4) (T := TX4) (N := 10) hx hb hts hiX4 hown hK.1 hP 0 rfl rfl 5 (by decide) (hts (.fieldLink RX4 92 "StampMaker" "typedCount" "I") (by decide +kernel)) (fun _ h9 => h9) rfl dX4_check_21 ?_
  refine lv_istore_n (lv' := [(3, .int (nI tn)), (0, .ref s0), (1, .long (lN d))]) hx hb dX4_check_24 rfl hl (by decide) rfl (fun ls hl => ?_)
  refine lv_aload_n hx hb dX4_check_25 rfl (lv_at hl 1 rfl) ?_
  refine lv_iconst (v := (nI 0)) hx hb dX4_check_26 (by decide) ?_
  refine va_put (D := g.1) (ci := 5) (v := .int (nI 0)) (ty := .int) (C := RX4) (T := TX4) (N := 10) hx hb hts hiX4 tyX4 tyX4_ok nmX4 hown hK.1 hP hD hS 0 rfl rfl 5 (by decide) (hts (.fieldLink RX4 92 "StampMaker" "typedCount" "I") (by decide +kernel)) (fun _ h9 => h9) rfl (by decide +kernel) rfl rfl (Nat.le_of_ble_eq_true rfl) dX4_check_27 (fun H locs hP hD hS => ?_)
  have hP : va_P g.1 vwCl [(s0, .inr (5, [.ref ks, .int (nI kn), .int (nI mn), .ref lt, .ref ty, .int (nI 0), .int (cc + (nI 1)), .int sp, .ref lg, .ref dg])), (ty, .inl (g.2.1 0, 40, .inl ft)), (ks, .inl (g.2.1 4, 15, .inr (.inr (.inr (.inr fk)))))] H := hP
  have hD : va_D A [(s0, .inr (5, [.ref ks, .int (nI kn), .int (nI mn), .ref lt, .ref ty, .int (nI 0), .int (cc + (nI 1)), .int sp, .ref lg, .ref dg])), (ty, .inl (g.2.1 0, 40, .inl ft)), (ks, .inl (g.2.1 4, 15, .inr (.inr (.inr (.inr fk)))))] := hD
  refine lv_iload_n hx hb dX4_check_30 rfl (lv_at hl 0 rfl) ?_
  refine lv_bipush (v := (nI 16)) hx hb dX4_check_31 (by decide) ?_
  refine lv_icmp_eq (tgt := 41) hx hb dX4_check_33 (by decide) (fun _ => ?_) (fun c9 => absurd (by rw [ht]) c9)
  refine lv_aload_n hx hb dX4_check_41 rfl (lv_at hl 1 rfl) ?_
  refine lv_iconst (v := (nI 0)) hx hb dX4_check_42 (by decide) ?_
  refine lv_bipush (v := (nI 11)) hx hb dX4_check_43 (by decide) ?_
  refine cVl (rest := []) ⟨hx, hb, hml, hown, hts⟩ [.int (nI 0), .int (nI 11)] (c_X4_tb_yes l g (s0 := s0) (ks := ks) (lt := lt) (ty := ty) (lg := lg) (dg := dg) (kn := kn) (mn := mn) (tn := 0) (cc := (cc + nI 1)) (sp := sp) (ft := ft) (a0 := 0) (b0 := 11) (by decide) (by decide) (by decide) (fun j _ h => hlet j (by omega))) (cwV 2 hts gX4_check_X4_typedBits rfl rfl rfl (by decide +kernel) ⟨Nat.le_of_ble_eq_true rfl, Nat.le_of_ble_eq_true rfl⟩) hK hZ hS (subP hP [0, 1] rfl) (va_recv hK.1 hP (ci := 5) (q0 := 0) rfl rfl) rfl hl.1 rfl (Nat.le_of_ble_eq_true rfl) dX4_check_45 ⟨Nat.zero_le _, Nat.zero_le _⟩ (fun r_152 hr_152 => ?_)
  obtain rfl : r_152 = (lN (tbF ft 0 (11 - 0))) := hr_152
  refine lv_rel (x' := (lN (tbF ft 0 11))) (rfl) ?_
  refine lv_lstore (lv' := [(4, .long (lN (tbF ft 0 11))), (3, .int (nI tn)), (0, .ref s0), (1, .long (lN d))]) hx hb dX4_check_48 hl (by decide) rfl (fun ls hl => ?_)
  refine lv_aload_n hx hb dX4_check_50 rfl (lv_at hl 2 rfl) ?_
  refine lv_bipush (v := (nI 11)) hx hb dX4_check_51 (by decide) ?_
  refine lv_bipush (v := (nI 16)) hx hb dX4_check_53 (by decide) ?_
  refine cVl (rest := []) ⟨hx, hb, hml, hown, hts⟩ [.int (nI 11), .int (nI 16)] (c_X4_tb_yes l g (s0 := s0) (ks := ks) (lt := lt) (ty := ty) (lg := lg) (dg := dg) (kn := kn) (mn := mn) (tn := 0) (cc := (cc + nI 1)) (sp := sp) (ft := ft) (a0 := 11) (b0 := 16) (by decide) (by decide) (by decide) (fun j _ h => hlet j (by omega))) (cwV 2 hts gX4_check_X4_typedBits rfl rfl rfl (by decide +kernel) ⟨Nat.le_of_ble_eq_true rfl, Nat.le_of_ble_eq_true rfl⟩) hK hZ hS (subP hP [0, 1] rfl) (va_recv hK.1 hP (ci := 5) (q0 := 0) rfl rfl) rfl hl.1 rfl (Nat.le_of_ble_eq_true rfl) dX4_check_55 ⟨Nat.zero_le _, Nat.zero_le _⟩ (fun r_153 hr_153 => ?_)
  obtain rfl : r_153 = (lN (tbF ft 11 (16 - 11))) := hr_153
  refine lv_rel (x' := (lN (tbF ft 11 5))) (rfl) ?_
  refine lv_lstore (lv' := [(6, .long (lN (tbF ft 11 5))), (4, .long (lN (tbF ft 0 11))), (3, .int (nI tn)), (0, .ref s0), (1, .long (lN d))]) hx hb dX4_check_58 hl (by decide) rfl (fun ls hl => ?_)
  refine lv_lload hx hb dX4_check_60 (lv_at hl 1 rfl) ?_
  refine lv_lconst (v := lN 0) hx hb dX4_check_62 (by decide) ?_
  refine W.lcmp hx hb dX4_check_63 ?_
  refine lv_if_lt (tgt := 74) hx hb dX4_check_64 (by decide) (fun c9 => absurd c9 (by rw [lc_lt]; omega)) (fun _ => ?_)
  refine lv_lload hx hb dX4_check_67 (lv_at hl 0 rfl) ?_
  refine lv_lconst (v := lN 0) hx hb dX4_check_69 (by decide) ?_
  refine W.lcmp hx hb dX4_check_70 ?_
  refine lv_if_ge (tgt := 79) hx hb dX4_check_71 (by decide) (fun _ => ?_) (fun c9 => absurd (by rw [lc_ge]; omega) c9)
  refine lv_aload_n hx hb dX4_check_79 rfl (lv_at hl 3 rfl) ?_
  refine lv_lload hx hb dX4_check_80 (lv_at hl 1 rfl) ?_
  refine lv_lload hx hb dX4_check_82 (lv_at hl 0 rfl) ?_
  refine lv_lload_n hx hb dX4_check_84 rfl (lv_at hl 4 rfl) ?_
  refine lv_l2i hx hb dX4_check_85 rfl ?_
  refine lv_rei (x' := (nI d)) (l_i) ?_
  refine cVi (rest := []) ⟨hx, hb, hml, hown, hts⟩ [.long (lN (tbF ft 0 11)), .long (lN (tbF ft 11 5)), .int (nI d)] (c_X4_ra_out l g (s0 := s0) (ks := ks) (lt := lt) (ty := ty) (lg := lg) (dg := dg) (kn := kn) (mn := mn) (tn := 0) (cc := (cc + nI 1)) (sp := sp) (fk := fk) (N := (tbF ft 0 11)) (S1 := (tbF ft 11 5)) (xd := (nI d)) hN hkn hko) (cwV 3 hts gX4_check_X4_reasonAgainst rfl rfl rfl (by decide +kernel) ⟨Nat.le_of_ble_eq_true rfl, Nat.le_of_ble_eq_true rfl⟩) hK hZ hS (subP hP [0, 2] rfl) (va_recv hK.1 hP (ci := 5) (q0 := 0) rfl rfl) rfl hl.1 rfl (Nat.le_of_ble_eq_true rfl) dX4_check_86 ⟨Nat.zero_le _, Nat.zero_le _⟩ (fun r_154 hr_154 => ?_)
  obtain rfl : r_154 = (nI 3) := hr_154
  refine lv_istore (lv' := [(8, .int (nI 3)), (6, .long (lN (tbF ft 11 5))), (4, .long (lN (tbF ft 0 11))), (3, .int (nI tn)), (0, .ref s0), (1, .long (lN d))]) hx hb dX4_check_89 hl (by decide) rfl (fun ls hl => ?_)
  refine lv_iload hx hb dX4_check_91 (lv_at hl 0 rfl) ?_
  refine lv_if_eq (tgt := 104) hx hb dX4_check_93 (by decide) (fun c9 => absurd c9 (by decide)) (fun _ => ?_)
  refine lv_iload hx hb dX4_check_96 (lv_at hl 0 rfl) ?_
  refine cSi (rest := []) ⟨hx, hb, hml, hown, hts⟩ [.int (nI 3)] (c_X4_refusedFor l g (x := (nI 3))) (va_cwS 1 hts gX4_check_X4_refusedFor rfl rfl rfl (by decide +kernel) ⟨Nat.le_of_ble_eq_true rfl, Nat.le_of_ble_eq_true rfl⟩) hK hZ hS (subP hP [] rfl) rfl hl.1 rfl (Nat.le_of_ble_eq_true rfl) dX4_check_98 ⟨Nat.zero_le _, Nat.zero_le _⟩ (fun r_155 hr_155 => ?_)
  obtain rfl : r_155 = ((-1) - nI 3) := hr_155
  refine lv_rei (x' := (-4)) (by decide) ?_
  refine lv_goto (tgt := 115) hx hb dX4_check_101 (by decide) ?_
  exact endWi () hx hb hr hlocks hS dX4_check_115 hP hD (rfl)

set_option maxHeartbeats 4000000 in
set_option maxRecDepth 100000 in
/-- a field is not as said -/
theorem c_X4_check_bad (l : Launch) (g : gE) (hsz : Nat) (s0 ks lt ty lg dg kn mn tn : Nat) (cc sp : Int32) (fk : Nat → Option Nat) (ft : Nat → Int32) (d k : Nat) (hdd : d ≤ 65535) (ht : tn = 16) (hlet : ∀ j, j < 16 → wo (ft j) < 32) (hkn : kn ≤ 15) (hi : tbF ft 0 11 / 2 ^ 51 % 16 < kn) (hk : fk (tbF ft 0 11 / 2 ^ 51 % 16) = some k) (hbad : ¬ (tbF ft 0 11 / 2 ^ 47 % 16 ≤ 9 ∧ 1 ≤ tbF ft 0 11 / 2 ^ 30 % 131072 ∧ tbF ft 0 11 / 2 ^ 30 % 131072 ≤ 99999)) : Met l yX4_check wsX4_check ({ frames := 7, cells := 0, slots := 0, locals := 153 }) (va_Pc [.ref s0, .long (lN d)] (wr g [(s0, .inr (5, [.ref ks, .int (nI kn), .int (nI mn), .ref lt, .ref ty, .int (nI tn), .int cc, .int sp, .ref lg, .ref dg])), (ty, .inl (g.2.1 0, 40, .inl ft)), (ks, .inl (g.2.1 4, 15, .inr (.inr (.inr (.inr fk)))))] hsz)) (va_Qi (fun (r : Int32) (u : Unit) => r = -4) (wB g (va_A [(s0, .inr (5, [.ref ks, .int (nI kn), .int (nI mn), .ref lt, .ref ty, .int (nI tn), .int cc, .int sp, .ref lg, .ref dg])), (ty, .inl (g.2.1 0, 40, .inl ft)), (ks, .inl (g.2.1 4, 15, .inr (.inr (.inr (.inr fk)))))] hsz) (fun u : Unit => [(s0, .inr (5, [.ref ks, .int (nI kn), .int (nI mn), .ref lt, .ref ty, .int (nI 0), .int (cc + nI 1), .int sp, .ref lg, .ref dg])), (ty, .inl (g.2.1 0, 40, .inl ft)), (ks, .inl (g.2.1 4, 15, .inr (.inr (.inr (.inr fk)))))])) (va_A [(s0, .inr (5, [.ref ks, .int (nI kn), .int (nI mn), .ref lt, .ref ty, .int (nI tn), .int cc, .int sp, .ref lg, .ref dg])), (ty, .inl (g.2.1 0, 40, .inl ft)), (ks, .inl (g.2.1 4, 15, .inr (.inr (.inr (.inr fk)))))] hsz)) 0 0 (va_A [(s0, .inr (5, [.ref ks, .int (nI kn), .int (nI mn), .ref lt, .ref ty, .int (nI tn), .int cc, .int sp, .ref lg, .ref dg])), (ty, .inl (g.2.1 0, 40, .inl ft)), (ks, .inl (g.2.1 4, 15, .inr (.inr (.inr (.inr fk)))))] hsz) := by
  refine ofWi (cc := cX4_check) (maxL := 9) (ret := (some .int)) (by decide) rfl (Nat.le_of_ble_eq_true rfl) (fun p e s m below meth c hx hb hr hml hts hown hlocks hnm A H hH hA hP hD hK hZ hS ls hl => ?_)
  have hown : s.vm.findClass RX4 = some m.cls := hown
  have hl : lv_has ls 9 [(0, .ref s0), (1, .long (lN d))] := hl
  have hiX4 : ∀ w ∈ wsX40, w ∈ wsX4_check := by decide +kernel
  have hN : tbF ft 0 11 < 36028797018963968 := tbF_11 (by decide) (fun i _ h2 => hlet i (by omega))
  have hS1 : tbF ft 11 5 < 33554432 := tbF_lt 5 (fun i _ h2 => hlet i (by omega))
  have tT := tl_n (n := tbF ft 0 11) (by omega)
  have tS := tl_n (n := tbF ft 11 5) (by omega)
  have t0 := tl_n (n := 0) (by omega)
  have td := tl_n (n := d) (by omega)
  refine lv_lload_n hx hb dX4_check_0 rfl (lv_at hl 1 rfl) ?_
  refine cSi (rest := []) ⟨hx, hb, hml, hown, hts⟩ [.long (lN d)] (c_X4_isDay l g (x := (lN d))) (va_cwS 1 hts gX4_check_X4_isDay rfl rfl rfl (by decide +kernel) ⟨Nat.le_of_ble_eq_true rfl, Nat.le_of_ble_eq_true rfl⟩) hK hZ hS (subP hP [] rfl) rfl hl.1 rfl (Nat.le_of_ble_eq_true rfl) dX4_check_1 ⟨Nat.zero_le _, Nat.zero_le _⟩ (fun r_156 hr_156 => ?_)
  obtain rfl : r_156 = (inI (lN d).toInt 0 65535) := hr_156
  refine lv_if_ne (tgt := 10) hx hb dX4_check_4 (by decide) (fun _ => ?_) (fun c9 => absurd c9 (by rw [inI_1 (by omega) (by omega)]; decide))
  refine lv_aload_n hx hb dX4_check_10 rfl (lv_at hl 0 rfl) ?_
  refine lv_dup hx hb dX4_check_11 rfl ?_
  refine va_get (D := g.1) (ci := 5) (v := .int cc) (C := RX4) (T := TX4) (N := 10) hx hb hts hiX4 hown hK.1 hP 0 rfl rfl 6 (by decide) (hts (.fieldLink RX4 95 "StampMaker" "checkCount" "I") (by decide +kernel)) (fun _ h9 => h9) rfl dX4_check_12 ?_
  refine lv_iconst (v := (nI 1)) hx hb dX4_check_15 (by decide) ?_
  refine lv_iadd hx hb dX4_check_16 ?_
  refine va_put (D := g.1) (ci := 5) (v := .int (cc + (nI 1))) (ty := .int) (C := RX4) (T := TX4) (N := 10) hx hb hts hiX4 tyX4 tyX4_ok nmX4 hown hK.1 hP hD hS 0 rfl rfl 6 (by decide) (hts (.fieldLink RX4 95 "StampMaker" "checkCount" "I") (by decide +kernel)) (fun _ h9 => h9) rfl (by decide +kernel) rfl rfl (Nat.le_of_ble_eq_true rfl) dX4_check_17 (fun H locs hP hD hS => ?_)
  have hP : va_P g.1 vwCl [(s0, .inr (5, [.ref ks, .int (nI kn), .int (nI mn), .ref lt, .ref ty, .int (nI tn), .int (cc + (nI 1)), .int sp, .ref lg, .ref dg])), (ty, .inl (g.2.1 0, 40, .inl ft)), (ks, .inl (g.2.1 4, 15, .inr (.inr (.inr (.inr fk)))))] H := hP
  have hD : va_D A [(s0, .inr (5, [.ref ks, .int (nI kn), .int (nI mn), .ref lt, .ref ty, .int (nI tn), .int (cc + (nI 1)), .int sp, .ref lg, .ref dg])), (ty, .inl (g.2.1 0, 40, .inl ft)), (ks, .inl (g.2.1 4, 15, .inr (.inr (.inr (.inr fk)))))] := hD
  refine lv_aload_n hx hb dX4_check_20 rfl (lv_at hl 0 rfl) ?_
  refine va_get (D := g.1) (ci := 5) (v := .int (nI tn)) (C := RX4) (T := TX4) (N := 10) hx hb hts hiX4 hown hK.1 hP 0 rfl rfl 5 (by decide) (hts (.fieldLink RX4 92 "StampMaker" "typedCount" "I") (by decide +kernel)) (fun _ h9 => h9) rfl dX4_check_21 ?_
  refine lv_istore_n (lv' := [(3, .int (nI tn)), (0, .ref s0), (1, .long (lN d))]) hx hb dX4_check_24 rfl hl (by decide) rfl (fun ls hl => ?_)
  refine lv_aload_n hx hb dX4_check_25 rfl (lv_at hl 1 rfl) ?_
  refine lv_iconst (v := (nI 0)) hx hb dX4_check_26 (by decide) ?_
  refine va_put (D := g.1) (ci := 5) (v := .int (nI 0)) (ty := .int) (C := RX4) (T := TX4) (N := 10) hx hb hts hiX4 tyX4 tyX4_ok nmX4 hown hK.1 hP hD hS 0 rfl rfl 5 (by decide) (hts (.fieldLink RX4 92 "StampMaker" "typedCount" "I") (by decide +kernel)) (fun _ h9 => h9) rfl (by decide +kernel) rfl rfl (Nat.le_of_ble_eq_true rfl) dX4_check_27 (fun H locs hP hD hS => ?_)
  have hP : va_P g.1 vwCl [(s0, .inr (5, [.ref ks, .int (nI kn), .int (nI mn), .ref lt, .ref ty, .int (nI 0), .int (cc + (nI 1)), .int sp, .ref lg, .ref dg])), (ty, .inl (g.2.1 0, 40, .inl ft)), (ks, .inl (g.2.1 4, 15, .inr (.inr (.inr (.inr fk)))))] H := hP
  have hD : va_D A [(s0, .inr (5, [.ref ks, .int (nI kn), .int (nI mn), .ref lt, .ref ty, .int (nI 0), .int (cc + (nI 1)), .int sp, .ref lg, .ref dg])), (ty, .inl (g.2.1 0, 40, .inl ft)), (ks, .inl (g.2.1 4, 15, .inr (.inr (.inr (.inr fk)))))] := hD
  refine lv_iload_n hx hb dX4_check_30 rfl (lv_at hl 0 rfl) ?_
  refine lv_bipush (v := (nI 16)) hx hb dX4_check_31 (by decide) ?_
  refine lv_icmp_eq (tgt := 41) hx hb dX4_check_33 (by decide) (fun _ => ?_) (fun c9 => absurd (by rw [ht]) c9)
  refine lv_aload_n hx hb dX4_check_41 rfl (lv_at hl 1 rfl) ?_
  refine lv_iconst (v := (nI 0)) hx hb dX4_check_42 (by decide) ?_
  refine lv_bipush (v := (nI 11)) hx hb dX4_check_43 (by decide) ?_
  refine cVl (rest := []) ⟨hx, hb, hml, hown, hts⟩ [.int (nI 0), .int (nI 11)] (c_X4_tb_yes l g (s0 := s0) (ks := ks) (lt := lt) (ty := ty) (lg := lg) (dg := dg) (kn := kn) (mn := mn) (tn := 0) (cc := (cc + nI 1)) (sp := sp) (ft := ft) (a0 := 0) (b0 := 11) (by decide) (by decide) (by decide) (fun j _ h => hlet j (by omega))) (cwV 2 hts gX4_check_X4_typedBits rfl rfl rfl (by decide +kernel) ⟨Nat.le_of_ble_eq_true rfl, Nat.le_of_ble_eq_true rfl⟩) hK hZ hS (subP hP [0, 1] rfl) (va_recv hK.1 hP (ci := 5) (q0 := 0) rfl rfl) rfl hl.1 rfl (Nat.le_of_ble_eq_true rfl) dX4_check_45 ⟨Nat.zero_le _, Nat.zero_le _⟩ (fun r_157 hr_157 => ?_)
  obtain rfl : r_157 = (lN (tbF ft 0 (11 - 0))) := hr_157
  refine lv_rel (x' := (lN (tbF ft 0 11))) (rfl) ?_
  refine lv_lstore (lv' := [(4, .long (lN (tbF ft 0 11))), (3, .int (nI tn)), (0, .ref s0), (1, .long (lN d))]) hx hb dX4_check_48 hl (by decide) rfl (fun ls hl => ?_)
  refine lv_aload_n hx hb dX4_check_50 rfl (lv_at hl 2 rfl) ?_
  refine lv_bipush (v := (nI 11)) hx hb dX4_check_51 (by decide) ?_
  refine lv_bipush (v := (nI 16)) hx hb dX4_check_53 (by decide) ?_
  refine cVl (rest := []) ⟨hx, hb, hml, hown, hts⟩ [.int (nI 11), .int (nI 16)] (c_X4_tb_yes l g (s0 := s0) (ks := ks) (lt := lt) (ty := ty) (lg := lg) (dg := dg) (kn := kn) (mn := mn) (tn := 0) (cc := (cc + nI 1)) (sp := sp) (ft := ft) (a0 := 11) (b0 := 16) (by decide) (by decide) (by decide) (fun j _ h => hlet j (by omega))) (cwV 2 hts gX4_check_X4_typedBits rfl rfl rfl (by decide +kernel) ⟨Nat.le_of_ble_eq_true rfl, Nat.le_of_ble_eq_true rfl⟩) hK hZ hS (subP hP [0, 1] rfl) (va_recv hK.1 hP (ci := 5) (q0 := 0) rfl rfl) rfl hl.1 rfl (Nat.le_of_ble_eq_true rfl) dX4_check_55 ⟨Nat.zero_le _, Nat.zero_le _⟩ (fun r_158 hr_158 => ?_)
  obtain rfl : r_158 = (lN (tbF ft 11 (16 - 11))) := hr_158
  refine lv_rel (x' := (lN (tbF ft 11 5))) (rfl) ?_
  refine lv_lstore (lv' := [(6, .long (lN (tbF ft 11 5))), (4, .long (lN (tbF ft 0 11))), (3, .int (nI tn)), (0, .ref s0), (1, .long (lN d))]) hx hb dX4_check_58 hl (by decide) rfl (fun ls hl => ?_)
  refine lv_lload hx hb dX4_check_60 (lv_at hl 1 rfl) ?_
  refine lv_lconst (v := lN 0) hx hb dX4_check_62 (by decide) ?_
  refine W.lcmp hx hb dX4_check_63 ?_
  refine lv_if_lt (tgt := 74) hx hb dX4_check_64 (by decide) (fun c9 => absurd c9 (by rw [lc_lt]; omega)) (fun _ => ?_)
  refine lv_lload hx hb dX4_check_67 (lv_at hl 0 rfl) ?_
  refine lv_lconst (v := lN 0) hx hb dX4_check_69 (by decide) ?_
  refine W.lcmp hx hb dX4_check_70 ?_
  refine lv_if_ge (tgt := 79) hx hb dX4_check_71 (by decide) (fun _ => ?_) (fun c9 => absurd (by rw [lc_ge]; omega) c9)
  refine lv_aload_n hx hb dX4_check_79 rfl (lv_at hl 3 rfl) ?_
  refine lv_lload hx hb dX4_check_80 (lv_at hl 1 rfl) ?_
  refine lv_lload hx hb dX4_check_82 (lv_at hl 0 rfl) ?_
  refine lv_lload_n hx hb dX4_check_84 rfl (lv_at hl 4 rfl) ?_
  refine lv_l2i hx hb dX4_check_85 rfl ?_
  refine lv_rei (x' := (nI d)) (l_i) ?_
  refine cVi (rest := []) ⟨hx, hb, hml, hown, hts⟩ [.long (lN (tbF ft 0 11)), .long (lN (tbF ft 11 5)), .int (nI d)] (c_X4_ra_bad l g (s0 := s0) (ks := ks) (lt := lt) (ty := ty) (lg := lg) (dg := dg) (kn := kn) (mn := mn) (tn := 0) (cc := (cc + nI 1)) (sp := sp) (fk := fk) (N := (tbF ft 0 11)) (S1 := (tbF ft 11 5)) (k := k) (xd := (nI d)) hN hkn hi hk hbad) (cwV 3 hts gX4_check_X4_reasonAgainst rfl rfl rfl (by decide +kernel) ⟨Nat.le_of_ble_eq_true rfl, Nat.le_of_ble_eq_true rfl⟩) hK hZ hS (subP hP [0, 2] rfl) (va_recv hK.1 hP (ci := 5) (q0 := 0) rfl rfl) rfl hl.1 rfl (Nat.le_of_ble_eq_true rfl) dX4_check_86 ⟨Nat.zero_le _, Nat.zero_le _⟩ (fun r_159 hr_159 => ?_)
  obtain rfl : r_159 = (nI 3) := hr_159
  refine lv_istore (lv' := [(8, .int (nI 3)), (6, .long (lN (tbF ft 11 5))), (4, .long (lN (tbF ft 0 11))), (3, .int (nI tn)), (0, .ref s0), (1, .long (lN d))]) hx hb dX4_check_89 hl (by decide) rfl (fun ls hl => ?_)
  refine lv_iload hx hb dX4_check_91 (lv_at hl 0 rfl) ?_
  refine lv_if_eq (tgt := 104) hx hb dX4_check_93 (by decide) (fun c9 => absurd c9 (by decide)) (fun _ => ?_)
  refine lv_iload hx hb dX4_check_96 (lv_at hl 0 rfl) ?_
  refine cSi (rest := []) ⟨hx, hb, hml, hown, hts⟩ [.int (nI 3)] (c_X4_refusedFor l g (x := (nI 3))) (va_cwS 1 hts gX4_check_X4_refusedFor rfl rfl rfl (by decide +kernel) ⟨Nat.le_of_ble_eq_true rfl, Nat.le_of_ble_eq_true rfl⟩) hK hZ hS (subP hP [] rfl) rfl hl.1 rfl (Nat.le_of_ble_eq_true rfl) dX4_check_98 ⟨Nat.zero_le _, Nat.zero_le _⟩ (fun r_160 hr_160 => ?_)
  obtain rfl : r_160 = ((-1) - nI 3) := hr_160
  refine lv_rei (x' := (-4)) (by decide) ?_
  refine lv_goto (tgt := 115) hx hb dX4_check_101 (by decide) ?_
  exact endWi () hx hb hr hlocks hS dX4_check_115 hP hD (rfl)

set_option maxHeartbeats 4000000 in
set_option maxRecDepth 100000 in
/-- a stamp is checked -/
theorem c_X4_check_go (l : Launch) (g : gE) (hsz : Nat) (s0 ks lt ty lg dg kn mn tn : Nat) (cc sp : Int32) (fk : Nat → Option Nat) (ft : Nat → Int32) (wa st : Nat) (rk : Int32) (fw fs : Nat → Int32) (k kb : Nat) (fr un cl : Int32) (f : Nat → Int32) (nz d : Nat) (fa da ch : Nat) (ff fd fc : Nat → Int32) (hdd : d ≤ 65535) (ht : tn = 16) (hlet : ∀ j, j < 16 → wo (ft j) < 32) (hkn : kn ≤ 15) (hz : nz ≤ 32) (hi : tbF ft 0 11 / 2 ^ 51 % 16 < kn) (hk : fk (tbF ft 0 11 / 2 ^ 51 % 16) = some k) (hok1 : tbF ft 0 11 / 2 ^ 47 % 16 ≤ 9) (hok2 : 1 ≤ tbF ft 0 11 / 2 ^ 30 % 131072) (hok3 : tbF ft 0 11 / 2 ^ 30 % 131072 ≤ 99999) : Met l yX4_check wsX4_check ({ frames := 7, cells := 0, slots := 0, locals := 153 }) (va_Pc [.ref s0, .long (lN d)] (wr g [(s0, .inr (5, [.ref ks, .int (nI kn), .int (nI mn), .ref lt, .ref ty, .int (nI tn), .int cc, .int sp, .ref lg, .ref dg])), (ks, .inl (g.2.1 4, 15, .inr (.inr (.inr (.inr fk))))), (dg, .inr (2, [.ref wa, .ref st, .int rk])), (wa, .inl (g.2.1 0, 64, .inl fw)), (st, .inl (g.2.1 0, 8, .inl fs)), (k, .inr (3, [.int fr, .int un, .ref kb, .int (nI nz), .int cl])), (kb, .inl (g.2.1 1, 32, .inl f)), (ty, .inl (g.2.1 0, 40, .inl ft)), (lg, .inr (4, [.ref fa, .ref da, .ref ch])), (fa, .inl (g.2.1 1, 16384, .inl ff)), (da, .inl (g.2.1 0, 16384, .inl fd)), (ch, .inl (g.2.1 0, 16384, .inl fc))] hsz)) (va_Qi (fun (r : Int32) (u : ((Nat → Int32) × (Nat → Int32) × Int32 × (Nat → Int32) × (Nat → Int32) × (Nat → Int32))) => r = ckG (raR f nz (tbF ft 0 11) (tbF ft 11 5) d fr un) (ff ((tbF ft 0 11) % 16384)) ∧ (∀ j, j < 8 → u.2.1 j = dG f nz (tbF ft 0 11) j) ∧ u.2.2.1 = gtS (raR f nz (tbF ft 0 11) (tbF ft 11 5) d fr un) (acS (ff ((tbF ft 0 11) % 16384)) sp ((tbF ft 0 11) % 16384)) sp ∧ u.2.2.2.1 = gtF (raR f nz (tbF ft 0 11) (tbF ft 11 5) d fr un) (acF (ff ((tbF ft 0 11) % 16384)) ff ((tbF ft 0 11) % 16384) (nI 1)) ff ∧ u.2.2.2.2.1 = gtF (raR f nz (tbF ft 0 11) (tbF ft 11 5) d fr un) (acF (ff ((tbF ft 0 11) % 16384)) fd ((tbF ft 0 11) % 16384) (nI d)) fd ∧ u.2.2.2.2.2 = gtF (raR f nz (tbF ft 0 11) (tbF ft 11 5) d fr un) (acF (ff ((tbF ft 0 11) % 16384)) fc ((tbF ft 0 11) % 16384) (cc + nI 1)) fc) (wB g (va_A [(s0, .inr (5, [.ref ks, .int (nI kn), .int (nI mn), .ref lt, .ref ty, .int (nI tn), .int cc, .int sp, .ref lg, .ref dg])), (ks, .inl (g.2.1 4, 15, .inr (.inr (.inr (.inr fk))))), (dg, .inr (2, [.ref wa, .ref st, .int rk])), (wa, .inl (g.2.1 0, 64, .inl fw)), (st, .inl (g.2.1 0, 8, .inl fs)), (k, .inr (3, [.int fr, .int un, .ref kb, .int (nI nz), .int cl])), (kb, .inl (g.2.1 1, 32, .inl f)), (ty, .inl (g.2.1 0, 40, .inl ft)), (lg, .inr (4, [.ref fa, .ref da, .ref ch])), (fa, .inl (g.2.1 1, 16384, .inl ff)), (da, .inl (g.2.1 0, 16384, .inl fd)), (ch, .inl (g.2.1 0, 16384, .inl fc))] hsz) (fun u : ((Nat → Int32) × (Nat → Int32) × Int32 × (Nat → Int32) × (Nat → Int32) × (Nat → Int32)) => [(s0, .inr (5, [.ref ks, .int (nI kn), .int (nI mn), .ref lt, .ref ty, .int (nI 0), .int (cc + nI 1), .int u.2.2.1, .ref lg, .ref dg])), (ks, .inl (g.2.1 4, 15, .inr (.inr (.inr (.inr fk))))), (dg, .inr (2, [.ref wa, .ref st, .int (nI 1)])), (wa, .inl (g.2.1 0, 64, .inl u.1)), (st, .inl (g.2.1 0, 8, .inl u.2.1)), (k, .inr (3, [.int fr, .int un, .ref kb, .int (nI nz), .int cl])), (kb, .inl (g.2.1 1, 32, .inl f)), (ty, .inl (g.2.1 0, 40, .inl ft)), (lg, .inr (4, [.ref fa, .ref da, .ref ch])), (fa, .inl (g.2.1 1, 16384, .inl u.2.2.2.1)), (da, .inl (g.2.1 0, 16384, .inl u.2.2.2.2.1)), (ch, .inl (g.2.1 0, 16384, .inl u.2.2.2.2.2))])) (va_A [(s0, .inr (5, [.ref ks, .int (nI kn), .int (nI mn), .ref lt, .ref ty, .int (nI tn), .int cc, .int sp, .ref lg, .ref dg])), (ks, .inl (g.2.1 4, 15, .inr (.inr (.inr (.inr fk))))), (dg, .inr (2, [.ref wa, .ref st, .int rk])), (wa, .inl (g.2.1 0, 64, .inl fw)), (st, .inl (g.2.1 0, 8, .inl fs)), (k, .inr (3, [.int fr, .int un, .ref kb, .int (nI nz), .int cl])), (kb, .inl (g.2.1 1, 32, .inl f)), (ty, .inl (g.2.1 0, 40, .inl ft)), (lg, .inr (4, [.ref fa, .ref da, .ref ch])), (fa, .inl (g.2.1 1, 16384, .inl ff)), (da, .inl (g.2.1 0, 16384, .inl fd)), (ch, .inl (g.2.1 0, 16384, .inl fc))] hsz)) 0 0 (va_A [(s0, .inr (5, [.ref ks, .int (nI kn), .int (nI mn), .ref lt, .ref ty, .int (nI tn), .int cc, .int sp, .ref lg, .ref dg])), (ks, .inl (g.2.1 4, 15, .inr (.inr (.inr (.inr fk))))), (dg, .inr (2, [.ref wa, .ref st, .int rk])), (wa, .inl (g.2.1 0, 64, .inl fw)), (st, .inl (g.2.1 0, 8, .inl fs)), (k, .inr (3, [.int fr, .int un, .ref kb, .int (nI nz), .int cl])), (kb, .inl (g.2.1 1, 32, .inl f)), (ty, .inl (g.2.1 0, 40, .inl ft)), (lg, .inr (4, [.ref fa, .ref da, .ref ch])), (fa, .inl (g.2.1 1, 16384, .inl ff)), (da, .inl (g.2.1 0, 16384, .inl fd)), (ch, .inl (g.2.1 0, 16384, .inl fc))] hsz) := by
  refine ofWi (cc := cX4_check) (maxL := 9) (ret := (some .int)) (by decide) rfl (Nat.le_of_ble_eq_true rfl) (fun p e s m below meth c hx hb hr hml hts hown hlocks hnm A H hH hA hP hD hK hZ hS ls hl => ?_)
  have hown : s.vm.findClass RX4 = some m.cls := hown
  have hl : lv_has ls 9 [(0, .ref s0), (1, .long (lN d))] := hl
  have hiX4 : ∀ w ∈ wsX40, w ∈ wsX4_check := by decide +kernel
  have hN : tbF ft 0 11 < 36028797018963968 := tbF_11 (by decide) (fun i _ h2 => hlet i (by omega))
  have hS1 : tbF ft 11 5 < 33554432 := tbF_lt 5 (fun i _ h2 => hlet i (by omega))
  have tT := tl_n (n := tbF ft 0 11) (by omega)
  have tS := tl_n (n := tbF ft 11 5) (by omega)
  have t0 := tl_n (n := 0) (by omega)
  have td := tl_n (n := d) (by omega)
  refine lv_lload_n hx hb dX4_check_0 rfl (lv_at hl 1 rfl) ?_
  refine cSi (rest := []) ⟨hx, hb, hml, hown, hts⟩ [.long (lN d)] (c_X4_isDay l g (x := (lN d))) (va_cwS 1 hts gX4_check_X4_isDay rfl rfl rfl (by decide +kernel) ⟨Nat.le_of_ble_eq_true rfl, Nat.le_of_ble_eq_true rfl⟩) hK hZ hS (subP hP [] rfl) rfl hl.1 rfl (Nat.le_of_ble_eq_true rfl) dX4_check_1 ⟨Nat.zero_le _, Nat.zero_le _⟩ (fun r_161 hr_161 => ?_)
  obtain rfl : r_161 = (inI (lN d).toInt 0 65535) := hr_161
  refine lv_if_ne (tgt := 10) hx hb dX4_check_4 (by decide) (fun _ => ?_) (fun c9 => absurd c9 (by rw [inI_1 (by omega) (by omega)]; decide))
  refine lv_aload_n hx hb dX4_check_10 rfl (lv_at hl 0 rfl) ?_
  refine lv_dup hx hb dX4_check_11 rfl ?_
  refine va_get (D := g.1) (ci := 5) (v := .int cc) (C := RX4) (T := TX4) (N := 10) hx hb hts hiX4 hown hK.1 hP 0 rfl rfl 6 (by decide) (hts (.fieldLink RX4 95 "StampMaker" "checkCount" "I") (by decide +kernel)) (fun _ h9 => h9) rfl dX4_check_12 ?_
  refine lv_iconst (v := (nI 1)) hx hb dX4_check_15 (by decide) ?_
  refine lv_iadd hx hb dX4_check_16 ?_
  refine va_put (D := g.1) (ci := 5) (v := .int (cc + (nI 1))) (ty := .int) (C := RX4) (T := TX4) (N := 10) hx hb hts hiX4 tyX4 tyX4_ok nmX4 hown hK.1 hP hD hS 0 rfl rfl 6 (by decide) (hts (.fieldLink RX4 95 "StampMaker" "checkCount" "I") (by decide +kernel)) (fun _ h9 => h9) rfl (by decide +kernel) rfl rfl (Nat.le_of_ble_eq_true rfl) dX4_check_17 (fun H locs hP hD hS => ?_)
  have hP : va_P g.1 vwCl [(s0, .inr (5, [.ref ks, .int (nI kn), .int (nI mn), .ref lt, .ref ty, .int (nI tn), .int (cc + (nI 1)), .int sp, .ref lg, .ref dg])), (ks, .inl (g.2.1 4, 15, .inr (.inr (.inr (.inr fk))))), (dg, .inr (2, [.ref wa, .ref st, .int rk])), (wa, .inl (g.2.1 0, 64, .inl fw)), (st, .inl (g.2.1 0, 8, .inl fs)), (k, .inr (3, [.int fr, .int un, .ref kb, .int (nI nz), .int cl])), (kb, .inl (g.2.1 1, 32, .inl f)), (ty, .inl (g.2.1 0, 40, .inl ft)), (lg, .inr (4, [.ref fa, .ref da, .ref ch])), (fa, .inl (g.2.1 1, 16384, .inl ff)), (da, .inl (g.2.1 0, 16384, .inl fd)), (ch, .inl (g.2.1 0, 16384, .inl fc))] H := hP
  have hD : va_D A [(s0, .inr (5, [.ref ks, .int (nI kn), .int (nI mn), .ref lt, .ref ty, .int (nI tn), .int (cc + (nI 1)), .int sp, .ref lg, .ref dg])), (ks, .inl (g.2.1 4, 15, .inr (.inr (.inr (.inr fk))))), (dg, .inr (2, [.ref wa, .ref st, .int rk])), (wa, .inl (g.2.1 0, 64, .inl fw)), (st, .inl (g.2.1 0, 8, .inl fs)), (k, .inr (3, [.int fr, .int un, .ref kb, .int (nI nz), .int cl])), (kb, .inl (g.2.1 1, 32, .inl f)), (ty, .inl (g.2.1 0, 40, .inl ft)), (lg, .inr (4, [.ref fa, .ref da, .ref ch])), (fa, .inl (g.2.1 1, 16384, .inl ff)), (da, .inl (g.2.1 0, 16384, .inl fd)), (ch, .inl (g.2.1 0, 16384, .inl fc))] := hD
  refine lv_aload_n hx hb dX4_check_20 rfl (lv_at hl 0 rfl) ?_
  refine va_get (D := g.1) (ci := 5) (v := .int (nI tn)) (C := RX4) (T := TX4) (N := 10) hx hb hts hiX4 hown hK.1 hP 0 rfl rfl 5 (by decide) (hts (.fieldLink RX4 92 "StampMaker" "typedCount" "I") (by decide +kernel)) (fun _ h9 => h9) rfl dX4_check_21 ?_
  refine lv_istore_n (lv' := [(3, .int (nI tn)), (0, .ref s0), (1, .long (lN d))]) hx hb dX4_check_24 rfl hl (by decide) rfl (fun ls hl => ?_)
  refine lv_aload_n hx hb dX4_check_25 rfl (lv_at hl 1 rfl) ?_
  refine lv_iconst (v := (nI 0)) hx hb dX4_check_26 (by decide) ?_
  refine va_put (D := g.1) (ci := 5) (v := .int (nI 0)) (ty := .int) (C := RX4) (T := TX4) (N := 10) hx hb hts hiX4 tyX4 tyX4_ok nmX4 hown hK.1 hP hD hS 0 rfl rfl 5 (by decide) (hts (.fieldLink RX4 92 "StampMaker" "typedCount" "I") (by decide +kernel)) (fun _ h9 => h9) rfl (by decide +kernel) rfl rfl (Nat.le_of_ble_eq_true rfl) dX4_check_27 (fun H locs hP hD hS => ?_)
  have hP : va_P g.1 vwCl [(s0, .inr (5, [.ref ks, .int (nI kn), .int (nI mn), .ref lt, .ref ty, .int (nI 0), .int (cc + (nI 1)), .int sp, .ref lg, .ref dg])), (ks, .inl (g.2.1 4, 15, .inr (.inr (.inr (.inr fk))))), (dg, .inr (2, [.ref wa, .ref st, .int rk])), (wa, .inl (g.2.1 0, 64, .inl fw)), (st, .inl (g.2.1 0, 8, .inl fs)), (k, .inr (3, [.int fr, .int un, .ref kb, .int (nI nz), .int cl])), (kb, .inl (g.2.1 1, 32, .inl f)), (ty, .inl (g.2.1 0, 40, .inl ft)), (lg, .inr (4, [.ref fa, .ref da, .ref ch])), (fa, .inl (g.2.1 1, 16384, .inl ff)), (da, .inl (g.2.1 0, 16384, .inl fd)), (ch, .inl (g.2.1 0, 16384, .inl fc))] H := hP
  have hD : va_D A [(s0, .inr (5, [.ref ks, .int (nI kn), .int (nI mn), .ref lt, .ref ty, .int (nI 0), .int (cc + (nI 1)), .int sp, .ref lg, .ref dg])), (ks, .inl (g.2.1 4, 15, .inr (.inr (.inr (.inr fk))))), (dg, .inr (2, [.ref wa, .ref st, .int rk])), (wa, .inl (g.2.1 0, 64, .inl fw)), (st, .inl (g.2.1 0, 8, .inl fs)), (k, .inr (3, [.int fr, .int un, .ref kb, .int (nI nz), .int cl])), (kb, .inl (g.2.1 1, 32, .inl f)), (ty, .inl (g.2.1 0, 40, .inl ft)), (lg, .inr (4, [.ref fa, .ref da, .ref ch])), (fa, .inl (g.2.1 1, 16384, .inl ff)), (da, .inl (g.2.1 0, 16384, .inl fd)), (ch, .inl (g.2.1 0, 16384, .inl fc))] := hD
  refine lv_iload_n hx hb dX4_check_30 rfl (lv_at hl 0 rfl) ?_
  refine lv_bipush (v := (nI 16)) hx hb dX4_check_31 (by decide) ?_
  refine lv_icmp_eq (tgt := 41) hx hb dX4_check_33 (by decide) (fun _ => ?_) (fun c9 => absurd (by rw [ht]) c9)
  refine lv_aload_n hx hb dX4_check_41 rfl (lv_at hl 1 rfl) ?_
  refine lv_iconst (v := (nI 0)) hx hb dX4_check_42 (by decide) ?_
  refine lv_bipush (v := (nI 11)) hx hb dX4_check_43 (by decide) ?_
  refine cVl (rest := []) ⟨hx, hb, hml, hown, hts⟩ [.int (nI 0), .int (nI 11)] (c_X4_tb_yes l g (s0 := s0) (ks := ks) (lt := lt) (ty := ty) (lg := lg) (dg := dg) (kn := kn) (mn := mn) (tn := 0) (cc := (cc + nI 1)) (sp := sp) (ft := ft) (a0 := 0) (b0 := 11) (by decide) (by decide) (by decide) (fun j _ h => hlet j (by omega))) (cwV 2 hts gX4_check_X4_typedBits rfl rfl rfl (by decide +kernel) ⟨Nat.le_of_ble_eq_true rfl, Nat.le_of_ble_eq_true rfl⟩) hK hZ hS (subP hP [0, 7] rfl) (va_recv hK.1 hP (ci := 5) (q0 := 0) rfl rfl) rfl hl.1 rfl (Nat.le_of_ble_eq_true rfl) dX4_check_45 ⟨Nat.zero_le _, Nat.zero_le _⟩ (fun r_162 hr_162 => ?_)
  obtain rfl : r_162 = (lN (tbF ft 0 (11 - 0))) := hr_162
  refine lv_rel (x' := (lN (tbF ft 0 11))) (rfl) ?_
  refine lv_lstore (lv' := [(4, .long (lN (tbF ft 0 11))), (3, .int (nI tn)), (0, .ref s0), (1, .long (lN d))]) hx hb dX4_check_48 hl (by decide) rfl (fun ls hl => ?_)
  refine lv_aload_n hx hb dX4_check_50 rfl (lv_at hl 2 rfl) ?_
  refine lv_bipush (v := (nI 11)) hx hb dX4_check_51 (by decide) ?_
  refine lv_bipush (v := (nI 16)) hx hb dX4_check_53 (by decide) ?_
  refine cVl (rest := []) ⟨hx, hb, hml, hown, hts⟩ [.int (nI 11), .int (nI 16)] (c_X4_tb_yes l g (s0 := s0) (ks := ks) (lt := lt) (ty := ty) (lg := lg) (dg := dg) (kn := kn) (mn := mn) (tn := 0) (cc := (cc + nI 1)) (sp := sp) (ft := ft) (a0 := 11) (b0 := 16) (by decide) (by decide) (by decide) (fun j _ h => hlet j (by omega))) (cwV 2 hts gX4_check_X4_typedBits rfl rfl rfl (by decide +kernel) ⟨Nat.le_of_ble_eq_true rfl, Nat.le_of_ble_eq_true rfl⟩) hK hZ hS (subP hP [0, 7] rfl) (va_recv hK.1 hP (ci := 5) (q0 := 0) rfl rfl) rfl hl.1 rfl (Nat.le_of_ble_eq_true rfl) dX4_check_55 ⟨Nat.zero_le _, Nat.zero_le _⟩ (fun r_163 hr_163 => ?_)
  obtain rfl : r_163 = (lN (tbF ft 11 (16 - 11))) := hr_163
  refine lv_rel (x' := (lN (tbF ft 11 5))) (rfl) ?_
  refine lv_lstore (lv' := [(6, .long (lN (tbF ft 11 5))), (4, .long (lN (tbF ft 0 11))), (3, .int (nI tn)), (0, .ref s0), (1, .long (lN d))]) hx hb dX4_check_58 hl (by decide) rfl (fun ls hl => ?_)
  refine lv_lload hx hb dX4_check_60 (lv_at hl 1 rfl) ?_
  refine lv_lconst (v := lN 0) hx hb dX4_check_62 (by decide) ?_
  refine W.lcmp hx hb dX4_check_63 ?_
  refine lv_if_lt (tgt := 74) hx hb dX4_check_64 (by decide) (fun c9 => absurd c9 (by rw [lc_lt]; omega)) (fun _ => ?_)
  refine lv_lload hx hb dX4_check_67 (lv_at hl 0 rfl) ?_
  refine lv_lconst (v := lN 0) hx hb dX4_check_69 (by decide) ?_
  refine W.lcmp hx hb dX4_check_70 ?_
  refine lv_if_ge (tgt := 79) hx hb dX4_check_71 (by decide) (fun _ => ?_) (fun c9 => absurd (by rw [lc_ge]; omega) c9)
  refine lv_aload_n hx hb dX4_check_79 rfl (lv_at hl 3 rfl) ?_
  refine lv_lload hx hb dX4_check_80 (lv_at hl 1 rfl) ?_
  refine lv_lload hx hb dX4_check_82 (lv_at hl 0 rfl) ?_
  refine lv_lload_n hx hb dX4_check_84 rfl (lv_at hl 4 rfl) ?_
  refine lv_l2i hx hb dX4_check_85 rfl ?_
  refine lv_rei (x' := (nI d)) (l_i) ?_
  refine wVi (rest := []) ⟨hx, hb, hml, hown, hts⟩ [.long (lN (tbF ft 0 11)), .long (lN (tbF ft 11 5)), .int (nI d)] [0, 1, 2, 3, 4, 5, 6] (c_X4_ra_go l g H.size (s0 := s0) (ks := ks) (lt := lt) (ty := ty) (lg := lg) (dg := dg) (kn := kn) (mn := mn) (tn := 0) (cc := (cc + nI 1)) (sp := sp) (fk := fk) (wa := wa) (st := st) (rk := rk) (fw := fw) (fs := fs) (k := k) (kb := kb) (fr := fr) (un := un) (cl := cl) (f := f) (nz := nz) (N := (tbF ft 0 11)) (S1 := (tbF ft 11 5)) (d := d) hN hS1 hdd hz hkn hi hk hok1 hok2 hok3) (cwV 3 hts gX4_check_X4_reasonAgainst rfl rfl rfl (by decide +kernel) ⟨Nat.le_of_ble_eq_true rfl, Nat.le_of_ble_eq_true rfl⟩) hK hZ hS hP hD hA rfl (by decide) (fun _ => Nat.le_of_ble_eq_true rfl) (fun _ => rfl) (va_recv hK.1 hP (ci := 5) (q0 := 0) rfl rfl) rfl hl.1 rfl (Nat.le_of_ble_eq_true rfl) dX4_check_86 ⟨Nat.le_of_ble_eq_true rfl, Nat.le_of_ble_eq_true rfl⟩ (fun z1 u H locs hz1 hP hD hS => ?_)
  obtain ⟨G, T⟩ := u
  have hP : va_P g.1 vwCl [(s0, .inr (5, [.ref ks, .int (nI kn), .int (nI mn), .ref lt, .ref ty, .int (nI 0), .int (cc + nI 1), .int sp, .ref lg, .ref dg])), (ks, .inl (g.2.1 4, 15, .inr (.inr (.inr (.inr fk))))), (dg, .inr (2, [.ref wa, .ref st, .int (nI 1)])), (wa, .inl (g.2.1 0, 64, .inl ((G, T).1))), (st, .inl (g.2.1 0, 8, .inl ((G, T).2))), (k, .inr (3, [.int fr, .int un, .ref kb, .int (nI nz), .int cl])), (kb, .inl (g.2.1 1, 32, .inl f)), (ty, .inl (g.2.1 0, 40, .inl ft)), (lg, .inr (4, [.ref fa, .ref da, .ref ch])), (fa, .inl (g.2.1 1, 16384, .inl ff)), (da, .inl (g.2.1 0, 16384, .inl fd)), (ch, .inl (g.2.1 0, 16384, .inl fc))] H := hP
  have hD : va_D A [(s0, .inr (5, [.ref ks, .int (nI kn), .int (nI mn), .ref lt, .ref ty, .int (nI 0), .int (cc + nI 1), .int sp, .ref lg, .ref dg])), (ks, .inl (g.2.1 4, 15, .inr (.inr (.inr (.inr fk))))), (dg, .inr (2, [.ref wa, .ref st, .int (nI 1)])), (wa, .inl (g.2.1 0, 64, .inl ((G, T).1))), (st, .inl (g.2.1 0, 8, .inl ((G, T).2))), (k, .inr (3, [.int fr, .int un, .ref kb, .int (nI nz), .int cl])), (kb, .inl (g.2.1 1, 32, .inl f)), (ty, .inl (g.2.1 0, 40, .inl ft)), (lg, .inr (4, [.ref fa, .ref da, .ref ch])), (fa, .inl (g.2.1 1, 16384, .inl ff)), (da, .inl (g.2.1 0, 16384, .inl fd)), (ch, .inl (g.2.1 0, 16384, .inl fc))] := hD
  obtain ⟨hz1, hz2⟩ := hz1
  have hz2 : ∀ j, j < 8 → T j = dG f nz (tbF ft 0 11) j := hz2
  have hP : va_P g.1 vwCl [(s0, .inr (5, [.ref ks, .int (nI kn), .int (nI mn), .ref lt, .ref ty, .int (nI 0), .int (cc + nI 1), .int sp, .ref lg, .ref dg])), (ks, .inl (g.2.1 4, 15, .inr (.inr (.inr (.inr fk))))), (dg, .inr (2, [.ref wa, .ref st, .int (nI 1)])), (wa, .inl (g.2.1 0, 64, .inl G)), (st, .inl (g.2.1 0, 8, .inl T)), (k, .inr (3, [.int fr, .int un, .ref kb, .int (nI nz), .int cl])), (kb, .inl (g.2.1 1, 32, .inl f)), (ty, .inl (g.2.1 0, 40, .inl ft)), (lg, .inr (4, [.ref fa, .ref da, .ref ch])), (fa, .inl (g.2.1 1, 16384, .inl ff)), (da, .inl (g.2.1 0, 16384, .inl fd)), (ch, .inl (g.2.1 0, 16384, .inl fc))] H := hP
  have hD : va_D A [(s0, .inr (5, [.ref ks, .int (nI kn), .int (nI mn), .ref lt, .ref ty, .int (nI 0), .int (cc + nI 1), .int sp, .ref lg, .ref dg])), (ks, .inl (g.2.1 4, 15, .inr (.inr (.inr (.inr fk))))), (dg, .inr (2, [.ref wa, .ref st, .int (nI 1)])), (wa, .inl (g.2.1 0, 64, .inl G)), (st, .inl (g.2.1 0, 8, .inl T)), (k, .inr (3, [.int fr, .int un, .ref kb, .int (nI nz), .int cl])), (kb, .inl (g.2.1 1, 32, .inl f)), (ty, .inl (g.2.1 0, 40, .inl ft)), (lg, .inr (4, [.ref fa, .ref da, .ref ch])), (fa, .inl (g.2.1 1, 16384, .inl ff)), (da, .inl (g.2.1 0, 16384, .inl fd)), (ch, .inl (g.2.1 0, 16384, .inl fc))] := hD
  refine lv_istore (lv' := [(8, .int z1), (6, .long (lN (tbF ft 11 5))), (4, .long (lN (tbF ft 0 11))), (3, .int (nI tn)), (0, .ref s0), (1, .long (lN d))]) hx hb dX4_check_89 hl (by decide) rfl (fun ls hl => ?_)
  refine lv_iload hx hb dX4_check_91 (lv_at hl 0 rfl) ?_
  refine lv_if_eq (tgt := 104) hx hb dX4_check_93 (by decide) (fun c_164 => ?_) (fun c_164 => ?_)
  · refine lv_aload_n hx hb dX4_check_104 rfl (lv_at hl 4 rfl) ?_
    refine lv_lload hx hb dX4_check_105 (lv_at hl 2 rfl) ?_
    refine cSi (rest := [.ref s0]) ⟨hx, hb, hml, hown, hts⟩ [.long (lN (tbF ft 0 11))] (c_X1_serialOf l g (x := (lN (tbF ft 0 11)))) (va_cwS 1 hts gX4_check_X1_serialOf rfl rfl rfl (by decide +kernel) ⟨Nat.le_of_ble_eq_true rfl, Nat.le_of_ble_eq_true rfl⟩) hK hZ hS (subP hP [] rfl) rfl hl.1 rfl (Nat.le_of_ble_eq_true rfl) dX4_check_107 ⟨Nat.zero_le _, Nat.zero_le _⟩ (fun r_166 hr_166 => ?_)
    obtain rfl : r_166 = ((lN (tbF ft 0 11)).toInt32 &&& nI 16383) := hr_166
    refine lv_rei (x' := (nI (tbF ft 0 11 % 16384))) (by rw [l_i]; exact andM _ 14 (by decide) rfl (by decide)) ?_
    refine lv_lload_n hx hb dX4_check_110 rfl (lv_at hl 5 rfl) ?_
    refine lv_l2i hx hb dX4_check_111 rfl ?_
    refine lv_rei (x' := (nI d)) (l_i) ?_
    refine wVi (rest := []) ⟨hx, hb, hml, hown, hts⟩ [.int (nI (tbF ft 0 11 % 16384)), .int (nI d)] [0, 8, 9, 10, 11] (c_X4_spendOrRefuse l g H.size (s0 := s0) (ks := ks) (lt := lt) (ty := ty) (lg := lg) (dg := dg) (kn := kn) (mn := mn) (tn := 0) (cc := (cc + nI 1)) (sp := sp) (fa := fa) (da := da) (ch := ch) (ff := ff) (fd := fd) (fc := fc) (j := (tbF ft 0 11 % 16384)) (xd := (nI d)) (by omega)) (cwV 2 hts gX4_check_X4_spendOrRefuse rfl rfl rfl (by decide +kernel) ⟨Nat.le_of_ble_eq_true rfl, Nat.le_of_ble_eq_true rfl⟩) hK hZ hS hP hD hA rfl (by decide) (fun _ => Nat.le_of_ble_eq_true rfl) (fun _ => rfl) (va_recv hK.1 hP (ci := 5) (q0 := 0) rfl rfl) rfl hl.1 rfl (Nat.le_of_ble_eq_true rfl) dX4_check_112 ⟨Nat.le_of_ble_eq_true rfl, Nat.le_of_ble_eq_true rfl⟩ (fun z3 u H locs hz3 hP hD hS => ?_)
    obtain ⟨u1, u2, u3, u4⟩ := u
    have hP : va_P g.1 vwCl [(s0, .inr (5, [.ref ks, .int (nI kn), .int (nI mn), .ref lt, .ref ty, .int (nI 0), .int (cc + nI 1), .int ((u1, u2, u3, u4).1), .ref lg, .ref dg])), (ks, .inl (g.2.1 4, 15, .inr (.inr (.inr (.inr fk))))), (dg, .inr (2, [.ref wa, .ref st, .int (nI 1)])), (wa, .inl (g.2.1 0, 64, .inl G)), (st, .inl (g.2.1 0, 8, .inl T)), (k, .inr (3, [.int fr, .int un, .ref kb, .int (nI nz), .int cl])), (kb, .inl (g.2.1 1, 32, .inl f)), (ty, .inl (g.2.1 0, 40, .inl ft)), (lg, .inr (4, [.ref fa, .ref da, .ref ch])), (fa, .inl (g.2.1 1, 16384, .inl ((u1, u2, u3, u4).2.1))), (da, .inl (g.2.1 0, 16384, .inl ((u1, u2, u3, u4).2.2.1))), (ch, .inl (g.2.1 0, 16384, .inl ((u1, u2, u3, u4).2.2.2)))] H := hP
    have hD : va_D A [(s0, .inr (5, [.ref ks, .int (nI kn), .int (nI mn), .ref lt, .ref ty, .int (nI 0), .int (cc + nI 1), .int ((u1, u2, u3, u4).1), .ref lg, .ref dg])), (ks, .inl (g.2.1 4, 15, .inr (.inr (.inr (.inr fk))))), (dg, .inr (2, [.ref wa, .ref st, .int (nI 1)])), (wa, .inl (g.2.1 0, 64, .inl G)), (st, .inl (g.2.1 0, 8, .inl T)), (k, .inr (3, [.int fr, .int un, .ref kb, .int (nI nz), .int cl])), (kb, .inl (g.2.1 1, 32, .inl f)), (ty, .inl (g.2.1 0, 40, .inl ft)), (lg, .inr (4, [.ref fa, .ref da, .ref ch])), (fa, .inl (g.2.1 1, 16384, .inl ((u1, u2, u3, u4).2.1))), (da, .inl (g.2.1 0, 16384, .inl ((u1, u2, u3, u4).2.2.1))), (ch, .inl (g.2.1 0, 16384, .inl ((u1, u2, u3, u4).2.2.2)))] := hD
    have hP : va_P g.1 vwCl [(s0, .inr (5, [.ref ks, .int (nI kn), .int (nI mn), .ref lt, .ref ty, .int (nI 0), .int (cc + nI 1), .int u1, .ref lg, .ref dg])), (ks, .inl (g.2.1 4, 15, .inr (.inr (.inr (.inr fk))))), (dg, .inr (2, [.ref wa, .ref st, .int (nI 1)])), (wa, .inl (g.2.1 0, 64, .inl G)), (st, .inl (g.2.1 0, 8, .inl T)), (k, .inr (3, [.int fr, .int un, .ref kb, .int (nI nz), .int cl])), (kb, .inl (g.2.1 1, 32, .inl f)), (ty, .inl (g.2.1 0, 40, .inl ft)), (lg, .inr (4, [.ref fa, .ref da, .ref ch])), (fa, .inl (g.2.1 1, 16384, .inl u2)), (da, .inl (g.2.1 0, 16384, .inl u3)), (ch, .inl (g.2.1 0, 16384, .inl u4))] H := hP
    have hD : va_D A [(s0, .inr (5, [.ref ks, .int (nI kn), .int (nI mn), .ref lt, .ref ty, .int (nI 0), .int (cc + nI 1), .int u1, .ref lg, .ref dg])), (ks, .inl (g.2.1 4, 15, .inr (.inr (.inr (.inr fk))))), (dg, .inr (2, [.ref wa, .ref st, .int (nI 1)])), (wa, .inl (g.2.1 0, 64, .inl G)), (st, .inl (g.2.1 0, 8, .inl T)), (k, .inr (3, [.int fr, .int un, .ref kb, .int (nI nz), .int cl])), (kb, .inl (g.2.1 1, 32, .inl f)), (ty, .inl (g.2.1 0, 40, .inl ft)), (lg, .inr (4, [.ref fa, .ref da, .ref ch])), (fa, .inl (g.2.1 1, 16384, .inl u2)), (da, .inl (g.2.1 0, 16384, .inl u3)), (ch, .inl (g.2.1 0, 16384, .inl u4))] := hD
    obtain ⟨e0, e1, e2, e3, e4⟩ := hz3
    exact endWi (G, T, u1, u2, u3, u4) hx hb hr hlocks hS dX4_check_115 hP hD (by
          rw [← hz1]
          unfold ckG gtS gtF
          simp only [if_pos (show z1 = nI 0 from c_164)]
          exact ⟨e0, hz2, e1, e2, e3, e4⟩)
  · refine lv_iload hx hb dX4_check_96 (lv_at hl 0 rfl) ?_
    refine cSi (rest := []) ⟨hx, hb, hml, hown, hts⟩ [.int z1] (c_X4_refusedFor l g (x := z1)) (va_cwS 1 hts gX4_check_X4_refusedFor rfl rfl rfl (by decide +kernel) ⟨Nat.le_of_ble_eq_true rfl, Nat.le_of_ble_eq_true rfl⟩) hK hZ hS (subP hP [] rfl) rfl hl.1 rfl (Nat.le_of_ble_eq_true rfl) dX4_check_98 ⟨Nat.zero_le _, Nat.zero_le _⟩ (fun r_165 hr_165 => ?_)
    obtain rfl : r_165 = ((-1) - z1) := hr_165
    refine lv_goto (tgt := 115) hx hb dX4_check_101 (by decide) ?_
    exact endWi (G, T, sp, ff, fd, fc) hx hb hr hlocks hS dX4_check_115 hP hD (by
          rw [← hz1]
          unfold ckG gtS gtF
          rw [if_neg (show ¬ z1 = nI 0 from c_164)]
          simp only [if_neg (show ¬ z1 = nI 0 from c_164)]
          exact ⟨trivial, hz2, trivial, trivial, trivial, trivial⟩)
