/-! the reference's way to the same numbers: bit by bit -/
theorem bit_mod {x e : Nat} (he : e < 8) : x % 256 / 2 ^ e % 2 = x / 2 ^ e % 2 := by
  rcases (show e = 0 ∨ e = 1 ∨ e = 2 ∨ e = 3 ∨ e = 4 ∨ e = 5 ∨ e = 6 ∨ e = 7 by omega) with rfl | rfl | rfl | rfl | rfl | rfl | rfl | rfl <;> omega
theorem div_div2 (x a b : Nat) : x / 2 ^ a / 2 ^ b = x / 2 ^ (a + b) := by rw [Nat.div_div_eq_div_mul, ← Nat.pow_add]
/-- bit i of the block -/
def mbit (f : Nat → Int32) (sz N i : Nat) : Nat := if i < 448 then mb f sz N (i / 8) / 2 ^ (7 - i % 8) % 2 else (8 * sz + 56) / 2 ^ (511 - i) % 2
theorem bit_a {f : Nat → Int32} {sz N i : Nat} (h : i < 8 * sz) (hz : sz ≤ 32) : mbit f sz N i = by8 (f (i / 8)) / 2 ^ (7 - i % 8) % 2 := by
  unfold mbit mb
  rw [if_pos (by omega), if_pos (by omega)]
theorem bit_b {f : Nat → Int32} {sz N i : Nat} (h1 : 8 * sz ≤ i) (h2 : i < 8 * sz + 55) (hz : sz ≤ 32) : mbit f sz N i = N / 2 ^ (54 - (i - 8 * sz)) % 2 := by
  unfold mbit mb
  rw [if_pos (by omega), if_neg (by omega), if_pos (by omega), bit_mod (by omega), div_div2]
  have e : 48 - 8 * (i / 8 - sz) + (7 - i % 8) = (54 - (i - 8 * sz)) + 1 := by omega
  rw [e, Nat.pow_succ, Nat.mul_comm (2 ^ _) 2, ← Nat.div_div_eq_div_mul, Nat.mul_div_cancel_left N (by decide)]
theorem bit_c {f : Nat → Int32} {sz N i : Nat} (h1 : i = 8 * sz + 56) (hz : sz ≤ 32) : mbit f sz N i = 1 := by
  unfold mbit mb
  rw [if_pos (by omega), if_neg (by omega), if_neg (by omega), if_pos (by omega), show i % 8 = 0 by omega]
theorem bit_d {f : Nat → Int32} {sz N i : Nat} (h1 : 8 * sz + 55 ≤ i) (h2 : i ≠ 8 * sz + 56) (h3 : i < 448) (hz : sz ≤ 32) : mbit f sz N i = 0 := by
  unfold mbit mb
  rw [if_pos (by omega), if_neg (by omega)]
  by_cases q : i / 8 - sz < 7
  · rw [if_pos q, show i / 8 - sz = 6 by omega, show i % 8 = 7 by omega]
    omega
  · rw [if_neg q]
    by_cases q2 : i / 8 - sz = 7
    · rw [if_pos q2]
      rcases (show i % 8 = 1 ∨ i % 8 = 2 ∨ i % 8 = 3 ∨ i % 8 = 4 ∨ i % 8 = 5 ∨ i % 8 = 6 ∨ i % 8 = 7 by omega) with e | e | e | e | e | e | e <;> rw [e]
    · rw [if_neg q2]
      simp
theorem bit_e {f : Nat → Int32} {sz N i : Nat} (h : 448 ≤ i) : mbit f sz N i = (8 * sz + 56) / 2 ^ (511 - i) % 2 := by
  unfold mbit
  rw [if_neg (by omega)]
/-- the bits of a word, put together -/
def mF (f : Nat → Int32) (sz N t : Nat) : Nat → Nat
  | 0 => 0
  | m + 1 => 2 * mF f sz N t m + mbit f sz N (32 * t + m)
theorem mF_of {f : Nat → Int32} {sz N t B : Nat} (hB : B < 4294967296) (h : ∀ m, m < 32 → mbit f sz N (32 * t + m) = B / 2 ^ (31 - m) % 2) : ∀ m, m ≤ 32 → mF f sz N t m = B / 2 ^ (32 - m)
  | 0, _ => by
    rw [mF]
    exact (Nat.div_eq_of_lt (by omega)).symm
  | m + 1, hm => by
    rw [mF, mF_of hB h m (by omega), h m (by omega), show 32 - (m + 1) = 31 - m by omega, show 32 - m = (31 - m) + 1 by omega, ← div_div2]
    generalize B / 2 ^ (31 - m) = q
    omega
theorem mF_lt {f : Nat → Int32} {sz N t B : Nat} (hB : B < 4294967296) (h : ∀ m, m < 32 → mbit f sz N (32 * t + m) = B / 2 ^ (31 - m) % 2) {m : Nat} (hm : m ≤ 32) : mF f sz N t m < 4294967296 := by
  rw [mF_of hB h m hm]
  exact Nat.lt_of_le_of_lt (Nat.div_le_self _ _) hB
theorem mB_14 {f : Nat → Int32} {sz N t m : Nat} (ht : t < 14) (hm : m < 32) : mbit f sz N (32 * t + m) = m4 f sz N t / 2 ^ (31 - m) % 2 := by
  have g0 := mb_lt f sz N (4 * t)
  have g1 := mb_lt f sz N (4 * t + 1)
  have g2 := mb_lt f sz N (4 * t + 2)
  have g3 := mb_lt f sz N (4 * t + 3)
  unfold mbit
  rw [if_pos (by omega), show (32 * t + m) / 8 = 4 * t + m / 8 by omega, show (32 * t + m) % 8 = m % 8 by omega]
  have e : 31 - m = 8 * (3 - m / 8) + (7 - m % 8) := by omega
  rw [e, ← div_div2, ← bit_mod (x := m4 f sz N t / 2 ^ (8 * (3 - m / 8))) (by omega)]
  congr 3
  unfold m4
  rcases (show m / 8 = 0 ∨ m / 8 = 1 ∨ m / 8 = 2 ∨ m / 8 = 3 by omega) with q | q | q | q <;> rw [q]
  · show mb f sz N (4 * t) = _ / 2 ^ 24 % 256
    omega
  · show mb f sz N (4 * t + 1) = _ / 2 ^ 16 % 256
    omega
  · show mb f sz N (4 * t + 2) = _ / 2 ^ 8 % 256
    omega
  · show mb f sz N (4 * t + 3) = _ / 2 ^ 0 % 256
    omega
theorem mW_bits {f : Nat → Int32} {sz N t : Nat} (ht : t < 16) (hz : sz ≤ 32) : ∃ B, B < 4294967296 ∧ mW f sz N t = nI B ∧ ∀ m, m < 32 → mbit f sz N (32 * t + m) = B / 2 ^ (31 - m) % 2 := by
  rcases Nat.lt_or_ge t 14 with q | q
  · exact ⟨m4 f sz N t, m4_lt f sz N t, if_pos q, fun m hm => mB_14 q hm⟩
  · rcases (show t = 14 ∨ t = 15 by omega) with rfl | rfl
    · refine ⟨0, by decide, rfl, fun m hm => ?_⟩
      rw [bit_e (by omega)]
      have h1 : (8 * sz + 56) / 2 ^ (511 - (32 * 14 + m)) = 0 := by
        apply Nat.div_eq_of_lt
        have : 2 ^ 9 ≤ 2 ^ (511 - (32 * 14 + m)) := Nat.pow_le_pow_right (by decide) (by omega)
        omega
      rw [h1, Nat.zero_div]
    · refine ⟨8 * (sz + 7), by omega, rfl, fun m hm => ?_⟩
      rw [bit_e (by omega), show 511 - (32 * 15 + m) = 31 - m by omega, show 8 * (sz + 7) = 8 * sz + 56 by omega]
theorem mF_W {f : Nat → Int32} {sz N t : Nat} (ht : t < 16) (hz : sz ≤ 32) : nI (mF f sz N t 32) = mW f sz N t := by
  obtain ⟨B, h1, h2, h3⟩ := mW_bits (f := f) (N := N) ht hz
  rw [mF_of h1 h3 32 (Nat.le_refl _), h2]
  simp
theorem mF_step {f : Nat → Int32} {sz N t m : Nat} : (nI 2 * nI (mF f sz N t m)) + nI (mbit f sz N (32 * t + m)) = nI (mF f sz N t (m + 1)) := by
  rw [pk_mul, nI_add, mF]
/-- one bit of a byte -/
theorem bit1 (x : Int32) {e : Nat} (he : e < 8) : ((x >>> (nI e &&& 31)) &&& nI 1) = nI (by8 x / 2 ^ e % 2) := by
  rw [pk_and _ 1 (by decide)]
  congr 1
  have h1 : ((nI e &&& 31).toBitVec.smod 32).toNat = e := by
    have : ∀ k, k < 8 → ((nI k &&& 31).toBitVec.smod 32).toNat = k := by decide
    exact this e he
  have h2 : (x >>> (nI e &&& 31)).toBitVec = x.toBitVec.sshiftRight e := by
    show x.toBitVec.sshiftRight' ((nI e &&& 31).toBitVec.smod 32) = _
    rw [BitVec.sshiftRight', h1]
  rw [h2]
  have h3 : (x.toBitVec.sshiftRight e).toNat % 2 = x.toBitVec.toNat / 2 ^ e % 2 := by
    have h4 : (x.toBitVec.sshiftRight e).getLsbD 0 = x.toBitVec.getLsbD e := by
      rw [BitVec.getLsbD_sshiftRight]
      simp
      intro h; omega
    rw [BitVec.getLsbD, BitVec.getLsbD, Nat.testBit_zero, Nat.testBit_eq_decide_div_mod_eq] at h4
    have h5 := decide_eq_decide.mp h4
    have a1 := Nat.mod_two_eq_zero_or_one ((x.toBitVec.sshiftRight e).toNat)
    have a2 := Nat.mod_two_eq_zero_or_one (x.toBitVec.toNat / 2 ^ e)
    omega
  rw [show (2 : Nat) ^ 1 = 2 from rfl, h3]
  unfold by8
  rw [bit_mod he]
theorem l_sshr {n k : Nat} (hk : k < 64) (hn : n < 9223372036854775808) : lN n >>> ((nI k).toInt64 &&& 63) = lN (n / 2 ^ k) := by
  rw [lcs k hk]
  have h1 : n / 2 ^ k ≤ n := Nat.div_le_self _ _
  apply lN_inj
  rw [lb_n (by omega)]
  show ((BitVec.ofNat 64 n).sshiftRight' ((BitVec.ofNat 64 k).smod 64)).toNat = n / 2 ^ k
  rw [lsm k hk, BitVec.sshiftRight', BitVec.toNat_ofNat, Nat.mod_eq_of_lt (show k < 2 ^ 64 by omega), BitVec.sshiftRight_eq_of_msb_false, BitVec.toNat_ushiftRight, BitVec.toNat_ofNat, Nat.mod_eq_of_lt (by omega), Nat.shiftRight_eq_div_pow]
  rw [BitVec.msb_eq_false_iff_two_mul_lt, BitVec.toNat_ofNat, Nat.mod_eq_of_lt (by omega)]
  omega
theorem land1 (n : Nat) : lN n &&& lN 1 = lN (n % 2) := landN (n := n) 1
/-- a byte out of a number: shifted with its sign or with zeros, the low bits are the same -/
theorem by_s (x : Int32) {n : Nat} (hn : n ≤ 24) : (x >>> (nI n &&& 31)).toInt8.toInt32 = oB x n := by
  unfold oB
  congr 1
  have h1 : ((nI n &&& 31).toBitVec.smod 32).toNat = n := by
    have : ∀ k, k < 25 → ((nI k &&& 31).toBitVec.smod 32).toNat = k := by decide
    exact this n (by omega)
  have h2 : (x >>> (nI n &&& 31)).toBitVec = x.toBitVec.sshiftRight n := by
    show x.toBitVec.sshiftRight' ((nI n &&& 31).toBitVec.smod 32) = _
    rw [BitVec.sshiftRight', h1]
  have h3 : ((x.toUInt32 >>> ((nI n).toUInt32 &&& Int32.toUInt32 31)).toInt32).toBitVec = x.toBitVec >>> n := by
    apply BitVec.eq_of_toNat_eq
    rw [BitVec.toNat_ushiftRight, Nat.shiftRight_eq_div_pow]
    exact pk_ushr x (nI n) n (s_uu n (by omega))
  apply Int8.toBitVec_inj.mp
  show (x >>> (nI n &&& 31)).toBitVec.signExtend 8 = ((x.toUInt32 >>> ((nI n).toUInt32 &&& Int32.toUInt32 31)).toInt32).toBitVec.signExtend 8
  rw [h2, h3]
  apply BitVec.eq_of_getLsbD_eq
  intro i hi
  rw [BitVec.getLsbD_signExtend, BitVec.getLsbD_signExtend, BitVec.getLsbD_sshiftRight, BitVec.getLsbD_ushiftRight]
  simp [hi, show i < 32 by omega, show n + i < 32 by omega]
theorem by8_oB (x : Int32) {n : Nat} (hn : n ≤ 24) : by8 (oB x n) = x.toBitVec.toNat / 2 ^ n % 256 := by
  have h := x.toBitVec.isLt
  have h1 : oB x n = (nI (x.toBitVec.toNat / 2 ^ n)).toInt8.toInt32 := by
    unfold oB
    congr 2
    apply nI_inj
    have h2 : x.toBitVec.toNat / 2 ^ n ≤ x.toBitVec.toNat := Nat.div_le_self _ _
    rw [tb_n (by omega)]
    exact pk_ushr x (nI n) n (s_uu n (by omega))
  rw [h1]
  generalize x.toBitVec.toNat / 2 ^ n = q
  have h3 : ∀ z : BitVec 32, (BitVec.signExtend 32 (BitVec.signExtend 8 z)).toNat % 256 = z.toNat % 256 := by
    intro z
    have h4 : (BitVec.signExtend 32 (BitVec.signExtend 8 z)).setWidth 8 = z.setWidth 8 := by
      apply BitVec.eq_of_getLsbD_eq
      intro i hi
      rw [BitVec.getLsbD_setWidth, BitVec.getLsbD_setWidth, BitVec.getLsbD_signExtend, BitVec.getLsbD_signExtend]
      simp [hi, show i < 32 by omega]
    have h5 := congrArg BitVec.toNat h4
    rwa [BitVec.toNat_setWidth, BitVec.toNat_setWidth] at h5
  show (BitVec.signExtend 32 (BitVec.signExtend 8 (BitVec.ofNat 32 q))).toNat % 256 = q % 256
  rw [h3, BitVec.toNat_ofNat, Nat.mod_mod_of_dvd _ (by decide)]
/-- bit k of the digest (of its first number) -/
theorem bit_dig (x : Int32) {k : Nat} (hk : k < 32) : by8 (oB x (24 - 8 * (k / 8 % 4))) / 2 ^ (7 - k % 8) % 2 = x.toBitVec.toNat / 2 ^ (31 - k) % 2 := by
  rw [by8_oB x (by omega), bit_mod (by omega), div_div2, show 24 - 8 * (k / 8 % 4) + (7 - k % 8) = 31 - k by omega]
/-- five bits, one by one -/
def fvF (U i : Nat) : Nat → Nat
  | 0 => 0
  | m + 1 => 2 * fvF U i m + U / 2 ^ (31 - (5 * i + m)) % 2
theorem fvF_5 {U i : Nat} (hi : i < 5) : fvF U i 5 = U / 2 ^ (27 - 5 * i) % 32 := by
  simp only [fvF]
  rw [show 31 - (5 * i + 0) = (27 - 5 * i) + 4 by omega, show 31 - (5 * i + 1) = (27 - 5 * i) + 3 by omega, show 31 - (5 * i + 2) = (27 - 5 * i) + 2 by omega, show 31 - (5 * i + 3) = (27 - 5 * i) + 1 by omega, show 31 - (5 * i + 4) = 27 - 5 * i by omega, ← div_div2, ← div_div2, ← div_div2, ← div_div2]
  generalize U / 2 ^ (27 - 5 * i) = q
  omega
theorem sN_div (f : Nat → Int32) (sz N : Nat) {i : Nat} (hi : i < 5) : (dG f sz N 0).toBitVec.toNat / 2 ^ (27 - 5 * i) % 32 = sN f sz N / 2 ^ (20 - 5 * i) % 32 := by
  unfold sN
  rw [show (128 : Nat) = 2 ^ 7 from rfl, div_div2, show 7 + (20 - 5 * i) = 27 - 5 * i by omega]
theorem tb_dig {ft : Nat → Int32} (h : ∀ j, 11 ≤ j → j < 16 → wo (ft j) < 32) {e : Nat} (he : e < 5) : tbF ft 11 5 / 2 ^ (20 - 5 * e) % 32 = wo (ft (11 + e)) := by
  have g0 := h 11 (by omega) (by omega)
  have g1 := h 12 (by omega) (by omega)
  have g2 := h 13 (by omega) (by omega)
  have g3 := h 14 (by omega) (by omega)
  have g4 := h 15 (by omega) (by omega)
  simp only [tbF]
  show ((((((0 * 32 + wo (ft 11)) * 32 + wo (ft 12)) * 32 + wo (ft 13)) * 32 + wo (ft 14)) * 32 + wo (ft 15)) / 2 ^ (20 - 5 * e) % 32 = wo (ft (11 + e)))
  rcases (show e = 0 ∨ e = 1 ∨ e = 2 ∨ e = 3 ∨ e = 4 by omega) with rfl | rfl | rfl | rfl | rfl
  · show _ / 2 ^ 20 % 32 = wo (ft 11); omega
  · show _ / 2 ^ 15 % 32 = wo (ft 12); omega
  · show _ / 2 ^ 10 % 32 = wo (ft 13); omega
  · show _ / 2 ^ 5 % 32 = wo (ft 14); omega
  · show _ / 2 ^ 0 % 32 = wo (ft 15); omega
theorem dig_eq {a b : Nat} (ha : a < 33554432) (hb : b < 33554432) (h : ∀ e, e < 5 → a / 2 ^ (20 - 5 * e) % 32 = b / 2 ^ (20 - 5 * e) % 32) : a = b := by
  have h0 := h 0 (by decide)
  have h1 := h 1 (by decide)
  have h2 := h 2 (by decide)
  have h3 := h 3 (by decide)
  have h4 := h 4 (by decide)
  simp only [show 20 - 5 * 0 = 20 from rfl, show 20 - 5 * 1 = 15 from rfl, show 20 - 5 * 2 = 10 from rfl, show 20 - 5 * 3 = 5 from rfl, show 20 - 5 * 4 = 0 from rfl] at h0 h1 h2 h3 h4
  omega
