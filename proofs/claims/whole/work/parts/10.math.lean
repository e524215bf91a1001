/-! the fields, the letters, what was typed, in numbers -/
def pkN (k kd v d m : Nat) : Nat := (((k * 16 + kd) * 131072 + v) * 65536 + d) * 16384 + m
theorem jnE_n {k kd v d m : Nat} (hk : k < 16) (hkd : kd < 16) (hv : v < 131072) (hd : d < 65536) (hm : m < 16384) : jnE (nI k) (nI kd) (nI v) (nI d) (nI m) = lN (pkN k kd v d m) := by
  unfold jnE pkN
  rw [nI_L (n := k) (by omega), nI_L (n := kd) (by omega), nI_L (n := v) (by omega), nI_L (n := d) (by omega), nI_L (n := m) (by omega), l_shl (n := k) (by decide) (by omega), l_shl (n := kd) (by decide) (by omega), l_shl (n := v) (by decide) (by omega), l_shl (n := d) (by decide) (by omega)]
  rw [show k * 2 ^ 51 = 2 ^ 51 * k by omega, lorS k (show kd * 2 ^ 47 < 2 ^ 51 by omega), show 2 ^ 51 * k + kd * 2 ^ 47 = 2 ^ 47 * (k * 16 + kd) by omega, lorS _ (show v * 2 ^ 30 < 2 ^ 47 by omega), show 2 ^ 47 * (k * 16 + kd) + v * 2 ^ 30 = 2 ^ 30 * ((k * 16 + kd) * 131072 + v) by omega, lorS _ (show d * 2 ^ 14 < 2 ^ 30 by omega), show 2 ^ 30 * ((k * 16 + kd) * 131072 + v) + d * 2 ^ 14 = 2 ^ 14 * (((k * 16 + kd) * 131072 + v) * 65536 + d) by omega, lorS _ (show m < 2 ^ 14 by omega)]
  congr 1
  omega
theorem andM (q k : Nat) {mk : Nat} (hk : k ≤ 32) (hm : mk = 2 ^ k - 1) (hm2 : mk < 4294967296) : (nI q &&& nI mk) = nI (q % 2 ^ k) := by
  rw [pk_and (nI q) (m := nI mk) k (by rw [tb_n hm2, hm])]
  show nI ((BitVec.ofNat 32 q).toNat % 2 ^ k) = _
  rw [BitVec.toNat_ofNat, Nat.mod_mod_of_dvd _ (Nat.pow_dvd_pow 2 hk)]
theorem cutE_n {N a k mk : Nat} (hN : N < 36028797018963968) (ha : a < 64) (hk : k ≤ 32) (hm : mk = 2 ^ k - 1) (hm2 : mk < 4294967296) : cutE (lN N) (nI a) (nI mk) = nI (N / 2 ^ a % 2 ^ k) := by
  unfold cutE
  rw [l_ushr (by omega) ha, l_i, andM _ k hk hm hm2]
theorem tbm (q : Nat) : (nI q).toBitVec.toNat % 32 = q % 32 := by
  show (BitVec.ofNat 32 q).toNat % 32 = _
  rw [BitVec.toNat_ofNat, Nat.mod_mod_of_dvd _ (by decide)]
/-- letter j of a stamp -/
def ltE (N S j : Nat) : Int32 := if j < 11 then aL (N / 2 ^ (50 - 5 * j) % 32) else aL (S / 2 ^ (75 - 5 * j) % 32)
theorem ltE_1 {N S j : Nat} (h : j < 11) : aL ((nI (N / 2 ^ (50 - 5 * j))).toBitVec.toNat % 32) = ltE N S j := by
  rw [tbm]; unfold ltE; rw [if_pos h]
theorem ltE_2 {N S j : Nat} (h : 11 ≤ j) : aL ((nI (S / 2 ^ (75 - 5 * j))).toBitVec.toNat % 32) = ltE N S j := by
  rw [tbm]; unfold ltE; rw [if_neg (by omega)]
/-- the first 25 bits of the digest -/
def sN (f : Nat → Int32) (sz N : Nat) : Nat := (dG f sz N 0).toBitVec.toNat / 128
theorem sN_lt (f : Nat → Int32) (sz N : Nat) : sN f sz N < 33554432 := by
  have h := (dG f sz N 0).toBitVec.isLt
  unfold sN
  omega
theorem fB_n (x : Int32) : fB x = nI (x.toBitVec.toNat / 128) := by
  apply nI_inj
  have h := x.toBitVec.isLt
  rw [tb_n (by omega)]
  exact pk_ushr x (nI 7) 7 (by decide)
/-- what was typed, in bits: n letters from place a on -/
def tbF (ft : Nat → Int32) (a : Nat) : Nat → Nat
  | 0 => 0
  | n + 1 => tbF ft a n * 32 + wo (ft (a + n))
theorem tbF_lt {ft : Nat → Int32} {a : Nat} : ∀ n, (∀ j, a ≤ j → j < a + n → wo (ft j) < 32) → tbF ft a n < 32 ^ n
  | 0, _ => by simp [tbF]
  | n + 1, h => by
    have h1 := tbF_lt n (fun j h1 h2 => h j h1 (by omega))
    have h2 := h (a + n) (by omega) (by omega)
    rw [tbF, Nat.pow_succ]
    omega
theorem tbF_11 {ft : Nat → Int32} {a n : Nat} (hn : n ≤ 11) (h : ∀ j, a ≤ j → j < a + n → wo (ft j) < 32) : tbF ft a n < 36028797018963968 :=
  Nat.lt_of_lt_of_le (tbF_lt n h) (Nat.le_trans (Nat.pow_le_pow_right (by decide) hn) (by decide))
theorem rW_y {x : Int32} (h : wo x < 32) : rW x = nI (wo x) := if_pos h
theorem rW_n {x : Int32} (h : ¬ wo x < 32) : rW x = -1 := if_neg h
theorem tb_step {b v : Nat} (hb : b < 576460752303423488) (hv : v < 32) : ((lN (b * 2 ^ 5)) ||| lN v) = lN (b * 32 + v) := by
  rw [show b * 2 ^ 5 = 2 ^ 5 * b by omega, lorS b (show v < 2 ^ 5 by omega), show 2 ^ 5 * b + v = b * 32 + v by omega]
/-- what a check ends with -/
def acR (x : Int32) : Int32 := if x = nI 2 then -8 else if x = nI 1 then -7 else nI 1
def raR (f : Nat → Int32) (sz N S1 d : Nat) (fr un : Int32) : Int32 := if S1 ≠ sN f sz N then nI 4 else if N / 2 ^ 14 % 65536 ≤ d ∧ d ≤ N / 2 ^ 14 % 65536 + 100 ∧ fr.toInt ≤ d ∧ (d : Int) ≤ un.toInt then nI 0 else nI 5
def ckG (ra x : Int32) : Int32 := if ra = nI 0 then acR x else (-1) - ra
def acS (x sp : Int32) (j : Nat) : Int32 := if x = nI 2 then sp else nI j
def acF (x : Int32) (ff : Nat → Int32) (j : Nat) (v : Int32) : Nat → Int32 := if x = nI 2 ∨ x = nI 1 then ff else upd ff j v
def gtS (ra a b : Int32) : Int32 := if ra = nI 0 then a else b
def gtF (ra : Int32) (a b : Nat → Int32) : Nat → Int32 := if ra = nI 0 then a else b
