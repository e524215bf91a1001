/-! the digest, in numbers: message bytes, message words, stretched words, rounds -/
/-- a byte as 0 .. 255 -/
def by8 (x : Int32) : Nat := x.toBitVec.toNat % 256
/-- byte a of the message block: the key's bytes, the seven of the 55 bits, 128, zeros -/
def mb (f : Nat → Int32) (sz N a : Nat) : Nat := if a < sz then by8 (f a) else if a - sz < 7 then 2 * N / 2 ^ (48 - 8 * (a - sz)) % 256 else if a - sz = 7 then 128 else 0
/-- four bytes side by side -/
def m4 (f : Nat → Int32) (sz N t : Nat) : Nat := ((mb f sz N (4 * t) * 256 + mb f sz N (4 * t + 1)) * 256 + mb f sz N (4 * t + 2)) * 256 + mb f sz N (4 * t + 3)
/-- word t of the block -/
def mW (f : Nat → Int32) (sz N t : Nat) : Int32 := if t < 14 then nI (m4 f sz N t) else if t = 15 then nI (8 * (sz + 7)) else 0
/-- a stretched word out of the sixteen ahead of it -/
def stE (f : Nat → Int32) (t : Nat) : Int32 := ((f (t - 16) + ((rorE (f (t - 15)) (nI 7) ^^^ rorE (f (t - 15)) (nI 18)) ^^^ ((f (t - 15)).toUInt32 >>> ((nI 3).toUInt32 &&& Int32.toUInt32 31)).toInt32)) + f (t - 7)) + ((rorE (f (t - 2)) (nI 17) ^^^ rorE (f (t - 2)) (nI 19)) ^^^ ((f (t - 2)).toUInt32 >>> ((nI 10).toUInt32 &&& Int32.toUInt32 31)).toInt32)
def wF (f : Nat → Int32) : Nat → (Nat → Int32)
  | 0 => f
  | n + 1 => upd (wF f n) (16 + n) (stE (wF f n) (16 + n))
theorem stE_cong {f f' : Nat → Int32} {t : Nat} (ht : 16 ≤ t) (h : ∀ j, j < t → f j = f' j) : stE f t = stE f' t := by
  unfold stE
  rw [h (t - 16) (by omega), h (t - 15) (by omega), h (t - 7) (by omega), h (t - 2) (by omega)]
/-- a row that holds the stretched words so far holds one more when the next is put -/
theorem wF_step {f f' : Nat → Int32} {n : Nat} (h : ∀ j, j < 16 + n → f' j = wF f n j) : ∀ j, j < 16 + (n + 1) → upd f' (16 + n) (stE f' (16 + n)) j = wF f (n + 1) j := by
  intro j hj
  rw [wF]
  by_cases e : j = 16 + n
  · subst e
    simp only [upd, if_true]
    exact stE_cong (by omega) h
  · simp only [upd, if_neg e]
    exact h j (by omega)
theorem wF_cong {f f' : Nat → Int32} (h : ∀ j, j < 16 → f j = f' j) : ∀ n j, j < 16 + n → wF f n j = wF f' n j
  | 0, j, hj => h j (by omega)
  | n + 1, j, hj => by
    rw [wF, wF]
    have ih := wF_cong h n
    by_cases e : j = 16 + n
    · subst e
      simp only [upd, if_true]
      exact stE_cong (by omega) ih
    · simp only [upd, if_neg e]
      exact ih j (by omega)
/-- a round -/
def rU (k w : Int32) (st : Nat → Int32) : Int32 := (((st 7 + ((rorE (st 4) (nI 6) ^^^ rorE (st 4) (nI 11)) ^^^ rorE (st 4) (nI 25))) + ((st 4 &&& st 5) ^^^ ((st 4 ^^^ (-1)) &&& st 6))) + k) + w
def rV (st : Nat → Int32) : Int32 := ((rorE (st 0) (nI 2) ^^^ rorE (st 0) (nI 13)) ^^^ rorE (st 0) (nI 22)) + (((st 0 &&& st 1) ^^^ (st 0 &&& st 2)) ^^^ (st 1 &&& st 2))
def rnd (k w : Int32) (st : Nat → Int32) (j : Nat) : Int32 := if j = 0 then rU k w st + rV st else if j = 4 then st 3 + rU k w st else st (j - 1)
def rN (W : Nat → Int32) : Nat → (Nat → Int32)
  | 0 => sBeg
  | t + 1 => rnd (sK t) (W t) (rN W t)
theorem rN_cong {W W' : Nat → Int32} {n : Nat} (h : ∀ j, j < n → W j = W' j) : ∀ t, t ≤ n → rN W t = rN W' t
  | 0, _ => rfl
  | t + 1, ht => by rw [rN, rN, rN_cong h t (by omega), h t (by omega)]
/-- number j of the digest -/
def dG (f : Nat → Int32) (sz N j : Nat) : Int32 := sBeg j + rN (wF (mW f sz N) 48) 64 j
theorem by8_lt (x : Int32) : by8 x < 256 := Nat.mod_lt _ (by decide)
theorem mb_lt (f : Nat → Int32) (sz N a : Nat) : mb f sz N a < 256 := by
  unfold mb
  split
  · exact by8_lt _
  · split
    · exact Nat.mod_lt _ (by decide)
    · split <;> omega
theorem mb_cong {f f' : Nat → Int32} {sz N a : Nat} (h : ∀ j, j < sz → by8 (f j) = by8 (f' j)) : mb f sz N a = mb f' sz N a := by
  unfold mb
  split
  · rename_i q; exact h a q
  · rfl
theorem m4_cong {f f' : Nat → Int32} {sz N t : Nat} (h : ∀ j, j < sz → by8 (f j) = by8 (f' j)) : m4 f sz N t = m4 f' sz N t := by
  unfold m4
  rw [mb_cong h, mb_cong h, mb_cong h, mb_cong h]
theorem mW_cong {f f' : Nat → Int32} {sz N t : Nat} (h : ∀ j, j < sz → by8 (f j) = by8 (f' j)) : mW f sz N t = mW f' sz N t := by
  unfold mW
  rw [m4_cong h]
theorem dG_cong {f f' : Nat → Int32} {sz N j : Nat} (h : ∀ j, j < sz → by8 (f j) = by8 (f' j)) : dG f sz N j = dG f' sz N j := by
  unfold dG
  rw [rN_cong (n := 64) (fun j hj => wF_cong (fun j _ => mW_cong h) 48 j (by omega)) 64 (Nat.le_refl _)]
theorem m4_lt (f : Nat → Int32) (sz N t : Nat) : m4 f sz N t < 4294967296 := by
  have h0 := mb_lt f sz N (4 * t)
  have h1 := mb_lt f sz N (4 * t + 1)
  have h2 := mb_lt f sz N (4 * t + 2)
  have h3 := mb_lt f sz N (4 * t + 3)
  unfold m4
  omega
/-! numbers of 32 and 64 bits as natural numbers -/
theorem tb_n {n : Nat} (h : n < 4294967296) : (nI n).toBitVec.toNat = n := pk_tn (by omega)
theorem nI_inj {a b : Int32} (h : a.toBitVec.toNat = b.toBitVec.toNat) : a = b := by
  apply Int32.toBitVec_inj.mp
  exact BitVec.eq_of_toNat_eq h
theorem nI_of32 (x : Int32) : x = nI x.toBitVec.toNat := nI_inj (by rw [tb_n (x.toBitVec.isLt)])
theorem and255 (x : Int32) : (x &&& nI 255) = nI (by8 x) := pk_and x 8 (by decide)
theorem andN {n : Nat} (k : Nat) {mk : Nat} (hn : n < 4294967296) (hk : mk = 2 ^ k - 1) (hm : mk < 4294967296) : (nI n &&& nI mk) = nI (n % 2 ^ k) := pk_andN (by omega) k (by rw [tb_n hm, hk])
theorem orN (a b : Nat) : nI a ||| nI b = nI (a ||| b) := by
  apply Int32.toBitVec_inj.1
  show BitVec.ofNat 32 a ||| BitVec.ofNat 32 b = BitVec.ofNat 32 (a ||| b)
  apply BitVec.eq_of_getLsbD_eq
  intro i hi
  simp [hi]
theorem orS {a k : Nat} (b : Nat) (h : a < 2 ^ k) : nI (2 ^ k * b) ||| nI a = nI (2 ^ k * b + a) := by rw [orN, Nat.two_pow_add_eq_or_of_lt h]
/-- shifted left by eight, a byte put in -/
theorem shl8or {a b : Nat} (ha : a < 16777216) (hb : b < 256) : ((nI a <<< (nI 8 &&& 31)) ||| nI b) = nI (a * 256 + b) := by
  rw [pk_shlN (nI 8 &&& 31) 8 (by decide) (by omega), show a * 2 ^ 8 = 2 ^ 8 * a by omega, orS a (show b < 2 ^ 8 by omega), show 2 ^ 8 * a + b = a * 256 + b by omega]
/-- longs -/
theorem lN_inj {a b : Int64} (h : a.toBitVec.toNat = b.toBitVec.toNat) : a = b := by
  apply Int64.toBitVec_inj.mp
  exact BitVec.eq_of_toNat_eq h
theorem lb_n {n : Nat} (h : n < 18446744073709551616) : (lN n).toBitVec.toNat = n := by
  show (BitVec.ofNat 64 n).toNat = n
  rw [BitVec.toNat_ofNat]
  exact Nat.mod_eq_of_lt (by omega)
theorem lcu : ∀ k, k < 64 → ((nI k).toInt64.toUInt64 &&& Int64.toUInt64 63) = UInt64.ofNat k := by decide
theorem lcs : ∀ k, k < 64 → ((nI k).toInt64 &&& 63) = lN k := by decide
theorem lsm : ∀ k, k < 64 → (BitVec.ofNat 64 k).smod 64 = BitVec.ofNat 64 k := by decide
/-- a long shifted right, zeros come in -/
theorem l_ushr {n k : Nat} (hn : n < 18446744073709551616) (hk : k < 64) : ((lN n).toUInt64 >>> ((nI k).toInt64.toUInt64 &&& Int64.toUInt64 63)).toInt64 = lN (n / 2 ^ k) := by
  rw [lcu k hk]
  apply lN_inj
  have h1 : n / 2 ^ k ≤ n := Nat.div_le_self _ _
  rw [lb_n (by omega)]
  show ((BitVec.ofNat 64 n) >>> ((BitVec.ofNat 64 k) % 64)).toNat = n / 2 ^ k
  rw [BitVec.ushiftRight_eq', BitVec.toNat_ushiftRight, Nat.shiftRight_eq_div_pow]
  have h2 : ((BitVec.ofNat 64 k) % (64 : BitVec 64)).toNat = k := by
    rw [BitVec.toNat_umod, BitVec.toNat_ofNat]
    show k % 2 ^ 64 % 64 = k
    rw [Nat.mod_eq_of_lt (show k < 2 ^ 64 by omega), Nat.mod_eq_of_lt hk]
  rw [h2, BitVec.toNat_ofNat, Nat.mod_eq_of_lt (by omega)]
theorem l_i {n : Nat} : (lN n).toInt32 = nI n := lN_i n
/-- a long shifted left -/
theorem l_shl {n k : Nat} (hk : k < 64) (hn : n * 2 ^ k < 18446744073709551616) : lN n <<< ((nI k).toInt64 &&& 63) = lN (n * 2 ^ k) := by
  rw [lcs k hk]
  have h0 : n ≤ n * 2 ^ k := Nat.le_mul_of_pos_right n (Nat.two_pow_pos k)
  apply lN_inj
  rw [lb_n hn]
  show ((BitVec.ofNat 64 n) <<< ((BitVec.ofNat 64 k).smod 64)).toNat = n * 2 ^ k
  rw [lsm k hk, BitVec.shiftLeft_eq', BitVec.toNat_shiftLeft, BitVec.toNat_ofNat, BitVec.toNat_ofNat, Nat.shiftLeft_eq, Nat.mod_eq_of_lt (show k < 2 ^ 64 by omega), Nat.mod_eq_of_lt (show n < 2 ^ 64 by omega), Nat.mod_eq_of_lt (by omega)]
theorem lorN (a b : Nat) : lN a ||| lN b = lN (a ||| b) := by
  apply Int64.toBitVec_inj.1
  show BitVec.ofNat 64 a ||| BitVec.ofNat 64 b = BitVec.ofNat 64 (a ||| b)
  apply BitVec.eq_of_getLsbD_eq
  intro i hi
  simp [hi]
theorem lorS {a k : Nat} (b : Nat) (h : a < 2 ^ k) : lN (2 ^ k * b) ||| lN a = lN (2 ^ k * b + a) := by rw [lorN, Nat.two_pow_add_eq_or_of_lt h]
theorem landG (a b : Nat) : lN a &&& lN b = lN (a &&& b) := by
  apply Int64.toBitVec_inj.1
  show BitVec.ofNat 64 a &&& BitVec.ofNat 64 b = BitVec.ofNat 64 (a &&& b)
  apply BitVec.eq_of_getLsbD_eq
  intro i hi
  simp [hi]
theorem landN {n : Nat} (k : Nat) : lN n &&& lN (2 ^ k - 1) = lN (n % 2 ^ k) := by rw [landG, Nat.and_two_pow_sub_one_eq_mod]
theorem nI_L {n : Nat} (h : n < 2147483648) : (nI n).toInt64 = lN n := nI_l (by omega)
/-- the byte of the 55 bits and a bit 0, as the class cuts it -/
theorem cutB {N b : Nat} (hN : N < 36028797018963968) (hb : b < 7) : ((((lN N <<< ((nI 1).toInt64 &&& 63))).toUInt64 >>> ((nI (48 - 8 * b)).toInt64.toUInt64 &&& Int64.toUInt64 63)).toInt64.toInt32 &&& nI 255) = nI (2 * N / 2 ^ (48 - 8 * b) % 256) := by
  rw [l_shl (by decide) (by omega), l_ushr (by omega) (by omega), l_i, and255, by8]
  show nI ((BitVec.ofNat 32 (N * 2 ^ 1 / 2 ^ (48 - 8 * b))).toNat % 256) = _
  rw [BitVec.toNat_ofNat, Nat.mod_mod_of_dvd _ (by decide), show N * 2 ^ 1 = 2 * N by omega]
