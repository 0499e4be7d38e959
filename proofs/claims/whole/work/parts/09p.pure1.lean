/-! class fields and numbers against the reference's -/
theorem q_inj {x y : Int32} (h : x.toBitVec.toNat = y.toBitVec.toNat) : x = y := Int32.toBitVec_inj.mp (BitVec.eq_of_toNat_eq h)
theorem q_nI (n : Nat) : (nI n).toBitVec.toNat = n % 4294967296 := BitVec.toNat_ofNat n 32
theorem q_lt (x : Int32) : x.toBitVec.toNat < 4294967296 := x.toBitVec.isLt
theorem q_toInt (x : Int32) : x.toInt = if x.toBitVec.toNat < 2147483648 then (x.toBitVec.toNat : Int) else (x.toBitVec.toNat : Int) - 4294967296 := by
  have h := BitVec.toInt_eq_toNat_cond x.toBitVec
  have e : x.toInt = x.toBitVec.toInt := rfl
  rw [e, h]
  split <;> split <;> omega
theorem q_or (k : Nat) {x y : Int32} (hx : x.toBitVec.toNat % 2 ^ k = 0) (hy : y.toBitVec.toNat < 2 ^ k) : (x ||| y).toBitVec.toNat = x.toBitVec.toNat + y.toBitVec.toNat := by
  rw [Int32.toBitVec_or, BitVec.toNat_or]
  obtain ⟨q, hq⟩ := Nat.dvd_of_mod_eq_zero hx
  rw [hq]
  exact (Nat.two_pow_add_eq_or_of_lt hy q).symm
theorem q_mul (x y : Int32) : (x * y).toBitVec.toNat = x.toBitVec.toNat * y.toBitVec.toNat % 4294967296 := by
  rw [Int32.toBitVec_mul, BitVec.toNat_mul]
theorem q_add (x y : Int32) : (x + y).toBitVec.toNat = (x.toBitVec.toNat + y.toBitVec.toNat) % 4294967296 := by
  rw [Int32.toBitVec_add, BitVec.toNat_add]
theorem q_sub (x y : Int32) : (x - y).toBitVec.toNat = (4294967296 - y.toBitVec.toNat + x.toBitVec.toNat) % 4294967296 := by
  rw [Int32.toBitVec_sub, BitVec.toNat_sub]
theorem qb_11_7 {n : Nat} (hn : n < 4294967296) : fx_m_bits (nI n) 11 7 = nI (n / 128 % 32) := mb_bits (hi := 11) (lo := 7) hn (by decide) (by decide)
theorem qb_14_12 {n : Nat} (hn : n < 4294967296) : fx_m_bits (nI n) 14 12 = nI (n / 4096 % 8) := mb_bits (hi := 14) (lo := 12) hn (by decide) (by decide)
theorem qb_19_15 {n : Nat} (hn : n < 4294967296) : fx_m_bits (nI n) 19 15 = nI (n / 32768 % 32) := mb_bits (hi := 19) (lo := 15) hn (by decide) (by decide)
theorem qb_24_20 {n : Nat} (hn : n < 4294967296) : fx_m_bits (nI n) 24 20 = nI (n / 1048576 % 32) := mb_bits (hi := 24) (lo := 20) hn (by decide) (by decide)
theorem qb_31_25 {n : Nat} (hn : n < 4294967296) : fx_m_bits (nI n) 31 25 = nI (n / 33554432 % 128) := mb_bits (hi := 31) (lo := 25) hn (by decide) (by decide)
theorem qb_31_20 {n : Nat} (hn : n < 4294967296) : fx_m_bits (nI n) 31 20 = nI (n / 1048576 % 4096) := mb_bits (hi := 31) (lo := 20) hn (by decide) (by decide)
theorem qb_31_31 {n : Nat} (hn : n < 4294967296) : fx_m_bits (nI n) 31 31 = nI (n / 2147483648 % 2) := mb_bits (hi := 31) (lo := 31) hn (by decide) (by decide)
theorem qb_7_7 {n : Nat} (hn : n < 4294967296) : fx_m_bits (nI n) 7 7 = nI (n / 128 % 2) := mb_bits (hi := 7) (lo := 7) hn (by decide) (by decide)
theorem qb_30_25 {n : Nat} (hn : n < 4294967296) : fx_m_bits (nI n) 30 25 = nI (n / 33554432 % 64) := mb_bits (hi := 30) (lo := 25) hn (by decide) (by decide)
theorem qb_11_8 {n : Nat} (hn : n < 4294967296) : fx_m_bits (nI n) 11 8 = nI (n / 256 % 16) := mb_bits (hi := 11) (lo := 8) hn (by decide) (by decide)
theorem qb_19_12 {n : Nat} (hn : n < 4294967296) : fx_m_bits (nI n) 19 12 = nI (n / 4096 % 256) := mb_bits (hi := 19) (lo := 12) hn (by decide) (by decide)
theorem qb_20_20 {n : Nat} (hn : n < 4294967296) : fx_m_bits (nI n) 20 20 = nI (n / 1048576 % 2) := mb_bits (hi := 20) (lo := 20) hn (by decide) (by decide)
theorem qb_30_21 {n : Nat} (hn : n < 4294967296) : fx_m_bits (nI n) 30 21 = nI (n / 2097152 % 1024) := mb_bits (hi := 30) (lo := 21) hn (by decide) (by decide)
theorem qb_6_0 {n : Nat} (hn : n < 4294967296) : fx_m_bits (nI n) 6 0 = nI (n % 128) := (mb_bits (hi := 6) (lo := 0) hn (by decide) (by decide)).trans (by show nI (n / 1 % 128) = _; rw [Nat.div_one])
theorem qb_11_0 {n : Nat} (hn : n < 4294967296) : fx_m_bits (nI n) 11 0 = nI (n % 4096) := (mb_bits (hi := 11) (lo := 0) hn (by decide) (by decide)).trans (by show nI (n / 1 % 4096) = _; rw [Nat.div_one])
theorem qx_D {n : Nat} (hn : n < 4294967296) : fx_x_fieldD (nI n) = nI (n / 128 % 32) := by
  show jj_ushr (nI n) 7 &&& 31 = nI (n / 2 ^ 7 % 2 ^ 5)
  rw [jj_ushrN hn 7 7 (by decide), pk_andN (by omega) 5 (by decide)]
theorem qx_F {n : Nat} (hn : n < 4294967296) : fx_x_fieldF (nI n) = nI (n / 4096 % 8) := by
  show jj_ushr (nI n) 12 &&& 7 = nI (n / 2 ^ 12 % 2 ^ 3)
  rw [jj_ushrN hn 12 12 (by decide), pk_andN (by omega) 3 (by decide)]
theorem qx_A {n : Nat} (hn : n < 4294967296) : fx_x_fieldA (nI n) = nI (n / 32768 % 32) := by
  show jj_ushr (nI n) 15 &&& 31 = nI (n / 2 ^ 15 % 2 ^ 5)
  rw [jj_ushrN hn 15 15 (by decide), pk_andN (by omega) 5 (by decide)]
theorem qx_B {n : Nat} (hn : n < 4294967296) : fx_x_fieldB (nI n) = nI (n / 1048576 % 32) := by
  show jj_ushr (nI n) 20 &&& 31 = nI (n / 2 ^ 20 % 2 ^ 5)
  rw [jj_ushrN hn 20 20 (by decide), pk_andN (by omega) 5 (by decide)]
theorem qx_Op {n : Nat} (hn : n < 4294967296) : fx_x_fieldOp (nI n) = nI (n % 128) := by
  show nI n &&& 127 = nI (n % 2 ^ 7)
  rw [pk_andN hn 7 (by decide)]
theorem qx_G {n : Nat} (hn : n < 4294967296) : fx_x_fieldG (nI n) = nI (n / 33554432) := by
  show jj_ushr (nI n) 25 = nI (n / 2 ^ 25)
  rw [jj_ushrN hn 25 25 (by decide)]
theorem qf_Op (u : XS) (w : Int32) : fx_m_field0 u w 0 = fx_x_fieldOp w := by
  obtain ⟨n, hn, rfl⟩ := mb_of w
  rw [mu_fd0, qb_6_0 hn, qx_Op hn]
theorem qf_D (u : XS) (w : Int32) : fx_m_field0 u w 1 = fx_x_fieldD w := by
  obtain ⟨n, hn, rfl⟩ := mb_of w
  rw [mu_fd1, qb_11_7 hn, qx_D hn]
theorem qf_F (u : XS) (w : Int32) : fx_m_field0 u w 2 = fx_x_fieldF w := by
  obtain ⟨n, hn, rfl⟩ := mb_of w
  rw [mu_fd2, qb_14_12 hn, qx_F hn]
theorem qf_A (u : XS) (w : Int32) : fx_m_field0 u w 3 = fx_x_fieldA w := by
  obtain ⟨n, hn, rfl⟩ := mb_of w
  rw [mu_fd3, qb_19_15 hn, qx_A hn]
theorem qf_B (u : XS) (w : Int32) : fx_m_field0 u w 4 = fx_x_fieldB w := by
  obtain ⟨n, hn, rfl⟩ := mb_of w
  rw [mu_fd4, qb_24_20 hn, qx_B hn]
theorem qf_G (u : XS) (w : Int32) : fx_m_field0 u w 5 = fx_x_fieldG w := by
  obtain ⟨n, hn, rfl⟩ := mb_of w
  rw [mu_fd5, qb_31_25 hn, qx_G hn, Nat.mod_eq_of_lt (by omega)]
theorem ms_lp (v many : Nat) (hm : many ≤ 31) : ∀ (k i : Nat), 1 ≤ i → i ≤ many → many < i + k → fx_m_signed_lp4 k (nI v) (nI many) (nI (2 ^ (i - 1))) (nI i) = if nI v < nI (2 ^ (many - 1)) then nI v else nI v - 2 * nI (2 ^ (many - 1)) := by
  intro k
  induction k with
  | zero => intro i h0 h1 h2; omega
  | succ k ih =>
    intro i h0 h1 h2
    unfold fx_m_signed_lp4
    by_cases h : many ≤ i
    · rw [if_pos ((nI_leI (by omega) (by omega)).mpr h), show i = many by omega]
    · rw [if_neg (fun q => h ((nI_leI (by omega) (by omega)).mp q)), show (2 : Int32) = nI 2 from rfl, pk_mul, nI_1]
      have e : 2 ^ (i - 1) * 2 = 2 ^ (i + 1 - 1) := by rw [show i + 1 - 1 = (i - 1) + 1 by omega, Nat.pow_succ]
      rw [e, ih (i + 1) (by omega) (by omega) (by omega)]
      rfl
theorem ms_signed (v : Nat) {many : Nat} (h1 : 1 ≤ many) (hm : many ≤ 31) : fx_m_signed (nI v) (nI many) = if nI v < nI (2 ^ (many - 1)) then nI v else nI v - 2 * nI (2 ^ (many - 1)) := by
  unfold fx_m_signed
  have t : (nI many).toInt = many := nI_toInt (by omega)
  exact ms_lp v many hm _ 1 (by omega) h1 (by rw [t]; omega)
theorem ms_8 {v : Nat} (hv : v < 256) : (fx_m_signed (nI v) 8).toBitVec.toNat = if v < 128 then v else v + 4294967040 := by
  have h : fx_m_signed (nI v) 8 = if nI v < nI 128 then nI v else nI v - 2 * nI 128 := ms_signed v (many := 8) (by decide) (by decide)
  rw [h]
  by_cases q : v < 128
  · rw [if_pos ((nI_ltI (by omega) (by omega)).mpr q), if_pos q, q_nI]
    omega
  · rw [if_neg (fun z => q ((nI_ltI (by omega) (by omega)).mp z)), if_neg q, q_sub, q_nI, show (2 * nI 128 : Int32).toBitVec.toNat = 256 from rfl]
    omega
theorem ms_12 {v : Nat} (hv : v < 4096) : (fx_m_signed (nI v) 12).toBitVec.toNat = if v < 2048 then v else v + 4294963200 := by
  have h : fx_m_signed (nI v) 12 = if nI v < nI 2048 then nI v else nI v - 2 * nI 2048 := ms_signed v (many := 12) (by decide) (by decide)
  rw [h]
  by_cases q : v < 2048
  · rw [if_pos ((nI_ltI (by omega) (by omega)).mpr q), if_pos q, q_nI]
    omega
  · rw [if_neg (fun z => q ((nI_ltI (by omega) (by omega)).mp z)), if_neg q, q_sub, q_nI, show (2 * nI 2048 : Int32).toBitVec.toNat = 4096 from rfl]
    omega
theorem ms_13 {v : Nat} (hv : v < 8192) : (fx_m_signed (nI v) 13).toBitVec.toNat = if v < 4096 then v else v + 4294959104 := by
  have h : fx_m_signed (nI v) 13 = if nI v < nI 4096 then nI v else nI v - 2 * nI 4096 := ms_signed v (many := 13) (by decide) (by decide)
  rw [h]
  by_cases q : v < 4096
  · rw [if_pos ((nI_ltI (by omega) (by omega)).mpr q), if_pos q, q_nI]
    omega
  · rw [if_neg (fun z => q ((nI_ltI (by omega) (by omega)).mp z)), if_neg q, q_sub, q_nI, show (2 * nI 4096 : Int32).toBitVec.toNat = 8192 from rfl]
    omega
theorem ms_16 {v : Nat} (hv : v < 65536) : (fx_m_signed (nI v) 16).toBitVec.toNat = if v < 32768 then v else v + 4294901760 := by
  have h : fx_m_signed (nI v) 16 = if nI v < nI 32768 then nI v else nI v - 2 * nI 32768 := ms_signed v (many := 16) (by decide) (by decide)
  rw [h]
  by_cases q : v < 32768
  · rw [if_pos ((nI_ltI (by omega) (by omega)).mpr q), if_pos q, q_nI]
    omega
  · rw [if_neg (fun z => q ((nI_ltI (by omega) (by omega)).mp z)), if_neg q, q_sub, q_nI, show (2 * nI 32768 : Int32).toBitVec.toNat = 65536 from rfl]
    omega
theorem ms_21 {v : Nat} (hv : v < 2097152) : (fx_m_signed (nI v) 21).toBitVec.toNat = if v < 1048576 then v else v + 4292870144 := by
  have h : fx_m_signed (nI v) 21 = if nI v < nI 1048576 then nI v else nI v - 2 * nI 1048576 := ms_signed v (many := 21) (by decide) (by decide)
  rw [h]
  by_cases q : v < 1048576
  · rw [if_pos ((nI_ltI (by omega) (by omega)).mpr q), if_pos q, q_nI]
    omega
  · rw [if_neg (fun z => q ((nI_ltI (by omega) (by omega)).mp z)), if_neg q, q_sub, q_nI, show (2 * nI 1048576 : Int32).toBitVec.toNat = 2097152 from rfl]
    omega
theorem q_sar20 {n : Nat} (hn : n < 4294967296) : (nI n >>> ((20 : Int32) &&& 31)).toBitVec.toNat = if n < 2147483648 then n / 1048576 else n / 1048576 + 4294963200 := by
  have h1 : (nI n >>> ((20 : Int32) &&& 31)).toInt = (nI n).toInt >>> 20 := pk_shr _ _ 20 (by decide)
  rw [Int.shiftRight_eq_div_pow] at h1
  have h2 := q_toInt (nI n)
  have h3 := q_toInt (nI n >>> ((20 : Int32) &&& 31))
  have h4 := q_lt (nI n >>> ((20 : Int32) &&& 31))
  rw [q_nI] at h2
  split <;> split at h2 <;> split at h3 <;> omega
theorem q_sar25 {n : Nat} (hn : n < 4294967296) : (nI n >>> ((25 : Int32) &&& 31)).toBitVec.toNat = if n < 2147483648 then n / 33554432 else n / 33554432 + 4294967168 := by
  have h1 : (nI n >>> ((25 : Int32) &&& 31)).toInt = (nI n).toInt >>> 25 := pk_shr _ _ 25 (by decide)
  rw [Int.shiftRight_eq_div_pow] at h1
  have h2 := q_toInt (nI n)
  have h3 := q_toInt (nI n >>> ((25 : Int32) &&& 31))
  have h4 := q_lt (nI n >>> ((25 : Int32) &&& 31))
  rw [q_nI] at h2
  split <;> split at h2 <;> split at h3 <;> omega
theorem q_sar31 {n : Nat} (hn : n < 4294967296) : (nI n >>> ((31 : Int32) &&& 31)).toBitVec.toNat = if n < 2147483648 then n / 2147483648 else n / 2147483648 + 4294967294 := by
  have h1 : (nI n >>> ((31 : Int32) &&& 31)).toInt = (nI n).toInt >>> 31 := pk_shr _ _ 31 (by decide)
  rw [Int.shiftRight_eq_div_pow] at h1
  have h2 := q_toInt (nI n)
  have h3 := q_toInt (nI n >>> ((31 : Int32) &&& 31))
  have h4 := q_lt (nI n >>> ((31 : Int32) &&& 31))
  rw [q_nI] at h2
  split <;> split at h2 <;> split at h3 <;> omega
theorem qf_I (u : XS) (w : Int32) : fx_m_field0 u w 6 = fx_x_numberI w := by
  obtain ⟨n, hn, rfl⟩ := mb_of w
  rw [mu_fd6, qb_31_20 hn]
  apply q_inj
  rw [ms_12 (by omega)]
  unfold fx_x_numberI
  rw [q_sar20 hn]
  split <;> split <;> omega
theorem q_shl (k : Nat) (x s : Int32) (hs : (s.toBitVec.smod 32).toNat = k) : (x <<< s).toBitVec.toNat = x.toBitVec.toNat * 2 ^ k % 4294967296 := pk_shl x s k hs
theorem qf_T (u : XS) (w : Int32) : fx_m_field0 u w 7 = fx_x_numberT w := by
  obtain ⟨n, hn, rfl⟩ := mb_of w
  have hm : n / 33554432 % 128 = n / 33554432 := Nat.mod_eq_of_lt (by omega)
  rw [mu_fd7, qb_31_25 hn, qb_11_7 hn, show (32 : Int32) = nI 32 from rfl, pk_mul, nI_add, hm]
  apply q_inj
  have e1 : ((nI n >>> ((25 : Int32) &&& 31)) <<< ((5 : Int32) &&& 31)).toBitVec.toNat = if n < 2147483648 then 32 * (n / 33554432) else 32 * (n / 33554432) + 4294963200 := by
    rw [q_shl 5 _ _ (by decide), q_sar25 hn]
    split
    · have h5 : n / 33554432 < 64 := by omega
      generalize n / 33554432 = g at h5 ⊢
      omega
    · have h5 : 64 ≤ n / 33554432 ∧ n / 33554432 < 128 := by omega
      generalize n / 33554432 = g at h5 ⊢
      omega
  have h2 : (fx_x_fieldD (nI n)).toBitVec.toNat = n / 128 % 32 := by rw [qx_D hn, q_nI]; omega
  have hd : n / 128 % 32 < 32 := Nat.mod_lt _ (by omega)
  have hg : n / 33554432 < 128 ∧ (n < 2147483648 ↔ n / 33554432 < 64) := by omega
  unfold fx_x_numberT
  rw [ms_12 (by omega), q_or 5 (by rw [e1]; split <;> omega) (by rw [h2]; exact hd), e1, h2]
  generalize n / 128 % 32 = d at hd ⊢
  generalize n / 33554432 = g at hg ⊢
  split <;> split <;> omega
theorem qf_H (u : XS) (w : Int32) : fx_m_field0 u w 9 = fx_x_numberH w := by
  obtain ⟨n, hn, rfl⟩ := mb_of w
  rw [mu_fd9, qb_11_0 hn]
  apply q_inj
  rw [q_sub, q_nI, q_nI]
  unfold fx_x_numberH
  rw [Int32.toBitVec_and, BitVec.toNat_and]
  have e : (nI n).toBitVec.toNat = n := pk_tn hn
  rw [e, show (-4096 : Int32).toBitVec.toNat = 4294963200 from rfl]
  have h := Nat.and_two_pow_sub_one_eq_mod n 12
  have h3 : n &&& 4294963200 = n - n % 4096 := by
    have h1 : n = 2 ^ 12 * (n / 4096) + n % 4096 := by omega
    apply Nat.eq_of_testBit_eq
    intro i
    have hs : n - n % 4096 = 2 ^ 12 * (n / 4096) := by omega
    rw [hs, Nat.testBit_and, Nat.testBit_two_pow_mul]
    have e1 : (4294963200 : Nat) = 2 ^ 12 * (2 ^ 20 - 1) := rfl
    rw [e1, Nat.testBit_two_pow_mul, Nat.testBit_two_pow_sub_one, show (4096 : Nat) = 2 ^ 12 from rfl, Nat.testBit_div_two_pow]
    by_cases q : 12 ≤ i
    · by_cases q2 : i - 12 < 20
      · simp [q, q2, show 12 + (i - 12) = i by omega, show i - 12 + 12 = i by omega]
      · have : n.testBit i = false := Nat.testBit_lt_two_pow (Nat.lt_of_lt_of_le hn (Nat.pow_le_pow_right (by omega) (show 32 ≤ i by omega)))
        simp [q, q2, this, show 12 + (i - 12) = i by omega, show i - 12 + 12 = i by omega]
    · simp [q]
  rw [h3]
  omega
theorem q_ush {n : Nat} (hn : n < 4294967296) (k j : Nat) (s m : Int32) (hs : ((s.toUInt32 &&& Int32.toUInt32 31).toBitVec % 32).toNat = k) (hm : m.toBitVec.toNat = 2 ^ j - 1) : (jj_ushr (nI n) s &&& m).toBitVec.toNat = n / 2 ^ k % 2 ^ j := by
  have hk : n / 2 ^ k < 4294967296 := Nat.lt_of_le_of_lt (Nat.div_le_self _ _) hn
  rw [jj_ushrN hn k s hs, pk_andN hk j hm, q_nI]
  exact Nat.mod_eq_of_lt (Nat.lt_of_le_of_lt (Nat.mod_le _ _) hk)
theorem q_s31 {n : Nat} (hn : n < 4294967296) (k : Nat) (s : Int32) (hs : (s.toBitVec.smod 32).toNat = k) (c : Nat) (hc : 4294967295 * 2 ^ k % 4294967296 = c) : ((nI n >>> ((31 : Int32) &&& 31)) <<< s).toBitVec.toNat = if n < 2147483648 then 0 else c := by
  rw [q_shl k _ _ hs, q_sar31 hn]
  split
  · rw [show n / 2147483648 = 0 by omega, Nat.zero_mul]
  · rw [show n / 2147483648 + 4294967294 = 4294967295 by omega, hc]
theorem q_fld {n : Nat} (hn : n < 4294967296) (k j t : Nat) (s m r : Int32) (hs : ((s.toUInt32 &&& Int32.toUInt32 31).toBitVec % 32).toNat = k) (hm : m.toBitVec.toNat = 2 ^ j - 1) (hr : (r.toBitVec.smod 32).toNat = t) (hjt : 2 ^ j * 2 ^ t ≤ 4294967296) : ((jj_ushr (nI n) s &&& m) <<< r).toBitVec.toNat = n / 2 ^ k % 2 ^ j * 2 ^ t := by
  rw [q_shl t _ _ hr, q_ush hn k j s m hs hm]
  refine Nat.mod_eq_of_lt (Nat.lt_of_lt_of_le ?_ hjt)
  exact Nat.mul_lt_mul_of_pos_right (Nat.mod_lt _ (Nat.two_pow_pos j)) (Nat.two_pow_pos t)
theorem qf_BB (u : XS) (w : Int32) : fx_m_field0 u w 8 = fx_x_numberB w := by
  obtain ⟨n, hn, rfl⟩ := mb_of w
  rw [mu_fd8, qb_31_31 hn, qb_7_7 hn, qb_30_25 hn, qb_11_8 hn, show (4096 : Int32) = nI 4096 from rfl, show (2048 : Int32) = nI 2048 from rfl, show (32 : Int32) = nI 32 from rfl, show (2 : Int32) = nI 2 from rfl, pk_mul, pk_mul, pk_mul, pk_mul, nI_add, nI_add, nI_add]
  apply q_inj
  have e1 := q_s31 hn 12 ((12 : Int32) &&& 31) (by decide) 4294963200 (by decide)
  have e2 : ((jj_ushr (nI n) 7 &&& 1) <<< ((11 : Int32) &&& 31)).toBitVec.toNat = n / 128 % 2 * 2048 := q_fld hn 7 1 11 7 1 _ (by decide) (by decide) (by decide) (by decide)
  have e3 : ((jj_ushr (nI n) 25 &&& 63) <<< ((5 : Int32) &&& 31)).toBitVec.toNat = n / 33554432 % 64 * 32 := q_fld hn 25 6 5 25 63 _ (by decide) (by decide) (by decide) (by decide)
  have e4 : ((jj_ushr (nI n) 8 &&& 15) <<< ((1 : Int32) &&& 31)).toBitVec.toNat = n / 256 % 16 * 2 := q_fld hn 8 4 1 8 15 _ (by decide) (by decide) (by decide) (by decide)
  have b1 : n / 128 % 2 < 2 := Nat.mod_lt _ (by omega)
  have b2 : n / 33554432 % 64 < 64 := Nat.mod_lt _ (by omega)
  have b3 : n / 256 % 16 < 16 := Nat.mod_lt _ (by omega)
  have b0 : n / 2147483648 % 2 < 2 ∧ (n < 2147483648 ↔ n / 2147483648 % 2 = 0) := by omega
  generalize n / 128 % 2 = p at b1 e2 ⊢
  generalize n / 33554432 % 64 = q at b2 e3 ⊢
  generalize n / 256 % 16 = r at b3 e4 ⊢
  generalize n / 2147483648 % 2 = t at b0 ⊢
  have g1 := q_or 12 (x := (nI n >>> ((31 : Int32) &&& 31)) <<< ((12 : Int32) &&& 31)) (y := (jj_ushr (nI n) 7 &&& 1) <<< ((11 : Int32) &&& 31)) (by rw [e1]; split <;> omega) (by rw [e2]; omega)
  have g2 := q_or 11 (x := ((nI n >>> ((31 : Int32) &&& 31)) <<< ((12 : Int32) &&& 31)) ||| ((jj_ushr (nI n) 7 &&& 1) <<< ((11 : Int32) &&& 31))) (y := (jj_ushr (nI n) 25 &&& 63) <<< ((5 : Int32) &&& 31)) (by rw [g1, e1, e2]; split <;> omega) (by rw [e3]; omega)
  unfold fx_x_numberB
  rw [ms_13 (by omega), q_or 5 (by rw [g2, g1, e1, e2, e3]; split <;> omega) (by rw [e4]; omega), g2, g1, e1, e2, e3, e4]
  split <;> split <;> omega
theorem qf_J (u : XS) (w : Int32) : fx_m_field0 u w 10 = fx_x_numberJ w := by
  obtain ⟨n, hn, rfl⟩ := mb_of w
  rw [mu_fd10, qb_31_31 hn, qb_19_12 hn, qb_20_20 hn, qb_30_21 hn, show (1048576 : Int32) = nI 1048576 from rfl, show (4096 : Int32) = nI 4096 from rfl, show (2048 : Int32) = nI 2048 from rfl, show (2 : Int32) = nI 2 from rfl, pk_mul, pk_mul, pk_mul, pk_mul, nI_add, nI_add, nI_add]
  apply q_inj
  have e1 := q_s31 hn 20 ((20 : Int32) &&& 31) (by decide) 4293918720 (by decide)
  have e2 : ((jj_ushr (nI n) 12 &&& 255) <<< ((12 : Int32) &&& 31)).toBitVec.toNat = n / 4096 % 256 * 4096 := q_fld hn 12 8 12 12 255 _ (by decide) (by decide) (by decide) (by decide)
  have e3 : ((jj_ushr (nI n) 20 &&& 1) <<< ((11 : Int32) &&& 31)).toBitVec.toNat = n / 1048576 % 2 * 2048 := q_fld hn 20 1 11 20 1 _ (by decide) (by decide) (by decide) (by decide)
  have e4 : ((jj_ushr (nI n) 21 &&& 1023) <<< ((1 : Int32) &&& 31)).toBitVec.toNat = n / 2097152 % 1024 * 2 := q_fld hn 21 10 1 21 1023 _ (by decide) (by decide) (by decide) (by decide)
  have b1 : n / 4096 % 256 < 256 := Nat.mod_lt _ (by omega)
  have b2 : n / 1048576 % 2 < 2 := Nat.mod_lt _ (by omega)
  have b3 : n / 2097152 % 1024 < 1024 := Nat.mod_lt _ (by omega)
  have b0 : n / 2147483648 % 2 < 2 ∧ (n < 2147483648 ↔ n / 2147483648 % 2 = 0) := by omega
  generalize n / 4096 % 256 = p at b1 e2 ⊢
  generalize n / 1048576 % 2 = q at b2 e3 ⊢
  generalize n / 2097152 % 1024 = r at b3 e4 ⊢
  generalize n / 2147483648 % 2 = t at b0 ⊢
  have g1 := q_or 20 (x := (nI n >>> ((31 : Int32) &&& 31)) <<< ((20 : Int32) &&& 31)) (y := (jj_ushr (nI n) 12 &&& 255) <<< ((12 : Int32) &&& 31)) (by rw [e1]; split <;> omega) (by rw [e2]; omega)
  have g2 := q_or 12 (x := ((nI n >>> ((31 : Int32) &&& 31)) <<< ((20 : Int32) &&& 31)) ||| ((jj_ushr (nI n) 12 &&& 255) <<< ((12 : Int32) &&& 31))) (y := (jj_ushr (nI n) 20 &&& 1) <<< ((11 : Int32) &&& 31)) (by rw [g1, e1, e2]; split <;> omega) (by rw [e3]; omega)
  unfold fx_x_numberJ
  rw [ms_21 (by omega), q_or 11 (by rw [g2, g1, e1, e2, e3]; split <;> omega) (by rw [e4]; omega), g2, g1, e1, e2, e3, e4]
  split <;> split <;> omega

