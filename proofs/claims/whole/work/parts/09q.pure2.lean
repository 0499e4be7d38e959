def uN (x : Int64) : Nat := x.toUInt64.toNat
theorem uN_lt (x : Int64) : uN x < 18446744073709551616 := x.toUInt64.toNat_lt
theorem uN_inj {x y : Int64} (h : uN x = uN y) : x = y := congrArg UInt64.toInt64 (UInt64.toNat_inj.mp h)
theorem uN_add (x y : Int64) : uN (x + y) = (uN x + uN y) % 18446744073709551616 := by
  show (x.toUInt64 + y.toUInt64).toNat = _
  exact UInt64.toNat_add _ _
theorem uN_mul (x y : Int64) : uN (x * y) = (uN x * uN y) % 18446744073709551616 := by
  show (x.toUInt64 * y.toUInt64).toNat = _
  exact UInt64.toNat_mul _ _
theorem uN_shl (x : Int64) : uN (x <<< ((1 : Int32).toInt64 &&& 63)) = (2 * uN x) % 18446744073709551616 := by
  have h : (((1 : Int32).toInt64 &&& 63).toBitVec.smod 64).toNat = 1 := by decide
  show (x.toBitVec <<< (((1 : Int32).toInt64 &&& 63).toBitVec.smod 64).toNat).toNat = _
  rw [h, BitVec.toNat_shiftLeft, Nat.shiftLeft_eq, Nat.mul_comm]
  rfl
theorem uN_shr (x : Int64) (s : UInt64) : uN (x.toUInt64 >>> s).toInt64 = uN x / 2 ^ (s.toNat % 64) := by
  show (x.toUInt64 >>> s).toNat = _
  rw [UInt64.toNat_shiftRight, Nat.shiftRight_eq_div_pow]
  rfl
theorem uN_s32 (x : Int64) : uN (x.toUInt64 >>> ((32 : Int32).toInt64.toUInt64 &&& Int64.toUInt64 63)).toInt64 = uN x / 4294967296 := by
  have h : ((32 : Int32).toInt64.toUInt64 &&& Int64.toUInt64 63).toNat % 64 = 32 := by decide
  rw [uN_shr, h]

/-! arithmetic: the class's against the reference's -/
theorem qu_x {n : Nat} (hn : n < 4294967296) : fx_x_unsigned (nI n) = lN n := mb_low hn
theorem qu_m {n : Nat} (hn : n < 4294967296) : fx_m_unsigned (nI n) = lN n := by
  have h := q_toInt (nI n)
  rw [q_nI] at h
  have e0 : (0 : Int32).toInt = 0 := rfl
  unfold fx_m_unsigned
  split
  · rename_i c
    rw [Int32.le_iff_toInt_le] at c
    apply Int64.toInt_inj.mp
    rw [Int32.toInt_toInt64, pk_lT (by omega)]
    split at h <;> omega
  · rename_i c
    rw [Int32.le_iff_toInt_le] at c
    apply Int64.toInt_inj.mp
    have r := jj_rng (nI n)
    rw [Int64.toInt_add, Int32.toInt_toInt64, pk_lT (by omega), show (4294967296 : Int64).toInt = 4294967296 from rfl, jj_bmod64 (by omega) (by omega)]
    split at h <;> omega
theorem qu_eq (x : Int32) : fx_m_unsigned x = fx_x_unsigned x := by
  obtain ⟨n, hn, rfl⟩ := mb_of x
  rw [qu_m hn, qu_x hn]
theorem qu_int (x : Int32) : (fx_x_unsigned x).toInt = x.toBitVec.toNat := by
  obtain ⟨n, hn, rfl⟩ := mb_of x
  rw [qu_x hn, pk_lT (by omega), q_nI]
  omega
theorem qq_eq (a b : Int64) : fx_m_quotient a b = (fx_x_quotient a b).toInt32 := by
  unfold fx_m_quotient fx_x_quotient
  split <;> rfl
theorem qr_eq (a b : Int64) : fx_m_rest a b = (fx_x_rest a b).toInt32 := by
  unfold fx_m_rest fx_x_rest
  split <;> rfl
theorem q_iI (i : Int) : (Int32.ofInt i).toBitVec.toNat = (i % 4294967296).toNat := BitVec.toNat_ofInt (n := 32) i
theorem q_l2i (x : Int64) : x.toInt32.toBitVec.toNat = x.toBitVec.toNat % 4294967296 := by
  show (BitVec.signExtend 32 x.toBitVec).toNat = _
  rw [BitVec.toNat_signExtend, BitVec.toNat_setWidth]
  simp
theorem q_l2iI (x : Int64) : x.toInt32 = Int32.ofInt x.toInt := by
  apply Int32.toInt_inj.mp
  rw [Int64.toInt_toInt32, Int32.toInt_ofInt]
theorem q_lush (x : Int64) : (jj_lushr x 32).toBitVec.toNat = x.toBitVec.toNat / 4294967296 := uN_s32 x
theorem qup_x (X Y : Int64) : fx_x_upper (X * Y) = Int32.ofInt (X.toInt * Y.toInt / 4294967296) := by
  apply q_inj
  unfold fx_x_upper
  rw [q_l2i, q_lush, q_iI]
  have h : (X * Y).toBitVec.toNat = (X.toInt * Y.toInt % 18446744073709551616).toNat := by
    rw [Int64.toBitVec_mul]
    have e : X.toBitVec * Y.toBitVec = BitVec.ofInt 64 (X.toInt * Y.toInt) := by
      rw [BitVec.ofInt_mul]
      show X.toBitVec * Y.toBitVec = BitVec.ofInt 64 X.toBitVec.toInt * BitVec.ofInt 64 Y.toBitVec.toInt
      rw [BitVec.ofInt_toInt, BitVec.ofInt_toInt]
    rw [e]
    exact BitVec.toNat_ofInt (n := 64) _
  rw [h]
  omega
def mfd (y : Int64) : Int64 := if lg_cmp y 0 < 0 then (y - 65535) / 65536 else y / 65536
theorem mup_eq (a b : Int64) : fx_m_upper a b = (mfd (a * mfd b + mfd (a * (b - 65536 * mfd b)))).toInt32 := by
  unfold fx_m_upper
  split
  · rename_i h1
    have e1 : mfd b = (b - 65535) / 65536 := if_pos h1
    rw [e1]
    split
    · rename_i h2
      rw [show mfd (a * (b - 65536 * ((b - 65535) / 65536))) = (a * (b - 65536 * ((b - 65535) / 65536)) - 65535) / 65536 from if_pos h2]
      split
      · rename_i h3
        rw [show mfd (a * ((b - 65535) / 65536) + (a * (b - 65536 * ((b - 65535) / 65536)) - 65535) / 65536) = _ from if_pos h3]
      · rename_i h3
        rw [show mfd (a * ((b - 65535) / 65536) + (a * (b - 65536 * ((b - 65535) / 65536)) - 65535) / 65536) = _ from if_neg h3]
    · rename_i h2
      rw [show mfd (a * (b - 65536 * ((b - 65535) / 65536))) = a * (b - 65536 * ((b - 65535) / 65536)) / 65536 from if_neg h2]
      split
      · rename_i h3
        rw [show mfd (a * ((b - 65535) / 65536) + a * (b - 65536 * ((b - 65535) / 65536)) / 65536) = _ from if_pos h3]
      · rename_i h3
        rw [show mfd (a * ((b - 65535) / 65536) + a * (b - 65536 * ((b - 65535) / 65536)) / 65536) = _ from if_neg h3]
  · rename_i h1
    have e1 : mfd b = b / 65536 := if_neg h1
    rw [e1]
    split
    · rename_i h2
      rw [show mfd (a * (b - 65536 * (b / 65536))) = (a * (b - 65536 * (b / 65536)) - 65535) / 65536 from if_pos h2]
      split
      · rename_i h3
        rw [show mfd (a * (b / 65536) + (a * (b - 65536 * (b / 65536)) - 65535) / 65536) = _ from if_pos h3]
      · rename_i h3
        rw [show mfd (a * (b / 65536) + (a * (b - 65536 * (b / 65536)) - 65535) / 65536) = _ from if_neg h3]
    · rename_i h2
      rw [show mfd (a * (b - 65536 * (b / 65536))) = a * (b - 65536 * (b / 65536)) / 65536 from if_neg h2]
      split
      · rename_i h3
        rw [show mfd (a * (b / 65536) + a * (b - 65536 * (b / 65536)) / 65536) = _ from if_pos h3]
      · rename_i h3
        rw [show mfd (a * (b / 65536) + a * (b - 65536 * (b / 65536)) / 65536) = _ from if_neg h3]
theorem q_tdivN {a b : Int} (ha : a < 0) : a.tdiv b = -((-a) / b) := by
  have h := Int.neg_tdiv (-a) b
  rw [Int.neg_neg] at h
  rw [h, Int.tdiv_eq_ediv_of_nonneg (by omega)]
theorem mfd_int {y : Int64} (h1 : -4611686018427387904 ≤ y.toInt) (h2 : y.toInt ≤ 4611686018427387904) : (mfd y).toInt = y.toInt / 65536 := by
  unfold mfd
  have e0 : (0 : Int64).toInt = 0 := rfl
  split
  · rename_i c
    rw [lg_cmp_lt, Int64.lt_iff_toInt_lt] at c
    rw [Int64.toInt_div_of_ne_right _ _ (by decide), Int64.toInt_sub, show (65535 : Int64).toInt = 65535 from rfl, show (65536 : Int64).toInt = 65536 from rfl, jj_bmod64 (by omega) (by omega), q_tdivN (by omega)]
    omega
  · rename_i c
    rw [lg_cmp_lt, Int64.lt_iff_toInt_lt] at c
    rw [Int64.toInt_div_of_ne_right _ _ (by decide), show (65536 : Int64).toInt = 65536 from rfl, Int.tdiv_eq_ediv_of_nonneg (by omega)]
theorem q_abs {A B : Int} {m k : Nat} (ha : A.natAbs ≤ m) (hb : B.natAbs ≤ k) : (A * B).natAbs ≤ m * k := by
  rw [Int.natAbs_mul]
  exact Nat.mul_le_mul ha hb
theorem qup_m {a b : Int64} (ha : -2147483648 ≤ a.toInt ∧ a.toInt < 4294967296) (hb : -2147483648 ≤ b.toInt ∧ b.toInt < 4294967296) : fx_m_upper a b = Int32.ofInt (a.toInt * b.toInt / 4294967296) := by
  rw [mup_eq, q_l2iI]
  have h1 : (mfd b).toInt = b.toInt / 65536 := mfd_int (by omega) (by omega)
  have h2 : (b - 65536 * mfd b).toInt = b.toInt - 65536 * (b.toInt / 65536) := by
    rw [Int64.toInt_sub, Int64.toInt_mul, h1, show (65536 : Int64).toInt = 65536 from rfl, jj_bmod64 (n := 65536 * (b.toInt / 65536)) (by omega) (by omega), jj_bmod64 (by omega) (by omega)]
  have g1 := q_abs (A := a.toInt) (B := b.toInt / 65536) (m := 4294967296) (k := 65536) (by omega) (by omega)
  have g2 := q_abs (A := a.toInt) (B := b.toInt - 65536 * (b.toInt / 65536)) (m := 4294967296) (k := 65536) (by omega) (by omega)
  have h3 : (a * (b - 65536 * mfd b)).toInt = a.toInt * (b.toInt - 65536 * (b.toInt / 65536)) := by
    rw [Int64.toInt_mul, h2, jj_bmod64 (by omega) (by omega)]
  have h4 : (a * mfd b).toInt = a.toInt * (b.toInt / 65536) := by
    rw [Int64.toInt_mul, h1, jj_bmod64 (by omega) (by omega)]
  have h5 : (mfd (a * (b - 65536 * mfd b))).toInt = a.toInt * (b.toInt - 65536 * (b.toInt / 65536)) / 65536 := by
    rw [mfd_int (by rw [h3]; omega) (by rw [h3]; omega), h3]
  have h6 : (a * mfd b + mfd (a * (b - 65536 * mfd b))).toInt = a.toInt * (b.toInt / 65536) + a.toInt * (b.toInt - 65536 * (b.toInt / 65536)) / 65536 := by
    rw [Int64.toInt_add, h4, h5, jj_bmod64 (by omega) (by omega)]
  rw [mfd_int (by rw [h6]; omega) (by rw [h6]; omega), h6]
  have e : a.toInt * b.toInt = 65536 * (a.toInt * (b.toInt / 65536)) + a.toInt * (b.toInt - 65536 * (b.toInt / 65536)) := by
    rw [Int.mul_sub, Int.mul_left_comm a.toInt 65536]
    omega
  rw [e]
  congr 1
  omega
theorem q_i2l (x : Int32) : -2147483648 ≤ x.toInt64.toInt ∧ x.toInt64.toInt < 4294967296 := by
  rw [Int32.toInt_toInt64]
  have := jj_rng x
  omega
theorem q_u2l (x : Int32) : -2147483648 ≤ (fx_x_unsigned x).toInt ∧ (fx_x_unsigned x).toInt < 4294967296 := by
  rw [qu_int]
  have := q_lt x
  omega
theorem qprod (f a b : Int32) : fx_m_product f a b = fx_x_productOrQuotient f a b := by
  unfold fx_m_product fx_x_productOrQuotient
  simp only [qu_eq, qq_eq, qr_eq]
  rw [qup_m (q_i2l a) (q_i2l b), qup_m (q_i2l a) (q_u2l b), qup_m (q_u2l a) (q_u2l b), qup_x, qup_x, qup_x]
  simp only [Int64.toInt32_mul, Int32.toInt32_toInt64]
theorem ml_lp (a0 : Int32) (sb : Nat) (hs : sb ≤ 31) : ∀ (k i x : Nat), x < 4294967296 → i ≤ sb → sb < i + k → fx_m_left_lp8 k a0 (nI sb) (lN x) (nI i) = nI (x * 2 ^ (sb - i) % 4294967296) := by
  intro k
  induction k with
  | zero => intro i x h0 h1 h2; omega
  | succ k ih =>
    intro i x h0 h1 h2
    unfold fx_m_left_lp8
    by_cases h : sb ≤ i
    · rw [if_pos ((nI_leI (by omega) (by omega)).mpr h), lN_i, show sb - i = 0 by omega, Nat.pow_zero, Nat.mul_one, Nat.mod_eq_of_lt h0]
    · rw [if_neg (fun q => h ((nI_leI (by omega) (by omega)).mp q)), show (2 : Int64) = lN 2 from rfl, show (4294967296 : Int64) = lN 4294967296 from rfl, lN_mul, pk_lRem (by omega) (by omega) (by omega), nI_1, ih (i + 1) _ (by omega) (by omega) (by omega)]
      rw [Nat.mod_mul_mod, show sb - i = (sb - (i + 1)) + 1 by omega, Nat.pow_succ, Nat.mul_assoc, Nat.mul_comm 2]
theorem ml_left {n sb : Nat} (hn : n < 4294967296) (hs : sb ≤ 31) : fx_m_left (nI n) (nI sb) = nI (n * 2 ^ sb % 4294967296) := by
  unfold fx_m_left
  have t : (nI sb).toInt = sb := nI_toInt (by omega)
  rw [qu_m hn]
  exact ml_lp _ sb hs _ 0 n hn (by omega) (by rw [t]; omega)
theorem mr_lp (a0 a2 : Int32) (sb : Nat) (hs : sb ≤ 31) : ∀ (k i : Nat) (v : Int64), -8589934592 ≤ v.toInt → v.toInt ≤ 8589934592 → i ≤ sb → sb < i + k → fx_m_right_lp17 k a0 (nI sb) a2 v (nI i) = Int32.ofInt (v.toInt / 2 ^ (sb - i)) := by
  intro k
  induction k with
  | zero => intro i v h0 h00 h1 h2; omega
  | succ k ih =>
    intro i v h0 h00 h1 h2
    have e0 : (0 : Int64).toInt = 0 := rfl
    unfold fx_m_right_lp17
    by_cases h : sb ≤ i
    · rw [if_pos ((nI_leI (by omega) (by omega)).mpr h), q_l2iI, show sb - i = 0 by omega, Int.pow_zero, Int.ediv_one]
    · rw [if_neg (fun q => h ((nI_leI (by omega) (by omega)).mp q)), nI_1]
      have ep : (2 : Int) ^ (sb - i) = 2 * 2 ^ (sb - (i + 1)) := by rw [show sb - i = (sb - (i + 1)) + 1 by omega, Int.pow_succ, Int.mul_comm]
      split
      · rename_i c
        rw [lg_cmp_lt, Int64.lt_iff_toInt_lt] at c
        have e : ((v - 1) / 2).toInt = v.toInt / 2 := by
          rw [Int64.toInt_div_of_ne_right _ _ (by decide), Int64.toInt_sub, show (1 : Int64).toInt = 1 from rfl, show (2 : Int64).toInt = 2 from rfl, jj_bmod64 (by omega) (by omega), q_tdivN (by omega)]
          omega
        rw [ih (i + 1) _ (by rw [e]; omega) (by rw [e]; omega) (by omega) (by omega), e, ep, Int.ediv_ediv_of_nonneg (by omega)]
      · rename_i c
        rw [lg_cmp_lt, Int64.lt_iff_toInt_lt] at c
        have e : (v / 2).toInt = v.toInt / 2 := by
          rw [Int64.toInt_div_of_ne_right _ _ (by decide), show (2 : Int64).toInt = 2 from rfl, Int.tdiv_eq_ediv_of_nonneg (by omega)]
        rw [ih (i + 1) _ (by rw [e]; omega) (by rw [e]; omega) (by omega) (by omega), e, ep, Int.ediv_ediv_of_nonneg (by omega)]
theorem mr_rightU {x : Int32} {sb : Nat} (hs : sb ≤ 31) : fx_m_right x (nI sb) 0 = Int32.ofInt ((x.toBitVec.toNat : Int) / 2 ^ sb) := by
  unfold fx_m_right
  have t : (nI sb).toInt = sb := nI_toInt (by omega)
  have r := q_lt x
  rw [if_pos rfl, qu_eq]
  have h := mr_lp x 0 sb hs ((nI sb).toInt.toNat + 1) 0 (fx_x_unsigned x) (by rw [qu_int]; omega) (by rw [qu_int]; omega) (by omega) (by rw [t]; omega)
  rw [qu_int] at h
  exact h
theorem mr_rightS {x s2 : Int32} {sb : Nat} (h2 : ¬ s2 = 0) (hs : sb ≤ 31) : fx_m_right x (nI sb) s2 = Int32.ofInt (x.toInt / 2 ^ sb) := by
  unfold fx_m_right
  have t : (nI sb).toInt = sb := nI_toInt (by omega)
  have r := jj_rng x
  rw [if_neg h2]
  have h := mr_lp x s2 sb hs ((nI sb).toInt.toNat + 1) 0 x.toInt64 (by rw [Int32.toInt_toInt64]; omega) (by rw [Int32.toInt_toInt64]; omega) (by omega) (by rw [t]; omega)
  rw [Int32.toInt_toInt64] at h
  exact h

