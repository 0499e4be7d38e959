def bt (x : Int32) (i : Nat) : Bool := x.toBitVec.getLsbD i
theorem b_ext {x y : Int32} (h : ∀ i, i < 32 → bt x i = bt y i) : x = y := Int32.toBitVec_inj.mp (BitVec.eq_of_getLsbD_eq (fun i hi => h i hi))
theorem b_or (x y : Int32) (i : Nat) : bt (x ||| y) i = (bt x i || bt y i) := by unfold bt; rw [Int32.toBitVec_or, BitVec.getLsbD_or]
theorem b_and (x y : Int32) (i : Nat) : bt (x &&& y) i = (bt x i && bt y i) := by unfold bt; rw [Int32.toBitVec_and, BitVec.getLsbD_and]
theorem b_xor (x y : Int32) (i : Nat) : bt (x ^^^ y) i = (bt x i ^^ bt y i) := by unfold bt; rw [Int32.toBitVec_xor, BitVec.getLsbD_xor]
theorem b_big {x : Int32} {i : Nat} (h : 32 ≤ i) : bt x i = false := BitVec.getLsbD_of_ge _ _ h
theorem b_255 (i : Nat) : bt 255 i = decide (i < 8) := by
  rcases Nat.lt_or_ge i 32 with h | h
  · exact (by decide +kernel : ∀ i, i < 32 → bt 255 i = decide (i < 8)) i h
  · rw [b_big h, decide_eq_false (by omega)]
theorem b_65535 (i : Nat) : bt 65535 i = decide (i < 16) := by
  rcases Nat.lt_or_ge i 32 with h | h
  · exact (by decide +kernel : ∀ i, i < 32 → bt 65535 i = decide (i < 16)) i h
  · rw [b_big h, decide_eq_false (by omega)]
theorem b_m1 : ∀ i, i < 32 → bt (-1) i = true := by decide +kernel
theorem b_0 (i : Nat) : bt 0 i = false := BitVec.getLsbD_zero
theorem s_l : ∀ n, n < 32 → ((nI n &&& 31).toBitVec.smod 32).toNat = n := by decide +kernel
theorem s_u : ∀ n, n < 32 → (((nI n).toUInt32 &&& Int32.toUInt32 31).toBitVec % 32).toNat = n := by decide +kernel
theorem b_shl (n : Nat) (hn : n < 32) (x : Int32) {i : Nat} (hi : i < 32) : bt (x <<< (nI n &&& 31)) i = (decide (n ≤ i) && bt x (i - n)) := by
  unfold bt
  rw [Int32.toBitVec_shiftLeft]
  show (x.toBitVec <<< ((nI n &&& 31).toBitVec.smod 32).toNat).getLsbD i = _
  rw [s_l n hn, BitVec.getLsbD_shiftLeft]
  rcases Nat.lt_or_ge i n with h | h
  · simp [h, Nat.not_le.mpr h]
  · simp [hi, h, Nat.not_lt.mpr h]
theorem b_ushr (n : Nat) (hn : n < 32) (x : Int32) (i : Nat) : bt ((x.toUInt32 >>> ((nI n).toUInt32 &&& Int32.toUInt32 31)).toInt32) i = bt x (n + i) := by
  show (x.toUInt32 >>> ((nI n).toUInt32 &&& Int32.toUInt32 31)).toBitVec.getLsbD i = x.toUInt32.toBitVec.getLsbD (n + i)
  rw [UInt32.toBitVec_shiftRight]
  show (x.toUInt32.toBitVec >>> (((nI n).toUInt32 &&& Int32.toUInt32 31).toBitVec % 32).toNat).getLsbD i = _
  rw [s_u n hn, BitVec.getLsbD_ushiftRight]
theorem b_sshr (n : Nat) (hn : n < 32) (x : Int32) {i : Nat} (hi : i < 32) : bt (x >>> (nI n &&& 31)) i = if n + i < 32 then bt x (n + i) else bt x 31 := by
  unfold bt
  rw [Int32.toBitVec_shiftRight]
  show (x.toBitVec.sshiftRight ((nI n &&& 31).toBitVec.smod 32).toNat).getLsbD i = _
  rw [s_l n hn, BitVec.getLsbD_sshiftRight, BitVec.msb_eq_getLsbD_last]
  simp [hi]

/-! named words, what is put, branches, remainders -/
theorem q_le (x y : Int32) : x ≤ y ↔ x.toInt ≤ y.toInt := Int32.le_iff_toInt_le
theorem q_ltI (x y : Int32) : x < y ↔ x.toInt < y.toInt := Int32.lt_iff_toInt_lt
theorem q_gpos (w : Int32) : 0 ≤ (fx_x_fieldG w).toInt := by
  obtain ⟨n, hn, rfl⟩ := mb_of w
  rw [qx_G hn, nI_toInt (by omega)]
  omega
theorem q_named (u : XS) (w : Int32) : fx_m_isNamed u w = fx_x_isNamed w := by
  unfold fx_m_isNamed fx_x_isNamed fx_x_isNamedWithNumber fx_x_isNamedWithRegisters
  simp only [qf_Op, qf_F, qf_G]
  have hg := q_gpos w
  generalize fx_x_fieldOp w = op
  generalize fx_x_fieldF w = f
  generalize fx_x_fieldG w = g at hg ⊢
  have c0 : (0 : Int32).toInt = 0 := rfl
  have c1 : (1 : Int32).toInt = 1 := rfl
  have c2 : (2 : Int32).toInt = 2 := rfl
  have c3 : (3 : Int32).toInt = 3 := rfl
  have a1 : (f < 3) ↔ (f ≤ 2) := by rw [q_ltI, q_le]; omega
  have a2 : (2 ≤ f) ↔ (1 < f) := by rw [q_ltI, q_le]; omega
  have a3 : (3 ≤ f) ↔ (2 < f) := by rw [q_ltI, q_le]; omega
  have a4 : (g < 2) ↔ (g = 0 ∨ g = 1) := by rw [q_ltI, ← Int32.toInt_inj, ← Int32.toInt_inj]; omega
  have a5 : ∀ X : Int32, (if g < 2 then (1 : Int32) else X) = if g = 0 then 1 else if g = 1 then 1 else X := by
    intro X
    by_cases h0 : g = 0
    · rw [if_pos (a4.mpr (Or.inl h0)), if_pos h0]
    · by_cases h1 : g = 1
      · rw [if_pos (a4.mpr (Or.inr h1)), if_neg h0, if_pos h1]
      · rw [if_neg (fun h => (a4.mp h).elim h0 h1), if_neg h0, if_neg h1]
  simp only [a5, a1, a2, a3]
theorem nat_xor31 {a : Nat} (h : a < 4294967296) : a ^^^ 2 ^ 31 = (a + 2147483648) % 4294967296 := by
  have h1 : (a ^^^ 2 ^ 31) % 2 ^ 31 = a % 2 ^ 31 := by rw [Nat.xor_mod_two_pow, Nat.mod_self, Nat.xor_zero]
  have h2 : (a ^^^ 2 ^ 31) / 2 ^ 31 = (a / 2 ^ 31) ^^^ 1 := by rw [Nat.xor_div_two_pow, Nat.div_self (Nat.two_pow_pos 31)]
  have h3 : a / 2 ^ 31 = 0 ∨ a / 2 ^ 31 = 1 := by omega
  generalize a ^^^ 2 ^ 31 = t at h1 h2
  rcases h3 with h3 | h3
  · rw [h3] at h2
    have h2 : t / 2 ^ 31 = 1 := h2
    omega
  · rw [h3] at h2
    have h2 : t / 2 ^ 31 = 0 := h2
    omega
theorem q_xor31 (x : Int32) : (x ^^^ (-2147483648)).toInt = (x.toBitVec.toNat : Int) - 2147483648 := by
  have h := q_toInt (x ^^^ (-2147483648))
  rw [Int32.toBitVec_xor, BitVec.toNat_xor, show (-2147483648 : Int32).toBitVec.toNat = 2 ^ 31 from rfl, nat_xor31 (q_lt x)] at h
  have := q_lt x
  rw [h]
  split <;> omega
theorem q_lessU (x y : Int32) : fx_x_isLessU x y = if y.toBitVec.toNat ≤ x.toBitVec.toNat then 0 else 1 := by
  unfold fx_x_isLessU
  have h : ((y ^^^ (-2147483648)) ≤ (x ^^^ (-2147483648))) ↔ y.toBitVec.toNat ≤ x.toBitVec.toNat := by
    rw [q_le, q_xor31, q_xor31]
    omega
  simp only [h]
theorem q_cmpU (x y : Int32) : ((0 : Int32) ≤ lg_cmp (fx_m_unsigned x) (fx_m_unsigned y)) ↔ y.toBitVec.toNat ≤ x.toBitVec.toNat := by
  rw [lg_cmp_ge, Int64.le_iff_toInt_le, qu_eq, qu_eq, qu_int, qu_int]
  omega
theorem q_if01 (c : Prop) (h : Decidable c) : (if (if c then (0 : Int32) else 1) = 0 then (0 : Int32) else 1) = if c then 0 else 1 := by
  by_cases q : c
  · rw [if_pos q, if_pos rfl]
  · rw [if_neg q, if_neg (by decide)]
theorem q_plain (f a b : Int32) (h1 : ¬ f = 1) (h5 : ¬ f = 5) : fx_m_plain f a b = fx_x_plain f a b := by
  unfold fx_m_plain fx_x_plain
  simp only [if_neg h1, if_neg h5, q_cmpU, q_lessU, q_if01, Int64.toInt32_add, Int32.toInt32_toInt64]
theorem q_by51 (b : Int32) : ((fx_m_unsigned b) - (fx_m_unsigned b) / 32 * 32).toInt32 = nI (b.toBitVec.toNat % 32) := by
  obtain ⟨n, hn, rfl⟩ := mb_of b
  rw [qu_m hn, show (32 : Int64) = lN 32 from rfl, pk_lRem (by omega) (by omega) (by omega), lN_i, q_nI, Nat.mod_eq_of_lt hn]
theorem q_and31 (b : Int32) : b &&& 31 = nI (b.toBitVec.toNat % 32) := pk_and b 5 (by decide)
theorem q_by19 (w : Int32) : fx_x_numberI w &&& 31 = fx_x_fieldB w := by
  rw [q_and31]
  obtain ⟨n, hn, rfl⟩ := mb_of w
  rw [qx_B hn]
  unfold fx_x_numberI
  rw [q_sar20 hn]
  congr 1
  split <;> omega
theorem q_left (x : Int32) {sb : Nat} (hs : sb < 32) : fx_m_left x (nI sb) = x <<< (nI sb &&& 31) := by
  obtain ⟨n, hn, rfl⟩ := mb_of x
  rw [ml_left hn (by omega)]
  apply q_inj
  rw [q_shl sb _ _ (s_l sb hs), q_nI, q_nI, Nat.mod_mod, Nat.mod_eq_of_lt hn]
theorem q_pow (sb : Nat) : (2 : Int) ^ sb = ((2 ^ sb : Nat) : Int) := by
  rw [Int.natCast_pow]
  rfl
theorem q_rightU (x : Int32) {sb : Nat} (hs : sb < 32) : fx_m_right x (nI sb) 0 = jj_ushr x (nI sb) := by
  rw [mr_rightU (by omega)]
  apply q_inj
  have h : (jj_ushr x (nI sb)).toBitVec.toNat = x.toBitVec.toNat / 2 ^ sb := pk_ushr x (nI sb) sb (s_u sb hs)
  rw [h, q_iI, q_pow, ← Int.natCast_ediv]
  have h2 : x.toBitVec.toNat / 2 ^ sb < 4294967296 := Nat.lt_of_le_of_lt (Nat.div_le_self _ _) (q_lt x)
  omega
theorem q_rightS (x : Int32) {sb : Nat} (hs : sb < 32) : fx_m_right x (nI sb) 1 = x >>> (nI sb &&& 31) := by
  rw [mr_rightS (by decide) (by omega)]
  have h : (x >>> (nI sb &&& 31)).toInt = x.toInt >>> sb := pk_shr x _ sb (s_l sb hs)
  rw [Int.shiftRight_eq_div_pow] at h
  rw [q_pow, ← h, Int32.ofInt_toInt]
theorem q_mod32 (n : Nat) : n % 32 < 32 := Nat.mod_lt _ (by omega)
theorem q_sB (w : Int32) : ∃ k, k < 32 ∧ fx_x_fieldB w = nI k := by
  obtain ⟨n, hn, rfl⟩ := mb_of w
  exact ⟨_, Nat.mod_lt _ (by omega), qx_B hn⟩
theorem q_puts (u : XS) (w a b pl : Int32) (hn : ¬ fx_x_isNamed w = 0) (ho : fx_x_fieldOp w = 19 ∨ fx_x_fieldOp w = 23 ∨ fx_x_fieldOp w = 51 ∨ fx_x_fieldOp w = 55) : fx_m_puts u w a b pl = fx_x_result w a b pl := by
  obtain ⟨kB, hkB, eB⟩ := q_sB w
  unfold fx_m_puts fx_x_result
  simp only [qf_Op, qf_F, qf_G, qf_B, qf_H, qf_I, q_by51, qprod]
  rcases ho with h | h | h | h
  · simp only [h, if_pos, if_neg (show ¬ (19 : Int32) = 55 by decide), if_neg (show ¬ (19 : Int32) = 23 by decide), if_neg (show ¬ (19 : Int32) = 51 by decide)]
    unfold fx_x_resultWithNumber
    by_cases h1 : fx_x_fieldF w = 1
    · simp only [h1, if_pos, if_neg (show ¬ (1 : Int32) = 5 by decide)]
      unfold fx_x_plain
      rw [if_neg (by decide), if_pos rfl, q_by19, eB, q_left _ hkB]
    · by_cases h5 : fx_x_fieldF w = 5
      · simp only [h5, if_pos, if_neg (show ¬ (5 : Int32) = 1 by decide)]
        by_cases h32 : fx_x_fieldG w = 32
        · simp only [h32, if_pos]
          rw [q_by19, eB, q_rightS _ hkB]
        · simp only [if_neg h32]
          unfold fx_x_plain
          rw [if_neg (by decide), if_neg (by decide), if_neg (by decide), if_neg (by decide), if_neg (by decide), if_pos rfl, q_by19, eB, q_rightU _ hkB]
      · simp only [if_neg h1, if_neg h5]
        exact q_plain _ _ _ h1 h5
  · simp only [h, if_pos, if_neg (show ¬ (23 : Int32) = 55 by decide), if_neg (show ¬ (23 : Int32) = 19 by decide), Int64.toInt32_add, Int32.toInt32_toInt64]
  · simp only [h, if_pos, if_neg (show ¬ (51 : Int32) = 55 by decide), if_neg (show ¬ (51 : Int32) = 19 by decide), if_neg (show ¬ (51 : Int32) = 23 by decide)]
    unfold fx_x_resultWithRegisters
    by_cases g1 : fx_x_fieldG w = 1
    · simp only [g1, if_pos]
    · simp only [if_neg g1]
      by_cases g32 : fx_x_fieldG w = 32
      · simp only [g32, if_pos]
        by_cases f0 : fx_x_fieldF w = 0
        · simp only [f0, if_pos, Int64.toInt32_sub, Int32.toInt32_toInt64]
        · have f5 : fx_x_fieldF w = 5 := by
            by_cases f5 : fx_x_fieldF w = 5
            · exact f5
            · exfalso
              apply hn
              unfold fx_x_isNamed fx_x_isNamedWithRegisters
              simp only [h, g32, if_pos, if_neg f0, if_neg f5, if_neg (show ¬ (51 : Int32) = 3 by decide), if_neg (show ¬ (51 : Int32) = 15 by decide), if_neg (show ¬ (51 : Int32) = 19 by decide), if_neg (show ¬ (51 : Int32) = 23 by decide), if_neg (show ¬ (51 : Int32) = 35 by decide), if_neg (show ¬ (32 : Int32) = 0 by decide), if_neg (show ¬ (32 : Int32) = 1 by decide)]
          simp only [f5, if_pos, if_neg (show ¬ (5 : Int32) = 0 by decide), if_neg (show ¬ (5 : Int32) = 1 by decide)]
          rw [q_and31 b, q_rightS _ (q_mod32 _)]
      · simp only [if_neg g32]
        by_cases h1 : fx_x_fieldF w = 1
        · simp only [h1, if_pos]
          unfold fx_x_plain
          rw [if_neg (by decide), if_pos rfl, q_and31 b, q_left _ (q_mod32 _)]
        · by_cases h5 : fx_x_fieldF w = 5
          · simp only [h5, if_pos, if_neg (show ¬ (5 : Int32) = 1 by decide)]
            unfold fx_x_plain
            rw [if_neg (by decide), if_neg (by decide), if_neg (by decide), if_neg (by decide), if_neg (by decide), if_pos rfl, q_and31 b, q_rightU _ (q_mod32 _)]
          · simp only [if_neg h1, if_neg h5]
            exact q_plain _ _ _ h1 h5
  · simp only [h, if_pos, if_neg (show ¬ (55 : Int32) = 19 by decide), if_neg (show ¬ (55 : Int32) = 23 by decide), if_neg (show ¬ (55 : Int32) = 51 by decide)]
theorem q_flip (c : Prop) (h : Decidable c) : (if (if c then (0 : Int32) else 1) = 0 then (1 : Int32) else 0) = if c then 1 else 0 := by
  by_cases q : c
  · rw [if_pos q, if_pos rfl, if_pos q]
  · rw [if_neg q, if_neg (by decide), if_neg q]
theorem q_holds (u : XS) (f a b : Int32) (hf : f = 0 ∨ f = 1 ∨ f = 4 ∨ f = 5 ∨ f = 6 ∨ f = 7) : fx_m_holds u f a b = fx_x_isTaken f a b := by
  unfold fx_m_holds fx_x_isTaken
  simp only [q_cmpU, q_lessU, q_flip]
  rcases hf with rfl | rfl | rfl | rfl | rfl | rfl
  · rw [if_neg (show ¬ ((2 : Int32) ≤ 0) by decide), if_pos (show ((0 : Int32) - 0 / 2 * 2 = 0) by decide), if_pos (show ((0 : Int32) - 0 / 2 * 2 = 0) by decide), if_pos (show ((0 : Int32) = 0) from rfl)]
  · rw [if_neg (show ¬ ((2 : Int32) ≤ 1) by decide), if_neg (show ¬ ((1 : Int32) - 1 / 2 * 2 = 0) by decide), if_neg (show ¬ ((1 : Int32) - 1 / 2 * 2 = 0) by decide), if_neg (show ¬ ((1 : Int32) = 0) by decide), if_pos (show ((1 : Int32) = 1) from rfl)]
  · rw [if_pos (show ((2 : Int32) ≤ 4) by decide), if_neg (show ¬ ((6 : Int32) ≤ 4) by decide), if_pos (show ((4 : Int32) - 4 / 2 * 2 = 0) by decide), if_pos (show ((4 : Int32) - 4 / 2 * 2 = 0) by decide), if_neg (show ¬ ((4 : Int32) = 0) by decide), if_neg (show ¬ ((4 : Int32) = 1) by decide), if_neg (show ¬ ((4 : Int32) = 2) by decide), if_neg (show ¬ ((4 : Int32) = 3) by decide), if_pos (show ((4 : Int32) = 4) from rfl)]
  · rw [if_pos (show ((2 : Int32) ≤ 5) by decide), if_neg (show ¬ ((6 : Int32) ≤ 5) by decide), if_neg (show ¬ ((5 : Int32) - 5 / 2 * 2 = 0) by decide), if_neg (show ¬ ((5 : Int32) - 5 / 2 * 2 = 0) by decide), if_neg (show ¬ ((5 : Int32) = 0) by decide), if_neg (show ¬ ((5 : Int32) = 1) by decide), if_neg (show ¬ ((5 : Int32) = 2) by decide), if_neg (show ¬ ((5 : Int32) = 3) by decide), if_neg (show ¬ ((5 : Int32) = 4) by decide), if_pos (show ((5 : Int32) = 5) from rfl)]
    by_cases q : b ≤ a
    · rw [if_pos q, if_neg (show ¬ a < b by rw [q_le] at q; rw [q_ltI]; omega)]
    · rw [if_neg q, if_pos (show a < b by rw [q_le] at q; rw [q_ltI]; omega)]
  · rw [if_pos (show ((2 : Int32) ≤ 6) by decide), if_pos (show ((6 : Int32) ≤ 6) by decide), if_pos (show ((6 : Int32) - 6 / 2 * 2 = 0) by decide), if_pos (show ((6 : Int32) - 6 / 2 * 2 = 0) by decide), if_neg (show ¬ ((6 : Int32) = 0) by decide), if_neg (show ¬ ((6 : Int32) = 1) by decide), if_neg (show ¬ ((6 : Int32) = 2) by decide), if_neg (show ¬ ((6 : Int32) = 3) by decide), if_neg (show ¬ ((6 : Int32) = 4) by decide), if_neg (show ¬ ((6 : Int32) = 5) by decide), if_pos (show ((6 : Int32) = 6) from rfl)]
  · rw [if_pos (show ((2 : Int32) ≤ 7) by decide), if_pos (show ((6 : Int32) ≤ 7) by decide), if_neg (show ¬ ((7 : Int32) - 7 / 2 * 2 = 0) by decide), if_neg (show ¬ ((7 : Int32) - 7 / 2 * 2 = 0) by decide), if_neg (show ¬ ((7 : Int32) = 0) by decide), if_neg (show ¬ ((7 : Int32) = 1) by decide), if_neg (show ¬ ((7 : Int32) = 2) by decide), if_neg (show ¬ ((7 : Int32) = 3) by decide), if_neg (show ¬ ((7 : Int32) = 4) by decide), if_neg (show ¬ ((7 : Int32) = 5) by decide), if_neg (show ¬ ((7 : Int32) = 6) by decide)]
theorem q_irem (x m : Int32) (M : Int) (hm : m.toInt = M) (h1 : 1 ≤ M) (h2 : M ≤ 4) : (x - x / m * m).toInt = x.toInt - x.toInt.tdiv M * M ∧ (x - x / m * m = 0 ↔ x.toInt % M = 0) := by
  have r := jj_rng x
  have hd : (x / m).toInt = x.toInt.tdiv M := by
    rw [Int32.toInt_div_of_ne_right _ _ (by intro e; rw [e] at hm; have : (-1 : Int32).toInt = -1 := rfl; omega), hm]
  have key : ∃ q : Int, x.toInt.tdiv M = q ∧ ((0 ≤ x.toInt ∧ q = x.toInt / M) ∨ (x.toInt < 0 ∧ q = -((-x.toInt) / M))) := by
    by_cases h : x.toInt < 0
    · exact ⟨_, rfl, Or.inr ⟨h, q_tdivN h⟩⟩
    · exact ⟨_, rfl, Or.inl ⟨by omega, Int.tdiv_eq_ediv_of_nonneg (by omega)⟩⟩
  obtain ⟨q, hq, hc⟩ := key
  have hM : M = 1 ∨ M = 2 ∨ M = 3 ∨ M = 4 := by omega
  have e : (x - x / m * m).toInt = x.toInt - q * M := by
    rw [Int32.toInt_sub, Int32.toInt_mul, hd, hm, hq]
    rcases hM with rfl | rfl | rfl | rfl
    · rw [jj_bmod32 (n := q * 1) (by omega) (by omega), jj_bmod32 (by omega) (by omega)]
    · rw [jj_bmod32 (n := q * 2) (by omega) (by omega), jj_bmod32 (by omega) (by omega)]
    · rw [jj_bmod32 (n := q * 3) (by omega) (by omega), jj_bmod32 (by omega) (by omega)]
    · rw [jj_bmod32 (n := q * 4) (by omega) (by omega), jj_bmod32 (by omega) (by omega)]
  refine ⟨by rw [e, hq], ?_⟩
  rw [← Int32.toInt_inj, e, show (0 : Int32).toInt = 0 from rfl]
  rcases hM with rfl | rfl | rfl | rfl <;> omega
theorem q_and3 (x : Int32) : (x &&& 3 = 0) ↔ x.toInt % 4 = 0 := by
  rw [show x &&& 3 = nI (x.toBitVec.toNat % 4) from pk_and x 2 (by decide), show (0 : Int32) = nI 0 from rfl, nI_eq (by omega) (by omega)]
  have h := q_toInt x
  split at h <;> omega
theorem q_rem4 (x : Int32) : (x - x / 4 * 4 = 0) ↔ (x &&& 3 = 0) := by
  rw [q_and3]
  exact (q_irem x 4 4 rfl (by omega) (by omega)).2
theorem q_mult4 (x : Int32) : (fx_x_isMultipleOf4 x = 0) ↔ ¬ (x &&& 3 = 0) := by
  unfold fx_x_isMultipleOf4
  by_cases h : x &&& 3 = 0
  · rw [if_pos h]
    exact ⟨fun q => absurd q (by decide), fun q => absurd h q⟩
  · rw [if_neg h]
    exact ⟨fun _ => h, fun _ => rfl⟩
theorem q_mask (n k : Nat) (hn : n < 2 ^ 32) (hk : k ≤ 32) : n &&& (2 ^ k * (2 ^ (32 - k) - 1)) = n - n % 2 ^ k := by
  have hp := Nat.two_pow_pos k
  have hs : n - n % 2 ^ k = 2 ^ k * (n / 2 ^ k) := by
    have := Nat.div_add_mod n (2 ^ k)
    omega
  apply Nat.eq_of_testBit_eq
  intro i
  rw [hs, Nat.testBit_and, Nat.testBit_two_pow_mul, Nat.testBit_two_pow_mul, Nat.testBit_two_pow_sub_one, Nat.testBit_div_two_pow]
  by_cases q : k ≤ i
  · by_cases q2 : i - k < 32 - k
    · simp [q, q2, show k + (i - k) = i by omega, show i - k + k = i by omega]
    · have : n.testBit i = false := Nat.testBit_lt_two_pow (Nat.lt_of_lt_of_le hn (Nat.pow_le_pow_right (by omega) (show 32 ≤ i by omega)))
      simp [q, q2, this, show k + (i - k) = i by omega, show i - k + k = i by omega]
  · simp [q]
theorem q_even (x : Int32) : x &&& (-2) = if x - x / 2 * 2 = 0 then x else x - 1 := by
  have h1 : (x &&& (-2)).toBitVec.toNat = x.toBitVec.toNat - x.toBitVec.toNat % 2 := by
    rw [Int32.toBitVec_and, BitVec.toNat_and]
    exact q_mask _ 1 (q_lt x) (by omega)
  have h2 := (q_irem x 2 2 rfl (by omega) (by omega)).2
  have h3 := q_toInt x
  have h4 := q_lt x
  apply q_inj
  rw [h1]
  by_cases q : x - x / 2 * 2 = 0
  · rw [if_pos q]
    have := h2.mp q
    split at h3 <;> omega
  · rw [if_neg q, q_sub, show (1 : Int32).toBitVec.toNat = 1 from rfl]
    have hz : ¬ x.toInt % 2 = 0 := fun z => q (h2.mpr z)
    split at h3 <;> omega

