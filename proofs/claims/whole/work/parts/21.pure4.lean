/-! memory: words of the class, bytes of the reference -/
def qy (X : Int32) (p : Nat) : Nat := X.toBitVec.toNat / 2 ^ (8 * p) % 256
theorem qy_lt (X : Int32) (p : Nat) : qy X p < 256 := Nat.mod_lt _ (by omega)
def RelM (f g : Nat → Int32) : Prop := ∀ j, j < 4096 → g j = nI (qy (f (j / 4)) (j % 4))
theorem qy_ext {X Y : Int32} {p q : Nat} (h : ∀ i, i < 8 → bt X (8 * p + i) = bt Y (8 * q + i)) : qy X p = qy Y q := by
  unfold qy
  apply Nat.eq_of_testBit_eq
  intro i
  rw [show (256 : Nat) = 2 ^ 8 from rfl, Nat.testBit_mod_two_pow, Nat.testBit_mod_two_pow, Nat.testBit_div_two_pow, Nat.testBit_div_two_pow]
  by_cases hi : i < 8
  · have h1 : X.toBitVec.toNat.testBit (8 * p + i) = Y.toBitVec.toNat.testBit (8 * q + i) := h i hi
    rw [Nat.add_comm i, Nat.add_comm i, h1]
  · simp [hi]
theorem q_merge (W V Mk : Int32) {L o : Nat} (ho : o + L ≤ 4) (hL : 0 < L) (hM : ∀ i, bt Mk i = decide (i < 8 * L)) {p : Nat} (hp : p < 4) : qy ((W &&& ((Mk <<< (nI (8 * o) &&& 31)) ^^^ (-1))) ||| ((V <<< (nI (8 * o) &&& 31)) &&& (Mk <<< (nI (8 * o) &&& 31)))) p = if o ≤ p ∧ p < o + L then qy V (p - o) else qy W p := by
  have hb : ∀ k, k < 32 → bt ((W &&& ((Mk <<< (nI (8 * o) &&& 31)) ^^^ (-1))) ||| ((V <<< (nI (8 * o) &&& 31)) &&& (Mk <<< (nI (8 * o) &&& 31)))) k = if 8 * o ≤ k ∧ k < 8 * o + 8 * L then bt V (k - 8 * o) else bt W k := by
    intro k hk
    rw [b_or, b_and, b_and, b_xor, b_m1 k hk, b_shl (8 * o) (by omega) Mk hk, b_shl (8 * o) (by omega) V hk, hM]
    by_cases h1 : 8 * o ≤ k
    · by_cases h2 : k < 8 * o + 8 * L
      · rw [if_pos ⟨h1, h2⟩]
        simp [h1, show k - 8 * o < 8 * L by omega]
      · rw [if_neg (fun h => h2 h.2)]
        simp [h1, show ¬ k - 8 * o < 8 * L by omega]
    · rw [if_neg (fun h => h1 h.1)]
      simp [h1]
  by_cases h : o ≤ p ∧ p < o + L
  · rw [if_pos h]
    apply qy_ext
    intro i hi
    rw [hb _ (by omega), if_pos (by omega), show 8 * p + i - 8 * o = 8 * (p - o) + i by omega]
  · rw [if_neg h]
    apply qy_ext
    intro i hi
    rw [hb _ (by omega), if_neg (by omega)]
theorem q_bm1 (i : Nat) : bt (-1) i = decide (i < 8 * 4) := by
  by_cases h : i < 32
  · rw [b_m1 i h, decide_eq_true (by omega)]
  · rw [b_big (by omega), decide_eq_false (by omega)]
theorem RelM_store {f g g' : Nat → Int32} {A L : Nat} {V X : Int32} (hR : RelM f g) (hL : A % 4 + L ≤ 4) (hg : ∀ j, g' j = if A ≤ j ∧ j < A + L then nI (qy V (j - A)) else g j) (hX : ∀ p, p < 4 → qy X p = if A % 4 ≤ p ∧ p < A % 4 + L then qy V (p - A % 4) else qy (f (A / 4)) p) : RelM (upd f (A / 4) X) g' := by
  intro j hj
  rw [hg]
  by_cases h : j / 4 = A / 4
  · rw [h, pk_us, hX (j % 4) (by omega)]
    by_cases q : A ≤ j ∧ j < A + L
    · rw [if_pos q, if_pos (by omega), show j - A = j % 4 - A % 4 by omega]
    · rw [if_neg q, if_neg (by omega), hR j hj, h]
  · rw [pk_un h, if_neg (by omega), hR j hj]
theorem m_ix {A k : Nat} (h : A + k < 2 ^ 31) : (nI A + nI k).toNatClampNeg = A + k := by rw [nI_add, nI_clamp h]
theorem qb_7_0 {n : Nat} (hn : n < 4294967296) : fx_m_bits (nI n) 7 0 = nI (n % 256) := (mb_bits (hi := 7) (lo := 0) hn (by decide) (by decide)).trans (by show nI (n / 1 % 256) = _; rw [Nat.div_one])
theorem m_by0 (v : Int32) : fx_m_bits v 7 0 = nI (qy v 0) := by
  obtain ⟨n, hn, rfl⟩ := mb_of v
  rw [qb_7_0 hn]
  unfold qy
  rw [q_nI, Nat.mod_eq_of_lt hn, Nat.mul_zero, Nat.pow_zero, Nat.div_one]
theorem m_by1 (v : Int32) : fx_m_bits v 15 8 = nI (qy v 1) := by
  obtain ⟨n, hn, rfl⟩ := mb_of v
  rw [show fx_m_bits (nI n) 15 8 = nI (n / 256 % 256) from mb_bits (hi := 15) (lo := 8) hn (by decide) (by decide)]
  unfold qy
  rw [q_nI, Nat.mod_eq_of_lt hn]
theorem m_by2 (v : Int32) : fx_m_bits v 23 16 = nI (qy v 2) := by
  obtain ⟨n, hn, rfl⟩ := mb_of v
  rw [show fx_m_bits (nI n) 23 16 = nI (n / 65536 % 256) from mb_bits (hi := 23) (lo := 16) hn (by decide) (by decide)]
  unfold qy
  rw [q_nI, Nat.mod_eq_of_lt hn]
theorem m_by3 (v : Int32) : fx_m_bits v 31 24 = nI (qy v 3) := by
  obtain ⟨n, hn, rfl⟩ := mb_of v
  rw [show fx_m_bits (nI n) 31 24 = nI (n / 16777216 % 256) from mb_bits (hi := 31) (lo := 24) hn (by decide) (by decide)]
  unfold qy
  rw [q_nI, Nat.mod_eq_of_lt hn]
def wr1 (g : Nat → Int32) (A : Nat) (v : Int32) : Nat → Int32 := upd g A (nI (qy v 0))
def wr2 (g : Nat → Int32) (A : Nat) (v : Int32) : Nat → Int32 := upd (wr1 g A v) (A + 1) (nI (qy v 1))
def wr4 (g : Nat → Int32) (A : Nat) (v : Int32) : Nat → Int32 := upd (upd (wr2 g A v) (A + 2) (nI (qy v 2))) (A + 3) (nI (qy v 3))
theorem m_wr1 (u : XS) {A : Nat} (h : A < 5000) (v : Int32) : fx_m_write u (nI A) 1 v = xu_m u (wr1 u.1 A v) := by
  unfold fx_m_write
  rw [show ((1 : Int32).toInt.toNat + 1) = 2 from rfl, fx_m_write_lp3, if_neg (by decide), fx_m_write_lp3, if_pos (by decide)]
  rw [show (8 : Int32) * 0 + 7 = 7 from by decide, show (8 : Int32) * 0 = 0 from by decide, m_by0, show (0 : Int32) = nI 0 from rfl, m_ix (by omega)]
  rfl
theorem m_wr2 (u : XS) {A : Nat} (h : A < 5000) (v : Int32) : fx_m_write u (nI A) 2 v = xu_m u (wr2 u.1 A v) := by
  unfold fx_m_write
  rw [show ((2 : Int32).toInt.toNat + 1) = 3 from rfl, fx_m_write_lp3, if_neg (by decide), fx_m_write_lp3, if_neg (by decide), fx_m_write_lp3, if_pos (by decide)]
  rw [show (0 : Int32) + 1 = 1 from by decide, show (8 : Int32) * 0 + 7 = 7 from by decide, show (8 : Int32) * 0 = 0 from by decide, show (8 : Int32) * 1 + 7 = 15 from by decide, show (8 : Int32) * 1 = 8 from by decide, m_by0, m_by1, show (1 : Int32) = nI 1 from rfl, m_ix (by omega), show (0 : Int32) = nI 0 from rfl, m_ix (by omega)]
  rfl
theorem m_wr4 (u : XS) {A : Nat} (h : A < 5000) (v : Int32) : fx_m_write u (nI A) 4 v = xu_m u (wr4 u.1 A v) := by
  unfold fx_m_write
  rw [show ((4 : Int32).toInt.toNat + 1) = 5 from rfl, fx_m_write_lp3, if_neg (by decide), fx_m_write_lp3, if_neg (by decide), fx_m_write_lp3, if_neg (by decide), fx_m_write_lp3, if_neg (by decide), fx_m_write_lp3, if_pos (by decide)]
  rw [show (0 : Int32) + 1 = 1 from by decide, show (1 : Int32) + 1 = 2 from by decide, show (2 : Int32) + 1 = 3 from by decide, show (8 : Int32) * 0 + 7 = 7 from by decide, show (8 : Int32) * 0 = 0 from by decide, show (8 : Int32) * 1 + 7 = 15 from by decide, show (8 : Int32) * 1 = 8 from by decide, show (8 : Int32) * 2 + 7 = 23 from by decide, show (8 : Int32) * 2 = 16 from by decide, show (8 : Int32) * 3 + 7 = 31 from by decide, show (8 : Int32) * 3 = 24 from by decide, m_by0, m_by1, m_by2, m_by3, show (1 : Int32) = nI 1 from rfl, show (2 : Int32) = nI 2 from rfl, show (3 : Int32) = nI 3 from rfl, m_ix (k := 1) (by omega), m_ix (k := 2) (by omega), m_ix (k := 3) (by omega), show (0 : Int32) = nI 0 from rfl, m_ix (by omega)]
  rfl
theorem wr1_at (g : Nat → Int32) (A : Nat) (v : Int32) (j : Nat) : wr1 g A v j = if A ≤ j ∧ j < A + 1 then nI (qy v (j - A)) else g j := by
  unfold wr1
  by_cases h : j = A
  · rw [h, pk_us, if_pos (by omega), Nat.sub_self]
  · rw [pk_un h, if_neg (by omega)]
theorem wr2_at (g : Nat → Int32) (A : Nat) (v : Int32) (j : Nat) : wr2 g A v j = if A ≤ j ∧ j < A + 2 then nI (qy v (j - A)) else g j := by
  unfold wr2
  by_cases h : j = A + 1
  · rw [h, pk_us, if_pos (by omega), show A + 1 - A = 1 by omega]
  · rw [pk_un h, wr1_at]
    by_cases q : A ≤ j ∧ j < A + 1
    · rw [if_pos q, if_pos (by omega)]
    · rw [if_neg q, if_neg (by omega)]
theorem wr4_at (g : Nat → Int32) (A : Nat) (v : Int32) (j : Nat) : wr4 g A v j = if A ≤ j ∧ j < A + 4 then nI (qy v (j - A)) else g j := by
  unfold wr4
  by_cases h : j = A + 3
  · rw [h, pk_us, if_pos (by omega), show A + 3 - A = 3 by omega]
  · rw [pk_un h]
    by_cases h2 : j = A + 2
    · rw [h2, pk_us, if_pos (by omega), show A + 2 - A = 2 by omega]
    · rw [pk_un h2, wr2_at]
      by_cases q : A ≤ j ∧ j < A + 2
      · rw [if_pos q, if_pos (by omega)]
      · rw [if_neg q, if_neg (by omega)]
theorem m_rdU1 (u : XS) (A : Int32) : fx_m_read u A 1 = (256 * 0 + (u.1 (A + 0).toNatClampNeg).toInt64).toInt32 := by
  unfold fx_m_read
  rw [show ((1 : Int32).toInt.toNat + 2) = 3 from rfl, show (1 : Int32) - 1 = 0 from by decide, fx_m_read_lp7, if_neg (by decide), fx_m_read_lp7, if_pos (by decide)]
theorem m_rdU2 (u : XS) (A : Int32) : fx_m_read u A 2 = (256 * (256 * 0 + (u.1 (A + 1).toNatClampNeg).toInt64) + (u.1 (A + 0).toNatClampNeg).toInt64).toInt32 := by
  unfold fx_m_read
  rw [show ((2 : Int32).toInt.toNat + 2) = 4 from rfl, show (2 : Int32) - 1 = 1 from by decide, fx_m_read_lp7, if_neg (by decide), show (1 : Int32) + (-1) = 0 from by decide, fx_m_read_lp7, if_neg (by decide), fx_m_read_lp7, if_pos (by decide)]
theorem m_rdU4 (u : XS) (A : Int32) : fx_m_read u A 4 = (256 * (256 * (256 * (256 * 0 + (u.1 (A + 3).toNatClampNeg).toInt64) + (u.1 (A + 2).toNatClampNeg).toInt64) + (u.1 (A + 1).toNatClampNeg).toInt64) + (u.1 (A + 0).toNatClampNeg).toInt64).toInt32 := by
  unfold fx_m_read
  rw [show ((4 : Int32).toInt.toNat + 2) = 6 from rfl, show (4 : Int32) - 1 = 3 from by decide, fx_m_read_lp7, if_neg (by decide), show (3 : Int32) + (-1) = 2 from by decide, fx_m_read_lp7, if_neg (by decide), show (2 : Int32) + (-1) = 1 from by decide, fx_m_read_lp7, if_neg (by decide), show (1 : Int32) + (-1) = 0 from by decide, fx_m_read_lp7, if_neg (by decide), fx_m_read_lp7, if_pos (by decide)]
theorem m_cell {f : Nat → Int32} {u : XS} (hR : RelM f u.1) {A k : Nat} (h : A + k < 4096) : (u.1 (nI A + nI k).toNatClampNeg).toInt64 = lN (qy (f ((A + k) / 4)) ((A + k) % 4)) := by
  rw [m_ix (by omega), hR _ h]
  exact nI_l (Nat.lt_trans (qy_lt _ _) (by omega))
theorem m_rd1 {f : Nat → Int32} {u : XS} (hR : RelM f u.1) {A : Nat} (h : A < 4096) : fx_m_read u (nI A) 1 = nI (qy (f (A / 4)) (A % 4)) := by
  rw [m_rdU1, show (0 : Int32) = nI 0 from rfl, m_cell hR (by omega), show (0 : Int64) = lN 0 from rfl, show (256 : Int64) = lN 256 from rfl, lN_mul, lN_add, lN_i, Nat.mul_zero, Nat.zero_add, Nat.add_zero]
theorem m_rd2 {f : Nat → Int32} {u : XS} (hR : RelM f u.1) {A : Nat} (h : A < 4096) (h2 : A % 2 = 0) : fx_m_read u (nI A) 2 = nI (qy (f (A / 4)) (A % 4) + 256 * qy (f (A / 4)) (A % 4 + 1)) := by
  rw [m_rdU2, show (0 : Int32) = nI 0 from rfl, show (1 : Int32) = nI 1 from rfl, m_cell hR (by omega), m_cell hR (by omega), show (0 : Int64) = lN 0 from rfl, show (256 : Int64) = lN 256 from rfl, lN_mul, lN_add, lN_mul, lN_add, lN_i, Nat.add_zero A, show (A + 1) / 4 = A / 4 by omega, show (A + 1) % 4 = A % 4 + 1 by omega]
  congr 1
  omega
theorem qy_sum (X : Int32) : qy X 0 + 256 * qy X 1 + 65536 * qy X 2 + 16777216 * qy X 3 = X.toBitVec.toNat := by
  have h := q_lt X
  have e0 : qy X 0 = X.toBitVec.toNat % 256 := by
    unfold qy
    rw [Nat.mul_zero, Nat.pow_zero, Nat.div_one]
  have e1 : qy X 1 = X.toBitVec.toNat / 256 % 256 := rfl
  have e2 : qy X 2 = X.toBitVec.toNat / 65536 % 256 := rfl
  have e3 : qy X 3 = X.toBitVec.toNat / 16777216 % 256 := rfl
  rw [e0, e1, e2, e3]
  omega
theorem m_rd4 {f : Nat → Int32} {u : XS} (hR : RelM f u.1) {A : Nat} (h : A < 4096) (h4 : A % 4 = 0) : fx_m_read u (nI A) 4 = f (A / 4) := by
  rw [m_rdU4, show (0 : Int32) = nI 0 from rfl, show (1 : Int32) = nI 1 from rfl, show (2 : Int32) = nI 2 from rfl, show (3 : Int32) = nI 3 from rfl, m_cell hR (by omega), m_cell hR (by omega), m_cell hR (by omega), m_cell hR (by omega), show (0 : Int64) = lN 0 from rfl, show (256 : Int64) = lN 256 from rfl, lN_mul, lN_add, lN_mul, lN_add, lN_mul, lN_add, lN_mul, lN_add, lN_i, Nat.add_zero A, show (A + 1) / 4 = A / 4 by omega, show (A + 1) % 4 = 1 by omega, show (A + 2) / 4 = A / 4 by omega, show (A + 2) % 4 = 2 by omega, show (A + 3) / 4 = A / 4 by omega, show (A + 3) % 4 = 3 by omega, h4]
  apply q_inj
  have hs := qy_sum (f (A / 4))
  have hl := q_lt (f (A / 4))
  rw [q_nI]
  omega

