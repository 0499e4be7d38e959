/-! a word and a step: class and reference agree -/
theorem q_f8 (w : Int32) : fx_x_fieldF w = 0 ∨ fx_x_fieldF w = 1 ∨ fx_x_fieldF w = 2 ∨ fx_x_fieldF w = 3 ∨ fx_x_fieldF w = 4 ∨ fx_x_fieldF w = 5 ∨ fx_x_fieldF w = 6 ∨ fx_x_fieldF w = 7 := by
  obtain ⟨k, hk, e⟩ := q_fF w
  rw [e]
  rcases (show k = 0 ∨ k = 1 ∨ k = 2 ∨ k = 3 ∨ k = 4 ∨ k = 5 ∨ k = 6 ∨ k = 7 by omega) with rfl | rfl | rfl | rfl | rfl | rfl | rfl | rfl <;> decide
theorem q_n99 {w : Int32} (hn : ¬ fx_x_isNamed w = 0) (ho : fx_x_fieldOp w = 99) : fx_x_fieldF w = 0 ∨ fx_x_fieldF w = 1 ∨ fx_x_fieldF w = 4 ∨ fx_x_fieldF w = 5 ∨ fx_x_fieldF w = 6 ∨ fx_x_fieldF w = 7 := by
  unfold fx_x_isNamed at hn
  rw [if_neg (show ¬ fx_x_fieldOp w = 3 by rw [ho]; decide), if_neg (show ¬ fx_x_fieldOp w = 15 by rw [ho]; decide), if_neg (show ¬ fx_x_fieldOp w = 19 by rw [ho]; decide), if_neg (show ¬ fx_x_fieldOp w = 23 by rw [ho]; decide), if_neg (show ¬ fx_x_fieldOp w = 35 by rw [ho]; decide), if_neg (show ¬ fx_x_fieldOp w = 51 by rw [ho]; decide), if_neg (show ¬ fx_x_fieldOp w = 55 by rw [ho]; decide), if_pos ho] at hn
  rcases q_f8 w with h | h | h | h | h | h | h | h
  · exact Or.inl h
  · exact Or.inr (Or.inl h)
  · exact absurd (by rw [h]; decide) hn
  · exact absurd (by rw [h]; decide) hn
  · exact Or.inr (Or.inr (Or.inl h))
  · exact Or.inr (Or.inr (Or.inr (Or.inl h)))
  · exact Or.inr (Or.inr (Or.inr (Or.inr (Or.inl h))))
  · exact Or.inr (Or.inr (Or.inr (Or.inr (Or.inr h))))
theorem q_n3 {w : Int32} (hn : ¬ fx_x_isNamed w = 0) (ho : fx_x_fieldOp w = 3) : fx_x_fieldF w = 0 ∨ fx_x_fieldF w = 1 ∨ fx_x_fieldF w = 2 ∨ fx_x_fieldF w = 4 ∨ fx_x_fieldF w = 5 := by
  unfold fx_x_isNamed at hn
  rw [if_pos ho] at hn
  rcases q_f8 w with h | h | h | h | h | h | h | h
  · exact Or.inl h
  · exact Or.inr (Or.inl h)
  · exact Or.inr (Or.inr (Or.inl h))
  · exact absurd (by rw [h]; decide) hn
  · exact Or.inr (Or.inr (Or.inr (Or.inl h)))
  · exact Or.inr (Or.inr (Or.inr (Or.inr h)))
  · exact absurd (by rw [h]; decide) hn
  · exact absurd (by rw [h]; decide) hn
theorem q_n35 {w : Int32} (hn : ¬ fx_x_isNamed w = 0) (ho : fx_x_fieldOp w = 35) : fx_x_fieldF w = 0 ∨ fx_x_fieldF w = 1 ∨ fx_x_fieldF w = 2 := by
  unfold fx_x_isNamed at hn
  rw [if_neg (show ¬ fx_x_fieldOp w = 3 by rw [ho]; decide), if_neg (show ¬ fx_x_fieldOp w = 15 by rw [ho]; decide), if_neg (show ¬ fx_x_fieldOp w = 19 by rw [ho]; decide), if_neg (show ¬ fx_x_fieldOp w = 23 by rw [ho]; decide), if_pos ho] at hn
  rcases q_f8 w with h | h | h | h | h | h | h | h
  · exact Or.inl h
  · exact Or.inr (Or.inl h)
  · exact Or.inr (Or.inr h)
  · exact absurd (by rw [h]; decide) hn
  · exact absurd (by rw [h]; decide) hn
  · exact absurd (by rw [h]; decide) hn
  · exact absurd (by rw [h]; decide) hn
  · exact absurd (by rw [h]; decide) hn
theorem q_ops {w : Int32} (hn : ¬ fx_x_isNamed w = 0) (h3 : ¬ fx_x_fieldOp w = 3) (h15 : ¬ fx_x_fieldOp w = 15) (h35 : ¬ fx_x_fieldOp w = 35) (h99 : ¬ fx_x_fieldOp w = 99) (h103 : ¬ fx_x_fieldOp w = 103) (h111 : ¬ fx_x_fieldOp w = 111) (h115 : ¬ fx_x_fieldOp w = 115) : fx_x_fieldOp w = 19 ∨ fx_x_fieldOp w = 23 ∨ fx_x_fieldOp w = 51 ∨ fx_x_fieldOp w = 55 := by
  by_cases h19 : fx_x_fieldOp w = 19
  · exact Or.inl h19
  · by_cases h23 : fx_x_fieldOp w = 23
    · exact Or.inr (Or.inl h23)
    · by_cases h51 : fx_x_fieldOp w = 51
      · exact Or.inr (Or.inr (Or.inl h51))
      · by_cases h55 : fx_x_fieldOp w = 55
        · exact Or.inr (Or.inr (Or.inr h55))
        · exfalso
          apply hn
          unfold fx_x_isNamed
          rw [if_neg h3, if_neg h15, if_neg h19, if_neg h23, if_neg h35, if_neg h51, if_neg h55, if_neg h99, if_neg h103, if_neg h111, if_neg h115]
theorem r_jmp {u v : XS} (h : Rel u v) (w p nx : Int32) (e : nx = u.2.2.1 + 4) : RelP (fx_x_jump u w p) (if p - p / 4 * 4 = 0 then fx_m_finish (fx_m_set v (fx_x_fieldD w) nx) p else fx_m_fail v 0 p) := by
  unfold fx_x_jump
  by_cases q : p &&& 3 = 0
  · rw [if_neg (fun z => (q_mult4 p).mp z q), if_pos ((q_rem4 p).mpr q), e]
    exact r_finish (r_setD h w _) rfl q
  · rw [if_pos ((q_mult4 p).mpr q), if_neg (fun z => q ((q_rem4 p).mp z))]
    exact r_tell h 0 p
theorem r_j111 {u v : XS} (h : Rel u v) (w nx : Int32) (ho : fx_x_fieldOp w = 111) (e : nx = u.2.2.1 + 4) : RelP (fx_x_jump u w (u.2.2.1 + fx_x_numberJ w)) (fx_m_jump v w nx) := by
  unfold fx_m_jump
  rw [qf_Op, if_pos ho, qf_J, qf_D, q_sumI, ← r_pc h]
  exact r_jmp h w _ nx e
theorem r_j103 {u v : XS} (h : Rel u v) (w nx : Int32) (ho : fx_x_fieldOp w = 103) (e : nx = u.2.2.1 + 4) : RelP (fx_x_jump u w ((fx_x_register u (fx_x_fieldA w) + fx_x_numberI w) &&& (-2))) (fx_m_jump v w nx) := by
  unfold fx_m_jump
  rw [qf_Op, if_neg (show ¬ fx_x_fieldOp w = 111 by rw [ho]; decide), if_neg (show ¬ fx_x_fieldOp w = 99 by rw [ho]; decide), if_pos ho, qf_A, qf_I, qf_D, q_sumI, q_dec, ← r_regA h w, q_even]
  generalize fx_x_register u (fx_x_fieldA w) + fx_x_numberI w = t
  by_cases q : t - t / 2 * 2 = 0
  · rw [if_pos q, if_pos q]
    exact r_jmp h w t nx e
  · rw [if_neg q, if_neg q]
    exact r_jmp h w (t - 1) nx e
theorem r_j99 {u v : XS} (h : Rel u v) (w nx : Int32) (hn : ¬ fx_x_isNamed w = 0) (ho : fx_x_fieldOp w = 99) (e : nx = u.2.2.1 + 4) : RelP (fx_x_branch u w) (fx_m_jump v w nx) := by
  unfold fx_m_jump fx_x_branch
  rw [qf_Op, if_neg (show ¬ fx_x_fieldOp w = 111 by rw [ho]; decide), if_pos ho, qf_F, qf_A, qf_B, qf_BB, q_sumI, ← r_regA h w, ← r_regB h w, q_holds v _ _ _ (q_n99 hn ho), ← r_pc h]
  by_cases t : fx_x_isTaken (fx_x_fieldF w) (fx_x_register u (fx_x_fieldA w)) (fx_x_register u (fx_x_fieldB w)) = 0
  · rw [if_pos t, if_pos t]
    exact r_finish h e.symm (m4_add h.2.2.2.2 (by decide))
  · rw [if_neg t, if_neg t]
    generalize u.2.2.1 + fx_x_numberB w = p
    by_cases q : p &&& 3 = 0
    · rw [if_neg (fun z => (q_mult4 p).mp z q), if_pos ((q_rem4 p).mpr q)]
      exact r_finish h rfl q
    · rw [if_pos ((q_mult4 p).mpr q), if_neg (fun z => q ((q_rem4 p).mp z))]
      exact r_tell h 0 p
def xld (u : XS) (w a f : Int32) : Int32 × XS := if fx_x_isAligned a f = 0 then fx_x_tell u 4 a else if fx_x_isOfMemory a = 0 then fx_x_tell u 5 a else fx_x_finish (fx_x_setRegister u (fx_x_fieldD w) (fx_x_loaded f (jj_ushr (fx_x_wordAround u a) (fx_x_bitsBelow a)))) ((fx_x_setRegister u (fx_x_fieldD w) (fx_x_loaded f (jj_ushr (fx_x_wordAround u a) (fx_x_bitsBelow a)))).2.2.1 + 4)
theorem xld_eq (u : XS) (w : Int32) : fx_x_load u w = xld u w (fx_x_register u (fx_x_fieldA w) + fx_x_numberI w) (fx_x_fieldF w) := rfl
def xst (u : XS) (a f y : Int32) : Int32 × XS := if fx_x_isAligned a f = 0 then fx_x_tell u 6 a else if fx_x_isOfMemory a = 0 then fx_x_tell u 7 a else fx_x_finish (fx_x_setWordAt u a ((fx_x_wordAround u a &&& ((fx_x_storedMask f <<< (fx_x_bitsBelow a &&& 31)) ^^^ (-1))) ||| ((y <<< (fx_x_bitsBelow a &&& 31)) &&& (fx_x_storedMask f <<< (fx_x_bitsBelow a &&& 31))))) ((fx_x_setWordAt u a ((fx_x_wordAround u a &&& ((fx_x_storedMask f <<< (fx_x_bitsBelow a &&& 31)) ^^^ (-1))) ||| ((y <<< (fx_x_bitsBelow a &&& 31)) &&& (fx_x_storedMask f <<< (fx_x_bitsBelow a &&& 31))))).2.2.1 + 4)
theorem xst_eq (u : XS) (w : Int32) : fx_x_store u w = xst u (fx_x_register u (fx_x_fieldA w) + fx_x_numberT w) (fx_x_fieldF w) (fx_x_register u (fx_x_fieldB w)) := rfl
theorem x_below {A : Nat} (h : A < 4096) : fx_x_bitsBelow (nI A) = nI (8 * (A % 4)) := by
  unfold fx_x_bitsBelow
  rw [show nI A &&& 3 = nI (A % 4) from pk_andN (by omega) 2 (by decide), show (8 : Int32) = nI 8 from rfl, pk_mul]
theorem r_ldcore {u v : XS} (h : Rel u v) (w a f m nx : Int32) (L : Nat) (hm : m.toInt = L) (hL : L = 1 ∨ L = 2 ∨ L = 4) (hal : (fx_x_isAligned a f = 0) ↔ ¬ (a - a / m * m = 0)) (hld : ∀ A : Nat, A < 4096 → A % L = 0 → fx_x_loaded f (jj_ushr (u.1 (A / 4)) (nI (8 * (A % 4)))) = if 2 ≤ f then fx_m_read v (nI A) m else fx_m_signed (fx_m_read v (nI A) m) (8 * m)) (e : nx = u.2.2.1 + 4) : RelP (xld u w a f) (fx_m_access_at84 v w nx 0 f m a) := by
  have hr := (q_irem a m L hm (by omega) (by omega)).2
  unfold xld fx_m_access_at84
  by_cases q : a - a / m * m = 0
  · rw [if_neg (fun z => hal.mp z q), if_pos q, if_pos (show (0 : Int32) = 0 from rfl), if_pos (show (0 : Int32) = 0 from rfl)]
    have q2 := hr.mp q
    have ht := m_there a m (by omega)
    by_cases t : fx_m_isThere a.toInt64 m = 0
    · rw [if_pos t]
      rw [ht] at t
      rw [if_pos ((x_ofMem a).mpr (by rcases hL with rfl | rfl | rfl <;> omega))]
      exact r_tell h 5 a
    · rw [if_neg t]
      rw [ht] at t
      obtain ⟨A, hA, ea⟩ := x_nI (a := a) (by omega)
      subst ea
      rw [nI_toInt (by omega)] at q2
      rw [if_neg (x_notMem hA), x_around u hA, x_below hA, hld A hA (by rcases hL with rfl | rfl | rfl <;> omega), r_setPc, qf_D, e]
      by_cases z : 2 ≤ f
      · rw [if_pos z, if_pos z]
        exact r_finish (r_setD h w _) rfl (m4_add h.2.2.2.2 (by decide))
      · rw [if_neg z, if_neg z]
        exact r_finish (r_setD h w _) rfl (m4_add h.2.2.2.2 (by decide))
  · rw [if_pos (hal.mpr q), if_neg q, if_pos (show (0 : Int32) = 0 from rfl)]
    exact r_tell h 4 a
theorem x_setPc (u : XS) (a x : Int32) : (fx_x_setWordAt u a x).2 = u.2 := by
  unfold fx_x_setWordAt
  split <;> rfl
theorem r_stcore {u v : XS} (h : Rel u v) (w a f m nx y : Int32) (L : Nat) (hm : m.toInt = L) (hL : L = 1 ∨ L = 2 ∨ L = 4) (hal : (fx_x_isAligned a f = 0) ↔ ¬ (a - a / m * m = 0)) (hy : y = v.2.1 (fx_x_fieldB w).toNatClampNeg) (hM : ∀ i, bt (fx_x_storedMask f) i = decide (i < 8 * L)) (hw : ∀ A : Nat, A < 5000 → ∃ g', fx_m_write v (nI A) m y = xu_m v g' ∧ ∀ j, g' j = if A ≤ j ∧ j < A + L then nI (qy y (j - A)) else v.1 j) (e : nx = u.2.2.1 + 4) : RelP (xst u a f y) (fx_m_access_at84 v w nx 1 f m a) := by
  have hr := (q_irem a m L hm (by omega) (by omega)).2
  unfold xst fx_m_access_at84
  by_cases q : a - a / m * m = 0
  · rw [if_neg (fun z => hal.mp z q), if_pos q, if_neg (show ¬ (1 : Int32) = 0 by decide), if_neg (show ¬ (1 : Int32) = 0 by decide)]
    have q2 := hr.mp q
    have ht := m_there a m (by omega)
    by_cases t : fx_m_isThere a.toInt64 m = 0
    · rw [if_pos t]
      rw [ht] at t
      rw [if_pos ((x_ofMem a).mpr (by rcases hL with rfl | rfl | rfl <;> omega))]
      exact r_tell h 7 a
    · rw [if_neg t]
      rw [ht] at t
      obtain ⟨A, hA, ea⟩ := x_nI (a := a) (by omega)
      subst ea
      rw [nI_toInt (by omega)] at q2
      obtain ⟨g', e1, e2⟩ := hw A (by omega)
      rw [if_neg (x_notMem hA), x_setPc, qf_B, ← hy, e1, e, x_around u hA, x_below hA, x_setAt u hA]
      refine r_finish (r_mem h (RelM_store (L := L) (V := y) h.1 (by rcases hL with rfl | rfl | rfl <;> omega) e2 (fun p hp => ?_))) rfl (m4_add h.2.2.2.2 (by decide))
      exact q_merge _ _ _ (by rcases hL with rfl | rfl | rfl <;> omega) (by omega) hM hp
  · rw [if_pos (hal.mpr q), if_neg q, if_neg (show ¬ (1 : Int32) = 0 by decide)]
    exact r_tell h 6 a
theorem al_gen (a f m : Int32) (M : Int32) (j : Nat) (hM : ((1 : Int32) <<< ((f &&& 3) &&& 31)) - 1 = M) (hMj : M.toBitVec.toNat = 2 ^ j - 1) (hj : j ≤ 2) (hm : m.toInt = (2 ^ j : Nat)) : (fx_x_isAligned a f = 0) ↔ ¬ (a - a / m * m = 0) := by
  have hr := (q_irem a m ((2 ^ j : Nat) : Int) hm (by rcases (show j = 0 ∨ j = 1 ∨ j = 2 by omega) with rfl | rfl | rfl <;> decide) (by rcases (show j = 0 ∨ j = 1 ∨ j = 2 by omega) with rfl | rfl | rfl <;> decide)).2
  have h1 : (a &&& M = 0) ↔ a.toInt % ((2 ^ j : Nat) : Int) = 0 := by
    rw [pk_and a j hMj, show (0 : Int32) = nI 0 from rfl]
    have h := q_toInt a
    rcases (show j = 0 ∨ j = 1 ∨ j = 2 by omega) with rfl | rfl | rfl
    · rw [nI_eq (by omega) (by omega)]
      split at h <;> omega
    · rw [nI_eq (by omega) (by omega)]
      split at h <;> omega
    · rw [nI_eq (by omega) (by omega)]
      split at h <;> omega
  unfold fx_x_isAligned
  rw [hM, hr, ← h1]
  by_cases q : a &&& M = 0
  · rw [if_pos q]
    exact ⟨fun z => absurd z (by decide), fun z => absurd q z⟩
  · rw [if_neg q]
    exact ⟨fun _ => q, fun _ => rfl⟩
theorem q_i8 (y : Int32) : y.toInt8.toInt32.toBitVec.toNat = if y.toBitVec.toNat % 256 < 128 then y.toBitVec.toNat % 256 else y.toBitVec.toNat % 256 + 4294967040 := by
  have h1 : y.toInt8.toBitVec.toNat = y.toBitVec.toNat % 256 := by
    show (BitVec.signExtend 8 y.toBitVec).toNat = _
    rw [BitVec.toNat_signExtend, BitVec.toNat_setWidth]
    simp
  show (BitVec.signExtend 32 y.toInt8.toBitVec).toNat = _
  rw [BitVec.toNat_signExtend, BitVec.toNat_setWidth, BitVec.msb_eq_decide, h1]
  have h2 : y.toBitVec.toNat % 256 < 256 := Nat.mod_lt _ (by omega)
  generalize y.toBitVec.toNat % 256 = b at h2 ⊢
  by_cases q : b < 128
  · rw [if_pos q, if_neg (by simp; omega)]
    omega
  · rw [if_neg q, if_pos (by simp; omega)]
    omega
theorem q_i16 (y : Int32) : y.toInt16.toInt32.toBitVec.toNat = if y.toBitVec.toNat % 65536 < 32768 then y.toBitVec.toNat % 65536 else y.toBitVec.toNat % 65536 + 4294901760 := by
  have h1 : y.toInt16.toBitVec.toNat = y.toBitVec.toNat % 65536 := by
    show (BitVec.signExtend 16 y.toBitVec).toNat = _
    rw [BitVec.toNat_signExtend, BitVec.toNat_setWidth]
    simp
  show (BitVec.signExtend 32 y.toInt16.toBitVec).toNat = _
  rw [BitVec.toNat_signExtend, BitVec.toNat_setWidth, BitVec.msb_eq_decide, h1]
  have h2 : y.toBitVec.toNat % 65536 < 65536 := Nat.mod_lt _ (by omega)
  generalize y.toBitVec.toNat % 65536 = b at h2 ⊢
  by_cases q : b < 32768
  · rw [if_pos q, if_neg (by simp; omega)]
    omega
  · rw [if_neg q, if_pos (by simp; omega)]
    omega
theorem x_ush (X : Int32) {o : Nat} (ho : o < 4) : (jj_ushr X (nI (8 * o))).toBitVec.toNat = X.toBitVec.toNat / 2 ^ (8 * o) := pk_ushr X (nI (8 * o)) (8 * o) (s_u (8 * o) (by omega))
theorem qy_two (X : Int32) (o : Nat) : qy X o + 256 * qy X (o + 1) = X.toBitVec.toNat / 2 ^ (8 * o) % 65536 := by
  unfold qy
  rw [show 8 * (o + 1) = 8 * o + 8 by omega, Nat.pow_add, ← Nat.div_div_eq_div_mul]
  generalize X.toBitVec.toNat / 2 ^ (8 * o) = z
  omega
theorem ld0 {u v : XS} (h : Rel u v) {A : Nat} (hA : A < 4096) : fx_x_loaded 0 (jj_ushr (u.1 (A / 4)) (nI (8 * (A % 4)))) = if 2 ≤ (0 : Int32) then fx_m_read v (nI A) 1 else fx_m_signed (fx_m_read v (nI A) 1) (8 * 1) := by
  rw [if_neg (by decide), m_rd1 h.1 hA, show (8 : Int32) * 1 = 8 from by decide]
  unfold fx_x_loaded
  rw [if_pos rfl]
  apply q_inj
  rw [q_i8, x_ush _ (by omega), ms_8 (qy_lt _ _)]
  rfl
theorem ld1 {u v : XS} (h : Rel u v) {A : Nat} (hA : A < 4096) (h2 : A % 2 = 0) : fx_x_loaded 1 (jj_ushr (u.1 (A / 4)) (nI (8 * (A % 4)))) = if 2 ≤ (1 : Int32) then fx_m_read v (nI A) 2 else fx_m_signed (fx_m_read v (nI A) 2) (8 * 2) := by
  rw [if_neg (by decide), m_rd2 h.1 hA h2, show (8 : Int32) * 2 = 16 from by decide, qy_two]
  unfold fx_x_loaded
  rw [if_neg (by decide), if_pos rfl]
  apply q_inj
  rw [q_i16, x_ush _ (by omega), ms_16 (Nat.mod_lt _ (by omega))]
theorem ld2 {u v : XS} (h : Rel u v) {A : Nat} (hA : A < 4096) (h4 : A % 4 = 0) : fx_x_loaded 2 (jj_ushr (u.1 (A / 4)) (nI (8 * (A % 4)))) = if 2 ≤ (2 : Int32) then fx_m_read v (nI A) 4 else fx_m_signed (fx_m_read v (nI A) 4) (8 * 4) := by
  rw [if_pos (by decide), m_rd4 h.1 hA h4]
  unfold fx_x_loaded
  rw [if_neg (by decide), if_neg (by decide), if_pos rfl]
  apply q_inj
  rw [x_ush _ (by omega), h4, Nat.mul_zero, Nat.pow_zero, Nat.div_one]
theorem ld4 {u v : XS} (h : Rel u v) {A : Nat} (hA : A < 4096) : fx_x_loaded 4 (jj_ushr (u.1 (A / 4)) (nI (8 * (A % 4)))) = if 2 ≤ (4 : Int32) then fx_m_read v (nI A) 1 else fx_m_signed (fx_m_read v (nI A) 1) (8 * 1) := by
  rw [if_pos (by decide), m_rd1 h.1 hA]
  unfold fx_x_loaded
  rw [if_neg (by decide), if_neg (by decide), if_neg (by decide), if_neg (by decide), if_pos rfl]
  rw [show jj_ushr (u.1 (A / 4)) (nI (8 * (A % 4))) &&& 255 = nI ((jj_ushr (u.1 (A / 4)) (nI (8 * (A % 4)))).toBitVec.toNat % 2 ^ 8) from pk_and _ 8 (by decide), x_ush _ (by omega)]
  rfl
theorem ld5 {u v : XS} (h : Rel u v) {A : Nat} (hA : A < 4096) (h2 : A % 2 = 0) : fx_x_loaded 5 (jj_ushr (u.1 (A / 4)) (nI (8 * (A % 4)))) = if 2 ≤ (5 : Int32) then fx_m_read v (nI A) 2 else fx_m_signed (fx_m_read v (nI A) 2) (8 * 2) := by
  rw [if_pos (by decide), m_rd2 h.1 hA h2, qy_two]
  unfold fx_x_loaded
  rw [if_neg (by decide), if_neg (by decide), if_neg (by decide), if_neg (by decide), if_neg (by decide), if_pos rfl]
  rw [show jj_ushr (u.1 (A / 4)) (nI (8 * (A % 4))) &&& 65535 = nI ((jj_ushr (u.1 (A / 4)) (nI (8 * (A % 4)))).toBitVec.toNat % 2 ^ 16) from pk_and _ 16 (by decide), x_ush _ (by omega)]
theorem r_load {u v : XS} (h : Rel u v) (w nx : Int32) (hn : ¬ fx_x_isNamed w = 0) (ho : fx_x_fieldOp w = 3) (e : nx = u.2.2.1 + 4) : RelP (fx_x_load u w) (fx_m_access v w nx) := by
  unfold fx_m_access
  rw [xld_eq, qf_Op, if_neg (show ¬ fx_x_fieldOp w = 35 by rw [ho]; decide), qf_F, qf_A, qf_I, q_sumI, ← r_regA h w]
  generalize fx_x_register u (fx_x_fieldA w) + fx_x_numberI w = a
  rcases q_n3 hn ho with hf | hf | hf | hf | hf
  · rw [hf, if_pos (show (0 : Int32) - 0 / 4 * 4 = 0 by decide)]
    exact r_ldcore h w a 0 1 nx 1 rfl (by omega) (al_gen a 0 1 0 0 (by decide) (by decide) (by omega) rfl) (fun A hA _ => ld0 h hA) e
  · rw [hf, if_neg (show ¬ (1 : Int32) - 1 / 4 * 4 = 0 by decide), if_pos (show (1 : Int32) - 1 / 4 * 4 = 1 by decide)]
    exact r_ldcore h w a 1 2 nx 2 rfl (by omega) (al_gen a 1 2 1 1 (by decide) (by decide) (by omega) rfl) (fun A hA hz => ld1 h hA hz) e
  · rw [hf, if_neg (show ¬ (2 : Int32) - 2 / 4 * 4 = 0 by decide), if_neg (show ¬ (2 : Int32) - 2 / 4 * 4 = 1 by decide)]
    exact r_ldcore h w a 2 4 nx 4 rfl (by omega) (al_gen a 2 4 3 2 (by decide) (by decide) (by omega) rfl) (fun A hA hz => ld2 h hA hz) e
  · rw [hf, if_pos (show (4 : Int32) - 4 / 4 * 4 = 0 by decide)]
    exact r_ldcore h w a 4 1 nx 1 rfl (by omega) (al_gen a 4 1 0 0 (by decide) (by decide) (by omega) rfl) (fun A hA _ => ld4 h hA) e
  · rw [hf, if_neg (show ¬ (5 : Int32) - 5 / 4 * 4 = 0 by decide), if_pos (show (5 : Int32) - 5 / 4 * 4 = 1 by decide)]
    exact r_ldcore h w a 5 2 nx 2 rfl (by omega) (al_gen a 5 2 1 1 (by decide) (by decide) (by omega) rfl) (fun A hA hz => ld5 h hA hz) e
theorem r_store {u v : XS} (h : Rel u v) (w nx : Int32) (hn : ¬ fx_x_isNamed w = 0) (ho : fx_x_fieldOp w = 35) (e : nx = u.2.2.1 + 4) : RelP (fx_x_store u w) (fx_m_access v w nx) := by
  unfold fx_m_access
  have hy := r_regB h w
  rw [xst_eq, qf_Op, if_pos ho, qf_F, qf_A, qf_T, q_sumI, ← r_regA h w]
  generalize fx_x_register u (fx_x_fieldA w) + fx_x_numberT w = a
  generalize fx_x_register u (fx_x_fieldB w) = y at hy ⊢
  rcases q_n35 hn ho with hf | hf | hf
  · rw [hf, if_pos (show (0 : Int32) - 0 / 4 * 4 = 0 by decide)]
    exact r_stcore h w a 0 1 nx y 1 rfl (by omega) (al_gen a 0 1 0 0 (by decide) (by decide) (by omega) rfl) hy b_255 (fun A hA => ⟨_, m_wr1 v hA y, wr1_at _ _ _⟩) e
  · rw [hf, if_neg (show ¬ (1 : Int32) - 1 / 4 * 4 = 0 by decide), if_pos (show (1 : Int32) - 1 / 4 * 4 = 1 by decide)]
    exact r_stcore h w a 1 2 nx y 2 rfl (by omega) (al_gen a 1 2 1 1 (by decide) (by decide) (by omega) rfl) hy b_65535 (fun A hA => ⟨_, m_wr2 v hA y, wr2_at _ _ _⟩) e
  · rw [hf, if_neg (show ¬ (2 : Int32) - 2 / 4 * 4 = 0 by decide), if_neg (show ¬ (2 : Int32) - 2 / 4 * 4 = 1 by decide)]
    exact r_stcore h w a 2 4 nx y 4 rfl (by omega) (al_gen a 2 4 3 2 (by decide) (by decide) (by omega) rfl) hy q_bm1 (fun A hA => ⟨_, m_wr4 v hA y, wr4_at _ _ _⟩) e
theorem r_act {u v : XS} (h : Rel u v) (w : Int32) : RelP (fx_x_perform u w) (fx_m_act v w) := by
  unfold fx_x_perform fx_m_act
  rw [q_named, qf_Op, q_next, qf_D, qf_A, qf_B, ← r_regA h w, ← r_regB h w, ← r_pc h]
  by_cases hn : fx_x_isNamed w = 0
  · rw [if_pos hn, if_pos hn]
    exact r_tell h 2 w
  · rw [if_neg hn, if_neg hn]
    by_cases o3 : fx_x_fieldOp w = 3
    · rw [if_pos o3, if_neg (show ¬ fx_x_fieldOp w = 115 by rw [o3]; decide), if_neg (show ¬ fx_x_fieldOp w = 111 by rw [o3]; decide), if_neg (show ¬ fx_x_fieldOp w = 103 by rw [o3]; decide), if_neg (show ¬ fx_x_fieldOp w = 99 by rw [o3]; decide), if_pos o3]
      exact r_load h w _ hn o3 rfl
    by_cases o15 : fx_x_fieldOp w = 15
    · rw [if_neg (show ¬ fx_x_fieldOp w = 3 by rw [o15]; decide), if_pos o15, if_neg (show ¬ fx_x_fieldOp w = 115 by rw [o15]; decide), if_neg (show ¬ fx_x_fieldOp w = 111 by rw [o15]; decide), if_neg (show ¬ fx_x_fieldOp w = 103 by rw [o15]; decide), if_neg (show ¬ fx_x_fieldOp w = 99 by rw [o15]; decide), if_neg (show ¬ fx_x_fieldOp w = 3 by rw [o15]; decide), if_neg (show ¬ fx_x_fieldOp w = 35 by rw [o15]; decide), if_pos o15]
      exact r_finish h rfl (m4_add h.2.2.2.2 (by decide))
    by_cases o35 : fx_x_fieldOp w = 35
    · rw [if_neg (show ¬ fx_x_fieldOp w = 3 by rw [o35]; decide), if_neg (show ¬ fx_x_fieldOp w = 15 by rw [o35]; decide), if_pos o35, if_neg (show ¬ fx_x_fieldOp w = 115 by rw [o35]; decide), if_neg (show ¬ fx_x_fieldOp w = 111 by rw [o35]; decide), if_neg (show ¬ fx_x_fieldOp w = 103 by rw [o35]; decide), if_neg (show ¬ fx_x_fieldOp w = 99 by rw [o35]; decide), if_neg (show ¬ fx_x_fieldOp w = 3 by rw [o35]; decide), if_pos o35]
      exact r_store h w _ hn o35 rfl
    by_cases o99 : fx_x_fieldOp w = 99
    · rw [if_neg (show ¬ fx_x_fieldOp w = 3 by rw [o99]; decide), if_neg (show ¬ fx_x_fieldOp w = 15 by rw [o99]; decide), if_neg (show ¬ fx_x_fieldOp w = 35 by rw [o99]; decide), if_pos o99, if_neg (show ¬ fx_x_fieldOp w = 115 by rw [o99]; decide), if_neg (show ¬ fx_x_fieldOp w = 111 by rw [o99]; decide), if_neg (show ¬ fx_x_fieldOp w = 103 by rw [o99]; decide), if_pos o99]
      exact r_j99 h w _ hn o99 rfl
    by_cases o103 : fx_x_fieldOp w = 103
    · rw [if_neg (show ¬ fx_x_fieldOp w = 3 by rw [o103]; decide), if_neg (show ¬ fx_x_fieldOp w = 15 by rw [o103]; decide), if_neg (show ¬ fx_x_fieldOp w = 35 by rw [o103]; decide), if_neg (show ¬ fx_x_fieldOp w = 99 by rw [o103]; decide), if_pos o103, if_neg (show ¬ fx_x_fieldOp w = 115 by rw [o103]; decide), if_neg (show ¬ fx_x_fieldOp w = 111 by rw [o103]; decide), if_pos o103]
      exact r_j103 h w _ o103 rfl
    by_cases o111 : fx_x_fieldOp w = 111
    · rw [if_neg (show ¬ fx_x_fieldOp w = 3 by rw [o111]; decide), if_neg (show ¬ fx_x_fieldOp w = 15 by rw [o111]; decide), if_neg (show ¬ fx_x_fieldOp w = 35 by rw [o111]; decide), if_neg (show ¬ fx_x_fieldOp w = 99 by rw [o111]; decide), if_neg (show ¬ fx_x_fieldOp w = 103 by rw [o111]; decide), if_pos o111, if_neg (show ¬ fx_x_fieldOp w = 115 by rw [o111]; decide), if_pos o111]
      exact r_j111 h w _ o111 rfl
    by_cases o115 : fx_x_fieldOp w = 115
    · rw [if_neg (show ¬ fx_x_fieldOp w = 3 by rw [o115]; decide), if_neg (show ¬ fx_x_fieldOp w = 15 by rw [o115]; decide), if_neg (show ¬ fx_x_fieldOp w = 35 by rw [o115]; decide), if_neg (show ¬ fx_x_fieldOp w = 99 by rw [o115]; decide), if_neg (show ¬ fx_x_fieldOp w = 103 by rw [o115]; decide), if_neg (show ¬ fx_x_fieldOp w = 111 by rw [o115]; decide), if_pos o115, if_pos o115]
      exact r_tell h 100 w
    rw [if_neg o3, if_neg o15, if_neg o35, if_neg o99, if_neg o103, if_neg o111, if_neg o115, if_neg o115, if_neg o111, if_neg o103, if_neg o99, if_neg o3, if_neg o35, if_neg o15, q_puts v w _ _ _ hn (q_ops hn o3 o15 o35 o99 o103 o111 o115), r_setPc]
    exact r_finish (r_setD h w _) rfl (m4_add h.2.2.2.2 (by decide))
theorem r_step {u v : XS} (h : Rel u v) : RelP (fx_x_doStep u) (fx_m_step v) := by
  unfold fx_x_doStep fx_m_step
  have q4 := (q_and3 u.2.2.1).mp h.2.2.2.2
  rw [← r_pc h]
  by_cases t : fx_m_isThere u.2.2.1.toInt64 4 = 0
  · rw [if_pos t]
    rw [m_there _ 4 (by decide), show (4 : Int32).toInt = 4 from rfl] at t
    rw [if_pos ((x_ofMem _).mpr (by omega))]
    exact r_tell h 1 _
  · rw [if_neg t]
    rw [m_there _ 4 (by decide), show (4 : Int32).toInt = 4 from rfl] at t
    rw [if_neg (fun z => (x_ofMem _).mp z (by omega))]
    obtain ⟨A, hA, e⟩ := x_nI (a := u.2.2.1) (by omega)
    rw [e, nI_toInt (by omega)] at q4
    rw [e, x_around u hA, m_rd4 h.1 hA (by omega)]
    exact r_act h _
theorem r_runlp (n : Int32) : ∀ (k : Nat) {u v : XS} (i : Int32), Rel u v → i.toInt ≤ n.toInt → RelP (fx_x_run_lp15 k u n i) (fx_m_run_lp15 k v n i) := by
  intro k
  induction k with
  | zero => intro u v i h _; exact ⟨rfl, h⟩
  | succ k ih =>
    intro u v i h hi
    unfold fx_x_run_lp15 fx_m_run_lp15
    by_cases c : n ≤ i
    · rw [if_pos c, if_pos c]
      rw [q_le] at c
      exact ⟨Int32.toInt_inj.mp (show n.toInt = i.toInt by omega), h⟩
    · rw [if_neg c, if_neg c]
      have hs := r_step h
      rw [← hs.1]
      by_cases d : (fx_x_doStep u).1 = -1
      · rw [if_pos d, if_pos d]
        have e := jj_succ c
        rw [q_le] at c
        exact ih _ hs.2 (by rw [e]; omega)
      · rw [if_neg d, if_neg d]
        exact ⟨rfl, hs.2⟩
theorem r_run {u v : XS} (h : Rel u v) (n : Int32) : RelP (fx_x_run u n) (fx_m_run v n) := by
  unfold fx_x_run fx_m_run
  by_cases h0 : n < 0
  · rw [if_pos h0, if_pos h0]
    exact ⟨rfl, h⟩
  · rw [if_neg h0, if_neg h0]
    by_cases h1 : n ≤ 2000
    · rw [if_pos h1, if_pos h1]
      rw [q_ltI] at h0
      exact r_runlp n 2001 0 h (by omega)
    · rw [if_neg h1, if_neg h1]
      exact ⟨rfl, h⟩
theorem r_doWord {u v : XS} (h : Rel u v) (w : Int32) : RelP (fx_x_doWord u w) (fx_m_doWord v w) := r_act h w
theorem r_pstep {u v : XS} (h : Rel u v) : RelP (fx_x_step u) (fx_m_step v) := r_step h

