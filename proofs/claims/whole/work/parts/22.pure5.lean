/-! the two states agree, call by call -/
def Rel (u v : XS) : Prop := RelM u.1 v.1 ∧ (∀ j, j < 32 → u.2.1 j = v.2.1 j) ∧ u.2.1 0 = 0 ∧ u.2.2 = v.2.2 ∧ u.2.2.1 &&& 3 = 0
def RelP (p q : Int32 × XS) : Prop := p.1 = q.1 ∧ Rel p.2 q.2
theorem q_m4 (x : Int32) : (x &&& 3 = 0) ↔ x.toBitVec.toNat % 4 = 0 := by
  rw [show x &&& 3 = nI (x.toBitVec.toNat % 4) from pk_and x 2 (by decide), show (0 : Int32) = nI 0 from rfl, nI_eq (by omega) (by omega)]
theorem m4_add {x y : Int32} (hx : x &&& 3 = 0) (hy : y &&& 3 = 0) : (x + y) &&& 3 = 0 := by
  rw [q_m4] at *
  rw [q_add]
  omega
theorem q_next (x : Int32) : (x.toInt64 + 4).toInt32 = x + 4 := by
  rw [Int64.toInt32_add, Int32.toInt32_toInt64]
  rfl
theorem q_sumI (x y : Int32) : (x.toInt64 + y.toInt64).toInt32 = x + y := by
  rw [Int64.toInt32_add, Int32.toInt32_toInt64, Int32.toInt32_toInt64]
theorem q_dec (x : Int32) : (x.toInt64 - 1).toInt32 = x - 1 := by
  rw [Int64.toInt32_sub, Int32.toInt32_toInt64]
  rfl
theorem r_init : Rel xu_0 xu_0 := by
  refine ⟨fun j hj => ?_, fun _ _ => rfl, rfl, rfl, by decide⟩
  show (0 : Int32) = nI (qy 0 (j % 4))
  have h : qy 0 (j % 4) = 0 := by
    unfold qy
    rw [show (0 : Int32).toBitVec.toNat = 0 from rfl, Nat.zero_div]
  rw [h]
  rfl
theorem r_pc {u v : XS} (h : Rel u v) : u.2.2.1 = v.2.2.1 := by rw [h.2.2.2.1]
theorem r_tell {u v : XS} (h : Rel u v) (e x : Int32) : RelP (fx_x_tell u e x) (fx_m_fail v e x) := by
  obtain ⟨h1, h2, h3, h4, h5⟩ := h
  refine ⟨rfl, h1, h2, h3, ?_, h5⟩
  show (u.2.2.1, e, x, u.2.2.2.2.2) = (v.2.2.1, e, x, v.2.2.2.2.2)
  rw [h4]
theorem r_finish {u v : XS} (h : Rel u v) {n m : Int32} (e : n = m) (hn : n &&& 3 = 0) : RelP (fx_x_finish u n) (fx_m_finish v m) := by
  subst e
  obtain ⟨h1, h2, h3, h4, h5⟩ := h
  refine ⟨rfl, h1, h2, h3, ?_, hn⟩
  show (n, (-1 : Int32), (0 : Int32), u.2.2.2.2.2 + 1) = (n, (-1 : Int32), (0 : Int32), v.2.2.2.2.2 + 1)
  rw [h4]
theorem q_le32 {k : Nat} (h : k < 32) : ¬ (32 : Int32) ≤ nI k := by
  rw [show (32 : Int32) = nI 32 from rfl, nI_leI (by omega) (by omega)]
  omega
theorem r_reg {u v : XS} (h : Rel u v) {k : Nat} (hk : k < 32) : fx_x_register u (nI k) = v.2.1 (nI k).toNatClampNeg := by
  unfold fx_x_register
  rw [if_neg (nI_pos (by omega)), if_neg (q_le32 hk), nI_clamp (by omega), h.2.1 k hk]
theorem r_setR {u v : XS} (h : Rel u v) {k : Nat} (hk : k < 32) (x : Int32) : Rel (fx_x_setRegister u (nI k) x) (fx_m_set v (nI k) x) := by
  obtain ⟨h1, h2, h3, h4, h5⟩ := h
  unfold fx_x_setRegister fx_m_set
  by_cases h0 : k = 0
  · subst h0
    rw [if_pos (by decide), if_pos (show nI 0 = 0 from rfl)]
    refine ⟨h1, fun j hj => ?_, h3, h4, h5⟩
    show u.2.1 j = upd v.2.1 (0 : Int32).toNatClampNeg 0 j
    by_cases q : j = 0
    · subst q
      rw [h3, show (0 : Int32).toNatClampNeg = 0 from rfl, pk_us]
    · rw [show (0 : Int32).toNatClampNeg = 0 from rfl, pk_un q, h2 j hj]
  · rw [if_neg (nI_nle (by omega) (by omega)), if_neg (q_le32 hk), if_neg (nI_ne0 (by omega) (by omega)), nI_clamp (by omega)]
    refine ⟨h1, fun j hj => ?_, ?_, h4, h5⟩
    · show upd u.2.1 k x j = upd v.2.1 k x j
      by_cases q : j = k
      · subst q
        rw [pk_us, pk_us]
      · rw [pk_un q, pk_un q, h2 j hj]
    · show upd u.2.1 k x 0 = 0
      rw [pk_un (by omega), h3]
theorem r_setPc (u : XS) (n x : Int32) : (fx_x_setRegister u n x).2.2 = u.2.2 := by
  unfold fx_x_setRegister
  split
  · rfl
  · split <;> rfl
theorem q_fA (w : Int32) : ∃ k, k < 32 ∧ fx_x_fieldA w = nI k := by
  obtain ⟨n, hn, rfl⟩ := mb_of w
  exact ⟨_, Nat.mod_lt _ (by omega), qx_A hn⟩
theorem q_fD (w : Int32) : ∃ k, k < 32 ∧ fx_x_fieldD w = nI k := by
  obtain ⟨n, hn, rfl⟩ := mb_of w
  exact ⟨_, Nat.mod_lt _ (by omega), qx_D hn⟩
theorem q_fF (w : Int32) : ∃ k, k < 8 ∧ fx_x_fieldF w = nI k := by
  obtain ⟨n, hn, rfl⟩ := mb_of w
  exact ⟨_, Nat.mod_lt _ (by omega), qx_F hn⟩
theorem r_regA {u v : XS} (h : Rel u v) (w : Int32) : fx_x_register u (fx_x_fieldA w) = v.2.1 (fx_x_fieldA w).toNatClampNeg := by
  obtain ⟨k, hk, e⟩ := q_fA w
  rw [e]
  exact r_reg h hk
theorem r_regB {u v : XS} (h : Rel u v) (w : Int32) : fx_x_register u (fx_x_fieldB w) = v.2.1 (fx_x_fieldB w).toNatClampNeg := by
  obtain ⟨k, hk, e⟩ := q_sB w
  rw [e]
  exact r_reg h hk
theorem r_setD {u v : XS} (h : Rel u v) (w x : Int32) : Rel (fx_x_setRegister u (fx_x_fieldD w) x) (fx_m_set v (fx_x_fieldD w) x) := by
  obtain ⟨k, hk, e⟩ := q_fD w
  rw [e]
  exact r_setR h hk x
theorem r_put {u v : XS} (h : Rel u v) (n x : Int32) : RelP (fx_x_put u n x) (fx_m_put v n x) := by
  unfold fx_x_put fx_m_put
  by_cases h0 : n < 0
  · rw [if_pos h0]
    unfold fx_x_register fx_x_setRegister
    rw [if_pos h0, if_pos (by rw [q_ltI] at h0; rw [q_le]; omega)]
    exact ⟨rfl, h⟩
  · rw [if_neg h0]
    by_cases h1 : n ≤ 31
    · rw [if_pos h1]
      obtain ⟨k, hk, e⟩ := nI_of2 (M := 31) (n := 31) rfl h0 h1
      rw [e]
      exact ⟨r_reg h (by omega), r_setR h (by omega) x⟩
    · rw [if_neg h1]
      have h2 : (32 : Int32) ≤ n := by
        rw [q_le] at h1 ⊢
        rw [show (32 : Int32).toInt = 32 from rfl]
        rw [show (31 : Int32).toInt = 31 from rfl] at h1
        omega
      unfold fx_x_register fx_x_setRegister
      rw [if_neg h0, if_pos h2]
      split
      · exact ⟨rfl, h⟩
      · exact ⟨rfl, h⟩
theorem r_get {u v : XS} (h : Rel u v) (n : Int32) : fx_x_get u n = fx_m_get v n := by
  unfold fx_x_get fx_m_get
  by_cases h0 : n < 0
  · rw [if_pos h0]
    unfold fx_x_register
    rw [if_pos h0]
  · rw [if_neg h0]
    by_cases h1 : n ≤ 31
    · rw [if_pos h1]
      obtain ⟨k, hk, e⟩ := nI_of2 (M := 31) (n := 31) rfl h0 h1
      rw [e]
      exact r_reg h (by omega)
    · rw [if_neg h1]
      have h2 : (32 : Int32) ≤ n := by
        rw [q_le] at h1 ⊢
        rw [show (32 : Int32).toInt = 32 from rfl]
        rw [show (31 : Int32).toInt = 31 from rfl] at h1
        omega
      unfold fx_x_register
      rw [if_neg h0, if_pos h2]
theorem r_go {u v : XS} (h : Rel u v) (n : Int32) : RelP (fx_x_go u n) (fx_m_go v n) := by
  unfold fx_x_go fx_m_go
  by_cases q : n &&& 3 = 0
  · rw [if_neg (fun z => (q_mult4 n).mp z q), if_pos ((q_rem4 n).mpr q)]
    obtain ⟨h1, h2, h3, h4, h5⟩ := h
    refine ⟨rfl, h1, h2, h3, ?_, q⟩
    show (n, u.2.2.2) = (n, v.2.2.2)
    rw [h4]
  · rw [if_pos ((q_mult4 n).mpr q), if_neg (fun z => q ((q_rem4 n).mp z))]
    exact ⟨rfl, h⟩
theorem r_told {u v : XS} (h : Rel u v) (k : Int32) : fx_x_told u k = fx_m_told v k := by
  unfold fx_x_told fx_m_told
  rw [h.2.2.2.1]
theorem r_field (u v : XS) (w k : Int32) : fx_x_field u w k = fx_m_field v w k := by
  unfold fx_x_field fx_m_field
  rw [← mu_fd7 v w, ← mu_fd8 v w, ← mu_fd10 v w, ← mu_fd9 v w, ← mu_fd6 v w, ← mu_fd0 v w, ← mu_fd1 v w, ← mu_fd2 v w, ← mu_fd3 v w, ← mu_fd4 v w, ← mu_fd5 v w]
  rw [qf_Op, qf_D, qf_F, qf_A, qf_B, qf_G, qf_I, qf_T, qf_BB, qf_H, qf_J, q_named]
theorem r_reckon (u v : XS) (w a b : Int32) : fx_x_reckon u w a b = fx_m_reckon v w a b := by
  unfold fx_x_reckon fx_m_reckon
  rw [q_named, qf_Op]
  by_cases h : fx_x_isNamed w = 0
  · rw [if_pos h, if_pos h]
  · rw [if_neg h, if_neg h]
    unfold fx_m_isArithmetic
    by_cases h1 : fx_x_fieldOp w = 19
    · rw [if_pos h1, if_neg (by decide), q_puts v w a b 0 h (Or.inl h1)]
    · by_cases h2 : fx_x_fieldOp w = 51
      · rw [if_neg h1, if_pos h2, if_neg (by decide), q_puts v w a b 0 h (Or.inr (Or.inr (Or.inl h2)))]
      · by_cases h3 : fx_x_fieldOp w = 23
        · rw [if_neg h1, if_neg h2, if_pos h3, if_neg (by decide), q_puts v w a b 0 h (Or.inr (Or.inl h3))]
        · by_cases h4 : fx_x_fieldOp w = 55
          · rw [if_neg h1, if_neg h2, if_neg h3, if_pos h4, if_neg (by decide), q_puts v w a b 0 h (Or.inr (Or.inr (Or.inr h4)))]
          · rw [if_neg h1, if_neg h2, if_neg h3, if_neg h4, if_pos rfl]
            unfold fx_x_result
            rw [if_neg h1, if_neg h3, if_neg h2, if_neg h4]
theorem x_ofMem (a : Int32) : (fx_x_isOfMemory a = 0) ↔ ¬ (0 ≤ a.toInt ∧ a.toInt < 4096) := by
  unfold fx_x_isOfMemory
  by_cases h0 : a < 0
  · rw [if_pos h0]
    rw [q_ltI, show (0 : Int32).toInt = 0 from rfl] at h0
    exact ⟨fun _ => by omega, fun _ => rfl⟩
  · rw [if_neg h0]
    rw [q_ltI, show (0 : Int32).toInt = 0 from rfl] at h0
    by_cases h1 : (4096 : Int32) ≤ a
    · rw [if_pos h1]
      rw [q_le, show (4096 : Int32).toInt = 4096 from rfl] at h1
      exact ⟨fun _ => by omega, fun _ => rfl⟩
    · rw [if_neg h1]
      rw [q_le, show (4096 : Int32).toInt = 4096 from rfl] at h1
      exact ⟨fun z => absurd z (by decide), fun z => absurd (by omega) z⟩
theorem m_there (a k : Int32) (hk : 0 ≤ k.toInt ∧ k.toInt ≤ 20) : (fx_m_isThere a.toInt64 k = 0) ↔ ¬ (0 ≤ a.toInt ∧ a.toInt + k.toInt ≤ 4096) := by
  have ra := jj_rng a
  have e0 : (0 : Int64).toInt = 0 := rfl
  have e1 : (4096 : Int64).toInt = 4096 := rfl
  unfold fx_m_isThere
  by_cases h0 : lg_cmp a.toInt64 0 < 0
  · rw [if_pos h0]
    rw [lg_cmp_lt, Int64.lt_iff_toInt_lt, Int32.toInt_toInt64] at h0
    exact ⟨fun _ => by omega, fun _ => rfl⟩
  · rw [if_neg h0]
    rw [lg_cmp_lt, Int64.lt_iff_toInt_lt, Int32.toInt_toInt64] at h0
    by_cases h1 : 0 < lg_cmp (a.toInt64 + k.toInt64) 4096
    · rw [if_pos h1]
      rw [lg_cmp_gt, Int64.lt_iff_toInt_lt, Int64.toInt_add, Int32.toInt_toInt64, Int32.toInt_toInt64, jj_bmod64 (by omega) (by omega)] at h1
      exact ⟨fun _ => by omega, fun _ => rfl⟩
    · rw [if_neg h1]
      rw [lg_cmp_gt, Int64.lt_iff_toInt_lt, Int64.toInt_add, Int32.toInt_toInt64, Int32.toInt_toInt64, jj_bmod64 (by omega) (by omega)] at h1
      exact ⟨fun z => absurd z (by decide), fun z => absurd (by omega) z⟩
theorem x_nI {a : Int32} (h : 0 ≤ a.toInt ∧ a.toInt < 4096) : ∃ A : Nat, A < 4096 ∧ a = nI A := by
  refine ⟨a.toInt.toNat, by omega, ?_⟩
  apply Int32.toInt_inj.mp
  rw [nI_toInt (by omega)]
  omega
theorem x_notMem {A : Nat} (h : A < 4096) : ¬ fx_x_isOfMemory (nI A) = 0 := by
  rw [x_ofMem, nI_toInt (by omega)]
  omega
theorem x_around (u : XS) {A : Nat} (h : A < 4096) : fx_x_wordAround u (nI A) = u.1 (A / 4) := by
  unfold fx_x_wordAround
  rw [if_neg (x_notMem h), jj_ushrN (by omega) 2 2 (by decide), nI_clamp (by omega)]
theorem x_setAt (u : XS) {A : Nat} (h : A < 4096) (x : Int32) : fx_x_setWordAt u (nI A) x = xu_m u (upd u.1 (A / 4) x) := by
  unfold fx_x_setWordAt
  rw [if_neg (x_notMem h), jj_ushrN (by omega) 2 2 (by decide), nI_clamp (by omega)]
theorem r_mem {u v : XS} (h : Rel u v) {f g : Nat → Int32} (hf : RelM f g) : Rel (xu_m u f) (xu_m v g) := ⟨hf, h.2.1, h.2.2.1, h.2.2.2.1, h.2.2.2.2⟩
theorem r_setW {u v : XS} (h : Rel u v) {A : Nat} (hA : A < 4096) (h4 : A % 4 = 0) (x : Int32) : Rel (fx_x_setWordAt u (nI A) x) (fx_m_write v (nI A) 4 x) := by
  rw [x_setAt u hA, m_wr4 v (by omega)]
  refine r_mem h (RelM_store (L := 4) (V := x) h.1 (by omega) (wr4_at _ _ _) (fun p hp => ?_))
  rw [if_pos (by omega), h4, Nat.sub_zero]
theorem r_word {u v : XS} (h : Rel u v) (a : Int32) : fx_x_word u a = fx_m_word v a := by
  unfold fx_x_word fx_m_word
  by_cases q : a &&& 3 = 0
  · rw [if_neg (fun z => (q_mult4 a).mp z q), if_pos ((q_rem4 a).mpr q)]
    have q4 := (q_and3 a).mp q
    by_cases t : fx_m_isThere a.toInt64 4 = 0
    · rw [if_pos t]
      rw [m_there a 4 (by decide), show (4 : Int32).toInt = 4 from rfl] at t
      unfold fx_x_wordAround
      rw [if_pos ((x_ofMem a).mpr (by omega))]
    · rw [if_neg t]
      rw [m_there a 4 (by decide), show (4 : Int32).toInt = 4 from rfl] at t
      obtain ⟨A, hA, e⟩ := x_nI (a := a) (by omega)
      rw [e, nI_toInt (by omega)] at q4
      rw [e, x_around u hA, m_rd4 h.1 hA (by omega)]
  · rw [if_pos ((q_mult4 a).mpr q), if_neg (fun z => q ((q_rem4 a).mp z))]
theorem r_poke {u v : XS} (h : Rel u v) (a x1 x2 x3 x4 x5 : Int32) : RelP (fx_x_poke u a x1 x2 x3 x4 x5) (fx_m_poke v a x1 x2 x3 x4 x5) := by
  unfold fx_x_poke fx_m_poke
  by_cases q : a &&& 3 = 0
  · rw [if_neg (fun z => (q_mult4 a).mp z q), if_pos ((q_rem4 a).mpr q)]
    have q4 := (q_and3 a).mp q
    by_cases t : fx_m_isThere a.toInt64 20 = 0
    · rw [if_pos t]
      rw [m_there a 20 (by decide), show (20 : Int32).toInt = 20 from rfl] at t
      by_cases h0 : a < 0
      · rw [if_pos h0]
        exact ⟨rfl, h⟩
      · rw [if_neg h0, if_neg (by rw [q_ltI, show (0 : Int32).toInt = 0 from rfl] at h0; rw [q_le, show (4076 : Int32).toInt = 4076 from rfl]; omega)]
        exact ⟨rfl, h⟩
    · rw [if_neg t]
      rw [m_there a 20 (by decide), show (20 : Int32).toInt = 20 from rfl] at t
      obtain ⟨A, hA, e⟩ := x_nI (a := a) (by omega)
      rw [e, nI_toInt (by omega)] at q4 t
      rw [if_neg (by rw [e, q_ltI, nI_toInt (by omega), show (0 : Int32).toInt = 0 from rfl]; omega), if_pos (by rw [e, q_le, nI_toInt (by omega), show (4076 : Int32).toInt = 4076 from rfl]; omega)]
      rw [e, show (4 : Int32) = nI 4 from rfl, show (8 : Int32) = nI 8 from rfl, show (12 : Int32) = nI 12 from rfl, show (16 : Int32) = nI 16 from rfl, nI_add, nI_add, nI_add, nI_add]
      exact ⟨rfl, r_setW (r_setW (r_setW (r_setW (r_setW h (by omega) (by omega) x1) (by omega) (by omega) x2) (by omega) (by omega) x3) (by omega) (by omega) x4) (by omega) (by omega) x5⟩
  · rw [if_pos ((q_mult4 a).mpr q), if_neg (fun z => q ((q_rem4 a).mp z))]
    exact ⟨rfl, h⟩

