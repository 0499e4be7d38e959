/-! the reference's bits in closed form; what is there -/
theorem mt_there {a k : Int32} (h : ¬ fx_m_isThere a.toInt64 k = 0) : 0 ≤ a.toInt ∧ a.toInt + k.toInt ≤ 4096 := by
  unfold fx_m_isThere at h
  split at h
  · exact absurd rfl h
  · rename_i h1
    split at h
    · exact absurd rfl h
    · rename_i h2
      have ra := jj_rng a
      have rk := jj_rng k
      rw [lg_cmp_lt, Int64.lt_iff_toInt_lt, Int32.toInt_toInt64] at h1
      rw [lg_cmp_gt, Int64.lt_iff_toInt_lt, Int64.toInt_add, Int32.toInt_toInt64, Int32.toInt_toInt64, jj_bmod64 (by omega) (by omega)] at h2
      have e0 : (0 : Int64).toInt = 0 := rfl
      have e1 : (4096 : Int64).toInt = 4096 := rfl
      omega
theorem mt_ok {a k : Int32} (hk : 0 ≤ k.toInt ∧ k.toInt ≤ 4) (h : ¬ fx_m_isThere a.toInt64 k = 0) : 0 ≤ a.toInt ∧ 0 ≤ k.toInt ∧ k.toInt ≤ 4 ∧ a.toInt + k.toInt ≤ 4096 := ⟨(mt_there h).1, hk.1, hk.2, (mt_there h).2⟩
theorem mp_w0 {a : Int32} (h : ¬ fx_m_isThere a.toInt64 20 = 0) : 0 ≤ a.toInt ∧ 0 ≤ (4 : Int32).toInt ∧ (4 : Int32).toInt ≤ 4 ∧ a.toInt + (4 : Int32).toInt ≤ 4096 := by
  have h1 := mt_there h
  have e1 : (4 : Int32).toInt = 4 := rfl
  have e2 : (20 : Int32).toInt = 20 := rfl
  omega
theorem mp_w {a k : Int32} (hk : 0 ≤ k.toInt ∧ k.toInt ≤ 16) (h : ¬ fx_m_isThere a.toInt64 20 = 0) : 0 ≤ (a + k).toInt ∧ 0 ≤ (4 : Int32).toInt ∧ (4 : Int32).toInt ≤ 4 ∧ (a + k).toInt + (4 : Int32).toInt ≤ 4096 := by
  have h1 := mt_there h
  have e1 : (4 : Int32).toInt = 4 := rfl
  have e2 : (20 : Int32).toInt = 20 := rfl
  rw [jj_add (by omega) (by omega)]
  omega
theorem mb_lpB (a0 a2 : Int32) (x hi : Nat) (hx : x < 2 ^ 32) (hh : hi ≤ 31) : ∀ (k i j : Nat), i ≤ hi + 1 → j + (hi + 1 - i) ≤ 32 → hi + 1 < i + k → fx_m_bits_lp34 k (lN x) a0 (nI hi) a2 (lN (2 ^ j)) (nI i) = nI (x % 2 ^ (j + (hi + 1 - i))) := by
  intro k
  induction k with
  | zero => intro i j h1 h2 h3; omega
  | succ k ih =>
    intro i j h1 h2 h3
    unfold fx_m_bits_lp34
    by_cases h : hi < i
    · rw [if_pos ((nI_ltI (by omega) (by omega)).mpr h)]
      rw [pk_lRem (by omega) (mb_pow (by omega)).1 (mb_pow (by omega)).2, lN_i, show hi + 1 - i = 0 by omega, Nat.add_zero]
    · rw [if_neg (fun q => h ((nI_ltI (by omega) (by omega)).mp q))]
      rw [show (2 : Int64) = lN 2 from rfl, lN_mul, ← Nat.pow_succ, nI_1, ih (i + 1) (j + 1) (by omega) (by omega) (by omega)]
      rw [show j + 1 + (hi + 1 - (i + 1)) = j + (hi + 1 - i) by omega]
theorem mb_lpA (a0 a1 : Int32) (lo : Nat) (hlo : lo ≤ 31) : ∀ (k i x : Nat), x < 2 ^ 32 → i ≤ lo → lo < i + k → fx_m_bits_lp10 k a0 a1 (nI lo) (lN x) (nI i) = fx_m_bits_lp34 ((a1.toInt - (nI lo).toInt).toNat + 2) (lN (x / 2 ^ (lo - i))) a0 a1 (nI lo) 1 (nI lo) := by
  intro k
  induction k with
  | zero => intro i x h0 h1 h2; omega
  | succ k ih =>
    intro i x h0 h1 h2
    unfold fx_m_bits_lp10
    by_cases h : lo ≤ i
    · rw [if_pos ((nI_leI (by omega) (by omega)).mpr h), show lo - i = 0 by omega, Nat.pow_zero, Nat.div_one]
    · rw [if_neg (fun q => h ((nI_leI (by omega) (by omega)).mp q))]
      rw [show (2 : Int64) = lN 2 from rfl, pk_lDiv (by omega) (by omega) (by omega), nI_1, ih (i + 1) (x / 2) (by omega) (by omega) (by omega), Nat.div_div_eq_div_mul]
      rw [show 2 * 2 ^ (lo - (i + 1)) = 2 ^ (lo - i) by rw [show lo - i = (lo - (i + 1)) + 1 by omega, Nat.pow_succ]; omega]
theorem mb_low {n : Nat} (h : n < 2 ^ 32) : (nI n).toInt64 &&& 4294967295 = lN n := by
  apply Int64.toBitVec_inj.mp
  apply BitVec.eq_of_toNat_eq
  rw [Int64.toBitVec_and, BitVec.toNat_and]
  have e : (4294967295 : Int64).toBitVec.toNat = 2 ^ 32 - 1 := rfl
  rw [e, Nat.and_two_pow_sub_one_eq_mod]
  have e2 : (lN n).toBitVec.toNat = n := by
    show (BitVec.ofNat 64 n).toNat = n
    rw [BitVec.toNat_ofNat]
    exact Nat.mod_eq_of_lt (by omega)
  have e3 : (nI n).toBitVec.toNat = n := pk_tn h
  rw [e2]
  show (BitVec.signExtend 64 (nI n).toBitVec).toNat % 2 ^ 32 = n
  rw [BitVec.toNat_signExtend, BitVec.toNat_setWidth, e3]
  split <;> omega
theorem mb_bits {n hi lo : Nat} (hn : n < 2 ^ 32) (hh : hi ≤ 31) (hl : lo ≤ hi) : fx_m_bits (nI n) (nI hi) (nI lo) = nI (n / 2 ^ lo % 2 ^ (hi + 1 - lo)) := by
  unfold fx_m_bits
  have t1 : (nI hi).toInt = hi := nI_toInt (by omega)
  have t2 : (nI lo).toInt = lo := nI_toInt (by omega)
  rw [mb_low hn, show (0 : Int32) = nI 0 from rfl, mb_lpA _ _ lo (by omega) _ 0 n hn (by omega) (by rw [t2]; omega)]
  rw [show (1 : Int64) = lN (2 ^ 0) from rfl, mb_lpB _ _ _ hi (Nat.lt_of_le_of_lt (Nat.div_le_self _ _) hn) hh _ lo 0 (by omega) (by omega) (by rw [t1, t2]; omega)]
  rw [Nat.zero_add, Nat.sub_zero]
theorem mb_of (x : Int32) : ∃ n : Nat, n < 2 ^ 32 ∧ x = nI n := ⟨x.toBitVec.toNat, x.toBitVec.isLt, by
  apply Int32.toBitVec_inj.mp
  apply BitVec.eq_of_toNat_eq
  exact (pk_tn x.toBitVec.isLt).symm⟩
theorem mu_bIn (w : Int32) {hi lo N : Nat} (hh : hi ≤ 31) (hl : lo ≤ hi) (hN : 2 ^ (hi + 1 - lo) = N) (hN2 : N < 2 ^ 31) : vp_in (fx_m_bits w (nI hi) (nI lo)) N := by
  obtain ⟨n, hn, rfl⟩ := mb_of w
  rw [mb_bits hn hh hl]
  exact vp_in_nI (by rw [← hN]; exact Nat.mod_lt _ (Nat.two_pow_pos _)) hN2

def fx_m_field0 (u : XS) (a0 : Int32) (a1 : Int32) : Int32 := (if a1 = (0 : Int32) then (fx_m_bits a0 (6 : Int32) (0 : Int32)) else (if a1 = (1 : Int32) then (fx_m_bits a0 (11 : Int32) (7 : Int32)) else (if a1 = (2 : Int32) then (fx_m_bits a0 (14 : Int32) (12 : Int32)) else (if a1 = (3 : Int32) then (fx_m_bits a0 (19 : Int32) (15 : Int32)) else (if a1 = (4 : Int32) then (fx_m_bits a0 (24 : Int32) (20 : Int32)) else (if a1 = (5 : Int32) then (fx_m_bits a0 (31 : Int32) (25 : Int32)) else (if a1 = (6 : Int32) then (fx_m_signed (fx_m_bits a0 (31 : Int32) (20 : Int32)) (12 : Int32)) else (if a1 = (7 : Int32) then (fx_m_signed (((32 : Int32) * (fx_m_bits a0 (31 : Int32) (25 : Int32))) + (fx_m_bits a0 (11 : Int32) (7 : Int32))) (12 : Int32)) else (if a1 = (8 : Int32) then (fx_m_signed (((((4096 : Int32) * (fx_m_bits a0 (31 : Int32) (31 : Int32))) + ((2048 : Int32) * (fx_m_bits a0 (7 : Int32) (7 : Int32)))) + ((32 : Int32) * (fx_m_bits a0 (30 : Int32) (25 : Int32)))) + ((2 : Int32) * (fx_m_bits a0 (11 : Int32) (8 : Int32)))) (13 : Int32)) else (if a1 = (9 : Int32) then (a0 - (fx_m_bits a0 (11 : Int32) (0 : Int32))) else (if a1 = (10 : Int32) then (fx_m_signed (((((1048576 : Int32) * (fx_m_bits a0 (31 : Int32) (31 : Int32))) + ((4096 : Int32) * (fx_m_bits a0 (19 : Int32) (12 : Int32)))) + ((2048 : Int32) * (fx_m_bits a0 (20 : Int32) (20 : Int32)))) + ((2 : Int32) * (fx_m_bits a0 (30 : Int32) (21 : Int32)))) (21 : Int32)) else (0 : Int32))))))))))))
set_option maxHeartbeats 4000000 in
set_option maxRecDepth 100000 in
theorem ct_m_field0 (l : Launch) (dC : Nat → ClassId) (dI : Nat → Nat → Nat) (a : XA) (u : XS) (a0 : Int32) (a1 : Int32) (h0 : ¬ a1 = 11) : Met l yX1_field wsX1_field ({ frames := 1, cells := 0, slots := 0, locals := 27 }) (va_Pc [.ref a.1, .int a0, .int a1] (fun U => va_P (dC, dI) vwCl (mu_w a u) U.heap ∧ va_K (dC, dI) vwCl (xu_t a) U)) (vp_Si (fun r => r = fx_m_field0 u a0 a1)) 0 0 (fun _ => False) := by
  refine Met.ofW (cc := cX1_field) (maxL := 3) (ret := (some .int)) (by decide) rfl ?_
  intro p e s m args below meth c s₁ B hml hv
  obtain ⟨rfl, hP, hK⟩ := hv
  have hx := B.exec
  have hb := B.bytes
  have hr := B.returns
  have htb : ∀ w ∈ lw_g, w.before ([.ref a.1, .int a0, .int a1] : List Value).toArray s = true := fun w h => atoms_spec (ws := wsX1_field) B.pre w (List.mem_cons_of_mem _ h)
  have hown : s.vm.findClass RX1 = some m.cls := findClass_of_methodNamed B.named
  have hlocks := B.notSynchronized
  have hl := lv_entry ([.ref a.1, .int a0, .int a1]) (n := 3) (Nat.le_of_ble_eq_true rfl)
  rw [lg_entry_eq]
  generalize (lg_sl ([.ref a.1, .int a0, .int a1]) ++ List.replicate (3 - (lg_sl ([.ref a.1, .int a0, .int a1])).length) Slot.unset).toArray = ls at hl ⊢
  have hl : lv_has ls 3 [(0, .ref a.1), (1, .int a0), (2, .int a1)] := hl
  refine lv_iload_n hx hb dX1_field_0 rfl (lv_at hl 2 rfl) ?_
  by_cases c1 : a1 = (0 : Int32)
  · refine lv_tableIn (x := a1) (off := 63) (tgt := 64) hx hb dX1_field_1 (by rw [c1]; decide) (by rw [c1]; decide) (by rw [c1]; decide) (by decide) ?_
    refine lv_iload_n hx hb dX1_field_64 rfl (lv_at hl 1 rfl) ?_
    refine lv_bipush (v := (6 : Int32)) hx hb dX1_field_65 (by decide) ?_
    refine lv_iconst (v := (0 : Int32)) hx hb dX1_field_67 (by decide) ?_
    refine vp_callSi (W.runS (As := [.int a0, .int (6 : Int32), .int (0 : Int32)]) (rest := []) ⟨hx, hb, hml, hown, htb⟩ (ct_m_bits l a0 (6 : Int32) (0 : Int32) (by decide)) (va_cwS 3 htb gw_X1_27 rfl rfl rfl (by decide +kernel) ⟨Nat.le_of_ble_eq_true rfl, Nat.le_of_ble_eq_true rfl⟩) jj_pre rfl rfl hl.1 rfl (lv_room (Nat.le_of_ble_eq_true rfl)) dX1_field_68 ⟨Nat.le_of_ble_eq_true rfl, Nat.le_of_ble_eq_true rfl⟩) (fun r9 e9 => ?_)
    subst e9
    exact W.iret (v := (fx_m_bits a0 (6 : Int32) (0 : Int32))) hx hb hr (fun t ht hW => ⟨_, rfl, (by unfold fx_m_field0; rw [if_pos c1]), ht⟩) (fun q h => by cases h) dX1_field_71
  by_cases c2 : a1 = (1 : Int32)
  · refine lv_tableIn (x := a1) (off := 71) (tgt := 72) hx hb dX1_field_1 (by rw [c2]; decide) (by rw [c2]; decide) (by rw [c2]; decide) (by decide) ?_
    refine lv_iload_n hx hb dX1_field_72 rfl (lv_at hl 1 rfl) ?_
    refine lv_bipush (v := (11 : Int32)) hx hb dX1_field_73 (by decide) ?_
    refine lv_bipush (v := (7 : Int32)) hx hb dX1_field_75 (by decide) ?_
    refine vp_callSi (W.runS (As := [.int a0, .int (11 : Int32), .int (7 : Int32)]) (rest := []) ⟨hx, hb, hml, hown, htb⟩ (ct_m_bits l a0 (11 : Int32) (7 : Int32) (by decide)) (va_cwS 3 htb gw_X1_27 rfl rfl rfl (by decide +kernel) ⟨Nat.le_of_ble_eq_true rfl, Nat.le_of_ble_eq_true rfl⟩) jj_pre rfl rfl hl.1 rfl (lv_room (Nat.le_of_ble_eq_true rfl)) dX1_field_77 ⟨Nat.le_of_ble_eq_true rfl, Nat.le_of_ble_eq_true rfl⟩) (fun r9 e9 => ?_)
    subst e9
    exact W.iret (v := (fx_m_bits a0 (11 : Int32) (7 : Int32))) hx hb hr (fun t ht hW => ⟨_, rfl, (by unfold fx_m_field0; rw [if_neg c1, if_pos c2]), ht⟩) (fun q h => by cases h) dX1_field_80
  by_cases c3 : a1 = (2 : Int32)
  · refine lv_tableIn (x := a1) (off := 80) (tgt := 81) hx hb dX1_field_1 (by rw [c3]; decide) (by rw [c3]; decide) (by rw [c3]; decide) (by decide) ?_
    refine lv_iload_n hx hb dX1_field_81 rfl (lv_at hl 1 rfl) ?_
    refine lv_bipush (v := (14 : Int32)) hx hb dX1_field_82 (by decide) ?_
    refine lv_bipush (v := (12 : Int32)) hx hb dX1_field_84 (by decide) ?_
    refine vp_callSi (W.runS (As := [.int a0, .int (14 : Int32), .int (12 : Int32)]) (rest := []) ⟨hx, hb, hml, hown, htb⟩ (ct_m_bits l a0 (14 : Int32) (12 : Int32) (by decide)) (va_cwS 3 htb gw_X1_27 rfl rfl rfl (by decide +kernel) ⟨Nat.le_of_ble_eq_true rfl, Nat.le_of_ble_eq_true rfl⟩) jj_pre rfl rfl hl.1 rfl (lv_room (Nat.le_of_ble_eq_true rfl)) dX1_field_86 ⟨Nat.le_of_ble_eq_true rfl, Nat.le_of_ble_eq_true rfl⟩) (fun r9 e9 => ?_)
    subst e9
    exact W.iret (v := (fx_m_bits a0 (14 : Int32) (12 : Int32))) hx hb hr (fun t ht hW => ⟨_, rfl, (by unfold fx_m_field0; rw [if_neg c1, if_neg c2, if_pos c3]), ht⟩) (fun q h => by cases h) dX1_field_89
  by_cases c4 : a1 = (3 : Int32)
  · refine lv_tableIn (x := a1) (off := 89) (tgt := 90) hx hb dX1_field_1 (by rw [c4]; decide) (by rw [c4]; decide) (by rw [c4]; decide) (by decide) ?_
    refine lv_iload_n hx hb dX1_field_90 rfl (lv_at hl 1 rfl) ?_
    refine lv_bipush (v := (19 : Int32)) hx hb dX1_field_91 (by decide) ?_
    refine lv_bipush (v := (15 : Int32)) hx hb dX1_field_93 (by decide) ?_
    refine vp_callSi (W.runS (As := [.int a0, .int (19 : Int32), .int (15 : Int32)]) (rest := []) ⟨hx, hb, hml, hown, htb⟩ (ct_m_bits l a0 (19 : Int32) (15 : Int32) (by decide)) (va_cwS 3 htb gw_X1_27 rfl rfl rfl (by decide +kernel) ⟨Nat.le_of_ble_eq_true rfl, Nat.le_of_ble_eq_true rfl⟩) jj_pre rfl rfl hl.1 rfl (lv_room (Nat.le_of_ble_eq_true rfl)) dX1_field_95 ⟨Nat.le_of_ble_eq_true rfl, Nat.le_of_ble_eq_true rfl⟩) (fun r9 e9 => ?_)
    subst e9
    exact W.iret (v := (fx_m_bits a0 (19 : Int32) (15 : Int32))) hx hb hr (fun t ht hW => ⟨_, rfl, (by unfold fx_m_field0; rw [if_neg c1, if_neg c2, if_neg c3, if_pos c4]), ht⟩) (fun q h => by cases h) dX1_field_98
  by_cases c5 : a1 = (4 : Int32)
  · refine lv_tableIn (x := a1) (off := 98) (tgt := 99) hx hb dX1_field_1 (by rw [c5]; decide) (by rw [c5]; decide) (by rw [c5]; decide) (by decide) ?_
    refine lv_iload_n hx hb dX1_field_99 rfl (lv_at hl 1 rfl) ?_
    refine lv_bipush (v := (24 : Int32)) hx hb dX1_field_100 (by decide) ?_
    refine lv_bipush (v := (20 : Int32)) hx hb dX1_field_102 (by decide) ?_
    refine vp_callSi (W.runS (As := [.int a0, .int (24 : Int32), .int (20 : Int32)]) (rest := []) ⟨hx, hb, hml, hown, htb⟩ (ct_m_bits l a0 (24 : Int32) (20 : Int32) (by decide)) (va_cwS 3 htb gw_X1_27 rfl rfl rfl (by decide +kernel) ⟨Nat.le_of_ble_eq_true rfl, Nat.le_of_ble_eq_true rfl⟩) jj_pre rfl rfl hl.1 rfl (lv_room (Nat.le_of_ble_eq_true rfl)) dX1_field_104 ⟨Nat.le_of_ble_eq_true rfl, Nat.le_of_ble_eq_true rfl⟩) (fun r9 e9 => ?_)
    subst e9
    exact W.iret (v := (fx_m_bits a0 (24 : Int32) (20 : Int32))) hx hb hr (fun t ht hW => ⟨_, rfl, (by unfold fx_m_field0; rw [if_neg c1, if_neg c2, if_neg c3, if_neg c4, if_pos c5]), ht⟩) (fun q h => by cases h) dX1_field_107
  by_cases c6 : a1 = (5 : Int32)
  · refine lv_tableIn (x := a1) (off := 107) (tgt := 108) hx hb dX1_field_1 (by rw [c6]; decide) (by rw [c6]; decide) (by rw [c6]; decide) (by decide) ?_
    refine lv_iload_n hx hb dX1_field_108 rfl (lv_at hl 1 rfl) ?_
    refine lv_bipush (v := (31 : Int32)) hx hb dX1_field_109 (by decide) ?_
    refine lv_bipush (v := (25 : Int32)) hx hb dX1_field_111 (by decide) ?_
    refine vp_callSi (W.runS (As := [.int a0, .int (31 : Int32), .int (25 : Int32)]) (rest := []) ⟨hx, hb, hml, hown, htb⟩ (ct_m_bits l a0 (31 : Int32) (25 : Int32) (by decide)) (va_cwS 3 htb gw_X1_27 rfl rfl rfl (by decide +kernel) ⟨Nat.le_of_ble_eq_true rfl, Nat.le_of_ble_eq_true rfl⟩) jj_pre rfl rfl hl.1 rfl (lv_room (Nat.le_of_ble_eq_true rfl)) dX1_field_113 ⟨Nat.le_of_ble_eq_true rfl, Nat.le_of_ble_eq_true rfl⟩) (fun r9 e9 => ?_)
    subst e9
    exact W.iret (v := (fx_m_bits a0 (31 : Int32) (25 : Int32))) hx hb hr (fun t ht hW => ⟨_, rfl, (by unfold fx_m_field0; rw [if_neg c1, if_neg c2, if_neg c3, if_neg c4, if_neg c5, if_pos c6]), ht⟩) (fun q h => by cases h) dX1_field_116
  by_cases c7 : a1 = (6 : Int32)
  · refine lv_tableIn (x := a1) (off := 116) (tgt := 117) hx hb dX1_field_1 (by rw [c7]; decide) (by rw [c7]; decide) (by rw [c7]; decide) (by decide) ?_
    refine lv_iload_n hx hb dX1_field_117 rfl (lv_at hl 1 rfl) ?_
    refine lv_bipush (v := (31 : Int32)) hx hb dX1_field_118 (by decide) ?_
    refine lv_bipush (v := (20 : Int32)) hx hb dX1_field_120 (by decide) ?_
    refine vp_callSi (W.runS (As := [.int a0, .int (31 : Int32), .int (20 : Int32)]) (rest := []) ⟨hx, hb, hml, hown, htb⟩ (ct_m_bits l a0 (31 : Int32) (20 : Int32) (by decide)) (va_cwS 3 htb gw_X1_27 rfl rfl rfl (by decide +kernel) ⟨Nat.le_of_ble_eq_true rfl, Nat.le_of_ble_eq_true rfl⟩) jj_pre rfl rfl hl.1 rfl (lv_room (Nat.le_of_ble_eq_true rfl)) dX1_field_122 ⟨Nat.le_of_ble_eq_true rfl, Nat.le_of_ble_eq_true rfl⟩) (fun r9 e9 => ?_)
    subst e9
    refine lv_bipush (v := (12 : Int32)) hx hb dX1_field_125 (by decide) ?_
    refine vp_callSi (W.runS (As := [.int (fx_m_bits a0 (31 : Int32) (20 : Int32)), .int (12 : Int32)]) (rest := []) ⟨hx, hb, hml, hown, htb⟩ (ct_m_signed l (fx_m_bits a0 (31 : Int32) (20 : Int32)) (12 : Int32)) (va_cwS 2 htb gw_X1_31 rfl rfl rfl (by decide +kernel) ⟨Nat.le_of_ble_eq_true rfl, Nat.le_of_ble_eq_true rfl⟩) jj_pre rfl rfl hl.1 rfl (lv_room (Nat.le_of_ble_eq_true rfl)) dX1_field_127 ⟨Nat.le_of_ble_eq_true rfl, Nat.le_of_ble_eq_true rfl⟩) (fun r9 e9 => ?_)
    subst e9
    exact W.iret (v := (fx_m_signed (fx_m_bits a0 (31 : Int32) (20 : Int32)) (12 : Int32))) hx hb hr (fun t ht hW => ⟨_, rfl, (by unfold fx_m_field0; rw [if_neg c1, if_neg c2, if_neg c3, if_neg c4, if_neg c5, if_neg c6, if_pos c7]), ht⟩) (fun q h => by cases h) dX1_field_130
  by_cases c8 : a1 = (7 : Int32)
  · refine lv_tableIn (x := a1) (off := 130) (tgt := 131) hx hb dX1_field_1 (by rw [c8]; decide) (by rw [c8]; decide) (by rw [c8]; decide) (by decide) ?_
    refine lv_bipush (v := (32 : Int32)) hx hb dX1_field_131 (by decide) ?_
    refine lv_iload_n hx hb dX1_field_133 rfl (lv_at hl 1 rfl) ?_
    refine lv_bipush (v := (31 : Int32)) hx hb dX1_field_134 (by decide) ?_
    refine lv_bipush (v := (25 : Int32)) hx hb dX1_field_136 (by decide) ?_
    refine vp_callSi (W.runS (As := [.int a0, .int (31 : Int32), .int (25 : Int32)]) (rest := [.int (32 : Int32)]) ⟨hx, hb, hml, hown, htb⟩ (ct_m_bits l a0 (31 : Int32) (25 : Int32) (by decide)) (va_cwS 3 htb gw_X1_27 rfl rfl rfl (by decide +kernel) ⟨Nat.le_of_ble_eq_true rfl, Nat.le_of_ble_eq_true rfl⟩) jj_pre rfl rfl hl.1 rfl (lv_room (Nat.le_of_ble_eq_true rfl)) dX1_field_138 ⟨Nat.le_of_ble_eq_true rfl, Nat.le_of_ble_eq_true rfl⟩) (fun r9 e9 => ?_)
    subst e9
    refine lv_imul hx hb dX1_field_141 ?_
    refine lv_iload_n hx hb dX1_field_142 rfl (lv_at hl 1 rfl) ?_
    refine lv_bipush (v := (11 : Int32)) hx hb dX1_field_143 (by decide) ?_
    refine lv_bipush (v := (7 : Int32)) hx hb dX1_field_145 (by decide) ?_
    refine vp_callSi (W.runS (As := [.int a0, .int (11 : Int32), .int (7 : Int32)]) (rest := [.int ((32 : Int32) * (fx_m_bits a0 (31 : Int32) (25 : Int32)))]) ⟨hx, hb, hml, hown, htb⟩ (ct_m_bits l a0 (11 : Int32) (7 : Int32) (by decide)) (va_cwS 3 htb gw_X1_27 rfl rfl rfl (by decide +kernel) ⟨Nat.le_of_ble_eq_true rfl, Nat.le_of_ble_eq_true rfl⟩) jj_pre rfl rfl hl.1 rfl (lv_room (Nat.le_of_ble_eq_true rfl)) dX1_field_147 ⟨Nat.le_of_ble_eq_true rfl, Nat.le_of_ble_eq_true rfl⟩) (fun r9 e9 => ?_)
    subst e9
    refine lv_iadd hx hb dX1_field_150 ?_
    refine lv_bipush (v := (12 : Int32)) hx hb dX1_field_151 (by decide) ?_
    refine vp_callSi (W.runS (As := [.int (((32 : Int32) * (fx_m_bits a0 (31 : Int32) (25 : Int32))) + (fx_m_bits a0 (11 : Int32) (7 : Int32))), .int (12 : Int32)]) (rest := []) ⟨hx, hb, hml, hown, htb⟩ (ct_m_signed l (((32 : Int32) * (fx_m_bits a0 (31 : Int32) (25 : Int32))) + (fx_m_bits a0 (11 : Int32) (7 : Int32))) (12 : Int32)) (va_cwS 2 htb gw_X1_31 rfl rfl rfl (by decide +kernel) ⟨Nat.le_of_ble_eq_true rfl, Nat.le_of_ble_eq_true rfl⟩) jj_pre rfl rfl hl.1 rfl (lv_room (Nat.le_of_ble_eq_true rfl)) dX1_field_153 ⟨Nat.le_of_ble_eq_true rfl, Nat.le_of_ble_eq_true rfl⟩) (fun r9 e9 => ?_)
    subst e9
    exact W.iret (v := (fx_m_signed (((32 : Int32) * (fx_m_bits a0 (31 : Int32) (25 : Int32))) + (fx_m_bits a0 (11 : Int32) (7 : Int32))) (12 : Int32))) hx hb hr (fun t ht hW => ⟨_, rfl, (by unfold fx_m_field0; rw [if_neg c1, if_neg c2, if_neg c3, if_neg c4, if_neg c5, if_neg c6, if_neg c7, if_pos c8]), ht⟩) (fun q h => by cases h) dX1_field_156
  by_cases c9 : a1 = (8 : Int32)
  · refine lv_tableIn (x := a1) (off := 156) (tgt := 157) hx hb dX1_field_1 (by rw [c9]; decide) (by rw [c9]; decide) (by rw [c9]; decide) (by decide) ?_
    refine lv_sipush (v := (4096 : Int32)) hx hb dX1_field_157 (by decide) ?_
    refine lv_iload_n hx hb dX1_field_160 rfl (lv_at hl 1 rfl) ?_
    refine lv_bipush (v := (31 : Int32)) hx hb dX1_field_161 (by decide) ?_
    refine lv_bipush (v := (31 : Int32)) hx hb dX1_field_163 (by decide) ?_
    refine vp_callSi (W.runS (As := [.int a0, .int (31 : Int32), .int (31 : Int32)]) (rest := [.int (4096 : Int32)]) ⟨hx, hb, hml, hown, htb⟩ (ct_m_bits l a0 (31 : Int32) (31 : Int32) (by decide)) (va_cwS 3 htb gw_X1_27 rfl rfl rfl (by decide +kernel) ⟨Nat.le_of_ble_eq_true rfl, Nat.le_of_ble_eq_true rfl⟩) jj_pre rfl rfl hl.1 rfl (lv_room (Nat.le_of_ble_eq_true rfl)) dX1_field_165 ⟨Nat.le_of_ble_eq_true rfl, Nat.le_of_ble_eq_true rfl⟩) (fun r9 e9 => ?_)
    subst e9
    refine lv_imul hx hb dX1_field_168 ?_
    refine lv_sipush (v := (2048 : Int32)) hx hb dX1_field_169 (by decide) ?_
    refine lv_iload_n hx hb dX1_field_172 rfl (lv_at hl 1 rfl) ?_
    refine lv_bipush (v := (7 : Int32)) hx hb dX1_field_173 (by decide) ?_
    refine lv_bipush (v := (7 : Int32)) hx hb dX1_field_175 (by decide) ?_
    refine vp_callSi (W.runS (As := [.int a0, .int (7 : Int32), .int (7 : Int32)]) (rest := [.int (2048 : Int32), .int ((4096 : Int32) * (fx_m_bits a0 (31 : Int32) (31 : Int32)))]) ⟨hx, hb, hml, hown, htb⟩ (ct_m_bits l a0 (7 : Int32) (7 : Int32) (by decide)) (va_cwS 3 htb gw_X1_27 rfl rfl rfl (by decide +kernel) ⟨Nat.le_of_ble_eq_true rfl, Nat.le_of_ble_eq_true rfl⟩) jj_pre rfl rfl hl.1 rfl (lv_room (Nat.le_of_ble_eq_true rfl)) dX1_field_177 ⟨Nat.le_of_ble_eq_true rfl, Nat.le_of_ble_eq_true rfl⟩) (fun r9 e9 => ?_)
    subst e9
    refine lv_imul hx hb dX1_field_180 ?_
    refine lv_iadd hx hb dX1_field_181 ?_
    refine lv_bipush (v := (32 : Int32)) hx hb dX1_field_182 (by decide) ?_
    refine lv_iload_n hx hb dX1_field_184 rfl (lv_at hl 1 rfl) ?_
    refine lv_bipush (v := (30 : Int32)) hx hb dX1_field_185 (by decide) ?_
    refine lv_bipush (v := (25 : Int32)) hx hb dX1_field_187 (by decide) ?_
    refine vp_callSi (W.runS (As := [.int a0, .int (30 : Int32), .int (25 : Int32)]) (rest := [.int (32 : Int32), .int (((4096 : Int32) * (fx_m_bits a0 (31 : Int32) (31 : Int32))) + ((2048 : Int32) * (fx_m_bits a0 (7 : Int32) (7 : Int32))))]) ⟨hx, hb, hml, hown, htb⟩ (ct_m_bits l a0 (30 : Int32) (25 : Int32) (by decide)) (va_cwS 3 htb gw_X1_27 rfl rfl rfl (by decide +kernel) ⟨Nat.le_of_ble_eq_true rfl, Nat.le_of_ble_eq_true rfl⟩) jj_pre rfl rfl hl.1 rfl (lv_room (Nat.le_of_ble_eq_true rfl)) dX1_field_189 ⟨Nat.le_of_ble_eq_true rfl, Nat.le_of_ble_eq_true rfl⟩) (fun r9 e9 => ?_)
    subst e9
    refine lv_imul hx hb dX1_field_192 ?_
    refine lv_iadd hx hb dX1_field_193 ?_
    refine lv_iconst (v := (2 : Int32)) hx hb dX1_field_194 (by decide) ?_
    refine lv_iload_n hx hb dX1_field_195 rfl (lv_at hl 1 rfl) ?_
    refine lv_bipush (v := (11 : Int32)) hx hb dX1_field_196 (by decide) ?_
    refine lv_bipush (v := (8 : Int32)) hx hb dX1_field_198 (by decide) ?_
    refine vp_callSi (W.runS (As := [.int a0, .int (11 : Int32), .int (8 : Int32)]) (rest := [.int (2 : Int32), .int ((((4096 : Int32) * (fx_m_bits a0 (31 : Int32) (31 : Int32))) + ((2048 : Int32) * (fx_m_bits a0 (7 : Int32) (7 : Int32)))) + ((32 : Int32) * (fx_m_bits a0 (30 : Int32) (25 : Int32))))]) ⟨hx, hb, hml, hown, htb⟩ (ct_m_bits l a0 (11 : Int32) (8 : Int32) (by decide)) (va_cwS 3 htb gw_X1_27 rfl rfl rfl (by decide +kernel) ⟨Nat.le_of_ble_eq_true rfl, Nat.le_of_ble_eq_true rfl⟩) jj_pre rfl rfl hl.1 rfl (lv_room (Nat.le_of_ble_eq_true rfl)) dX1_field_200 ⟨Nat.le_of_ble_eq_true rfl, Nat.le_of_ble_eq_true rfl⟩) (fun r9 e9 => ?_)
    subst e9
    refine lv_imul hx hb dX1_field_203 ?_
    refine lv_iadd hx hb dX1_field_204 ?_
    refine lv_bipush (v := (13 : Int32)) hx hb dX1_field_205 (by decide) ?_
    refine vp_callSi (W.runS (As := [.int (((((4096 : Int32) * (fx_m_bits a0 (31 : Int32) (31 : Int32))) + ((2048 : Int32) * (fx_m_bits a0 (7 : Int32) (7 : Int32)))) + ((32 : Int32) * (fx_m_bits a0 (30 : Int32) (25 : Int32)))) + ((2 : Int32) * (fx_m_bits a0 (11 : Int32) (8 : Int32)))), .int (13 : Int32)]) (rest := []) ⟨hx, hb, hml, hown, htb⟩ (ct_m_signed l (((((4096 : Int32) * (fx_m_bits a0 (31 : Int32) (31 : Int32))) + ((2048 : Int32) * (fx_m_bits a0 (7 : Int32) (7 : Int32)))) + ((32 : Int32) * (fx_m_bits a0 (30 : Int32) (25 : Int32)))) + ((2 : Int32) * (fx_m_bits a0 (11 : Int32) (8 : Int32)))) (13 : Int32)) (va_cwS 2 htb gw_X1_31 rfl rfl rfl (by decide +kernel) ⟨Nat.le_of_ble_eq_true rfl, Nat.le_of_ble_eq_true rfl⟩) jj_pre rfl rfl hl.1 rfl (lv_room (Nat.le_of_ble_eq_true rfl)) dX1_field_207 ⟨Nat.le_of_ble_eq_true rfl, Nat.le_of_ble_eq_true rfl⟩) (fun r9 e9 => ?_)
    subst e9
    exact W.iret (v := (fx_m_signed (((((4096 : Int32) * (fx_m_bits a0 (31 : Int32) (31 : Int32))) + ((2048 : Int32) * (fx_m_bits a0 (7 : Int32) (7 : Int32)))) + ((32 : Int32) * (fx_m_bits a0 (30 : Int32) (25 : Int32)))) + ((2 : Int32) * (fx_m_bits a0 (11 : Int32) (8 : Int32)))) (13 : Int32))) hx hb hr (fun t ht hW => ⟨_, rfl, (by unfold fx_m_field0; rw [if_neg c1, if_neg c2, if_neg c3, if_neg c4, if_neg c5, if_neg c6, if_neg c7, if_neg c8, if_pos c9]), ht⟩) (fun q h => by cases h) dX1_field_210
  by_cases c10 : a1 = (9 : Int32)
  · refine lv_tableIn (x := a1) (off := 210) (tgt := 211) hx hb dX1_field_1 (by rw [c10]; decide) (by rw [c10]; decide) (by rw [c10]; decide) (by decide) ?_
    refine lv_iload_n hx hb dX1_field_211 rfl (lv_at hl 1 rfl) ?_
    refine lv_iload_n hx hb dX1_field_212 rfl (lv_at hl 1 rfl) ?_
    refine lv_bipush (v := (11 : Int32)) hx hb dX1_field_213 (by decide) ?_
    refine lv_iconst (v := (0 : Int32)) hx hb dX1_field_215 (by decide) ?_
    refine vp_callSi (W.runS (As := [.int a0, .int (11 : Int32), .int (0 : Int32)]) (rest := [.int a0]) ⟨hx, hb, hml, hown, htb⟩ (ct_m_bits l a0 (11 : Int32) (0 : Int32) (by decide)) (va_cwS 3 htb gw_X1_27 rfl rfl rfl (by decide +kernel) ⟨Nat.le_of_ble_eq_true rfl, Nat.le_of_ble_eq_true rfl⟩) jj_pre rfl rfl hl.1 rfl (lv_room (Nat.le_of_ble_eq_true rfl)) dX1_field_216 ⟨Nat.le_of_ble_eq_true rfl, Nat.le_of_ble_eq_true rfl⟩) (fun r9 e9 => ?_)
    subst e9
    refine lv_isub hx hb dX1_field_219 ?_
    exact W.iret (v := (a0 - (fx_m_bits a0 (11 : Int32) (0 : Int32)))) hx hb hr (fun t ht hW => ⟨_, rfl, (by unfold fx_m_field0; rw [if_neg c1, if_neg c2, if_neg c3, if_neg c4, if_neg c5, if_neg c6, if_neg c7, if_neg c8, if_neg c9, if_pos c10]), ht⟩) (fun q h => by cases h) dX1_field_220
  by_cases c11 : a1 = (10 : Int32)
  · refine lv_tableIn (x := a1) (off := 220) (tgt := 221) hx hb dX1_field_1 (by rw [c11]; decide) (by rw [c11]; decide) (by rw [c11]; decide) (by decide) ?_
    refine lv_ldc (v := (1048576 : Int32)) hx hb hown (htb _ iw_k_X1_35) dX1_field_221 ?_
    refine lv_iload_n hx hb dX1_field_223 rfl (lv_at hl 1 rfl) ?_
    refine lv_bipush (v := (31 : Int32)) hx hb dX1_field_224 (by decide) ?_
    refine lv_bipush (v := (31 : Int32)) hx hb dX1_field_226 (by decide) ?_
    refine vp_callSi (W.runS (As := [.int a0, .int (31 : Int32), .int (31 : Int32)]) (rest := [.int (1048576 : Int32)]) ⟨hx, hb, hml, hown, htb⟩ (ct_m_bits l a0 (31 : Int32) (31 : Int32) (by decide)) (va_cwS 3 htb gw_X1_27 rfl rfl rfl (by decide +kernel) ⟨Nat.le_of_ble_eq_true rfl, Nat.le_of_ble_eq_true rfl⟩) jj_pre rfl rfl hl.1 rfl (lv_room (Nat.le_of_ble_eq_true rfl)) dX1_field_228 ⟨Nat.le_of_ble_eq_true rfl, Nat.le_of_ble_eq_true rfl⟩) (fun r9 e9 => ?_)
    subst e9
    refine lv_imul hx hb dX1_field_231 ?_
    refine lv_sipush (v := (4096 : Int32)) hx hb dX1_field_232 (by decide) ?_
    refine lv_iload_n hx hb dX1_field_235 rfl (lv_at hl 1 rfl) ?_
    refine lv_bipush (v := (19 : Int32)) hx hb dX1_field_236 (by decide) ?_
    refine lv_bipush (v := (12 : Int32)) hx hb dX1_field_238 (by decide) ?_
    refine vp_callSi (W.runS (As := [.int a0, .int (19 : Int32), .int (12 : Int32)]) (rest := [.int (4096 : Int32), .int ((1048576 : Int32) * (fx_m_bits a0 (31 : Int32) (31 : Int32)))]) ⟨hx, hb, hml, hown, htb⟩ (ct_m_bits l a0 (19 : Int32) (12 : Int32) (by decide)) (va_cwS 3 htb gw_X1_27 rfl rfl rfl (by decide +kernel) ⟨Nat.le_of_ble_eq_true rfl, Nat.le_of_ble_eq_true rfl⟩) jj_pre rfl rfl hl.1 rfl (lv_room (Nat.le_of_ble_eq_true rfl)) dX1_field_240 ⟨Nat.le_of_ble_eq_true rfl, Nat.le_of_ble_eq_true rfl⟩) (fun r9 e9 => ?_)
    subst e9
    refine lv_imul hx hb dX1_field_243 ?_
    refine lv_iadd hx hb dX1_field_244 ?_
    refine lv_sipush (v := (2048 : Int32)) hx hb dX1_field_245 (by decide) ?_
    refine lv_iload_n hx hb dX1_field_248 rfl (lv_at hl 1 rfl) ?_
    refine lv_bipush (v := (20 : Int32)) hx hb dX1_field_249 (by decide) ?_
    refine lv_bipush (v := (20 : Int32)) hx hb dX1_field_251 (by decide) ?_
    refine vp_callSi (W.runS (As := [.int a0, .int (20 : Int32), .int (20 : Int32)]) (rest := [.int (2048 : Int32), .int (((1048576 : Int32) * (fx_m_bits a0 (31 : Int32) (31 : Int32))) + ((4096 : Int32) * (fx_m_bits a0 (19 : Int32) (12 : Int32))))]) ⟨hx, hb, hml, hown, htb⟩ (ct_m_bits l a0 (20 : Int32) (20 : Int32) (by decide)) (va_cwS 3 htb gw_X1_27 rfl rfl rfl (by decide +kernel) ⟨Nat.le_of_ble_eq_true rfl, Nat.le_of_ble_eq_true rfl⟩) jj_pre rfl rfl hl.1 rfl (lv_room (Nat.le_of_ble_eq_true rfl)) dX1_field_253 ⟨Nat.le_of_ble_eq_true rfl, Nat.le_of_ble_eq_true rfl⟩) (fun r9 e9 => ?_)
    subst e9
    refine lv_imul hx hb dX1_field_256 ?_
    refine lv_iadd hx hb dX1_field_257 ?_
    refine lv_iconst (v := (2 : Int32)) hx hb dX1_field_258 (by decide) ?_
    refine lv_iload_n hx hb dX1_field_259 rfl (lv_at hl 1 rfl) ?_
    refine lv_bipush (v := (30 : Int32)) hx hb dX1_field_260 (by decide) ?_
    refine lv_bipush (v := (21 : Int32)) hx hb dX1_field_262 (by decide) ?_
    refine vp_callSi (W.runS (As := [.int a0, .int (30 : Int32), .int (21 : Int32)]) (rest := [.int (2 : Int32), .int ((((1048576 : Int32) * (fx_m_bits a0 (31 : Int32) (31 : Int32))) + ((4096 : Int32) * (fx_m_bits a0 (19 : Int32) (12 : Int32)))) + ((2048 : Int32) * (fx_m_bits a0 (20 : Int32) (20 : Int32))))]) ⟨hx, hb, hml, hown, htb⟩ (ct_m_bits l a0 (30 : Int32) (21 : Int32) (by decide)) (va_cwS 3 htb gw_X1_27 rfl rfl rfl (by decide +kernel) ⟨Nat.le_of_ble_eq_true rfl, Nat.le_of_ble_eq_true rfl⟩) jj_pre rfl rfl hl.1 rfl (lv_room (Nat.le_of_ble_eq_true rfl)) dX1_field_264 ⟨Nat.le_of_ble_eq_true rfl, Nat.le_of_ble_eq_true rfl⟩) (fun r9 e9 => ?_)
    subst e9
    refine lv_imul hx hb dX1_field_267 ?_
    refine lv_iadd hx hb dX1_field_268 ?_
    refine lv_bipush (v := (21 : Int32)) hx hb dX1_field_269 (by decide) ?_
    refine vp_callSi (W.runS (As := [.int (((((1048576 : Int32) * (fx_m_bits a0 (31 : Int32) (31 : Int32))) + ((4096 : Int32) * (fx_m_bits a0 (19 : Int32) (12 : Int32)))) + ((2048 : Int32) * (fx_m_bits a0 (20 : Int32) (20 : Int32)))) + ((2 : Int32) * (fx_m_bits a0 (30 : Int32) (21 : Int32)))), .int (21 : Int32)]) (rest := []) ⟨hx, hb, hml, hown, htb⟩ (ct_m_signed l (((((1048576 : Int32) * (fx_m_bits a0 (31 : Int32) (31 : Int32))) + ((4096 : Int32) * (fx_m_bits a0 (19 : Int32) (12 : Int32)))) + ((2048 : Int32) * (fx_m_bits a0 (20 : Int32) (20 : Int32)))) + ((2 : Int32) * (fx_m_bits a0 (30 : Int32) (21 : Int32)))) (21 : Int32)) (va_cwS 2 htb gw_X1_31 rfl rfl rfl (by decide +kernel) ⟨Nat.le_of_ble_eq_true rfl, Nat.le_of_ble_eq_true rfl⟩) jj_pre rfl rfl hl.1 rfl (lv_room (Nat.le_of_ble_eq_true rfl)) dX1_field_271 ⟨Nat.le_of_ble_eq_true rfl, Nat.le_of_ble_eq_true rfl⟩) (fun r9 e9 => ?_)
    subst e9
    exact W.iret (v := (fx_m_signed (((((1048576 : Int32) * (fx_m_bits a0 (31 : Int32) (31 : Int32))) + ((4096 : Int32) * (fx_m_bits a0 (19 : Int32) (12 : Int32)))) + ((2048 : Int32) * (fx_m_bits a0 (20 : Int32) (20 : Int32)))) + ((2 : Int32) * (fx_m_bits a0 (30 : Int32) (21 : Int32)))) (21 : Int32))) hx hb hr (fun t ht hW => ⟨_, rfl, (by unfold fx_m_field0; rw [if_neg c1, if_neg c2, if_neg c3, if_neg c4, if_neg c5, if_neg c6, if_neg c7, if_neg c8, if_neg c9, if_neg c10, if_pos c11]), ht⟩) (fun q h => by cases h) dX1_field_274
  by_cases c12 : a1 = (11 : Int32)
  · exact absurd c12 h0
  refine lv_tableOut (x := a1) (tgt := 289) hx hb dX1_field_1 (by have hc1 := lv_neT c1 (a := 0) (by decide); have hc2 := lv_neT c2 (a := 1) (by decide); have hc3 := lv_neT c3 (a := 2) (by decide); have hc4 := lv_neT c4 (a := 3) (by decide); have hc5 := lv_neT c5 (a := 4) (by decide); have hc6 := lv_neT c6 (a := 5) (by decide); have hc7 := lv_neT c7 (a := 6) (by decide); have hc8 := lv_neT c8 (a := 7) (by decide); have hc9 := lv_neT c9 (a := 8) (by decide); have hc10 := lv_neT c10 (a := 9) (by decide); have hc11 := lv_neT c11 (a := 10) (by decide); have hc12 := lv_neT c12 (a := 11) (by decide); omega) (by decide) ?_
  refine lv_iconst (v := (0 : Int32)) hx hb dX1_field_289 (by decide) ?_
  exact W.iret (v := (0 : Int32)) hx hb hr (fun t ht hW => ⟨_, rfl, (by unfold fx_m_field0; rw [if_neg c1, if_neg c2, if_neg c3, if_neg c4, if_neg c5, if_neg c6, if_neg c7, if_neg c8, if_neg c9, if_neg c10, if_neg c11]), ht⟩) (fun q h => by cases h) dX1_field_290
theorem mu_fd0 (u : XS) (w : Int32) : fx_m_field0 u w 0 = fx_m_bits w 6 0 := by
  unfold fx_m_field0
  rw [if_pos rfl]
theorem mu_fd1 (u : XS) (w : Int32) : fx_m_field0 u w 1 = fx_m_bits w 11 7 := by
  unfold fx_m_field0
  rw [if_neg (by decide), if_pos rfl]
theorem mu_fd2 (u : XS) (w : Int32) : fx_m_field0 u w 2 = fx_m_bits w 14 12 := by
  unfold fx_m_field0
  rw [if_neg (by decide), if_neg (by decide), if_pos rfl]
theorem mu_fd3 (u : XS) (w : Int32) : fx_m_field0 u w 3 = fx_m_bits w 19 15 := by
  unfold fx_m_field0
  rw [if_neg (by decide), if_neg (by decide), if_neg (by decide), if_pos rfl]
theorem mu_fd4 (u : XS) (w : Int32) : fx_m_field0 u w 4 = fx_m_bits w 24 20 := by
  unfold fx_m_field0
  rw [if_neg (by decide), if_neg (by decide), if_neg (by decide), if_neg (by decide), if_pos rfl]
theorem mu_fd5 (u : XS) (w : Int32) : fx_m_field0 u w 5 = fx_m_bits w 31 25 := by
  unfold fx_m_field0
  rw [if_neg (by decide), if_neg (by decide), if_neg (by decide), if_neg (by decide), if_neg (by decide), if_pos rfl]
theorem mu_fd6 (u : XS) (w : Int32) : fx_m_field0 u w 6 = fx_m_signed (fx_m_bits w 31 20) 12 := by
  unfold fx_m_field0
  rw [if_neg (by decide), if_neg (by decide), if_neg (by decide), if_neg (by decide), if_neg (by decide), if_neg (by decide), if_pos rfl]
theorem mu_fd7 (u : XS) (w : Int32) : fx_m_field0 u w 7 = fx_m_signed (32 * fx_m_bits w 31 25 + fx_m_bits w 11 7) 12 := by
  unfold fx_m_field0
  rw [if_neg (by decide), if_neg (by decide), if_neg (by decide), if_neg (by decide), if_neg (by decide), if_neg (by decide), if_neg (by decide), if_pos rfl]
theorem mu_fd8 (u : XS) (w : Int32) : fx_m_field0 u w 8 = fx_m_signed (4096 * fx_m_bits w 31 31 + 2048 * fx_m_bits w 7 7 + 32 * fx_m_bits w 30 25 + 2 * fx_m_bits w 11 8) 13 := by
  unfold fx_m_field0
  rw [if_neg (by decide), if_neg (by decide), if_neg (by decide), if_neg (by decide), if_neg (by decide), if_neg (by decide), if_neg (by decide), if_neg (by decide), if_pos rfl]
theorem mu_fd9 (u : XS) (w : Int32) : fx_m_field0 u w 9 = w - fx_m_bits w 11 0 := by
  unfold fx_m_field0
  rw [if_neg (by decide), if_neg (by decide), if_neg (by decide), if_neg (by decide), if_neg (by decide), if_neg (by decide), if_neg (by decide), if_neg (by decide), if_neg (by decide), if_pos rfl]
theorem mu_fd10 (u : XS) (w : Int32) : fx_m_field0 u w 10 = fx_m_signed (1048576 * fx_m_bits w 31 31 + 4096 * fx_m_bits w 19 12 + 2048 * fx_m_bits w 20 20 + 2 * fx_m_bits w 30 21) 21 := by
  unfold fx_m_field0
  rw [if_neg (by decide), if_neg (by decide), if_neg (by decide), if_neg (by decide), if_neg (by decide), if_neg (by decide), if_neg (by decide), if_neg (by decide), if_neg (by decide), if_neg (by decide), if_pos rfl]
theorem mu_inX1 (u : XS) (w : Int32) : vp_in (fx_m_field0 u w 1) 32 := by
  rw [mu_fd1]
  exact mu_bIn w (hi := 11) (lo := 7) (by decide) (by decide) (by decide) (by decide)
theorem mu_inX3 (u : XS) (w : Int32) : vp_in (fx_m_field0 u w 3) 32 := by
  rw [mu_fd3]
  exact mu_bIn w (hi := 19) (lo := 15) (by decide) (by decide) (by decide) (by decide)
theorem mu_inX4 (u : XS) (w : Int32) : vp_in (fx_m_field0 u w 4) 32 := by
  rw [mu_fd4]
  exact mu_bIn w (hi := 24) (lo := 20) (by decide) (by decide) (by decide) (by decide)

