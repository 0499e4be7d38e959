abbrev mu_w (a : XA) (u : XS) : va_W := [(a.1, .inr (1, [.ref a.2.1, .ref a.2.2.1, .int u.2.2.1, .int u.2.2.2.1, .int u.2.2.2.2.1, .int u.2.2.2.2.2, .int 0])), (a.2.1, .inl (a.2.2.2.1, 4096, .inl u.1)), (a.2.2.1, .inl (a.2.2.2.2, 32, .inl u.2.1))]
theorem mu_key {a : XA} {u : XS} (k : Nat) (q : Nat × va_E) (hk : (mu_w a u)[k]? = some q) : (k = 0 ∧ q.1 = a.1) ∨ (k = 1 ∧ q.1 = a.2.1) ∨ (k = 2 ∧ q.1 = a.2.2.1) := by
  match k, hk with
  | 0, hk => cases hk; exact Or.inl ⟨rfl, rfl⟩
  | 1, hk => cases hk; exact Or.inr (Or.inl ⟨rfl, rfl⟩)
  | 2, hk => cases hk; exact Or.inr (Or.inr ⟨rfl, rfl⟩)
  | k + 3, hk => simp at hk
theorem mu_vD {a : XA} {u : XS} (h : xu_D a) : va_D (xu_A a) (mu_w a u) := by
  obtain ⟨h1, h2, h3⟩ := h
  refine ⟨fun i j p q hi hj e => ?_, fun k q hk => ?_⟩
  · rcases mu_key i p hi with ⟨rfl, e1⟩ | ⟨rfl, e1⟩ | ⟨rfl, e1⟩ <;> rcases mu_key j q hj with ⟨rfl, e2⟩ | ⟨rfl, e2⟩ | ⟨rfl, e2⟩ <;> first | rfl | (exfalso; rw [e1, e2] at e; first | exact h1 e | exact h1 e.symm | exact h2 e | exact h2 e.symm | exact h3 e | exact h3 e.symm)
  · rcases mu_key k q hk with ⟨-, e1⟩ | ⟨-, e1⟩ | ⟨-, e1⟩
    · exact Or.inl e1
    · exact Or.inr (Or.inl e1)
    · exact Or.inr (Or.inr e1)
theorem mu_inA {a : XA} {u : XS} (k : Nat) (q : Nat × va_E) (hk : (mu_w a u)[k]? = some q) : xu_A a q.1 := by
  rcases mu_key k q hk with ⟨-, e1⟩ | ⟨-, e1⟩ | ⟨-, e1⟩
  · exact Or.inl e1
  · exact Or.inr (Or.inl e1)
  · exact Or.inr (Or.inr e1)
theorem mu_preR {s : State} {H : Heap} {dC : Nat → ClassId} {dI : Nat → Nat → Nat} {a : XA} {u : XS} {As : List Value} (hK : va_K (dC, dI) vwCl (xu_t a) s) (hP : va_P (dC, dI) vwCl (mu_w a u) H) : PreV s H RX1 a.1 (va_Pc (.ref a.1 :: As) (fun U => va_P (dC, dI) vwCl (mu_w a u) U.heap ∧ va_K (dC, dI) vwCl (xu_t a) U)) As :=
  ⟨fun x U g mk q => ⟨q.1, q.2.1, va_K.moved (u := U) (U := U.calling g mk x) (Vm.Alike.refl U.vm) q.2.2⟩, va_recv hK hP (ci := 1) (q0 := 0) rfl rfl, fun U hU hW => ⟨rfl, by rw [hU]; exact hP, va_K.moved hW.alike hK⟩⟩
theorem mu_preW {s : State} {H : Heap} {dC : Nat → ClassId} {dI : Nat → Nat → Nat} {a : XA} {u : XS} {As : List Value} (hK : va_K (dC, dI) vwCl (xu_t a) s) (hP : va_P (dC, dI) vwCl (mu_w a u) H) (hd : xu_D a) : PreV s H RX1 a.1 (va_Pc (.ref a.1 :: As) (fun U => va_P (dC, dI) vwCl (mu_w a u) U.heap ∧ va_K (dC, dI) vwCl (xu_t a) U ∧ xu_D a)) As :=
  ⟨fun x U g mk q => ⟨q.1, q.2.1, va_K.moved (u := U) (U := U.calling g mk x) (Vm.Alike.refl U.vm) q.2.2.1, q.2.2.2⟩, va_recv hK hP (ci := 1) (q0 := 0) rfl rfl, fun U hU hW => ⟨rfl, by rw [hU]; exact hP, va_K.moved hW.alike hK, hd⟩⟩
section MU
variable {p : Program} {l : Launch} {e : Env} {R : Room} {s : State} {m : MethodId} {args : Array Value} {below : List Frame} {meth : Method} {c : Code} {H : Heap} {locs : List Loc} {cells slots : Nat} {Q : State → Prop}
variable {pc : Nat} {ls : Array Slot} {rest st0 : List Value} {av : Array Value} {H0 : Heap} {dC : Nat → ClassId} {dI : Nat → Nat → Nat} {a : XA}
theorem mu_calli {F : Int32 × XS} (hr : va_Run p l e R s m args below meth c H locs cells slots 0 0 (F0 m pc ls st0) rest (va_Qi (fun r u9 => (r, u9) = F) (fun u9 t => va_P (dC, dI) vwCl (mu_w a u9) t.heap ∧ va_K (dC, dI) vwCl (xu_t a) t) (xu_A a) av) (xu_A a)) (hS : va_S (xu_A a) H0 H locs)
    (kk : ∀ (H1 : Heap) (locs1 : List Loc), va_P (dC, dI) vwCl (mu_w a F.2) H1 → va_S (xu_A a) H0 H1 locs1 → W p l e R s m args below meth c H1 locs1 cells slots Q (F0 m (pc + 3) ls (.int F.1 :: rest))) : W p l e R s m args below meth c H locs cells slots Q (F0 m pc ls st0) := by
  refine va_calli hr hS (fun _ _ h => h) (fun _ h => h) (fun r u t H1 locs1 ht hvm hp hB hz hk hS1 => ?_)
  subst hp
  rw [ht] at hB
  exact kk H1 locs1 hB.1 hS1
theorem mu_callv {F : XS} (hr : va_Run p l e R s m args below meth c H locs cells slots 0 0 (F0 m pc ls st0) rest (va_Qv (fun u9 => u9 = F) (fun u9 t => va_P (dC, dI) vwCl (mu_w a u9) t.heap ∧ va_K (dC, dI) vwCl (xu_t a) t) (xu_A a) av) (xu_A a)) (hS : va_S (xu_A a) H0 H locs)
    (kk : ∀ (H1 : Heap) (locs1 : List Loc), va_P (dC, dI) vwCl (mu_w a F) H1 → va_S (xu_A a) H0 H1 locs1 → W p l e R s m args below meth c H1 locs1 cells slots Q (F0 m (pc + 3) ls rest)) : W p l e R s m args below meth c H locs cells slots Q (F0 m pc ls st0) := by
  refine va_callv hr hS (fun _ _ h => h) (fun _ h => h) (fun u t H1 locs1 ht hvm hp hB hz hk hS1 => ?_)
  subst hp
  rw [ht] at hB
  exact kk H1 locs1 hB.1 hS1
end MU

/-! rows for the reference's loops: counters, places -/
theorem jj_bmod32 {n : Int} (h1 : -2147483648 ≤ n) (h2 : n < 2147483648) : n.bmod (2 ^ 32) = n := Int.bmod_eq_of_le (by omega) (by omega)
theorem jj_bmod64 {n : Int} (h1 : -9223372036854775808 ≤ n) (h2 : n < 9223372036854775808) : n.bmod (2 ^ 64) = n := Int.bmod_eq_of_le (by omega) (by omega)
theorem jj_rng (x : Int32) : -2147483648 ≤ x.toInt ∧ x.toInt < 2147483648 := by
  have h1 := Int32.toInt_lt x
  have h2 := Int32.le_toInt x
  omega
theorem jj_add {x y : Int32} (h1 : -2147483648 ≤ x.toInt + y.toInt) (h2 : x.toInt + y.toInt < 2147483648) : (x + y).toInt = x.toInt + y.toInt := by
  rw [Int32.toInt_add, jj_bmod32 h1 h2]
theorem jj_sub {x y : Int32} (h1 : -2147483648 ≤ x.toInt - y.toInt) (h2 : x.toInt - y.toInt < 2147483648) : (x - y).toInt = x.toInt - y.toInt := by
  rw [Int32.toInt_sub, jj_bmod32 h1 h2]
theorem jj_inL {x m : Int32} {n : Nat} (hm : m.toInt + 1 = n) (h0 : ¬ x < 0) (h1 : x ≤ m) : vp_in x n := by
  rw [vp_in_iff]
  rw [Int32.lt_iff_toInt_lt] at h0
  rw [Int32.le_iff_toInt_le] at h1
  have e0 : (0 : Int32).toInt = 0 := rfl
  rw [e0] at h0
  omega
theorem jj_up0 {x s : Int32} (hs : 0 ≤ s.toInt) : 0 < x.toInt.toNat + 1 ∧ x.toInt < s.toInt + ((x.toInt.toNat + 1 : Nat) : Int) := by omega
theorem jj_up1 {x v : Int32} {k : Nat} (hI : 0 < k + 1 ∧ x.toInt < v.toInt + ((k + 1 : Nat) : Int)) (h : ¬ x ≤ v) : 0 < k ∧ x.toInt < (v + 1).toInt + (k : Int) := by
  rw [jj_succ h]
  rw [Int32.le_iff_toInt_le] at h
  omega
theorem mb_inv0 {a1 a2 : Int32} (h0 : 0 ≤ a2.toInt ∧ a2.toInt ≤ a1.toInt ∧ a1.toInt ≤ 31) : 0 < (a1.toInt - a2.toInt).toNat + 2 ∧ a1.toInt + 1 < a2.toInt + (((a1.toInt - a2.toInt).toNat + 2 : Nat) : Int) ∧ ∃ j : Nat, j ≤ 32 ∧ (1 : Int64) = lN (2 ^ j) ∧ a2.toInt = a2.toInt + j :=
  ⟨by omega, by omega, 0, by omega, rfl, by omega⟩
theorem mb_inv1 {a1 a2 v7 : Int32} {v5 : Int64} {k : Nat} (h0 : 0 ≤ a2.toInt ∧ a2.toInt ≤ a1.toInt ∧ a1.toInt ≤ 31) (hI : 0 < k + 1 ∧ a1.toInt + 1 < v7.toInt + ((k + 1 : Nat) : Int) ∧ ∃ j : Nat, j ≤ 32 ∧ v5 = lN (2 ^ j) ∧ v7.toInt = a2.toInt + j) (c : ¬ a1 < v7) : 0 < k ∧ a1.toInt + 1 < (v7 + 1).toInt + (k : Int) ∧ ∃ j : Nat, j ≤ 32 ∧ v5 * 2 = lN (2 ^ j) ∧ (v7 + 1).toInt = a2.toInt + j := by
  obtain ⟨h1, h2, j, h3, h4, h5⟩ := hI
  rw [Int32.lt_iff_toInt_lt] at c
  have e1 : (1 : Int32).toInt = 1 := rfl
  have e : (v7 + 1).toInt = v7.toInt + 1 := by rw [jj_add (by omega) (by omega), e1]
  refine ⟨by omega, by omega, j + 1, by omega, ?_, by omega⟩
  rw [h4, show (2 : Int64) = lN 2 from rfl, lN_mul, Nat.pow_succ]
theorem mb_pow {j : Nat} (h : j ≤ 32) : 0 < 2 ^ j ∧ 2 ^ j < 2 ^ 63 := ⟨Nat.two_pow_pos j, Nat.pow_lt_pow_right (by omega) (by omega)⟩
theorem mb_ne0 {j : Nat} (h : j ≤ 32) : ¬ lN (2 ^ j) = 0 := by
  intro e
  have h1 := congrArg Int64.toInt e
  rw [pk_lT (mb_pow h).2] at h1
  have h2 := (mb_pow h).1
  have e0 : (0 : Int64).toInt = 0 := rfl
  omega
theorem mb_ne {a1 a2 v7 : Int32} {v5 : Int64} {k : Nat} (hI : 0 < k + 1 ∧ a1.toInt + 1 < v7.toInt + ((k + 1 : Nat) : Int) ∧ ∃ j : Nat, j ≤ 32 ∧ v5 = lN (2 ^ j) ∧ v7.toInt = a2.toInt + j) : ¬ v5 = 0 := by
  obtain ⟨-, -, j, h3, h4, -⟩ := hI
  rw [h4]
  exact mb_ne0 h3
theorem mr_inv0 {a0 a1 : Int32} (h0 : 0 ≤ a0.toInt ∧ 0 ≤ a1.toInt ∧ a1.toInt ≤ 4 ∧ a0.toInt + a1.toInt ≤ 4096) : (a1 - 1).toInt + 1 < ((a1.toInt.toNat + 2 : Nat) : Int) ∧ -1 ≤ (a1 - 1).toInt ∧ (a1 - 1).toInt < a1.toInt := by
  have e1 : (1 : Int32).toInt = 1 := rfl
  have e : (a1 - 1).toInt = a1.toInt - 1 := by rw [jj_sub (by omega) (by omega), e1]
  omega
theorem mr_pred {v5 : Int32} (c : ¬ v5 < 0) : (v5 + (-1)).toInt = v5.toInt - 1 := by
  have h := jj_rng v5
  rw [Int32.lt_iff_toInt_lt] at c
  have e0 : (0 : Int32).toInt = 0 := rfl
  have e1 : (-1 : Int32).toInt = -1 := rfl
  rw [jj_add (by omega) (by omega), e1]
  omega
theorem mr_inv1 {a1 v5 : Int32} {k : Nat} (hI : v5.toInt + 1 < ((k + 1 : Nat) : Int) ∧ -1 ≤ v5.toInt ∧ v5.toInt < a1.toInt) (c : ¬ v5 < 0) : (v5 + (-1)).toInt + 1 < (k : Int) ∧ -1 ≤ (v5 + (-1)).toInt ∧ (v5 + (-1)).toInt < a1.toInt := by
  rw [mr_pred c]
  rw [Int32.lt_iff_toInt_lt] at c
  have e0 : (0 : Int32).toInt = 0 := rfl
  omega
theorem mr_in {a0 a1 v5 : Int32} {k : Nat} (h0 : 0 ≤ a0.toInt ∧ 0 ≤ a1.toInt ∧ a1.toInt ≤ 4 ∧ a0.toInt + a1.toInt ≤ 4096) (hI : v5.toInt + 1 < ((k + 1 : Nat) : Int) ∧ -1 ≤ v5.toInt ∧ v5.toInt < a1.toInt) (c : ¬ v5 < 0) : vp_in (a0 + v5) 4096 := by
  rw [Int32.lt_iff_toInt_lt] at c
  have e0 : (0 : Int32).toInt = 0 := rfl
  rw [vp_in_iff, jj_add (by omega) (by omega)]
  omega
theorem mw_inv0 {a1 : Int32} : 0 < a1.toInt.toNat + 1 ∧ a1.toInt < (0 : Int32).toInt + ((a1.toInt.toNat + 1 : Nat) : Int) ∧ 0 ≤ (0 : Int32).toInt := by
  have e0 : (0 : Int32).toInt = 0 := rfl
  omega
theorem mw_inv1 {a1 v4 : Int32} {k : Nat} (hI : 0 < k + 1 ∧ a1.toInt < v4.toInt + ((k + 1 : Nat) : Int) ∧ 0 ≤ v4.toInt) (c : ¬ a1 ≤ v4) : 0 < k ∧ a1.toInt < (v4 + 1).toInt + (k : Int) ∧ 0 ≤ (v4 + 1).toInt := by
  rw [jj_succ c]
  rw [Int32.le_iff_toInt_le] at c
  omega
theorem mw_in {a0 a1 v4 : Int32} {k : Nat} (h0 : 0 ≤ a0.toInt ∧ 0 ≤ a1.toInt ∧ a1.toInt ≤ 4 ∧ a0.toInt + a1.toInt ≤ 4096) (hI : 0 < k + 1 ∧ a1.toInt < v4.toInt + ((k + 1 : Nat) : Int) ∧ 0 ≤ v4.toInt) (c : ¬ a1 ≤ v4) : vp_in (a0 + v4) 4096 := by
  rw [Int32.le_iff_toInt_le] at c
  rw [vp_in_iff, jj_add (by omega) (by omega)]
  omega
theorem mw_4 {v4 : Int32} (h1 : 0 ≤ v4.toInt) (h2 : v4.toInt < 4) : v4 = 0 ∨ v4 = 1 ∨ v4 = 2 ∨ v4 = 3 := by
  rcases (show v4.toInt = 0 ∨ v4.toInt = 1 ∨ v4.toInt = 2 ∨ v4.toInt = 3 by omega) with h | h | h | h
  · exact Or.inl (Int32.toInt_inj.mp h)
  · exact Or.inr (Or.inl (Int32.toInt_inj.mp h))
  · exact Or.inr (Or.inr (Or.inl (Int32.toInt_inj.mp h)))
  · exact Or.inr (Or.inr (Or.inr (Int32.toInt_inj.mp h)))
theorem mw_bits {a0 a1 v4 : Int32} {k : Nat} (h0 : 0 ≤ a0.toInt ∧ 0 ≤ a1.toInt ∧ a1.toInt ≤ 4 ∧ a0.toInt + a1.toInt ≤ 4096) (hI : 0 < k + 1 ∧ a1.toInt < v4.toInt + ((k + 1 : Nat) : Int) ∧ 0 ≤ v4.toInt) (c : ¬ a1 ≤ v4) : 0 ≤ (8 * v4).toInt ∧ (8 * v4).toInt ≤ (8 * v4 + 7).toInt ∧ (8 * v4 + 7).toInt ≤ 31 := by
  rw [Int32.le_iff_toInt_le] at c
  rcases mw_4 hI.2.2 (by omega) with rfl | rfl | rfl | rfl <;> decide

