/-! the class's world: a state, its cells, what a call needs of it -/
def jj_ushr (x y : Int32) : Int32 := (x.toUInt32 >>> (y.toUInt32 &&& Int32.toUInt32 31)).toInt32
def jj_lushr (x : Int64) (y : Int32) : Int64 := (x.toUInt64 >>> (y.toInt64.toUInt64 &&& Int64.toUInt64 63)).toInt64
def jj_lshl (x : Int64) (y : Int32) : Int64 := x <<< (y.toInt64 &&& 63)
def jj_lshr (x : Int64) (y : Int32) : Int64 := x >>> (y.toInt64 &&& 63)
theorem jj_cmp_eq (x y : Int64) : lg_cmp x y = 0 ↔ x = y := by
  unfold lg_cmp
  constructor
  · intro h
    split at h
    · exact absurd h (by decide)
    · split at h
      · assumption
      · exact absurd h (by decide)
  · intro h
    subst h
    rw [if_neg (fun h => absurd h (by simp)), if_pos rfl]
theorem jj_cmp0 {x : Int64} (h : ¬ lg_cmp x 0 = 0) : ¬ x = 0 := fun e => h ((jj_cmp_eq x 0).mpr e)
theorem jj_pre {s : State} {H : Heap} {As : List Value} : PreS s H (va_Pc As (fun _ => True)) As := ⟨fun _ _ _ _ q => q, fun _ _ _ => ⟨rfl, trivial⟩⟩
theorem jj_inI {x m : Int32} {n : Nat} (hm : m.toInt = n) (h0 : ¬ x < 0) (h1 : ¬ m ≤ x) : vp_in x n := by
  rw [vp_in_iff]
  rw [Int32.lt_iff_toInt_lt] at h0
  rw [Int32.le_iff_toInt_le, hm] at h1
  have e0 : (0 : Int32).toInt = 0 := rfl
  rw [e0] at h0
  omega
theorem jj_inP {x m : Int32} {n : Nat} (hm : m.toInt = n) (h0 : ¬ x ≤ 0) (h1 : ¬ m ≤ x) : vp_in x n := by
  rw [vp_in_iff]
  rw [Int32.le_iff_toInt_le] at h0
  rw [Int32.le_iff_toInt_le, hm] at h1
  have e0 : (0 : Int32).toInt = 0 := rfl
  rw [e0] at h0
  omega
abbrev XS : Type := (Nat → Int32) × (Nat → Int32) × Int32 × Int32 × Int32 × Int32
abbrev XA : Type := Nat × Nat × Nat × ClassId × ClassId
def xu_m (u : XS) (f : Nat → Int32) : XS := (f, u.2)
def xu_r (u : XS) (f : Nat → Int32) : XS := (u.1, f, u.2.2)
def xu_f2 (u : XS) (v : Int32) : XS := (u.1, u.2.1, v, u.2.2.2)
def xu_f3 (u : XS) (v : Int32) : XS := (u.1, u.2.1, u.2.2.1, v, u.2.2.2.2)
def xu_f4 (u : XS) (v : Int32) : XS := (u.1, u.2.1, u.2.2.1, u.2.2.2.1, v, u.2.2.2.2.2)
def xu_f5 (u : XS) (v : Int32) : XS := (u.1, u.2.1, u.2.2.1, u.2.2.2.1, u.2.2.2.2.1, v)
abbrev xu_w (a : XA) (u : XS) : va_W := [(a.1, .inr (0, [.ref a.2.1, .ref a.2.2.1, .int u.2.2.1, .int u.2.2.2.1, .int u.2.2.2.2.1, .int u.2.2.2.2.2])), (a.2.1, .inl (a.2.2.2.1, 1024, .inl u.1)), (a.2.2.1, .inl (a.2.2.2.2, 32, .inl u.2.1))]
abbrev xu_t (a : XA) : List (ClassId × FieldType) := [(a.2.2.2.1, .int), (a.2.2.2.2, .int)]
def xu_A (a : XA) : Nat → Prop := fun q => q = a.1 ∨ q = a.2.1 ∨ q = a.2.2.1
def xu_D (a : XA) : Prop := a.1 ≠ a.2.1 ∧ a.1 ≠ a.2.2.1 ∧ a.2.1 ≠ a.2.2.1
theorem xu_key {a : XA} {u : XS} (k : Nat) (q : Nat × va_E) (hk : (xu_w a u)[k]? = some q) : (k = 0 ∧ q.1 = a.1) ∨ (k = 1 ∧ q.1 = a.2.1) ∨ (k = 2 ∧ q.1 = a.2.2.1) := by
  match k, hk with
  | 0, hk => cases hk; exact Or.inl ⟨rfl, rfl⟩
  | 1, hk => cases hk; exact Or.inr (Or.inl ⟨rfl, rfl⟩)
  | 2, hk => cases hk; exact Or.inr (Or.inr ⟨rfl, rfl⟩)
  | k + 3, hk => simp at hk
theorem xu_vD {a : XA} {u : XS} (h : xu_D a) : va_D (xu_A a) (xu_w a u) := by
  obtain ⟨h1, h2, h3⟩ := h
  refine ⟨fun i j p q hi hj e => ?_, fun k q hk => ?_⟩
  · rcases xu_key i p hi with ⟨rfl, e1⟩ | ⟨rfl, e1⟩ | ⟨rfl, e1⟩ <;> rcases xu_key j q hj with ⟨rfl, e2⟩ | ⟨rfl, e2⟩ | ⟨rfl, e2⟩ <;> first | rfl | (exfalso; rw [e1, e2] at e; first | exact h1 e | exact h1 e.symm | exact h2 e | exact h2 e.symm | exact h3 e | exact h3 e.symm)
  · rcases xu_key k q hk with ⟨-, e1⟩ | ⟨-, e1⟩ | ⟨-, e1⟩
    · exact Or.inl e1
    · exact Or.inr (Or.inl e1)
    · exact Or.inr (Or.inr e1)
theorem xu_inA {a : XA} {u : XS} (k : Nat) (q : Nat × va_E) (hk : (xu_w a u)[k]? = some q) : xu_A a q.1 := by
  rcases xu_key k q hk with ⟨-, e1⟩ | ⟨-, e1⟩ | ⟨-, e1⟩
  · exact Or.inl e1
  · exact Or.inr (Or.inl e1)
  · exact Or.inr (Or.inr e1)
theorem xu_preR {s : State} {H : Heap} {dC : Nat → ClassId} {dI : Nat → Nat → Nat} {a : XA} {u : XS} {As : List Value} (hK : va_K (dC, dI) vwCl (xu_t a) s) (hP : va_P (dC, dI) vwCl (xu_w a u) H) : PreV s H RX0 a.1 (va_Pc (.ref a.1 :: As) (fun U => va_P (dC, dI) vwCl (xu_w a u) U.heap ∧ va_K (dC, dI) vwCl (xu_t a) U)) As :=
  ⟨fun x U g mk q => ⟨q.1, q.2.1, va_K.moved (u := U) (U := U.calling g mk x) (Vm.Alike.refl U.vm) q.2.2⟩, va_recv hK hP (ci := 0) (q0 := 0) rfl rfl, fun U hU hW => ⟨rfl, by rw [hU]; exact hP, va_K.moved hW.alike hK⟩⟩
theorem xu_preW {s : State} {H : Heap} {dC : Nat → ClassId} {dI : Nat → Nat → Nat} {a : XA} {u : XS} {As : List Value} (hK : va_K (dC, dI) vwCl (xu_t a) s) (hP : va_P (dC, dI) vwCl (xu_w a u) H) (hd : xu_D a) : PreV s H RX0 a.1 (va_Pc (.ref a.1 :: As) (fun U => va_P (dC, dI) vwCl (xu_w a u) U.heap ∧ va_K (dC, dI) vwCl (xu_t a) U ∧ xu_D a)) As :=
  ⟨fun x U g mk q => ⟨q.1, q.2.1, va_K.moved (u := U) (U := U.calling g mk x) (Vm.Alike.refl U.vm) q.2.2.1, q.2.2.2⟩, va_recv hK hP (ci := 0) (q0 := 0) rfl rfl, fun U hU hW => ⟨rfl, by rw [hU]; exact hP, va_K.moved hW.alike hK, hd⟩⟩
section XU
variable {p : Program} {l : Launch} {e : Env} {R : Room} {s : State} {m : MethodId} {args : Array Value} {below : List Frame} {meth : Method} {c : Code} {H : Heap} {locs : List Loc} {cells slots : Nat} {Q : State → Prop}
variable {pc : Nat} {ls : Array Slot} {rest st0 : List Value} {av : Array Value} {H0 : Heap} {dC : Nat → ClassId} {dI : Nat → Nat → Nat} {a : XA}
theorem xu_calli {F : Int32 × XS} (hr : va_Run p l e R s m args below meth c H locs cells slots 0 0 (F0 m pc ls st0) rest (va_Qi (fun r u9 => (r, u9) = F) (fun u9 t => va_P (dC, dI) vwCl (xu_w a u9) t.heap ∧ va_K (dC, dI) vwCl (xu_t a) t) (xu_A a) av) (xu_A a)) (hS : va_S (xu_A a) H0 H locs)
    (kk : ∀ (H1 : Heap) (locs1 : List Loc), va_P (dC, dI) vwCl (xu_w a F.2) H1 → va_S (xu_A a) H0 H1 locs1 → W p l e R s m args below meth c H1 locs1 cells slots Q (F0 m (pc + 3) ls (.int F.1 :: rest))) : W p l e R s m args below meth c H locs cells slots Q (F0 m pc ls st0) := by
  refine va_calli hr hS (fun _ _ h => h) (fun _ h => h) (fun r u t H1 locs1 ht hvm hp hB hz hk hS1 => ?_)
  subst hp
  rw [ht] at hB
  exact kk H1 locs1 hB.1 hS1
theorem xu_callv {F : XS} (hr : va_Run p l e R s m args below meth c H locs cells slots 0 0 (F0 m pc ls st0) rest (va_Qv (fun u9 => u9 = F) (fun u9 t => va_P (dC, dI) vwCl (xu_w a u9) t.heap ∧ va_K (dC, dI) vwCl (xu_t a) t) (xu_A a) av) (xu_A a)) (hS : va_S (xu_A a) H0 H locs)
    (kk : ∀ (H1 : Heap) (locs1 : List Loc), va_P (dC, dI) vwCl (xu_w a F) H1 → va_S (xu_A a) H0 H1 locs1 → W p l e R s m args below meth c H1 locs1 cells slots Q (F0 m (pc + 3) ls rest)) : W p l e R s m args below meth c H locs cells slots Q (F0 m pc ls st0) := by
  refine va_callv hr hS (fun _ _ h => h) (fun _ h => h) (fun u t H1 locs1 ht hvm hp hB hz hk hS1 => ?_)
  subst hp
  rw [ht] at hB
  exact kk H1 locs1 hB.1 hS1
end XU
theorem jj_succ {x v : Int32} (h : ¬ x ≤ v) : (v + 1).toInt = v.toInt + 1 := by
  rw [Int32.le_iff_toInt_le] at h
  have h1 := Int32.toInt_lt x
  have h2 := Int32.le_toInt v
  rw [Int32.toInt_add, show (1 : Int32).toInt = 1 from rfl, Int.bmod_def]
  omega
theorem jj_run0 {x : Int32} (h0 : ¬ x < 0) (h1 : x ≤ 2000) : (0 : Int32).toInt ≤ x.toInt ∧ x.toInt < (0 : Int32).toInt + (2001 : Nat) := by
  rw [Int32.lt_iff_toInt_lt] at h0
  rw [Int32.le_iff_toInt_le] at h1
  have e0 : (0 : Int32).toInt = 0 := rfl
  have e1 : (2000 : Int32).toInt = 2000 := rfl
  omega
theorem jj_run1 {x v : Int32} {k : Nat} (hI : v.toInt ≤ x.toInt ∧ x.toInt < v.toInt + ((k + 1 : Nat) : Int)) (h : ¬ x ≤ v) : (v + 1).toInt ≤ x.toInt ∧ x.toInt < (v + 1).toInt + (k : Int) := by
  rw [jj_succ h]
  rw [Int32.le_iff_toInt_le] at h
  omega

