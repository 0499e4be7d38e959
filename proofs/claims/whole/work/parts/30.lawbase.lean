/-! the law's calls: one world changes, the other stays -/
section LWC
variable {p : Program} {l : Launch} {e : Env} {R : Room} {s : State} {m : MethodId} {args : Array Value} {below : List Frame} {meth : Method} {c : Code} {H : Heap} {locs : List Loc} {cells slots : Nat} {Q : State → Prop}
variable {pc : Nat} {ls : Array Slot} {rest st0 : List Value} {av : Array Value} {H0 : Heap} {dC : Nat → ClassId} {dI : Nat → Nat → Nat} {ax : XA} {am : XA} {A0 : Nat → Prop}
theorem lw_keepM {v : XS} {H1 : Heap} (hPm : va_P (dC, dI) vwCl (mu_w am v) H) (hdis : ∀ q, xu_A ax q → ¬ xu_A am q) (hk : ∀ q : Nat, q < H.size → ¬ xu_A ax q → H1[q]? = H[q]?) : va_P (dC, dI) vwCl (mu_w am v) H1 :=
  hPm.kept (fun k q hq => hk q.1 (hPm k q hq).lt (fun h => hdis q.1 h (mu_inA k q hq)))
theorem lw_keepX {u : XS} {H1 : Heap} (hPx : va_P (dC, dI) vwCl (xu_w ax u) H) (hdis : ∀ q, xu_A ax q → ¬ xu_A am q) (hk : ∀ q : Nat, q < H.size → ¬ xu_A am q → H1[q]? = H[q]?) : va_P (dC, dI) vwCl (xu_w ax u) H1 :=
  hPx.kept (fun k q hq => hk q.1 (hPx k q hq).lt (fun h => hdis q.1 (xu_inA k q hq) h))
theorem lw_callx {F : Int32 × XS} {v : XS} (hr : va_Run p l e R s m args below meth c H locs cells slots 0 0 (F0 m pc ls st0) rest (va_Qi (fun r u9 => (r, u9) = F) (fun u9 t => va_P (dC, dI) vwCl (xu_w ax u9) t.heap ∧ va_K (dC, dI) vwCl (xu_t ax) t) (xu_A ax) av) (xu_A ax)) (hS : va_S A0 H0 H locs) (hA : ∀ q, xu_A ax q → A0 q) (hPm : va_P (dC, dI) vwCl (mu_w am v) H) (hdis : ∀ q, xu_A ax q → ¬ xu_A am q)
    (kk : ∀ (H1 : Heap) (locs1 : List Loc), va_P (dC, dI) vwCl (xu_w ax F.2) H1 → va_P (dC, dI) vwCl (mu_w am v) H1 → va_S A0 H0 H1 locs1 → W p l e R s m args below meth c H1 locs1 cells slots Q (F0 m (pc + 3) ls (.int F.1 :: rest))) : W p l e R s m args below meth c H locs cells slots Q (F0 m pc ls st0) := by
  refine va_calli hr hS (fun q _ h => hA q h) (fun q h => hA q h) (fun r u t H1 locs1 ht hvm hp hB hz hk hS1 => ?_)
  subst hp
  rw [ht] at hB
  exact kk H1 locs1 hB.1 (lw_keepM hPm hdis hk) hS1
theorem lw_callm {F : Int32 × XS} {u : XS} (hr : va_Run p l e R s m args below meth c H locs cells slots 0 0 (F0 m pc ls st0) rest (va_Qi (fun r u9 => (r, u9) = F) (fun u9 t => va_P (dC, dI) vwCl (mu_w am u9) t.heap ∧ va_K (dC, dI) vwCl (xu_t am) t) (xu_A am) av) (xu_A am)) (hS : va_S A0 H0 H locs) (hA : ∀ q, xu_A am q → A0 q) (hPx : va_P (dC, dI) vwCl (xu_w ax u) H) (hdis : ∀ q, xu_A ax q → ¬ xu_A am q)
    (kk : ∀ (H1 : Heap) (locs1 : List Loc), va_P (dC, dI) vwCl (mu_w am F.2) H1 → va_P (dC, dI) vwCl (xu_w ax u) H1 → va_S A0 H0 H1 locs1 → W p l e R s m args below meth c H1 locs1 cells slots Q (F0 m (pc + 3) ls (.int F.1 :: rest))) : W p l e R s m args below meth c H locs cells slots Q (F0 m pc ls st0) := by
  refine va_calli hr hS (fun q _ h => hA q h) (fun q h => hA q h) (fun r u1 t H1 locs1 ht hvm hp hB hz hk hS1 => ?_)
  subst hp
  rw [ht] at hB
  exact kk H1 locs1 hB.1 (lw_keepX hPx hdis hk) hS1
end LWC

def lw_G (s : State) (ax am : XA) : Prop := xu_D ax ∧ xu_D am ∧ (∀ q, xu_A ax q → s.heap.size ≤ q) ∧ (∀ q, xu_A am q → s.heap.size ≤ q) ∧ ∀ q, xu_A ax q → ¬ xu_A am q
theorem lw_room0 : 600000 + 0 ≤ room_1.cells ∧ 7302250 + 0 ≤ room_1.slots := ⟨Nat.le_refl 600000, Nat.le_refl 7302250⟩
theorem lw_in {n L : Nat} (hn : n + 7 ≤ L) (hL : L ≤ 3584) {k : Int32} (hk : 0 ≤ k.toInt ∧ k.toInt ≤ 6) : vp_in (nI n + k) L := by
  have t : (nI n).toInt = n := nI_toInt (by omega)
  rw [vp_in_iff, jj_add (by omega) (by omega), t]
  omega
theorem lw_go {n L : Nat} (hL : L ≤ 3584) (hn : n < 10000) (h : ¬ (Int32.ofNat L - 7) < nI n) : n + 7 ≤ L := by
  have t : (nI n).toInt = n := nI_toInt (by omega)
  have t2 : (Int32.ofNat L).toInt = L := nI_toInt (n := L) (by omega)
  have t3 : (7 : Int32).toInt = 7 := rfl
  rw [q_ltI, jj_sub (by omega) (by omega), t, t2, t3] at h
  omega
