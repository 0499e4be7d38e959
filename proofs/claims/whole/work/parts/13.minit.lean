set_option maxHeartbeats 4000000 in
set_option maxRecDepth 100000 in
theorem ct_m_init (l : Launch) (dC : Nat → ClassId) (dI : Nat → Nat → Nat) (h0 sz : Nat) : Met l yX1_init wsX1_init ({ frames := 1, cells := 2, slots := 4128, locals := 12 }) (va_Pc [.ref h0] (fun U => U.heap.size = sz ∧ va_P (dC, dI) vwCl [(h0, .inr (1, [.null, .null, .int 0, .int 0, .int 0, .int 0, .int 0]))] U.heap ∧ va_K (dC, dI) vwCl [] U ∧ va_D (fun _ => True) [(h0, .inr (1, [.null, .null, .int 0, .int 0, .int 0, .int 0, .int 0]))])) (va_Qv (fun a : XA => a.1 = h0) (fun a t => va_P (dC, dI) vwCl (mu_w a xu_0) t.heap ∧ va_K (dC, dI) vwCl (xu_t a) t ∧ va_D (va_A [(h0, .inr (1, [.null, .null, .int 0, .int 0, .int 0, .int 0, .int 0]))] sz) (mu_w a xu_0)) (va_A [(h0, .inr (1, [.null, .null, .int 0, .int 0, .int 0, .int 0, .int 0]))] sz)) 2 4128 (va_A [(h0, .inr (1, [.null, .null, .int 0, .int 0, .int 0, .int 0, .int 0]))] sz) := by
  refine Met.ofW (cc := cX1_init) (maxL := 1) (ret := none) (by decide) rfl ?_
  intro p e s m args below meth c s₁ B hml hv
  obtain ⟨rfl, hsz, hP, hK, hD0⟩ := hv
  have hx := B.exec
  have hb := B.bytes
  have hr := B.returns
  have htb : ∀ w ∈ lw_g, w.before ([.ref h0] : List Value).toArray s = true := fun w h => atoms_spec (ws := wsX1_init) B.pre w (List.mem_cons_of_mem _ h)
  have hown : s.vm.findClass RX1 = some m.cls := findClass_of_methodNamed B.named
  have hlocks := B.notSynchronized
  have hin2 : meth.name = "<init>" := (name_of_methodNamed B.named B.method).1
  subst hsz
  have hD := hD0.self (sz := s.heap.size)
  generalize hAe : va_A [(h0, .inr (1, [.null, .null, .int 0, .int 0, .int 0, .int 0, .int 0]))] s.heap.size = A at hD ⊢
  have hA : ∀ q : Nat, s.heap.size ≤ q → A q := fun q h => by rw [← hAe]; exact Or.inr h
  have hS : va_S A s.heap s.heap [] := va_S.rf
  have hP : va_P (dC, dI) vwCl [(h0, .inr (1, [.null, .null, .int 0, .int 0, .int 0, .int 0, .int 0]))] s.heap := hP
  have hl := lv_entry ([.ref h0]) (n := 1) (Nat.le_of_ble_eq_true rfl)
  rw [lg_entry_eq]
  generalize (lg_sl ([.ref h0]) ++ List.replicate (1 - (lg_sl ([.ref h0])).length) Slot.unset).toArray = ls at hl ⊢
  have hl : lv_has ls 1 [(0, .ref h0)] := hl
  refine lv_aload_n hx hb dX1_init_0 rfl (lv_at hl 0 rfl) ?_
  refine W.objInit hx hb hown (htb _ iw_m_X1_1) (htb _ iw_oi) (htb _ iw_oc) rfl (by rw [hml]; exact hl.1) rfl dX1_init_1 (Nat.le_of_ble_eq_true rfl) (Nat.le_of_ble_eq_true rfl) ?_
  refine W.eq (g2 := F0 m 4 ls []) rfl ?_
  refine lv_aload_n hx hb dX1_init_4 rfl (lv_at hl 0 rfl) ?_
  refine lv_sipush (v := (4096 : Int32)) hx hb dX1_init_5 (by decide) ?_
  refine va_newa (atype := .int) (D := (dC, dI)) (n := (4096 : Int32)) (N' := 4096) (a0 := (4096, .inl (fun _ => 0))) hx hb (htb _ iw_arr) rfl hK hP hD hS hA (fun _ => rfl) (by decide) (by decide) (by decide) (by show 0 + 1 ≤ 2; omega) (by show 0 + 4096 ≤ 4128; omega) dX1_init_8 (fun q8 cA8 H hK hP hD hS => ?_)
  have hP : va_P (dC, dI) vwCl [(h0, .inr (1, [.null, .null, .int 0, .int 0, .int 0, .int 0, .int 0])), (q8, .inl (cA8, 4096, .inl (fun _ => 0)))] H := hP
  have hD : va_D A [(h0, .inr (1, [.null, .null, .int 0, .int 0, .int 0, .int 0, .int 0])), (q8, .inl (cA8, 4096, .inl (fun _ => 0)))] := hD
  have hK : va_K (dC, dI) vwCl [(cA8, .int)] s := hK
  refine W.widen (k := 1) (n := 4096) (by omega) (by omega) ?_
  refine va_putF (D := (dC, dI)) (ci := 1) (v := .ref q8) (ty := (.array .int)) (C := RX1) (T := TX1) (N := 7) hx hb htb inX1 tyX1 tyX1_ok nmX1 hown hK hP hD hS 0 rfl rfl 0 (by decide) (htb _ iw_f_X1_7) (fun _ h9 => h9) rfl hin2 rfl (by decide +kernel) rfl rfl (Nat.le_of_ble_eq_true rfl) dX1_init_10 (fun H locs hP hD hS => ?_)
  have hP : va_P (dC, dI) vwCl [(h0, .inr (1, [.ref q8, .null, .int 0, .int 0, .int 0, .int 0, .int 0])), (q8, .inl (cA8, 4096, .inl (fun _ => 0)))] H := hP
  have hD : va_D A [(h0, .inr (1, [.ref q8, .null, .int 0, .int 0, .int 0, .int 0, .int 0])), (q8, .inl (cA8, 4096, .inl (fun _ => 0)))] := hD
  refine lv_aload_n hx hb dX1_init_13 rfl (lv_at hl 0 rfl) ?_
  refine lv_bipush (v := (32 : Int32)) hx hb dX1_init_14 (by decide) ?_
  refine va_newa (atype := .int) (D := (dC, dI)) (n := (32 : Int32)) (N' := 32) (a0 := (32, .inl (fun _ => 0))) hx hb (htb _ iw_arr) rfl hK hP hD hS hA (fun _ => rfl) (by decide) (by decide) (by decide) (by show 1 + 1 ≤ 2; omega) (by show 4096 + 32 ≤ 4128; omega) dX1_init_16 (fun q16 cA16 H hK hP hD hS => ?_)
  have hP : va_P (dC, dI) vwCl [(h0, .inr (1, [.ref q8, .null, .int 0, .int 0, .int 0, .int 0, .int 0])), (q8, .inl (cA8, 4096, .inl (fun _ => 0))), (q16, .inl (cA16, 32, .inl (fun _ => 0)))] H := hP
  have hD : va_D A [(h0, .inr (1, [.ref q8, .null, .int 0, .int 0, .int 0, .int 0, .int 0])), (q8, .inl (cA8, 4096, .inl (fun _ => 0))), (q16, .inl (cA16, 32, .inl (fun _ => 0)))] := hD
  have hK : va_K (dC, dI) vwCl [(cA8, .int), (cA16, .int)] s := hK
  refine W.widen (k := 2) (n := 4128) (by omega) (by omega) ?_
  refine va_putF (D := (dC, dI)) (ci := 1) (v := .ref q16) (ty := (.array .int)) (C := RX1) (T := TX1) (N := 7) hx hb htb inX1 tyX1 tyX1_ok nmX1 hown hK hP hD hS 0 rfl rfl 1 (by decide) (htb _ iw_f_X1_13) (fun _ h9 => h9) rfl hin2 rfl (by decide +kernel) rfl rfl (Nat.le_of_ble_eq_true rfl) dX1_init_18 (fun H locs hP hD hS => ?_)
  have hP : va_P (dC, dI) vwCl [(h0, .inr (1, [.ref q8, .ref q16, .int 0, .int 0, .int 0, .int 0, .int 0])), (q8, .inl (cA8, 4096, .inl (fun _ => 0))), (q16, .inl (cA16, 32, .inl (fun _ => 0)))] H := hP
  have hD : va_D A [(h0, .inr (1, [.ref q8, .ref q16, .int 0, .int 0, .int 0, .int 0, .int 0])), (q8, .inl (cA8, 4096, .inl (fun _ => 0))), (q16, .inl (cA16, 32, .inl (fun _ => 0)))] := hD
  refine lv_aload_n hx hb dX1_init_21 rfl (lv_at hl 0 rfl) ?_
  refine lv_iconst (v := (-1 : Int32)) hx hb dX1_init_22 (by decide) ?_
  refine va_put (D := (dC, dI)) (ci := 1) (v := .int (-1 : Int32)) (ty := .int) (C := RX1) (T := TX1) (N := 7) hx hb htb inX1 tyX1 tyX1_ok nmX1 hown hK hP hD hS 0 rfl rfl 3 (by decide) (htb _ iw_f_X1_16) (fun _ h9 => h9) rfl (by decide +kernel) rfl rfl (Nat.le_of_ble_eq_true rfl) dX1_init_23 (fun H locs hP hD hS => ?_)
  have hP : va_P (dC, dI) vwCl [(h0, .inr (1, [.ref q8, .ref q16, .int 0, .int (-1 : Int32), .int 0, .int 0, .int 0])), (q8, .inl (cA8, 4096, .inl (fun _ => 0))), (q16, .inl (cA16, 32, .inl (fun _ => 0)))] H := hP
  have hD : va_D A [(h0, .inr (1, [.ref q8, .ref q16, .int 0, .int (-1 : Int32), .int 0, .int 0, .int 0])), (q8, .inl (cA8, 4096, .inl (fun _ => 0))), (q16, .inl (cA16, 32, .inl (fun _ => 0)))] := hD
  exact W.vret hx hb hr (fun t ht hW => ⟨⟨(h0, q8, q16, cA8, cA16), rfl, rfl, by rw [ht]; exact hP, va_K.moved hW.alike hK, hD⟩, hS.F ht⟩) hS.2.2 dX1_init_26
