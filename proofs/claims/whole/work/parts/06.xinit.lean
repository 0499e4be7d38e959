def xu_0 : XS := (fun _ => 0, fun _ => 0, 0, -1, 0, 0)
set_option maxHeartbeats 4000000 in
set_option maxRecDepth 100000 in
theorem ct_x_init (l : Launch) (dC : Nat → ClassId) (dI : Nat → Nat → Nat) (h0 sz : Nat) : Met l yX0_init wsX0_init ({ frames := 1, cells := 2, slots := 1056, locals := 12 }) (va_Pc [.ref h0] (fun U => U.heap.size = sz ∧ va_P (dC, dI) vwCl [(h0, .inr (0, [.null, .null, .int 0, .int 0, .int 0, .int 0]))] U.heap ∧ va_K (dC, dI) vwCl [] U ∧ va_D (fun _ => True) [(h0, .inr (0, [.null, .null, .int 0, .int 0, .int 0, .int 0]))])) (va_Qv (fun a : XA => a.1 = h0) (fun a t => va_P (dC, dI) vwCl (xu_w a xu_0) t.heap ∧ va_K (dC, dI) vwCl (xu_t a) t ∧ va_D (va_A [(h0, .inr (0, [.null, .null, .int 0, .int 0, .int 0, .int 0]))] sz) (xu_w a xu_0)) (va_A [(h0, .inr (0, [.null, .null, .int 0, .int 0, .int 0, .int 0]))] sz)) 2 1056 (va_A [(h0, .inr (0, [.null, .null, .int 0, .int 0, .int 0, .int 0]))] sz) := by
  refine Met.ofW (cc := cX0_init) (maxL := 1) (ret := none) (by decide) rfl ?_
  intro p e s m args below meth c s₁ B hml hv
  obtain ⟨rfl, hsz, hP, hK, hD0⟩ := hv
  have hx := B.exec
  have hb := B.bytes
  have hr := B.returns
  have htb : ∀ w ∈ lw_g, w.before ([.ref h0] : List Value).toArray s = true := fun w h => atoms_spec (ws := wsX0_init) B.pre w (List.mem_cons_of_mem _ h)
  have hown : s.vm.findClass RX0 = some m.cls := findClass_of_methodNamed B.named
  have hlocks := B.notSynchronized
  have hin2 : meth.name = "<init>" := (name_of_methodNamed B.named B.method).1
  subst hsz
  have hD := hD0.self (sz := s.heap.size)
  generalize hAe : va_A [(h0, .inr (0, [.null, .null, .int 0, .int 0, .int 0, .int 0]))] s.heap.size = A at hD ⊢
  have hA : ∀ q : Nat, s.heap.size ≤ q → A q := fun q h => by rw [← hAe]; exact Or.inr h
  have hS : va_S A s.heap s.heap [] := va_S.rf
  have hP : va_P (dC, dI) vwCl [(h0, .inr (0, [.null, .null, .int 0, .int 0, .int 0, .int 0]))] s.heap := hP
  have hl := lv_entry ([.ref h0]) (n := 1) (Nat.le_of_ble_eq_true rfl)
  rw [lg_entry_eq]
  generalize (lg_sl ([.ref h0]) ++ List.replicate (1 - (lg_sl ([.ref h0])).length) Slot.unset).toArray = ls at hl ⊢
  have hl : lv_has ls 1 [(0, .ref h0)] := hl
  refine lv_aload_n hx hb dX0_init_0 rfl (lv_at hl 0 rfl) ?_
  refine W.objInit hx hb hown (htb _ iw_m_X0_3) (htb _ iw_oi) (htb _ iw_oc) rfl (by rw [hml]; exact hl.1) rfl dX0_init_1 (Nat.le_of_ble_eq_true rfl) (Nat.le_of_ble_eq_true rfl) ?_
  refine W.eq (g2 := F0 m 4 ls []) rfl ?_
  refine lv_aload_n hx hb dX0_init_4 rfl (lv_at hl 0 rfl) ?_
  refine lv_sipush (v := (1024 : Int32)) hx hb dX0_init_5 (by decide) ?_
  refine va_newa (atype := .int) (D := (dC, dI)) (n := (1024 : Int32)) (N' := 1024) (a0 := (1024, .inl (fun _ => 0))) hx hb (htb _ iw_arr) rfl hK hP hD hS hA (fun _ => rfl) (by decide) (by decide) (by decide) (by show 0 + 1 ≤ 2; omega) (by show 0 + 1024 ≤ 1056; omega) dX0_init_8 (fun q8 cA8 H hK hP hD hS => ?_)
  have hP : va_P (dC, dI) vwCl [(h0, .inr (0, [.null, .null, .int 0, .int 0, .int 0, .int 0])), (q8, .inl (cA8, 1024, .inl (fun _ => 0)))] H := hP
  have hD : va_D A [(h0, .inr (0, [.null, .null, .int 0, .int 0, .int 0, .int 0])), (q8, .inl (cA8, 1024, .inl (fun _ => 0)))] := hD
  have hK : va_K (dC, dI) vwCl [(cA8, .int)] s := hK
  refine W.widen (k := 1) (n := 1024) (by omega) (by omega) ?_
  refine va_putF (D := (dC, dI)) (ci := 0) (v := .ref q8) (ty := (.array .int)) (C := RX0) (T := TX0) (N := 6) hx hb htb inX0 tyX0 tyX0_ok nmX0 hown hK hP hD hS 0 rfl rfl 0 (by decide) (htb _ iw_f_X0_9) (fun _ h9 => h9) rfl hin2 rfl (by decide +kernel) rfl rfl (Nat.le_of_ble_eq_true rfl) dX0_init_10 (fun H locs hP hD hS => ?_)
  have hP : va_P (dC, dI) vwCl [(h0, .inr (0, [.ref q8, .null, .int 0, .int 0, .int 0, .int 0])), (q8, .inl (cA8, 1024, .inl (fun _ => 0)))] H := hP
  have hD : va_D A [(h0, .inr (0, [.ref q8, .null, .int 0, .int 0, .int 0, .int 0])), (q8, .inl (cA8, 1024, .inl (fun _ => 0)))] := hD
  refine lv_aload_n hx hb dX0_init_13 rfl (lv_at hl 0 rfl) ?_
  refine lv_bipush (v := (32 : Int32)) hx hb dX0_init_14 (by decide) ?_
  refine va_newa (atype := .int) (D := (dC, dI)) (n := (32 : Int32)) (N' := 32) (a0 := (32, .inl (fun _ => 0))) hx hb (htb _ iw_arr) rfl hK hP hD hS hA (fun _ => rfl) (by decide) (by decide) (by decide) (by show 1 + 1 ≤ 2; omega) (by show 1024 + 32 ≤ 1056; omega) dX0_init_16 (fun q16 cA16 H hK hP hD hS => ?_)
  have hP : va_P (dC, dI) vwCl [(h0, .inr (0, [.ref q8, .null, .int 0, .int 0, .int 0, .int 0])), (q8, .inl (cA8, 1024, .inl (fun _ => 0))), (q16, .inl (cA16, 32, .inl (fun _ => 0)))] H := hP
  have hD : va_D A [(h0, .inr (0, [.ref q8, .null, .int 0, .int 0, .int 0, .int 0])), (q8, .inl (cA8, 1024, .inl (fun _ => 0))), (q16, .inl (cA16, 32, .inl (fun _ => 0)))] := hD
  have hK : va_K (dC, dI) vwCl [(cA8, .int), (cA16, .int)] s := hK
  refine W.widen (k := 2) (n := 1056) (by omega) (by omega) ?_
  refine va_putF (D := (dC, dI)) (ci := 0) (v := .ref q16) (ty := (.array .int)) (C := RX0) (T := TX0) (N := 6) hx hb htb inX0 tyX0 tyX0_ok nmX0 hown hK hP hD hS 0 rfl rfl 1 (by decide) (htb _ iw_f_X0_13) (fun _ h9 => h9) rfl hin2 rfl (by decide +kernel) rfl rfl (Nat.le_of_ble_eq_true rfl) dX0_init_18 (fun H locs hP hD hS => ?_)
  have hP : va_P (dC, dI) vwCl [(h0, .inr (0, [.ref q8, .ref q16, .int 0, .int 0, .int 0, .int 0])), (q8, .inl (cA8, 1024, .inl (fun _ => 0))), (q16, .inl (cA16, 32, .inl (fun _ => 0)))] H := hP
  have hD : va_D A [(h0, .inr (0, [.ref q8, .ref q16, .int 0, .int 0, .int 0, .int 0])), (q8, .inl (cA8, 1024, .inl (fun _ => 0))), (q16, .inl (cA16, 32, .inl (fun _ => 0)))] := hD
  refine lv_aload_n hx hb dX0_init_21 rfl (lv_at hl 0 rfl) ?_
  refine lv_iconst (v := (0 : Int32)) hx hb dX0_init_22 (by decide) ?_
  refine va_put (D := (dC, dI)) (ci := 0) (v := .int (0 : Int32)) (ty := .int) (C := RX0) (T := TX0) (N := 6) hx hb htb inX0 tyX0 tyX0_ok nmX0 hown hK hP hD hS 0 rfl rfl 2 (by decide) (htb _ iw_f_X0_16) (fun _ h9 => h9) rfl (by decide +kernel) rfl rfl (Nat.le_of_ble_eq_true rfl) dX0_init_23 (fun H locs hP hD hS => ?_)
  have hP : va_P (dC, dI) vwCl [(h0, .inr (0, [.ref q8, .ref q16, .int (0 : Int32), .int 0, .int 0, .int 0])), (q8, .inl (cA8, 1024, .inl (fun _ => 0))), (q16, .inl (cA16, 32, .inl (fun _ => 0)))] H := hP
  have hD : va_D A [(h0, .inr (0, [.ref q8, .ref q16, .int (0 : Int32), .int 0, .int 0, .int 0])), (q8, .inl (cA8, 1024, .inl (fun _ => 0))), (q16, .inl (cA16, 32, .inl (fun _ => 0)))] := hD
  refine lv_aload_n hx hb dX0_init_26 rfl (lv_at hl 0 rfl) ?_
  refine lv_iconst (v := (-1 : Int32)) hx hb dX0_init_27 (by decide) ?_
  refine va_put (D := (dC, dI)) (ci := 0) (v := .int (-1 : Int32)) (ty := .int) (C := RX0) (T := TX0) (N := 6) hx hb htb inX0 tyX0 tyX0_ok nmX0 hown hK hP hD hS 0 rfl rfl 3 (by decide) (htb _ iw_f_X0_20) (fun _ h9 => h9) rfl (by decide +kernel) rfl rfl (Nat.le_of_ble_eq_true rfl) dX0_init_28 (fun H locs hP hD hS => ?_)
  have hP : va_P (dC, dI) vwCl [(h0, .inr (0, [.ref q8, .ref q16, .int (0 : Int32), .int (-1 : Int32), .int 0, .int 0])), (q8, .inl (cA8, 1024, .inl (fun _ => 0))), (q16, .inl (cA16, 32, .inl (fun _ => 0)))] H := hP
  have hD : va_D A [(h0, .inr (0, [.ref q8, .ref q16, .int (0 : Int32), .int (-1 : Int32), .int 0, .int 0])), (q8, .inl (cA8, 1024, .inl (fun _ => 0))), (q16, .inl (cA16, 32, .inl (fun _ => 0)))] := hD
  refine lv_aload_n hx hb dX0_init_31 rfl (lv_at hl 0 rfl) ?_
  refine lv_iconst (v := (0 : Int32)) hx hb dX0_init_32 (by decide) ?_
  refine va_put (D := (dC, dI)) (ci := 0) (v := .int (0 : Int32)) (ty := .int) (C := RX0) (T := TX0) (N := 6) hx hb htb inX0 tyX0 tyX0_ok nmX0 hown hK hP hD hS 0 rfl rfl 4 (by decide) (htb _ iw_f_X0_23) (fun _ h9 => h9) rfl (by decide +kernel) rfl rfl (Nat.le_of_ble_eq_true rfl) dX0_init_33 (fun H locs hP hD hS => ?_)
  have hP : va_P (dC, dI) vwCl [(h0, .inr (0, [.ref q8, .ref q16, .int (0 : Int32), .int (-1 : Int32), .int (0 : Int32), .int 0])), (q8, .inl (cA8, 1024, .inl (fun _ => 0))), (q16, .inl (cA16, 32, .inl (fun _ => 0)))] H := hP
  have hD : va_D A [(h0, .inr (0, [.ref q8, .ref q16, .int (0 : Int32), .int (-1 : Int32), .int (0 : Int32), .int 0])), (q8, .inl (cA8, 1024, .inl (fun _ => 0))), (q16, .inl (cA16, 32, .inl (fun _ => 0)))] := hD
  refine lv_aload_n hx hb dX0_init_36 rfl (lv_at hl 0 rfl) ?_
  refine lv_iconst (v := (0 : Int32)) hx hb dX0_init_37 (by decide) ?_
  refine va_put (D := (dC, dI)) (ci := 0) (v := .int (0 : Int32)) (ty := .int) (C := RX0) (T := TX0) (N := 6) hx hb htb inX0 tyX0 tyX0_ok nmX0 hown hK hP hD hS 0 rfl rfl 5 (by decide) (htb _ iw_f_X0_26) (fun _ h9 => h9) rfl (by decide +kernel) rfl rfl (Nat.le_of_ble_eq_true rfl) dX0_init_38 (fun H locs hP hD hS => ?_)
  have hP : va_P (dC, dI) vwCl [(h0, .inr (0, [.ref q8, .ref q16, .int (0 : Int32), .int (-1 : Int32), .int (0 : Int32), .int (0 : Int32)])), (q8, .inl (cA8, 1024, .inl (fun _ => 0))), (q16, .inl (cA16, 32, .inl (fun _ => 0)))] H := hP
  have hD : va_D A [(h0, .inr (0, [.ref q8, .ref q16, .int (0 : Int32), .int (-1 : Int32), .int (0 : Int32), .int (0 : Int32)])), (q8, .inl (cA8, 1024, .inl (fun _ => 0))), (q16, .inl (cA16, 32, .inl (fun _ => 0)))] := hD
  exact W.vret hx hb hr (fun t ht hW => ⟨⟨(h0, q8, q16, cA8, cA16), rfl, rfl, by rw [ht]; exact hP, va_K.moved hW.alike hK, hD⟩, hS.F ht⟩) hS.2.2 dX0_init_41
