def fx_x_load (u : XS) (a0 : Int32) : Int32 × XS := (if (fx_x_isAligned ((fx_x_register u (fx_x_fieldA a0)) + (fx_x_numberI a0)) (fx_x_fieldF a0)) = (0 : Int32) then ((fx_x_tell u (4 : Int32) ((fx_x_register u (fx_x_fieldA a0)) + (fx_x_numberI a0))).1, (fx_x_tell u (4 : Int32) ((fx_x_register u (fx_x_fieldA a0)) + (fx_x_numberI a0))).2) else (if (fx_x_isOfMemory ((fx_x_register u (fx_x_fieldA a0)) + (fx_x_numberI a0))) = (0 : Int32) then ((fx_x_tell u (5 : Int32) ((fx_x_register u (fx_x_fieldA a0)) + (fx_x_numberI a0))).1, (fx_x_tell u (5 : Int32) ((fx_x_register u (fx_x_fieldA a0)) + (fx_x_numberI a0))).2) else ((fx_x_finish (fx_x_setRegister u (fx_x_fieldD a0) (fx_x_loaded (fx_x_fieldF a0) (jj_ushr (fx_x_wordAround u ((fx_x_register u (fx_x_fieldA a0)) + (fx_x_numberI a0))) (fx_x_bitsBelow ((fx_x_register u (fx_x_fieldA a0)) + (fx_x_numberI a0)))))) ((fx_x_setRegister u (fx_x_fieldD a0) (fx_x_loaded (fx_x_fieldF a0) (jj_ushr (fx_x_wordAround u ((fx_x_register u (fx_x_fieldA a0)) + (fx_x_numberI a0))) (fx_x_bitsBelow ((fx_x_register u (fx_x_fieldA a0)) + (fx_x_numberI a0)))))).2.2.1 + (4 : Int32))).1, (fx_x_finish (fx_x_setRegister u (fx_x_fieldD a0) (fx_x_loaded (fx_x_fieldF a0) (jj_ushr (fx_x_wordAround u ((fx_x_register u (fx_x_fieldA a0)) + (fx_x_numberI a0))) (fx_x_bitsBelow ((fx_x_register u (fx_x_fieldA a0)) + (fx_x_numberI a0)))))) ((fx_x_setRegister u (fx_x_fieldD a0) (fx_x_loaded (fx_x_fieldF a0) (jj_ushr (fx_x_wordAround u ((fx_x_register u (fx_x_fieldA a0)) + (fx_x_numberI a0))) (fx_x_bitsBelow ((fx_x_register u (fx_x_fieldA a0)) + (fx_x_numberI a0)))))).2.2.1 + (4 : Int32))).2)))
set_option maxHeartbeats 4000000 in
set_option maxRecDepth 100000 in
theorem ct_x_load (l : Launch) (dC : Nat → ClassId) (dI : Nat → Nat → Nat) (a : XA) (u : XS) (a0 : Int32)  : Met l yX0_load wsX0_load ({ frames := 2, cells := 0, slots := 0, locals := 41 }) (va_Pc [.ref a.1, .int a0] (fun U => va_P (dC, dI) vwCl (xu_w a u) U.heap ∧ va_K (dC, dI) vwCl (xu_t a) U ∧ xu_D a)) (va_Qi (fun r u9 => (r, u9) = fx_x_load u a0) (fun u9 t => va_P (dC, dI) vwCl (xu_w a u9) t.heap ∧ va_K (dC, dI) vwCl (xu_t a) t) (xu_A a)) 0 0 (xu_A a) := by
  refine Met.ofW (cc := cX0_load) (maxL := 3) (ret := (some .int)) (by decide) rfl ?_
  intro p e s m args below meth c s₁ B hml hv
  obtain ⟨rfl, hP, hK, hd⟩ := hv
  have hx := B.exec
  have hb := B.bytes
  have hr := B.returns
  have htb : ∀ w ∈ lw_g, w.before ([.ref a.1, .int a0] : List Value).toArray s = true := fun w h => atoms_spec (ws := wsX0_load) B.pre w (List.mem_cons_of_mem _ h)
  have hown : s.vm.findClass RX0 = some m.cls := findClass_of_methodNamed B.named
  have hlocks := B.notSynchronized
  have hS : va_S (xu_A a) s.heap s.heap [] := va_S.rf
  have hl := lv_entry ([.ref a.1, .int a0]) (n := 3) (Nat.le_of_ble_eq_true rfl)
  rw [lg_entry_eq]
  generalize (lg_sl ([.ref a.1, .int a0]) ++ List.replicate (3 - (lg_sl ([.ref a.1, .int a0])).length) Slot.unset).toArray = ls at hl ⊢
  have hl : lv_has ls 3 [(0, .ref a.1), (1, .int a0)] := hl
  refine lv_aload_n hx hb dX0_load_0 rfl (lv_at hl 0 rfl) ?_
  refine lv_iload_n hx hb dX0_load_1 rfl (lv_at hl 1 rfl) ?_
  refine vp_callSi (W.runS (As := [.int a0]) (rest := [.ref a.1]) ⟨hx, hb, hml, hown, htb⟩ (ct_x_fieldA l a0) (va_cwS 1 htb gw_X0_63 rfl rfl rfl (by decide +kernel) ⟨Nat.le_of_ble_eq_true rfl, Nat.le_of_ble_eq_true rfl⟩) jj_pre rfl rfl hl.1 rfl (lv_room (Nat.le_of_ble_eq_true rfl)) dX0_load_2 ⟨Nat.le_of_ble_eq_true rfl, Nat.le_of_ble_eq_true rfl⟩) (fun r9 e9 => ?_)
  subst e9
  refine vp_callSi (W.runV (As := [.int (fx_x_fieldA a0)]) (rest := []) ⟨hx, hb, hml, hown, htb⟩ (ct_x_register l dC dI a u (fx_x_fieldA a0)) (cwV 1 htb gw_X0_41 rfl rfl rfl (by decide +kernel) ⟨Nat.le_of_ble_eq_true rfl, Nat.le_of_ble_eq_true rfl⟩) (xu_preR hK hP) rfl rfl hl.1 rfl (lv_room (Nat.le_of_ble_eq_true rfl)) dX0_load_5 ⟨Nat.le_of_ble_eq_true rfl, Nat.le_of_ble_eq_true rfl⟩) (fun r9 e9 => ?_)
  subst e9
  refine lv_iload_n hx hb dX0_load_8 rfl (lv_at hl 1 rfl) ?_
  refine vp_callSi (W.runS (As := [.int a0]) (rest := [.int (fx_x_register u (fx_x_fieldA a0))]) ⟨hx, hb, hml, hown, htb⟩ (ct_x_numberI l a0) (va_cwS 1 htb gw_X0_72 rfl rfl rfl (by decide +kernel) ⟨Nat.le_of_ble_eq_true rfl, Nat.le_of_ble_eq_true rfl⟩) jj_pre rfl rfl hl.1 rfl (lv_room (Nat.le_of_ble_eq_true rfl)) dX0_load_9 ⟨Nat.le_of_ble_eq_true rfl, Nat.le_of_ble_eq_true rfl⟩) (fun r9 e9 => ?_)
  subst e9
  refine lv_iadd hx hb dX0_load_12 ?_
  refine lv_istore_n (lv' := [(2, .int ((fx_x_register u (fx_x_fieldA a0)) + (fx_x_numberI a0))), (0, .ref a.1), (1, .int a0)]) hx hb dX0_load_13 rfl hl (by decide) rfl (fun ls hl => ?_)
  refine lv_iload_n hx hb dX0_load_14 rfl (lv_at hl 0 rfl) ?_
  refine lv_iload_n hx hb dX0_load_15 rfl (lv_at hl 2 rfl) ?_
  refine vp_callSi (W.runS (As := [.int a0]) (rest := [.int ((fx_x_register u (fx_x_fieldA a0)) + (fx_x_numberI a0))]) ⟨hx, hb, hml, hown, htb⟩ (ct_x_fieldF l a0) (va_cwS 1 htb gw_X0_60 rfl rfl rfl (by decide +kernel) ⟨Nat.le_of_ble_eq_true rfl, Nat.le_of_ble_eq_true rfl⟩) jj_pre rfl rfl hl.1 rfl (lv_room (Nat.le_of_ble_eq_true rfl)) dX0_load_16 ⟨Nat.le_of_ble_eq_true rfl, Nat.le_of_ble_eq_true rfl⟩) (fun r9 e9 => ?_)
  subst e9
  refine vp_callSi (W.runS (As := [.int ((fx_x_register u (fx_x_fieldA a0)) + (fx_x_numberI a0)), .int (fx_x_fieldF a0)]) (rest := []) ⟨hx, hb, hml, hown, htb⟩ (ct_x_isAligned l ((fx_x_register u (fx_x_fieldA a0)) + (fx_x_numberI a0)) (fx_x_fieldF a0)) (va_cwS 2 htb gw_X0_124 rfl rfl rfl (by decide +kernel) ⟨Nat.le_of_ble_eq_true rfl, Nat.le_of_ble_eq_true rfl⟩) jj_pre rfl rfl hl.1 rfl (lv_room (Nat.le_of_ble_eq_true rfl)) dX0_load_19 ⟨Nat.le_of_ble_eq_true rfl, Nat.le_of_ble_eq_true rfl⟩) (fun r9 e9 => ?_)
  subst e9
  refine lv_if_ne (tgt := 32) hx hb dX0_load_22 (by decide) (fun c1 => ?_) (fun c1 => ?_)
  · refine lv_iload_n hx hb dX0_load_32 rfl (lv_at hl 0 rfl) ?_
    refine vp_callSi (W.runS (As := [.int ((fx_x_register u (fx_x_fieldA a0)) + (fx_x_numberI a0))]) (rest := []) ⟨hx, hb, hml, hown, htb⟩ (ct_x_isOfMemory l ((fx_x_register u (fx_x_fieldA a0)) + (fx_x_numberI a0))) (va_cwS 1 htb gw_X0_94 rfl rfl rfl (by decide +kernel) ⟨Nat.le_of_ble_eq_true rfl, Nat.le_of_ble_eq_true rfl⟩) jj_pre rfl rfl hl.1 rfl (lv_room (Nat.le_of_ble_eq_true rfl)) dX0_load_33 ⟨Nat.le_of_ble_eq_true rfl, Nat.le_of_ble_eq_true rfl⟩) (fun r9 e9 => ?_)
    subst e9
    refine lv_if_ne (tgt := 46) hx hb dX0_load_36 (by decide) (fun c2 => ?_) (fun c2 => ?_)
    · refine lv_aload_n hx hb dX0_load_46 rfl (lv_at hl 1 rfl) ?_
      refine lv_iload_n hx hb dX0_load_47 rfl (lv_at hl 2 rfl) ?_
      refine vp_callSi (W.runS (As := [.int a0]) (rest := [.ref a.1]) ⟨hx, hb, hml, hown, htb⟩ (ct_x_fieldD l a0) (va_cwS 1 htb gw_X0_57 rfl rfl rfl (by decide +kernel) ⟨Nat.le_of_ble_eq_true rfl, Nat.le_of_ble_eq_true rfl⟩) jj_pre rfl rfl hl.1 rfl (lv_room (Nat.le_of_ble_eq_true rfl)) dX0_load_48 ⟨Nat.le_of_ble_eq_true rfl, Nat.le_of_ble_eq_true rfl⟩) (fun r9 e9 => ?_)
      subst e9
      refine lv_iload_n hx hb dX0_load_51 rfl (lv_at hl 2 rfl) ?_
      refine vp_callSi (W.runS (As := [.int a0]) (rest := [.int (fx_x_fieldD a0), .ref a.1]) ⟨hx, hb, hml, hown, htb⟩ (ct_x_fieldF l a0) (va_cwS 1 htb gw_X0_60 rfl rfl rfl (by decide +kernel) ⟨Nat.le_of_ble_eq_true rfl, Nat.le_of_ble_eq_true rfl⟩) jj_pre rfl rfl hl.1 rfl (lv_room (Nat.le_of_ble_eq_true rfl)) dX0_load_52 ⟨Nat.le_of_ble_eq_true rfl, Nat.le_of_ble_eq_true rfl⟩) (fun r9 e9 => ?_)
      subst e9
      refine lv_aload_n hx hb dX0_load_55 rfl (lv_at hl 1 rfl) ?_
      refine lv_iload_n hx hb dX0_load_56 rfl (lv_at hl 0 rfl) ?_
      refine vp_callSi (W.runV (As := [.int ((fx_x_register u (fx_x_fieldA a0)) + (fx_x_numberI a0))]) (rest := [.int (fx_x_fieldF a0), .int (fx_x_fieldD a0), .ref a.1]) ⟨hx, hb, hml, hown, htb⟩ (ct_x_wordAround l dC dI a u ((fx_x_register u (fx_x_fieldA a0)) + (fx_x_numberI a0))) (cwV 1 htb gw_X0_37 rfl rfl rfl (by decide +kernel) ⟨Nat.le_of_ble_eq_true rfl, Nat.le_of_ble_eq_true rfl⟩) (xu_preR hK hP) rfl rfl hl.1 rfl (lv_room (Nat.le_of_ble_eq_true rfl)) dX0_load_57 ⟨Nat.le_of_ble_eq_true rfl, Nat.le_of_ble_eq_true rfl⟩) (fun r9 e9 => ?_)
      subst e9
      refine lv_iload_n hx hb dX0_load_60 rfl (lv_at hl 0 rfl) ?_
      refine vp_callSi (W.runS (As := [.int ((fx_x_register u (fx_x_fieldA a0)) + (fx_x_numberI a0))]) (rest := [.int (fx_x_wordAround u ((fx_x_register u (fx_x_fieldA a0)) + (fx_x_numberI a0))), .int (fx_x_fieldF a0), .int (fx_x_fieldD a0), .ref a.1]) ⟨hx, hb, hml, hown, htb⟩ (ct_x_bitsBelow l ((fx_x_register u (fx_x_fieldA a0)) + (fx_x_numberI a0))) (va_cwS 1 htb gw_X0_127 rfl rfl rfl (by decide +kernel) ⟨Nat.le_of_ble_eq_true rfl, Nat.le_of_ble_eq_true rfl⟩) jj_pre rfl rfl hl.1 rfl (lv_room (Nat.le_of_ble_eq_true rfl)) dX0_load_61 ⟨Nat.le_of_ble_eq_true rfl, Nat.le_of_ble_eq_true rfl⟩) (fun r9 e9 => ?_)
      subst e9
      refine lv_iushr (v := (jj_ushr (fx_x_wordAround u ((fx_x_register u (fx_x_fieldA a0)) + (fx_x_numberI a0))) (fx_x_bitsBelow ((fx_x_register u (fx_x_fieldA a0)) + (fx_x_numberI a0))))) hx hb dX0_load_64 rfl ?_
      refine vp_callSi (W.runS (As := [.int (fx_x_fieldF a0), .int (jj_ushr (fx_x_wordAround u ((fx_x_register u (fx_x_fieldA a0)) + (fx_x_numberI a0))) (fx_x_bitsBelow ((fx_x_register u (fx_x_fieldA a0)) + (fx_x_numberI a0))))]) (rest := [.int (fx_x_fieldD a0), .ref a.1]) ⟨hx, hb, hml, hown, htb⟩ (ct_x_loaded l (fx_x_fieldF a0) (jj_ushr (fx_x_wordAround u ((fx_x_register u (fx_x_fieldA a0)) + (fx_x_numberI a0))) (fx_x_bitsBelow ((fx_x_register u (fx_x_fieldA a0)) + (fx_x_numberI a0))))) (va_cwS 2 htb gw_X0_130 rfl rfl rfl (by decide +kernel) ⟨Nat.le_of_ble_eq_true rfl, Nat.le_of_ble_eq_true rfl⟩) jj_pre rfl rfl hl.1 rfl (lv_room (Nat.le_of_ble_eq_true rfl)) dX0_load_65 ⟨Nat.le_of_ble_eq_true rfl, Nat.le_of_ble_eq_true rfl⟩) (fun r9 e9 => ?_)
      subst e9
      refine xu_callv (va_runV (As := [.int (fx_x_fieldD a0), .int (fx_x_loaded (fx_x_fieldF a0) (jj_ushr (fx_x_wordAround u ((fx_x_register u (fx_x_fieldA a0)) + (fx_x_numberI a0))) (fx_x_bitsBelow ((fx_x_register u (fx_x_fieldA a0)) + (fx_x_numberI a0)))))]) (rest := []) ⟨hx, hb, hml, hown, htb⟩ (ct_x_setRegister l dC dI a u (fx_x_fieldD a0) (fx_x_loaded (fx_x_fieldF a0) (jj_ushr (fx_x_wordAround u ((fx_x_register u (fx_x_fieldA a0)) + (fx_x_numberI a0))) (fx_x_bitsBelow ((fx_x_register u (fx_x_fieldA a0)) + (fx_x_numberI a0)))))) (cwV 2 htb gw_X0_44 rfl rfl rfl (by decide +kernel) ⟨Nat.le_of_ble_eq_true rfl, Nat.le_of_ble_eq_true rfl⟩) (xu_preW hK hP hd) rfl rfl hl.1 rfl (lv_room (Nat.le_of_ble_eq_true rfl)) dX0_load_68 ⟨Nat.le_of_ble_eq_true rfl, Nat.le_of_ble_eq_true rfl⟩) hS (fun H locs hP hS => ?_)
      refine lv_aload_n hx hb dX0_load_71 rfl (lv_at hl 1 rfl) ?_
      refine lv_aload_n hx hb dX0_load_72 rfl (lv_at hl 1 rfl) ?_
      refine va_get (D := (dC, dI)) (ci := 0) (v := .int (fx_x_setRegister u (fx_x_fieldD a0) (fx_x_loaded (fx_x_fieldF a0) (jj_ushr (fx_x_wordAround u ((fx_x_register u (fx_x_fieldA a0)) + (fx_x_numberI a0))) (fx_x_bitsBelow ((fx_x_register u (fx_x_fieldA a0)) + (fx_x_numberI a0)))))).2.2.1) (C := RX0) (T := TX0) (N := 6) hx hb htb inX0 hown hK hP 0 rfl rfl 2 (by decide) (htb _ iw_f_X0_16) (fun _ h9 => h9) rfl dX0_load_73 ?_
      refine lv_iconst (v := (4 : Int32)) hx hb dX0_load_76 (by decide) ?_
      refine lv_iadd hx hb dX0_load_77 ?_
      refine xu_calli (va_runV (As := [.int ((fx_x_setRegister u (fx_x_fieldD a0) (fx_x_loaded (fx_x_fieldF a0) (jj_ushr (fx_x_wordAround u ((fx_x_register u (fx_x_fieldA a0)) + (fx_x_numberI a0))) (fx_x_bitsBelow ((fx_x_register u (fx_x_fieldA a0)) + (fx_x_numberI a0)))))).2.2.1 + (4 : Int32))]) (rest := []) ⟨hx, hb, hml, hown, htb⟩ (ct_x_finish l dC dI a (fx_x_setRegister u (fx_x_fieldD a0) (fx_x_loaded (fx_x_fieldF a0) (jj_ushr (fx_x_wordAround u ((fx_x_register u (fx_x_fieldA a0)) + (fx_x_numberI a0))) (fx_x_bitsBelow ((fx_x_register u (fx_x_fieldA a0)) + (fx_x_numberI a0)))))) ((fx_x_setRegister u (fx_x_fieldD a0) (fx_x_loaded (fx_x_fieldF a0) (jj_ushr (fx_x_wordAround u ((fx_x_register u (fx_x_fieldA a0)) + (fx_x_numberI a0))) (fx_x_bitsBelow ((fx_x_register u (fx_x_fieldA a0)) + (fx_x_numberI a0)))))).2.2.1 + (4 : Int32))) (cwV 1 htb gw_X0_113 rfl rfl rfl (by decide +kernel) ⟨Nat.le_of_ble_eq_true rfl, Nat.le_of_ble_eq_true rfl⟩) (xu_preW hK hP hd) rfl rfl hl.1 rfl (lv_room (Nat.le_of_ble_eq_true rfl)) dX0_load_78 ⟨Nat.le_of_ble_eq_true rfl, Nat.le_of_ble_eq_true rfl⟩) hS (fun H locs hP hS => ?_)
      exact W.iret (v := (fx_x_finish (fx_x_setRegister u (fx_x_fieldD a0) (fx_x_loaded (fx_x_fieldF a0) (jj_ushr (fx_x_wordAround u ((fx_x_register u (fx_x_fieldA a0)) + (fx_x_numberI a0))) (fx_x_bitsBelow ((fx_x_register u (fx_x_fieldA a0)) + (fx_x_numberI a0)))))) ((fx_x_setRegister u (fx_x_fieldD a0) (fx_x_loaded (fx_x_fieldF a0) (jj_ushr (fx_x_wordAround u ((fx_x_register u (fx_x_fieldA a0)) + (fx_x_numberI a0))) (fx_x_bitsBelow ((fx_x_register u (fx_x_fieldA a0)) + (fx_x_numberI a0)))))).2.2.1 + (4 : Int32))).1) hx hb hr (fun t ht hW => ⟨⟨(fx_x_finish (fx_x_setRegister u (fx_x_fieldD a0) (fx_x_loaded (fx_x_fieldF a0) (jj_ushr (fx_x_wordAround u ((fx_x_register u (fx_x_fieldA a0)) + (fx_x_numberI a0))) (fx_x_bitsBelow ((fx_x_register u (fx_x_fieldA a0)) + (fx_x_numberI a0)))))) ((fx_x_setRegister u (fx_x_fieldD a0) (fx_x_loaded (fx_x_fieldF a0) (jj_ushr (fx_x_wordAround u ((fx_x_register u (fx_x_fieldA a0)) + (fx_x_numberI a0))) (fx_x_bitsBelow ((fx_x_register u (fx_x_fieldA a0)) + (fx_x_numberI a0)))))).2.2.1 + (4 : Int32))).1, (fx_x_finish (fx_x_setRegister u (fx_x_fieldD a0) (fx_x_loaded (fx_x_fieldF a0) (jj_ushr (fx_x_wordAround u ((fx_x_register u (fx_x_fieldA a0)) + (fx_x_numberI a0))) (fx_x_bitsBelow ((fx_x_register u (fx_x_fieldA a0)) + (fx_x_numberI a0)))))) ((fx_x_setRegister u (fx_x_fieldD a0) (fx_x_loaded (fx_x_fieldF a0) (jj_ushr (fx_x_wordAround u ((fx_x_register u (fx_x_fieldA a0)) + (fx_x_numberI a0))) (fx_x_bitsBelow ((fx_x_register u (fx_x_fieldA a0)) + (fx_x_numberI a0)))))).2.2.1 + (4 : Int32))).2, rfl, (by unfold fx_x_load; rw [if_neg c1, if_neg c2]), by rw [ht]; exact hP, va_K.moved hW.alike hK⟩, hS.F ht⟩) hS.2.2 dX0_load_81
    · refine lv_aload_n hx hb dX0_load_39 rfl (lv_at hl 1 rfl) ?_
      refine lv_iconst (v := (5 : Int32)) hx hb dX0_load_40 (by decide) ?_
      refine lv_iload_n hx hb dX0_load_41 rfl (lv_at hl 0 rfl) ?_
      refine xu_calli (va_runV (As := [.int (5 : Int32), .int ((fx_x_register u (fx_x_fieldA a0)) + (fx_x_numberI a0))]) (rest := []) ⟨hx, hb, hml, hown, htb⟩ (ct_x_tell l dC dI a u (5 : Int32) ((fx_x_register u (fx_x_fieldA a0)) + (fx_x_numberI a0))) (cwV 2 htb gw_X0_97 rfl rfl rfl (by decide +kernel) ⟨Nat.le_of_ble_eq_true rfl, Nat.le_of_ble_eq_true rfl⟩) (xu_preW hK hP hd) rfl rfl hl.1 rfl (lv_room (Nat.le_of_ble_eq_true rfl)) dX0_load_42 ⟨Nat.le_of_ble_eq_true rfl, Nat.le_of_ble_eq_true rfl⟩) hS (fun H locs hP hS => ?_)
      exact W.iret (v := (fx_x_tell u (5 : Int32) ((fx_x_register u (fx_x_fieldA a0)) + (fx_x_numberI a0))).1) hx hb hr (fun t ht hW => ⟨⟨(fx_x_tell u (5 : Int32) ((fx_x_register u (fx_x_fieldA a0)) + (fx_x_numberI a0))).1, (fx_x_tell u (5 : Int32) ((fx_x_register u (fx_x_fieldA a0)) + (fx_x_numberI a0))).2, rfl, (by unfold fx_x_load; rw [if_neg c1, if_pos c2]), by rw [ht]; exact hP, va_K.moved hW.alike hK⟩, hS.F ht⟩) hS.2.2 dX0_load_45
  · refine lv_aload_n hx hb dX0_load_25 rfl (lv_at hl 1 rfl) ?_
    refine lv_iconst (v := (4 : Int32)) hx hb dX0_load_26 (by decide) ?_
    refine lv_iload_n hx hb dX0_load_27 rfl (lv_at hl 0 rfl) ?_
    refine xu_calli (va_runV (As := [.int (4 : Int32), .int ((fx_x_register u (fx_x_fieldA a0)) + (fx_x_numberI a0))]) (rest := []) ⟨hx, hb, hml, hown, htb⟩ (ct_x_tell l dC dI a u (4 : Int32) ((fx_x_register u (fx_x_fieldA a0)) + (fx_x_numberI a0))) (cwV 2 htb gw_X0_97 rfl rfl rfl (by decide +kernel) ⟨Nat.le_of_ble_eq_true rfl, Nat.le_of_ble_eq_true rfl⟩) (xu_preW hK hP hd) rfl rfl hl.1 rfl (lv_room (Nat.le_of_ble_eq_true rfl)) dX0_load_28 ⟨Nat.le_of_ble_eq_true rfl, Nat.le_of_ble_eq_true rfl⟩) hS (fun H locs hP hS => ?_)
    exact W.iret (v := (fx_x_tell u (4 : Int32) ((fx_x_register u (fx_x_fieldA a0)) + (fx_x_numberI a0))).1) hx hb hr (fun t ht hW => ⟨⟨(fx_x_tell u (4 : Int32) ((fx_x_register u (fx_x_fieldA a0)) + (fx_x_numberI a0))).1, (fx_x_tell u (4 : Int32) ((fx_x_register u (fx_x_fieldA a0)) + (fx_x_numberI a0))).2, rfl, (by unfold fx_x_load; rw [if_pos c1]), by rw [ht]; exact hP, va_K.moved hW.alike hK⟩, hS.F ht⟩) hS.2.2 dX0_load_31
def fx_x_store (u : XS) (a0 : Int32) : Int32 × XS := (if (fx_x_isAligned ((fx_x_register u (fx_x_fieldA a0)) + (fx_x_numberT a0)) (fx_x_fieldF a0)) = (0 : Int32) then ((fx_x_tell u (6 : Int32) ((fx_x_register u (fx_x_fieldA a0)) + (fx_x_numberT a0))).1, (fx_x_tell u (6 : Int32) ((fx_x_register u (fx_x_fieldA a0)) + (fx_x_numberT a0))).2) else (if (fx_x_isOfMemory ((fx_x_register u (fx_x_fieldA a0)) + (fx_x_numberT a0))) = (0 : Int32) then ((fx_x_tell u (7 : Int32) ((fx_x_register u (fx_x_fieldA a0)) + (fx_x_numberT a0))).1, (fx_x_tell u (7 : Int32) ((fx_x_register u (fx_x_fieldA a0)) + (fx_x_numberT a0))).2) else ((fx_x_finish (fx_x_setWordAt u ((fx_x_register u (fx_x_fieldA a0)) + (fx_x_numberT a0)) (((fx_x_wordAround u ((fx_x_register u (fx_x_fieldA a0)) + (fx_x_numberT a0))) &&& (((fx_x_storedMask (fx_x_fieldF a0)) <<< ((fx_x_bitsBelow ((fx_x_register u (fx_x_fieldA a0)) + (fx_x_numberT a0))) &&& 31)) ^^^ (-1 : Int32))) ||| (((fx_x_register u (fx_x_fieldB a0)) <<< ((fx_x_bitsBelow ((fx_x_register u (fx_x_fieldA a0)) + (fx_x_numberT a0))) &&& 31)) &&& ((fx_x_storedMask (fx_x_fieldF a0)) <<< ((fx_x_bitsBelow ((fx_x_register u (fx_x_fieldA a0)) + (fx_x_numberT a0))) &&& 31))))) ((fx_x_setWordAt u ((fx_x_register u (fx_x_fieldA a0)) + (fx_x_numberT a0)) (((fx_x_wordAround u ((fx_x_register u (fx_x_fieldA a0)) + (fx_x_numberT a0))) &&& (((fx_x_storedMask (fx_x_fieldF a0)) <<< ((fx_x_bitsBelow ((fx_x_register u (fx_x_fieldA a0)) + (fx_x_numberT a0))) &&& 31)) ^^^ (-1 : Int32))) ||| (((fx_x_register u (fx_x_fieldB a0)) <<< ((fx_x_bitsBelow ((fx_x_register u (fx_x_fieldA a0)) + (fx_x_numberT a0))) &&& 31)) &&& ((fx_x_storedMask (fx_x_fieldF a0)) <<< ((fx_x_bitsBelow ((fx_x_register u (fx_x_fieldA a0)) + (fx_x_numberT a0))) &&& 31))))).2.2.1 + (4 : Int32))).1, (fx_x_finish (fx_x_setWordAt u ((fx_x_register u (fx_x_fieldA a0)) + (fx_x_numberT a0)) (((fx_x_wordAround u ((fx_x_register u (fx_x_fieldA a0)) + (fx_x_numberT a0))) &&& (((fx_x_storedMask (fx_x_fieldF a0)) <<< ((fx_x_bitsBelow ((fx_x_register u (fx_x_fieldA a0)) + (fx_x_numberT a0))) &&& 31)) ^^^ (-1 : Int32))) ||| (((fx_x_register u (fx_x_fieldB a0)) <<< ((fx_x_bitsBelow ((fx_x_register u (fx_x_fieldA a0)) + (fx_x_numberT a0))) &&& 31)) &&& ((fx_x_storedMask (fx_x_fieldF a0)) <<< ((fx_x_bitsBelow ((fx_x_register u (fx_x_fieldA a0)) + (fx_x_numberT a0))) &&& 31))))) ((fx_x_setWordAt u ((fx_x_register u (fx_x_fieldA a0)) + (fx_x_numberT a0)) (((fx_x_wordAround u ((fx_x_register u (fx_x_fieldA a0)) + (fx_x_numberT a0))) &&& (((fx_x_storedMask (fx_x_fieldF a0)) <<< ((fx_x_bitsBelow ((fx_x_register u (fx_x_fieldA a0)) + (fx_x_numberT a0))) &&& 31)) ^^^ (-1 : Int32))) ||| (((fx_x_register u (fx_x_fieldB a0)) <<< ((fx_x_bitsBelow ((fx_x_register u (fx_x_fieldA a0)) + (fx_x_numberT a0))) &&& 31)) &&& ((fx_x_storedMask (fx_x_fieldF a0)) <<< ((fx_x_bitsBelow ((fx_x_register u (fx_x_fieldA a0)) + (fx_x_numberT a0))) &&& 31))))).2.2.1 + (4 : Int32))).2)))
set_option maxHeartbeats 4000000 in
set_option maxRecDepth 100000 in
theorem ct_x_store (l : Launch) (dC : Nat → ClassId) (dI : Nat → Nat → Nat) (a : XA) (u : XS) (a0 : Int32)  : Met l yX0_store wsX0_store ({ frames := 2, cells := 0, slots := 0, locals := 42 }) (va_Pc [.ref a.1, .int a0] (fun U => va_P (dC, dI) vwCl (xu_w a u) U.heap ∧ va_K (dC, dI) vwCl (xu_t a) U ∧ xu_D a)) (va_Qi (fun r u9 => (r, u9) = fx_x_store u a0) (fun u9 t => va_P (dC, dI) vwCl (xu_w a u9) t.heap ∧ va_K (dC, dI) vwCl (xu_t a) t) (xu_A a)) 0 0 (xu_A a) := by
  refine Met.ofW (cc := cX0_store) (maxL := 5) (ret := (some .int)) (by decide) rfl ?_
  intro p e s m args below meth c s₁ B hml hv
  obtain ⟨rfl, hP, hK, hd⟩ := hv
  have hx := B.exec
  have hb := B.bytes
  have hr := B.returns
  have htb : ∀ w ∈ lw_g, w.before ([.ref a.1, .int a0] : List Value).toArray s = true := fun w h => atoms_spec (ws := wsX0_store) B.pre w (List.mem_cons_of_mem _ h)
  have hown : s.vm.findClass RX0 = some m.cls := findClass_of_methodNamed B.named
  have hlocks := B.notSynchronized
  have hS : va_S (xu_A a) s.heap s.heap [] := va_S.rf
  have hl := lv_entry ([.ref a.1, .int a0]) (n := 5) (Nat.le_of_ble_eq_true rfl)
  rw [lg_entry_eq]
  generalize (lg_sl ([.ref a.1, .int a0]) ++ List.replicate (5 - (lg_sl ([.ref a.1, .int a0])).length) Slot.unset).toArray = ls at hl ⊢
  have hl : lv_has ls 5 [(0, .ref a.1), (1, .int a0)] := hl
  refine lv_aload_n hx hb dX0_store_0 rfl (lv_at hl 0 rfl) ?_
  refine lv_iload_n hx hb dX0_store_1 rfl (lv_at hl 1 rfl) ?_
  refine vp_callSi (W.runS (As := [.int a0]) (rest := [.ref a.1]) ⟨hx, hb, hml, hown, htb⟩ (ct_x_fieldA l a0) (va_cwS 1 htb gw_X0_63 rfl rfl rfl (by decide +kernel) ⟨Nat.le_of_ble_eq_true rfl, Nat.le_of_ble_eq_true rfl⟩) jj_pre rfl rfl hl.1 rfl (lv_room (Nat.le_of_ble_eq_true rfl)) dX0_store_2 ⟨Nat.le_of_ble_eq_true rfl, Nat.le_of_ble_eq_true rfl⟩) (fun r9 e9 => ?_)
  subst e9
  refine vp_callSi (W.runV (As := [.int (fx_x_fieldA a0)]) (rest := []) ⟨hx, hb, hml, hown, htb⟩ (ct_x_register l dC dI a u (fx_x_fieldA a0)) (cwV 1 htb gw_X0_41 rfl rfl rfl (by decide +kernel) ⟨Nat.le_of_ble_eq_true rfl, Nat.le_of_ble_eq_true rfl⟩) (xu_preR hK hP) rfl rfl hl.1 rfl (lv_room (Nat.le_of_ble_eq_true rfl)) dX0_store_5 ⟨Nat.le_of_ble_eq_true rfl, Nat.le_of_ble_eq_true rfl⟩) (fun r9 e9 => ?_)
  subst e9
  refine lv_iload_n hx hb dX0_store_8 rfl (lv_at hl 1 rfl) ?_
  refine vp_callSi (W.runS (As := [.int a0]) (rest := [.int (fx_x_register u (fx_x_fieldA a0))]) ⟨hx, hb, hml, hown, htb⟩ (ct_x_numberT l a0) (va_cwS 1 htb gw_X0_75 rfl rfl rfl (by decide +kernel) ⟨Nat.le_of_ble_eq_true rfl, Nat.le_of_ble_eq_true rfl⟩) jj_pre rfl rfl hl.1 rfl (lv_room (Nat.le_of_ble_eq_true rfl)) dX0_store_9 ⟨Nat.le_of_ble_eq_true rfl, Nat.le_of_ble_eq_true rfl⟩) (fun r9 e9 => ?_)
  subst e9
  refine lv_iadd hx hb dX0_store_12 ?_
  refine lv_istore_n (lv' := [(2, .int ((fx_x_register u (fx_x_fieldA a0)) + (fx_x_numberT a0))), (0, .ref a.1), (1, .int a0)]) hx hb dX0_store_13 rfl hl (by decide) rfl (fun ls hl => ?_)
  refine lv_iload_n hx hb dX0_store_14 rfl (lv_at hl 0 rfl) ?_
  refine lv_iload_n hx hb dX0_store_15 rfl (lv_at hl 2 rfl) ?_
  refine vp_callSi (W.runS (As := [.int a0]) (rest := [.int ((fx_x_register u (fx_x_fieldA a0)) + (fx_x_numberT a0))]) ⟨hx, hb, hml, hown, htb⟩ (ct_x_fieldF l a0) (va_cwS 1 htb gw_X0_60 rfl rfl rfl (by decide +kernel) ⟨Nat.le_of_ble_eq_true rfl, Nat.le_of_ble_eq_true rfl⟩) jj_pre rfl rfl hl.1 rfl (lv_room (Nat.le_of_ble_eq_true rfl)) dX0_store_16 ⟨Nat.le_of_ble_eq_true rfl, Nat.le_of_ble_eq_true rfl⟩) (fun r9 e9 => ?_)
  subst e9
  refine vp_callSi (W.runS (As := [.int ((fx_x_register u (fx_x_fieldA a0)) + (fx_x_numberT a0)), .int (fx_x_fieldF a0)]) (rest := []) ⟨hx, hb, hml, hown, htb⟩ (ct_x_isAligned l ((fx_x_register u (fx_x_fieldA a0)) + (fx_x_numberT a0)) (fx_x_fieldF a0)) (va_cwS 2 htb gw_X0_124 rfl rfl rfl (by decide +kernel) ⟨Nat.le_of_ble_eq_true rfl, Nat.le_of_ble_eq_true rfl⟩) jj_pre rfl rfl hl.1 rfl (lv_room (Nat.le_of_ble_eq_true rfl)) dX0_store_19 ⟨Nat.le_of_ble_eq_true rfl, Nat.le_of_ble_eq_true rfl⟩) (fun r9 e9 => ?_)
  subst e9
  refine lv_if_ne (tgt := 33) hx hb dX0_store_22 (by decide) (fun c1 => ?_) (fun c1 => ?_)
  · refine lv_iload_n hx hb dX0_store_33 rfl (lv_at hl 0 rfl) ?_
    refine vp_callSi (W.runS (As := [.int ((fx_x_register u (fx_x_fieldA a0)) + (fx_x_numberT a0))]) (rest := []) ⟨hx, hb, hml, hown, htb⟩ (ct_x_isOfMemory l ((fx_x_register u (fx_x_fieldA a0)) + (fx_x_numberT a0))) (va_cwS 1 htb gw_X0_94 rfl rfl rfl (by decide +kernel) ⟨Nat.le_of_ble_eq_true rfl, Nat.le_of_ble_eq_true rfl⟩) jj_pre rfl rfl hl.1 rfl (lv_room (Nat.le_of_ble_eq_true rfl)) dX0_store_34 ⟨Nat.le_of_ble_eq_true rfl, Nat.le_of_ble_eq_true rfl⟩) (fun r9 e9 => ?_)
    subst e9
    refine lv_if_ne (tgt := 48) hx hb dX0_store_37 (by decide) (fun c2 => ?_) (fun c2 => ?_)
    · refine lv_iload_n hx hb dX0_store_48 rfl (lv_at hl 2 rfl) ?_
      refine vp_callSi (W.runS (As := [.int a0]) (rest := []) ⟨hx, hb, hml, hown, htb⟩ (ct_x_fieldF l a0) (va_cwS 1 htb gw_X0_60 rfl rfl rfl (by decide +kernel) ⟨Nat.le_of_ble_eq_true rfl, Nat.le_of_ble_eq_true rfl⟩) jj_pre rfl rfl hl.1 rfl (lv_room (Nat.le_of_ble_eq_true rfl)) dX0_store_49 ⟨Nat.le_of_ble_eq_true rfl, Nat.le_of_ble_eq_true rfl⟩) (fun r9 e9 => ?_)
      subst e9
      refine vp_callSi (W.runS (As := [.int (fx_x_fieldF a0)]) (rest := []) ⟨hx, hb, hml, hown, htb⟩ (ct_x_storedMask l (fx_x_fieldF a0)) (va_cwS 1 htb gw_X0_134 rfl rfl rfl (by decide +kernel) ⟨Nat.le_of_ble_eq_true rfl, Nat.le_of_ble_eq_true rfl⟩) jj_pre rfl rfl hl.1 rfl (lv_room (Nat.le_of_ble_eq_true rfl)) dX0_store_52 ⟨Nat.le_of_ble_eq_true rfl, Nat.le_of_ble_eq_true rfl⟩) (fun r9 e9 => ?_)
      subst e9
      refine lv_iload_n hx hb dX0_store_55 rfl (lv_at hl 0 rfl) ?_
      refine vp_callSi (W.runS (As := [.int ((fx_x_register u (fx_x_fieldA a0)) + (fx_x_numberT a0))]) (rest := [.int (fx_x_storedMask (fx_x_fieldF a0))]) ⟨hx, hb, hml, hown, htb⟩ (ct_x_bitsBelow l ((fx_x_register u (fx_x_fieldA a0)) + (fx_x_numberT a0))) (va_cwS 1 htb gw_X0_127 rfl rfl rfl (by decide +kernel) ⟨Nat.le_of_ble_eq_true rfl, Nat.le_of_ble_eq_true rfl⟩) jj_pre rfl rfl hl.1 rfl (lv_room (Nat.le_of_ble_eq_true rfl)) dX0_store_56 ⟨Nat.le_of_ble_eq_true rfl, Nat.le_of_ble_eq_true rfl⟩) (fun r9 e9 => ?_)
      subst e9
      refine lv_ishl hx hb dX0_store_59 ?_
      refine lv_istore_n (lv' := [(3, .int ((fx_x_storedMask (fx_x_fieldF a0)) <<< ((fx_x_bitsBelow ((fx_x_register u (fx_x_fieldA a0)) + (fx_x_numberT a0))) &&& 31))), (2, .int ((fx_x_register u (fx_x_fieldA a0)) + (fx_x_numberT a0))), (0, .ref a.1), (1, .int a0)]) hx hb dX0_store_60 rfl hl (by decide) rfl (fun ls hl => ?_)
      refine lv_aload_n hx hb dX0_store_61 rfl (lv_at hl 2 rfl) ?_
      refine lv_iload_n hx hb dX0_store_62 rfl (lv_at hl 3 rfl) ?_
      refine vp_callSi (W.runS (As := [.int a0]) (rest := [.ref a.1]) ⟨hx, hb, hml, hown, htb⟩ (ct_x_fieldB l a0) (va_cwS 1 htb gw_X0_66 rfl rfl rfl (by decide +kernel) ⟨Nat.le_of_ble_eq_true rfl, Nat.le_of_ble_eq_true rfl⟩) jj_pre rfl rfl hl.1 rfl (lv_room (Nat.le_of_ble_eq_true rfl)) dX0_store_63 ⟨Nat.le_of_ble_eq_true rfl, Nat.le_of_ble_eq_true rfl⟩) (fun r9 e9 => ?_)
      subst e9
      refine vp_callSi (W.runV (As := [.int (fx_x_fieldB a0)]) (rest := []) ⟨hx, hb, hml, hown, htb⟩ (ct_x_register l dC dI a u (fx_x_fieldB a0)) (cwV 1 htb gw_X0_41 rfl rfl rfl (by decide +kernel) ⟨Nat.le_of_ble_eq_true rfl, Nat.le_of_ble_eq_true rfl⟩) (xu_preR hK hP) rfl rfl hl.1 rfl (lv_room (Nat.le_of_ble_eq_true rfl)) dX0_store_66 ⟨Nat.le_of_ble_eq_true rfl, Nat.le_of_ble_eq_true rfl⟩) (fun r9 e9 => ?_)
      subst e9
      refine lv_iload_n hx hb dX0_store_69 rfl (lv_at hl 1 rfl) ?_
      refine vp_callSi (W.runS (As := [.int ((fx_x_register u (fx_x_fieldA a0)) + (fx_x_numberT a0))]) (rest := [.int (fx_x_register u (fx_x_fieldB a0))]) ⟨hx, hb, hml, hown, htb⟩ (ct_x_bitsBelow l ((fx_x_register u (fx_x_fieldA a0)) + (fx_x_numberT a0))) (va_cwS 1 htb gw_X0_127 rfl rfl rfl (by decide +kernel) ⟨Nat.le_of_ble_eq_true rfl, Nat.le_of_ble_eq_true rfl⟩) jj_pre rfl rfl hl.1 rfl (lv_room (Nat.le_of_ble_eq_true rfl)) dX0_store_70 ⟨Nat.le_of_ble_eq_true rfl, Nat.le_of_ble_eq_true rfl⟩) (fun r9 e9 => ?_)
      subst e9
      refine lv_ishl hx hb dX0_store_73 ?_
      refine lv_istore (lv' := [(4, .int ((fx_x_register u (fx_x_fieldB a0)) <<< ((fx_x_bitsBelow ((fx_x_register u (fx_x_fieldA a0)) + (fx_x_numberT a0))) &&& 31))), (3, .int ((fx_x_storedMask (fx_x_fieldF a0)) <<< ((fx_x_bitsBelow ((fx_x_register u (fx_x_fieldA a0)) + (fx_x_numberT a0))) &&& 31))), (2, .int ((fx_x_register u (fx_x_fieldA a0)) + (fx_x_numberT a0))), (0, .ref a.1), (1, .int a0)]) hx hb dX0_store_74 hl (by decide) rfl (fun ls hl => ?_)
      refine lv_aload_n hx hb dX0_store_76 rfl (lv_at hl 3 rfl) ?_
      refine lv_iload_n hx hb dX0_store_77 rfl (lv_at hl 2 rfl) ?_
      refine lv_aload_n hx hb dX0_store_78 rfl (lv_at hl 3 rfl) ?_
      refine lv_iload_n hx hb dX0_store_79 rfl (lv_at hl 2 rfl) ?_
      refine vp_callSi (W.runV (As := [.int ((fx_x_register u (fx_x_fieldA a0)) + (fx_x_numberT a0))]) (rest := [.int ((fx_x_register u (fx_x_fieldA a0)) + (fx_x_numberT a0)), .ref a.1]) ⟨hx, hb, hml, hown, htb⟩ (ct_x_wordAround l dC dI a u ((fx_x_register u (fx_x_fieldA a0)) + (fx_x_numberT a0))) (cwV 1 htb gw_X0_37 rfl rfl rfl (by decide +kernel) ⟨Nat.le_of_ble_eq_true rfl, Nat.le_of_ble_eq_true rfl⟩) (xu_preR hK hP) rfl rfl hl.1 rfl (lv_room (Nat.le_of_ble_eq_true rfl)) dX0_store_80 ⟨Nat.le_of_ble_eq_true rfl, Nat.le_of_ble_eq_true rfl⟩) (fun r9 e9 => ?_)
      subst e9
      refine lv_iload_n hx hb dX0_store_83 rfl (lv_at hl 1 rfl) ?_
      refine lv_iconst (v := (-1 : Int32)) hx hb dX0_store_84 (by decide) ?_
      refine lv_ixor hx hb dX0_store_85 ?_
      refine lv_iand hx hb dX0_store_86 ?_
      refine lv_iload hx hb dX0_store_87 (lv_at hl 0 rfl) ?_
      refine lv_iload_n hx hb dX0_store_89 rfl (lv_at hl 1 rfl) ?_
      refine lv_iand hx hb dX0_store_90 ?_
      refine lv_ior hx hb dX0_store_91 ?_
      refine xu_callv (va_runV (As := [.int ((fx_x_register u (fx_x_fieldA a0)) + (fx_x_numberT a0)), .int (((fx_x_wordAround u ((fx_x_register u (fx_x_fieldA a0)) + (fx_x_numberT a0))) &&& (((fx_x_storedMask (fx_x_fieldF a0)) <<< ((fx_x_bitsBelow ((fx_x_register u (fx_x_fieldA a0)) + (fx_x_numberT a0))) &&& 31)) ^^^ (-1 : Int32))) ||| (((fx_x_register u (fx_x_fieldB a0)) <<< ((fx_x_bitsBelow ((fx_x_register u (fx_x_fieldA a0)) + (fx_x_numberT a0))) &&& 31)) &&& ((fx_x_storedMask (fx_x_fieldF a0)) <<< ((fx_x_bitsBelow ((fx_x_register u (fx_x_fieldA a0)) + (fx_x_numberT a0))) &&& 31))))]) (rest := []) ⟨hx, hb, hml, hown, htb⟩ (ct_x_setWordAt l dC dI a u ((fx_x_register u (fx_x_fieldA a0)) + (fx_x_numberT a0)) (((fx_x_wordAround u ((fx_x_register u (fx_x_fieldA a0)) + (fx_x_numberT a0))) &&& (((fx_x_storedMask (fx_x_fieldF a0)) <<< ((fx_x_bitsBelow ((fx_x_register u (fx_x_fieldA a0)) + (fx_x_numberT a0))) &&& 31)) ^^^ (-1 : Int32))) ||| (((fx_x_register u (fx_x_fieldB a0)) <<< ((fx_x_bitsBelow ((fx_x_register u (fx_x_fieldA a0)) + (fx_x_numberT a0))) &&& 31)) &&& ((fx_x_storedMask (fx_x_fieldF a0)) <<< ((fx_x_bitsBelow ((fx_x_register u (fx_x_fieldA a0)) + (fx_x_numberT a0))) &&& 31))))) (cwV 2 htb gw_X0_33 rfl rfl rfl (by decide +kernel) ⟨Nat.le_of_ble_eq_true rfl, Nat.le_of_ble_eq_true rfl⟩) (xu_preW hK hP hd) rfl rfl hl.1 rfl (lv_room (Nat.le_of_ble_eq_true rfl)) dX0_store_92 ⟨Nat.le_of_ble_eq_true rfl, Nat.le_of_ble_eq_true rfl⟩) hS (fun H locs hP hS => ?_)
      refine lv_aload_n hx hb dX0_store_95 rfl (lv_at hl 3 rfl) ?_
      refine lv_aload_n hx hb dX0_store_96 rfl (lv_at hl 3 rfl) ?_
      refine va_get (D := (dC, dI)) (ci := 0) (v := .int (fx_x_setWordAt u ((fx_x_register u (fx_x_fieldA a0)) + (fx_x_numberT a0)) (((fx_x_wordAround u ((fx_x_register u (fx_x_fieldA a0)) + (fx_x_numberT a0))) &&& (((fx_x_storedMask (fx_x_fieldF a0)) <<< ((fx_x_bitsBelow ((fx_x_register u (fx_x_fieldA a0)) + (fx_x_numberT a0))) &&& 31)) ^^^ (-1 : Int32))) ||| (((fx_x_register u (fx_x_fieldB a0)) <<< ((fx_x_bitsBelow ((fx_x_register u (fx_x_fieldA a0)) + (fx_x_numberT a0))) &&& 31)) &&& ((fx_x_storedMask (fx_x_fieldF a0)) <<< ((fx_x_bitsBelow ((fx_x_register u (fx_x_fieldA a0)) + (fx_x_numberT a0))) &&& 31))))).2.2.1) (C := RX0) (T := TX0) (N := 6) hx hb htb inX0 hown hK hP 0 rfl rfl 2 (by decide) (htb _ iw_f_X0_16) (fun _ h9 => h9) rfl dX0_store_97 ?_
      refine lv_iconst (v := (4 : Int32)) hx hb dX0_store_100 (by decide) ?_
      refine lv_iadd hx hb dX0_store_101 ?_
      refine xu_calli (va_runV (As := [.int ((fx_x_setWordAt u ((fx_x_register u (fx_x_fieldA a0)) + (fx_x_numberT a0)) (((fx_x_wordAround u ((fx_x_register u (fx_x_fieldA a0)) + (fx_x_numberT a0))) &&& (((fx_x_storedMask (fx_x_fieldF a0)) <<< ((fx_x_bitsBelow ((fx_x_register u (fx_x_fieldA a0)) + (fx_x_numberT a0))) &&& 31)) ^^^ (-1 : Int32))) ||| (((fx_x_register u (fx_x_fieldB a0)) <<< ((fx_x_bitsBelow ((fx_x_register u (fx_x_fieldA a0)) + (fx_x_numberT a0))) &&& 31)) &&& ((fx_x_storedMask (fx_x_fieldF a0)) <<< ((fx_x_bitsBelow ((fx_x_register u (fx_x_fieldA a0)) + (fx_x_numberT a0))) &&& 31))))).2.2.1 + (4 : Int32))]) (rest := []) ⟨hx, hb, hml, hown, htb⟩ (ct_x_finish l dC dI a (fx_x_setWordAt u ((fx_x_register u (fx_x_fieldA a0)) + (fx_x_numberT a0)) (((fx_x_wordAround u ((fx_x_register u (fx_x_fieldA a0)) + (fx_x_numberT a0))) &&& (((fx_x_storedMask (fx_x_fieldF a0)) <<< ((fx_x_bitsBelow ((fx_x_register u (fx_x_fieldA a0)) + (fx_x_numberT a0))) &&& 31)) ^^^ (-1 : Int32))) ||| (((fx_x_register u (fx_x_fieldB a0)) <<< ((fx_x_bitsBelow ((fx_x_register u (fx_x_fieldA a0)) + (fx_x_numberT a0))) &&& 31)) &&& ((fx_x_storedMask (fx_x_fieldF a0)) <<< ((fx_x_bitsBelow ((fx_x_register u (fx_x_fieldA a0)) + (fx_x_numberT a0))) &&& 31))))) ((fx_x_setWordAt u ((fx_x_register u (fx_x_fieldA a0)) + (fx_x_numberT a0)) (((fx_x_wordAround u ((fx_x_register u (fx_x_fieldA a0)) + (fx_x_numberT a0))) &&& (((fx_x_storedMask (fx_x_fieldF a0)) <<< ((fx_x_bitsBelow ((fx_x_register u (fx_x_fieldA a0)) + (fx_x_numberT a0))) &&& 31)) ^^^ (-1 : Int32))) ||| (((fx_x_register u (fx_x_fieldB a0)) <<< ((fx_x_bitsBelow ((fx_x_register u (fx_x_fieldA a0)) + (fx_x_numberT a0))) &&& 31)) &&& ((fx_x_storedMask (fx_x_fieldF a0)) <<< ((fx_x_bitsBelow ((fx_x_register u (fx_x_fieldA a0)) + (fx_x_numberT a0))) &&& 31))))).2.2.1 + (4 : Int32))) (cwV 1 htb gw_X0_113 rfl rfl rfl (by decide +kernel) ⟨Nat.le_of_ble_eq_true rfl, Nat.le_of_ble_eq_true rfl⟩) (xu_preW hK hP hd) rfl rfl hl.1 rfl (lv_room (Nat.le_of_ble_eq_true rfl)) dX0_store_102 ⟨Nat.le_of_ble_eq_true rfl, Nat.le_of_ble_eq_true rfl⟩) hS (fun H locs hP hS => ?_)
      exact W.iret (v := (fx_x_finish (fx_x_setWordAt u ((fx_x_register u (fx_x_fieldA a0)) + (fx_x_numberT a0)) (((fx_x_wordAround u ((fx_x_register u (fx_x_fieldA a0)) + (fx_x_numberT a0))) &&& (((fx_x_storedMask (fx_x_fieldF a0)) <<< ((fx_x_bitsBelow ((fx_x_register u (fx_x_fieldA a0)) + (fx_x_numberT a0))) &&& 31)) ^^^ (-1 : Int32))) ||| (((fx_x_register u (fx_x_fieldB a0)) <<< ((fx_x_bitsBelow ((fx_x_register u (fx_x_fieldA a0)) + (fx_x_numberT a0))) &&& 31)) &&& ((fx_x_storedMask (fx_x_fieldF a0)) <<< ((fx_x_bitsBelow ((fx_x_register u (fx_x_fieldA a0)) + (fx_x_numberT a0))) &&& 31))))) ((fx_x_setWordAt u ((fx_x_register u (fx_x_fieldA a0)) + (fx_x_numberT a0)) (((fx_x_wordAround u ((fx_x_register u (fx_x_fieldA a0)) + (fx_x_numberT a0))) &&& (((fx_x_storedMask (fx_x_fieldF a0)) <<< ((fx_x_bitsBelow ((fx_x_register u (fx_x_fieldA a0)) + (fx_x_numberT a0))) &&& 31)) ^^^ (-1 : Int32))) ||| (((fx_x_register u (fx_x_fieldB a0)) <<< ((fx_x_bitsBelow ((fx_x_register u (fx_x_fieldA a0)) + (fx_x_numberT a0))) &&& 31)) &&& ((fx_x_storedMask (fx_x_fieldF a0)) <<< ((fx_x_bitsBelow ((fx_x_register u (fx_x_fieldA a0)) + (fx_x_numberT a0))) &&& 31))))).2.2.1 + (4 : Int32))).1) hx hb hr (fun t ht hW => ⟨⟨(fx_x_finish (fx_x_setWordAt u ((fx_x_register u (fx_x_fieldA a0)) + (fx_x_numberT a0)) (((fx_x_wordAround u ((fx_x_register u (fx_x_fieldA a0)) + (fx_x_numberT a0))) &&& (((fx_x_storedMask (fx_x_fieldF a0)) <<< ((fx_x_bitsBelow ((fx_x_register u (fx_x_fieldA a0)) + (fx_x_numberT a0))) &&& 31)) ^^^ (-1 : Int32))) ||| (((fx_x_register u (fx_x_fieldB a0)) <<< ((fx_x_bitsBelow ((fx_x_register u (fx_x_fieldA a0)) + (fx_x_numberT a0))) &&& 31)) &&& ((fx_x_storedMask (fx_x_fieldF a0)) <<< ((fx_x_bitsBelow ((fx_x_register u (fx_x_fieldA a0)) + (fx_x_numberT a0))) &&& 31))))) ((fx_x_setWordAt u ((fx_x_register u (fx_x_fieldA a0)) + (fx_x_numberT a0)) (((fx_x_wordAround u ((fx_x_register u (fx_x_fieldA a0)) + (fx_x_numberT a0))) &&& (((fx_x_storedMask (fx_x_fieldF a0)) <<< ((fx_x_bitsBelow ((fx_x_register u (fx_x_fieldA a0)) + (fx_x_numberT a0))) &&& 31)) ^^^ (-1 : Int32))) ||| (((fx_x_register u (fx_x_fieldB a0)) <<< ((fx_x_bitsBelow ((fx_x_register u (fx_x_fieldA a0)) + (fx_x_numberT a0))) &&& 31)) &&& ((fx_x_storedMask (fx_x_fieldF a0)) <<< ((fx_x_bitsBelow ((fx_x_register u (fx_x_fieldA a0)) + (fx_x_numberT a0))) &&& 31))))).2.2.1 + (4 : Int32))).1, (fx_x_finish (fx_x_setWordAt u ((fx_x_register u (fx_x_fieldA a0)) + (fx_x_numberT a0)) (((fx_x_wordAround u ((fx_x_register u (fx_x_fieldA a0)) + (fx_x_numberT a0))) &&& (((fx_x_storedMask (fx_x_fieldF a0)) <<< ((fx_x_bitsBelow ((fx_x_register u (fx_x_fieldA a0)) + (fx_x_numberT a0))) &&& 31)) ^^^ (-1 : Int32))) ||| (((fx_x_register u (fx_x_fieldB a0)) <<< ((fx_x_bitsBelow ((fx_x_register u (fx_x_fieldA a0)) + (fx_x_numberT a0))) &&& 31)) &&& ((fx_x_storedMask (fx_x_fieldF a0)) <<< ((fx_x_bitsBelow ((fx_x_register u (fx_x_fieldA a0)) + (fx_x_numberT a0))) &&& 31))))) ((fx_x_setWordAt u ((fx_x_register u (fx_x_fieldA a0)) + (fx_x_numberT a0)) (((fx_x_wordAround u ((fx_x_register u (fx_x_fieldA a0)) + (fx_x_numberT a0))) &&& (((fx_x_storedMask (fx_x_fieldF a0)) <<< ((fx_x_bitsBelow ((fx_x_register u (fx_x_fieldA a0)) + (fx_x_numberT a0))) &&& 31)) ^^^ (-1 : Int32))) ||| (((fx_x_register u (fx_x_fieldB a0)) <<< ((fx_x_bitsBelow ((fx_x_register u (fx_x_fieldA a0)) + (fx_x_numberT a0))) &&& 31)) &&& ((fx_x_storedMask (fx_x_fieldF a0)) <<< ((fx_x_bitsBelow ((fx_x_register u (fx_x_fieldA a0)) + (fx_x_numberT a0))) &&& 31))))).2.2.1 + (4 : Int32))).2, rfl, (by unfold fx_x_store; rw [if_neg c1, if_neg c2]), by rw [ht]; exact hP, va_K.moved hW.alike hK⟩, hS.F ht⟩) hS.2.2 dX0_store_105
    · refine lv_aload_n hx hb dX0_store_40 rfl (lv_at hl 1 rfl) ?_
      refine lv_bipush (v := (7 : Int32)) hx hb dX0_store_41 (by decide) ?_
      refine lv_iload_n hx hb dX0_store_43 rfl (lv_at hl 0 rfl) ?_
      refine xu_calli (va_runV (As := [.int (7 : Int32), .int ((fx_x_register u (fx_x_fieldA a0)) + (fx_x_numberT a0))]) (rest := []) ⟨hx, hb, hml, hown, htb⟩ (ct_x_tell l dC dI a u (7 : Int32) ((fx_x_register u (fx_x_fieldA a0)) + (fx_x_numberT a0))) (cwV 2 htb gw_X0_97 rfl rfl rfl (by decide +kernel) ⟨Nat.le_of_ble_eq_true rfl, Nat.le_of_ble_eq_true rfl⟩) (xu_preW hK hP hd) rfl rfl hl.1 rfl (lv_room (Nat.le_of_ble_eq_true rfl)) dX0_store_44 ⟨Nat.le_of_ble_eq_true rfl, Nat.le_of_ble_eq_true rfl⟩) hS (fun H locs hP hS => ?_)
      exact W.iret (v := (fx_x_tell u (7 : Int32) ((fx_x_register u (fx_x_fieldA a0)) + (fx_x_numberT a0))).1) hx hb hr (fun t ht hW => ⟨⟨(fx_x_tell u (7 : Int32) ((fx_x_register u (fx_x_fieldA a0)) + (fx_x_numberT a0))).1, (fx_x_tell u (7 : Int32) ((fx_x_register u (fx_x_fieldA a0)) + (fx_x_numberT a0))).2, rfl, (by unfold fx_x_store; rw [if_neg c1, if_pos c2]), by rw [ht]; exact hP, va_K.moved hW.alike hK⟩, hS.F ht⟩) hS.2.2 dX0_store_47
  · refine lv_aload_n hx hb dX0_store_25 rfl (lv_at hl 1 rfl) ?_
    refine lv_bipush (v := (6 : Int32)) hx hb dX0_store_26 (by decide) ?_
    refine lv_iload_n hx hb dX0_store_28 rfl (lv_at hl 0 rfl) ?_
    refine xu_calli (va_runV (As := [.int (6 : Int32), .int ((fx_x_register u (fx_x_fieldA a0)) + (fx_x_numberT a0))]) (rest := []) ⟨hx, hb, hml, hown, htb⟩ (ct_x_tell l dC dI a u (6 : Int32) ((fx_x_register u (fx_x_fieldA a0)) + (fx_x_numberT a0))) (cwV 2 htb gw_X0_97 rfl rfl rfl (by decide +kernel) ⟨Nat.le_of_ble_eq_true rfl, Nat.le_of_ble_eq_true rfl⟩) (xu_preW hK hP hd) rfl rfl hl.1 rfl (lv_room (Nat.le_of_ble_eq_true rfl)) dX0_store_29 ⟨Nat.le_of_ble_eq_true rfl, Nat.le_of_ble_eq_true rfl⟩) hS (fun H locs hP hS => ?_)
    exact W.iret (v := (fx_x_tell u (6 : Int32) ((fx_x_register u (fx_x_fieldA a0)) + (fx_x_numberT a0))).1) hx hb hr (fun t ht hW => ⟨⟨(fx_x_tell u (6 : Int32) ((fx_x_register u (fx_x_fieldA a0)) + (fx_x_numberT a0))).1, (fx_x_tell u (6 : Int32) ((fx_x_register u (fx_x_fieldA a0)) + (fx_x_numberT a0))).2, rfl, (by unfold fx_x_store; rw [if_pos c1]), by rw [ht]; exact hP, va_K.moved hW.alike hK⟩, hS.F ht⟩) hS.2.2 dX0_store_32
def fx_x_perform (u : XS) (a0 : Int32) : Int32 × XS := (if (fx_x_isNamed a0) = (0 : Int32) then ((fx_x_tell u (2 : Int32) a0).1, (fx_x_tell u (2 : Int32) a0).2) else (if (fx_x_fieldOp a0) = (3 : Int32) then ((fx_x_load u a0).1, (fx_x_load u a0).2) else (if (fx_x_fieldOp a0) = (15 : Int32) then ((fx_x_finish u (u.2.2.1 + (4 : Int32))).1, (fx_x_finish u (u.2.2.1 + (4 : Int32))).2) else (if (fx_x_fieldOp a0) = (35 : Int32) then ((fx_x_store u a0).1, (fx_x_store u a0).2) else (if (fx_x_fieldOp a0) = (99 : Int32) then ((fx_x_branch u a0).1, (fx_x_branch u a0).2) else (if (fx_x_fieldOp a0) = (103 : Int32) then ((fx_x_jump u a0 (((fx_x_register u (fx_x_fieldA a0)) + (fx_x_numberI a0)) &&& (-2 : Int32))).1, (fx_x_jump u a0 (((fx_x_register u (fx_x_fieldA a0)) + (fx_x_numberI a0)) &&& (-2 : Int32))).2) else (if (fx_x_fieldOp a0) = (111 : Int32) then ((fx_x_jump u a0 (u.2.2.1 + (fx_x_numberJ a0))).1, (fx_x_jump u a0 (u.2.2.1 + (fx_x_numberJ a0))).2) else (if (fx_x_fieldOp a0) = (115 : Int32) then ((fx_x_tell u (100 : Int32) a0).1, (fx_x_tell u (100 : Int32) a0).2) else ((fx_x_finish (fx_x_setRegister u (fx_x_fieldD a0) (fx_x_result a0 (fx_x_register u (fx_x_fieldA a0)) (fx_x_register u (fx_x_fieldB a0)) u.2.2.1)) ((fx_x_setRegister u (fx_x_fieldD a0) (fx_x_result a0 (fx_x_register u (fx_x_fieldA a0)) (fx_x_register u (fx_x_fieldB a0)) u.2.2.1)).2.2.1 + (4 : Int32))).1, (fx_x_finish (fx_x_setRegister u (fx_x_fieldD a0) (fx_x_result a0 (fx_x_register u (fx_x_fieldA a0)) (fx_x_register u (fx_x_fieldB a0)) u.2.2.1)) ((fx_x_setRegister u (fx_x_fieldD a0) (fx_x_result a0 (fx_x_register u (fx_x_fieldA a0)) (fx_x_register u (fx_x_fieldB a0)) u.2.2.1)).2.2.1 + (4 : Int32))).2)))))))))
set_option maxHeartbeats 4000000 in
set_option maxRecDepth 100000 in
theorem ct_x_perform (l : Launch) (dC : Nat → ClassId) (dI : Nat → Nat → Nat) (a : XA) (u : XS) (a0 : Int32)  : Met l yX0_perform wsX0_perform ({ frames := 4, cells := 0, slots := 0, locals := 90 }) (va_Pc [.ref a.1, .int a0] (fun U => va_P (dC, dI) vwCl (xu_w a u) U.heap ∧ va_K (dC, dI) vwCl (xu_t a) U ∧ xu_D a)) (va_Qi (fun r u9 => (r, u9) = fx_x_perform u a0) (fun u9 t => va_P (dC, dI) vwCl (xu_w a u9) t.heap ∧ va_K (dC, dI) vwCl (xu_t a) t) (xu_A a)) 0 0 (xu_A a) := by
  refine Met.ofW (cc := cX0_perform) (maxL := 2) (ret := (some .int)) (by decide) rfl ?_
  intro p e s m args below meth c s₁ B hml hv
  obtain ⟨rfl, hP, hK, hd⟩ := hv
  have hx := B.exec
  have hb := B.bytes
  have hr := B.returns
  have htb : ∀ w ∈ lw_g, w.before ([.ref a.1, .int a0] : List Value).toArray s = true := fun w h => atoms_spec (ws := wsX0_perform) B.pre w (List.mem_cons_of_mem _ h)
  have hown : s.vm.findClass RX0 = some m.cls := findClass_of_methodNamed B.named
  have hlocks := B.notSynchronized
  have hS : va_S (xu_A a) s.heap s.heap [] := va_S.rf
  have hl := lv_entry ([.ref a.1, .int a0]) (n := 2) (Nat.le_of_ble_eq_true rfl)
  rw [lg_entry_eq]
  generalize (lg_sl ([.ref a.1, .int a0]) ++ List.replicate (2 - (lg_sl ([.ref a.1, .int a0])).length) Slot.unset).toArray = ls at hl ⊢
  have hl : lv_has ls 2 [(0, .ref a.1), (1, .int a0)] := hl
  refine lv_iload_n hx hb dX0_perform_0 rfl (lv_at hl 1 rfl) ?_
  refine vp_callSi (W.runS (As := [.int a0]) (rest := []) ⟨hx, hb, hml, hown, htb⟩ (ct_x_isNamed l a0) (va_cwS 1 htb gw_X0_87 rfl rfl rfl (by decide +kernel) ⟨Nat.le_of_ble_eq_true rfl, Nat.le_of_ble_eq_true rfl⟩) jj_pre rfl rfl hl.1 rfl (lv_room (Nat.le_of_ble_eq_true rfl)) dX0_perform_1 ⟨Nat.le_of_ble_eq_true rfl, Nat.le_of_ble_eq_true rfl⟩) (fun r9 e9 => ?_)
  subst e9
  refine lv_if_ne (tgt := 14) hx hb dX0_perform_4 (by decide) (fun c1 => ?_) (fun c1 => ?_)
  · refine lv_iload_n hx hb dX0_perform_14 rfl (lv_at hl 1 rfl) ?_
    refine vp_callSi (W.runS (As := [.int a0]) (rest := []) ⟨hx, hb, hml, hown, htb⟩ (ct_x_fieldOp l a0) (va_cwS 1 htb gw_X0_54 rfl rfl rfl (by decide +kernel) ⟨Nat.le_of_ble_eq_true rfl, Nat.le_of_ble_eq_true rfl⟩) jj_pre rfl rfl hl.1 rfl (lv_room (Nat.le_of_ble_eq_true rfl)) dX0_perform_15 ⟨Nat.le_of_ble_eq_true rfl, Nat.le_of_ble_eq_true rfl⟩) (fun r9 e9 => ?_)
    subst e9
    by_cases c2 : (fx_x_fieldOp a0) = (3 : Int32)
    · refine lv_lookup (x := (fx_x_fieldOp a0)) (off := 117) (tgt := 135) hx hb dX0_perform_18 (by decide) (by rw [c2]; decide) (by decide) ?_
      refine lv_aload_n hx hb dX0_perform_135 rfl (lv_at hl 0 rfl) ?_
      refine lv_iload_n hx hb dX0_perform_136 rfl (lv_at hl 1 rfl) ?_
      refine xu_calli (va_runV (As := [.int a0]) (rest := []) ⟨hx, hb, hml, hown, htb⟩ (ct_x_load l dC dI a u a0) (cwV 1 htb gw_X0_107 rfl rfl rfl (by decide +kernel) ⟨Nat.le_of_ble_eq_true rfl, Nat.le_of_ble_eq_true rfl⟩) (xu_preW hK hP hd) rfl rfl hl.1 rfl (lv_room (Nat.le_of_ble_eq_true rfl)) dX0_perform_137 ⟨Nat.le_of_ble_eq_true rfl, Nat.le_of_ble_eq_true rfl⟩) hS (fun H locs hP hS => ?_)
      exact W.iret (v := (fx_x_load u a0).1) hx hb hr (fun t ht hW => ⟨⟨(fx_x_load u a0).1, (fx_x_load u a0).2, rfl, (by unfold fx_x_perform; rw [if_neg c1, if_pos c2]), by rw [ht]; exact hP, va_K.moved hW.alike hK⟩, hS.F ht⟩) hS.2.2 dX0_perform_140
    by_cases c3 : (fx_x_fieldOp a0) = (15 : Int32)
    · refine lv_lookup (x := (fx_x_fieldOp a0)) (off := 129) (tgt := 147) hx hb dX0_perform_18 (by decide) (by rw [c3]; decide) (by decide) ?_
      refine lv_aload_n hx hb dX0_perform_147 rfl (lv_at hl 0 rfl) ?_
      refine lv_aload_n hx hb dX0_perform_148 rfl (lv_at hl 0 rfl) ?_
      refine va_get (D := (dC, dI)) (ci := 0) (v := .int u.2.2.1) (C := RX0) (T := TX0) (N := 6) hx hb htb inX0 hown hK hP 0 rfl rfl 2 (by decide) (htb _ iw_f_X0_16) (fun _ h9 => h9) rfl dX0_perform_149 ?_
      refine lv_iconst (v := (4 : Int32)) hx hb dX0_perform_152 (by decide) ?_
      refine lv_iadd hx hb dX0_perform_153 ?_
      refine xu_calli (va_runV (As := [.int (u.2.2.1 + (4 : Int32))]) (rest := []) ⟨hx, hb, hml, hown, htb⟩ (ct_x_finish l dC dI a u (u.2.2.1 + (4 : Int32))) (cwV 1 htb gw_X0_113 rfl rfl rfl (by decide +kernel) ⟨Nat.le_of_ble_eq_true rfl, Nat.le_of_ble_eq_true rfl⟩) (xu_preW hK hP hd) rfl rfl hl.1 rfl (lv_room (Nat.le_of_ble_eq_true rfl)) dX0_perform_154 ⟨Nat.le_of_ble_eq_true rfl, Nat.le_of_ble_eq_true rfl⟩) hS (fun H locs hP hS => ?_)
      exact W.iret (v := (fx_x_finish u (u.2.2.1 + (4 : Int32))).1) hx hb hr (fun t ht hW => ⟨⟨(fx_x_finish u (u.2.2.1 + (4 : Int32))).1, (fx_x_finish u (u.2.2.1 + (4 : Int32))).2, rfl, (by unfold fx_x_perform; rw [if_neg c1, if_neg c2, if_pos c3]), by rw [ht]; exact hP, va_K.moved hW.alike hK⟩, hS.F ht⟩) hS.2.2 dX0_perform_157
    by_cases c4 : (fx_x_fieldOp a0) = (35 : Int32)
    · refine lv_lookup (x := (fx_x_fieldOp a0)) (off := 123) (tgt := 141) hx hb dX0_perform_18 (by decide) (by rw [c4]; decide) (by decide) ?_
      refine lv_aload_n hx hb dX0_perform_141 rfl (lv_at hl 0 rfl) ?_
      refine lv_iload_n hx hb dX0_perform_142 rfl (lv_at hl 1 rfl) ?_
      refine xu_calli (va_runV (As := [.int a0]) (rest := []) ⟨hx, hb, hml, hown, htb⟩ (ct_x_store l dC dI a u a0) (cwV 1 htb gw_X0_110 rfl rfl rfl (by decide +kernel) ⟨Nat.le_of_ble_eq_true rfl, Nat.le_of_ble_eq_true rfl⟩) (xu_preW hK hP hd) rfl rfl hl.1 rfl (lv_room (Nat.le_of_ble_eq_true rfl)) dX0_perform_143 ⟨Nat.le_of_ble_eq_true rfl, Nat.le_of_ble_eq_true rfl⟩) hS (fun H locs hP hS => ?_)
      exact W.iret (v := (fx_x_store u a0).1) hx hb hr (fun t ht hW => ⟨⟨(fx_x_store u a0).1, (fx_x_store u a0).2, rfl, (by unfold fx_x_perform; rw [if_neg c1, if_neg c2, if_neg c3, if_pos c4]), by rw [ht]; exact hP, va_K.moved hW.alike hK⟩, hS.F ht⟩) hS.2.2 dX0_perform_146
    by_cases c5 : (fx_x_fieldOp a0) = (99 : Int32)
    · refine lv_lookup (x := (fx_x_fieldOp a0)) (off := 111) (tgt := 129) hx hb dX0_perform_18 (by decide) (by rw [c5]; decide) (by decide) ?_
      refine lv_aload_n hx hb dX0_perform_129 rfl (lv_at hl 0 rfl) ?_
      refine lv_iload_n hx hb dX0_perform_130 rfl (lv_at hl 1 rfl) ?_
      refine xu_calli (va_runV (As := [.int a0]) (rest := []) ⟨hx, hb, hml, hown, htb⟩ (ct_x_branch l dC dI a u a0) (cwV 1 htb gw_X0_104 rfl rfl rfl (by decide +kernel) ⟨Nat.le_of_ble_eq_true rfl, Nat.le_of_ble_eq_true rfl⟩) (xu_preW hK hP hd) rfl rfl hl.1 rfl (lv_room (Nat.le_of_ble_eq_true rfl)) dX0_perform_131 ⟨Nat.le_of_ble_eq_true rfl, Nat.le_of_ble_eq_true rfl⟩) hS (fun H locs hP hS => ?_)
      exact W.iret (v := (fx_x_branch u a0).1) hx hb hr (fun t ht hW => ⟨⟨(fx_x_branch u a0).1, (fx_x_branch u a0).2, rfl, (by unfold fx_x_perform; rw [if_neg c1, if_neg c2, if_neg c3, if_neg c4, if_pos c5]), by rw [ht]; exact hP, va_K.moved hW.alike hK⟩, hS.F ht⟩) hS.2.2 dX0_perform_134
    by_cases c6 : (fx_x_fieldOp a0) = (103 : Int32)
    · refine lv_lookup (x := (fx_x_fieldOp a0)) (off := 89) (tgt := 107) hx hb dX0_perform_18 (by decide) (by rw [c6]; decide) (by decide) ?_
      refine lv_aload_n hx hb dX0_perform_107 rfl (lv_at hl 0 rfl) ?_
      refine lv_iload_n hx hb dX0_perform_108 rfl (lv_at hl 1 rfl) ?_
      refine lv_aload_n hx hb dX0_perform_109 rfl (lv_at hl 0 rfl) ?_
      refine lv_iload_n hx hb dX0_perform_110 rfl (lv_at hl 1 rfl) ?_
      refine vp_callSi (W.runS (As := [.int a0]) (rest := [.ref a.1, .int a0, .ref a.1]) ⟨hx, hb, hml, hown, htb⟩ (ct_x_fieldA l a0) (va_cwS 1 htb gw_X0_63 rfl rfl rfl (by decide +kernel) ⟨Nat.le_of_ble_eq_true rfl, Nat.le_of_ble_eq_true rfl⟩) jj_pre rfl rfl hl.1 rfl (lv_room (Nat.le_of_ble_eq_true rfl)) dX0_perform_111 ⟨Nat.le_of_ble_eq_true rfl, Nat.le_of_ble_eq_true rfl⟩) (fun r9 e9 => ?_)
      subst e9
      refine vp_callSi (W.runV (As := [.int (fx_x_fieldA a0)]) (rest := [.int a0, .ref a.1]) ⟨hx, hb, hml, hown, htb⟩ (ct_x_register l dC dI a u (fx_x_fieldA a0)) (cwV 1 htb gw_X0_41 rfl rfl rfl (by decide +kernel) ⟨Nat.le_of_ble_eq_true rfl, Nat.le_of_ble_eq_true rfl⟩) (xu_preR hK hP) rfl rfl hl.1 rfl (lv_room (Nat.le_of_ble_eq_true rfl)) dX0_perform_114 ⟨Nat.le_of_ble_eq_true rfl, Nat.le_of_ble_eq_true rfl⟩) (fun r9 e9 => ?_)
      subst e9
      refine lv_iload_n hx hb dX0_perform_117 rfl (lv_at hl 1 rfl) ?_
      refine vp_callSi (W.runS (As := [.int a0]) (rest := [.int (fx_x_register u (fx_x_fieldA a0)), .int a0, .ref a.1]) ⟨hx, hb, hml, hown, htb⟩ (ct_x_numberI l a0) (va_cwS 1 htb gw_X0_72 rfl rfl rfl (by decide +kernel) ⟨Nat.le_of_ble_eq_true rfl, Nat.le_of_ble_eq_true rfl⟩) jj_pre rfl rfl hl.1 rfl (lv_room (Nat.le_of_ble_eq_true rfl)) dX0_perform_118 ⟨Nat.le_of_ble_eq_true rfl, Nat.le_of_ble_eq_true rfl⟩) (fun r9 e9 => ?_)
      subst e9
      refine lv_iadd hx hb dX0_perform_121 ?_
      refine lv_bipush (v := (-2 : Int32)) hx hb dX0_perform_122 (by decide) ?_
      refine lv_iand hx hb dX0_perform_124 ?_
      refine xu_calli (va_runV (As := [.int a0, .int (((fx_x_register u (fx_x_fieldA a0)) + (fx_x_numberI a0)) &&& (-2 : Int32))]) (rest := []) ⟨hx, hb, hml, hown, htb⟩ (ct_x_jump l dC dI a u a0 (((fx_x_register u (fx_x_fieldA a0)) + (fx_x_numberI a0)) &&& (-2 : Int32))) (cwV 2 htb gw_X0_101 rfl rfl rfl (by decide +kernel) ⟨Nat.le_of_ble_eq_true rfl, Nat.le_of_ble_eq_true rfl⟩) (xu_preW hK hP hd) rfl rfl hl.1 rfl (lv_room (Nat.le_of_ble_eq_true rfl)) dX0_perform_125 ⟨Nat.le_of_ble_eq_true rfl, Nat.le_of_ble_eq_true rfl⟩) hS (fun H locs hP hS => ?_)
      exact W.iret (v := (fx_x_jump u a0 (((fx_x_register u (fx_x_fieldA a0)) + (fx_x_numberI a0)) &&& (-2 : Int32))).1) hx hb hr (fun t ht hW => ⟨⟨(fx_x_jump u a0 (((fx_x_register u (fx_x_fieldA a0)) + (fx_x_numberI a0)) &&& (-2 : Int32))).1, (fx_x_jump u a0 (((fx_x_register u (fx_x_fieldA a0)) + (fx_x_numberI a0)) &&& (-2 : Int32))).2, rfl, (by unfold fx_x_perform; rw [if_neg c1, if_neg c2, if_neg c3, if_neg c4, if_neg c5, if_pos c6]), by rw [ht]; exact hP, va_K.moved hW.alike hK⟩, hS.F ht⟩) hS.2.2 dX0_perform_128
    by_cases c7 : (fx_x_fieldOp a0) = (111 : Int32)
    · refine lv_lookup (x := (fx_x_fieldOp a0)) (off := 74) (tgt := 92) hx hb dX0_perform_18 (by decide) (by rw [c7]; decide) (by decide) ?_
      refine lv_aload_n hx hb dX0_perform_92 rfl (lv_at hl 0 rfl) ?_
      refine lv_iload_n hx hb dX0_perform_93 rfl (lv_at hl 1 rfl) ?_
      refine lv_aload_n hx hb dX0_perform_94 rfl (lv_at hl 0 rfl) ?_
      refine va_get (D := (dC, dI)) (ci := 0) (v := .int u.2.2.1) (C := RX0) (T := TX0) (N := 6) hx hb htb inX0 hown hK hP 0 rfl rfl 2 (by decide) (htb _ iw_f_X0_16) (fun _ h9 => h9) rfl dX0_perform_95 ?_
      refine lv_iload_n hx hb dX0_perform_98 rfl (lv_at hl 1 rfl) ?_
      refine vp_callSi (W.runS (As := [.int a0]) (rest := [.int u.2.2.1, .int a0, .ref a.1]) ⟨hx, hb, hml, hown, htb⟩ (ct_x_numberJ l a0) (va_cwS 1 htb gw_X0_84 rfl rfl rfl (by decide +kernel) ⟨Nat.le_of_ble_eq_true rfl, Nat.le_of_ble_eq_true rfl⟩) jj_pre rfl rfl hl.1 rfl (lv_room (Nat.le_of_ble_eq_true rfl)) dX0_perform_99 ⟨Nat.le_of_ble_eq_true rfl, Nat.le_of_ble_eq_true rfl⟩) (fun r9 e9 => ?_)
      subst e9
      refine lv_iadd hx hb dX0_perform_102 ?_
      refine xu_calli (va_runV (As := [.int a0, .int (u.2.2.1 + (fx_x_numberJ a0))]) (rest := []) ⟨hx, hb, hml, hown, htb⟩ (ct_x_jump l dC dI a u a0 (u.2.2.1 + (fx_x_numberJ a0))) (cwV 2 htb gw_X0_101 rfl rfl rfl (by decide +kernel) ⟨Nat.le_of_ble_eq_true rfl, Nat.le_of_ble_eq_true rfl⟩) (xu_preW hK hP hd) rfl rfl hl.1 rfl (lv_room (Nat.le_of_ble_eq_true rfl)) dX0_perform_103 ⟨Nat.le_of_ble_eq_true rfl, Nat.le_of_ble_eq_true rfl⟩) hS (fun H locs hP hS => ?_)
      exact W.iret (v := (fx_x_jump u a0 (u.2.2.1 + (fx_x_numberJ a0))).1) hx hb hr (fun t ht hW => ⟨⟨(fx_x_jump u a0 (u.2.2.1 + (fx_x_numberJ a0))).1, (fx_x_jump u a0 (u.2.2.1 + (fx_x_numberJ a0))).2, rfl, (by unfold fx_x_perform; rw [if_neg c1, if_neg c2, if_neg c3, if_neg c4, if_neg c5, if_neg c6, if_pos c7]), by rw [ht]; exact hP, va_K.moved hW.alike hK⟩, hS.F ht⟩) hS.2.2 dX0_perform_106
    by_cases c8 : (fx_x_fieldOp a0) = (115 : Int32)
    · refine lv_lookup (x := (fx_x_fieldOp a0)) (off := 66) (tgt := 84) hx hb dX0_perform_18 (by decide) (by rw [c8]; decide) (by decide) ?_
      refine lv_aload_n hx hb dX0_perform_84 rfl (lv_at hl 0 rfl) ?_
      refine lv_bipush (v := (100 : Int32)) hx hb dX0_perform_85 (by decide) ?_
      refine lv_iload_n hx hb dX0_perform_87 rfl (lv_at hl 1 rfl) ?_
      refine xu_calli (va_runV (As := [.int (100 : Int32), .int a0]) (rest := []) ⟨hx, hb, hml, hown, htb⟩ (ct_x_tell l dC dI a u (100 : Int32) a0) (cwV 2 htb gw_X0_97 rfl rfl rfl (by decide +kernel) ⟨Nat.le_of_ble_eq_true rfl, Nat.le_of_ble_eq_true rfl⟩) (xu_preW hK hP hd) rfl rfl hl.1 rfl (lv_room (Nat.le_of_ble_eq_true rfl)) dX0_perform_88 ⟨Nat.le_of_ble_eq_true rfl, Nat.le_of_ble_eq_true rfl⟩) hS (fun H locs hP hS => ?_)
      exact W.iret (v := (fx_x_tell u (100 : Int32) a0).1) hx hb hr (fun t ht hW => ⟨⟨(fx_x_tell u (100 : Int32) a0).1, (fx_x_tell u (100 : Int32) a0).2, rfl, (by unfold fx_x_perform; rw [if_neg c1, if_neg c2, if_neg c3, if_neg c4, if_neg c5, if_neg c6, if_neg c7, if_pos c8]), by rw [ht]; exact hP, va_K.moved hW.alike hK⟩, hS.F ht⟩) hS.2.2 dX0_perform_91
    refine lv_lookup (x := (fx_x_fieldOp a0)) (off := 140) (tgt := 158) hx hb dX0_perform_18 (by decide) (by show Op.lookupswitch.offset [(3, 117), (15, 129), (35, 123), (99, 111), (103, 89), (111, 74), (115, 66)] (140) _ = _; rw [lv_osw c2 (by decide), lv_osw c3 (by decide), lv_osw c4 (by decide), lv_osw c5 (by decide), lv_osw c6 (by decide), lv_osw c7 (by decide), lv_osw c8 (by decide)]; rfl) (by decide) ?_
    refine lv_aload_n hx hb dX0_perform_158 rfl (lv_at hl 0 rfl) ?_
    refine lv_iload_n hx hb dX0_perform_159 rfl (lv_at hl 1 rfl) ?_
    refine vp_callSi (W.runS (As := [.int a0]) (rest := [.ref a.1]) ⟨hx, hb, hml, hown, htb⟩ (ct_x_fieldD l a0) (va_cwS 1 htb gw_X0_57 rfl rfl rfl (by decide +kernel) ⟨Nat.le_of_ble_eq_true rfl, Nat.le_of_ble_eq_true rfl⟩) jj_pre rfl rfl hl.1 rfl (lv_room (Nat.le_of_ble_eq_true rfl)) dX0_perform_160 ⟨Nat.le_of_ble_eq_true rfl, Nat.le_of_ble_eq_true rfl⟩) (fun r9 e9 => ?_)
    subst e9
    refine lv_iload_n hx hb dX0_perform_163 rfl (lv_at hl 1 rfl) ?_
    refine lv_aload_n hx hb dX0_perform_164 rfl (lv_at hl 0 rfl) ?_
    refine lv_iload_n hx hb dX0_perform_165 rfl (lv_at hl 1 rfl) ?_
    refine vp_callSi (W.runS (As := [.int a0]) (rest := [.ref a.1, .int a0, .int (fx_x_fieldD a0), .ref a.1]) ⟨hx, hb, hml, hown, htb⟩ (ct_x_fieldA l a0) (va_cwS 1 htb gw_X0_63 rfl rfl rfl (by decide +kernel) ⟨Nat.le_of_ble_eq_true rfl, Nat.le_of_ble_eq_true rfl⟩) jj_pre rfl rfl hl.1 rfl (lv_room (Nat.le_of_ble_eq_true rfl)) dX0_perform_166 ⟨Nat.le_of_ble_eq_true rfl, Nat.le_of_ble_eq_true rfl⟩) (fun r9 e9 => ?_)
    subst e9
    refine vp_callSi (W.runV (As := [.int (fx_x_fieldA a0)]) (rest := [.int a0, .int (fx_x_fieldD a0), .ref a.1]) ⟨hx, hb, hml, hown, htb⟩ (ct_x_register l dC dI a u (fx_x_fieldA a0)) (cwV 1 htb gw_X0_41 rfl rfl rfl (by decide +kernel) ⟨Nat.le_of_ble_eq_true rfl, Nat.le_of_ble_eq_true rfl⟩) (xu_preR hK hP) rfl rfl hl.1 rfl (lv_room (Nat.le_of_ble_eq_true rfl)) dX0_perform_169 ⟨Nat.le_of_ble_eq_true rfl, Nat.le_of_ble_eq_true rfl⟩) (fun r9 e9 => ?_)
    subst e9
    refine lv_aload_n hx hb dX0_perform_172 rfl (lv_at hl 0 rfl) ?_
    refine lv_iload_n hx hb dX0_perform_173 rfl (lv_at hl 1 rfl) ?_
    refine vp_callSi (W.runS (As := [.int a0]) (rest := [.ref a.1, .int (fx_x_register u (fx_x_fieldA a0)), .int a0, .int (fx_x_fieldD a0), .ref a.1]) ⟨hx, hb, hml, hown, htb⟩ (ct_x_fieldB l a0) (va_cwS 1 htb gw_X0_66 rfl rfl rfl (by decide +kernel) ⟨Nat.le_of_ble_eq_true rfl, Nat.le_of_ble_eq_true rfl⟩) jj_pre rfl rfl hl.1 rfl (lv_room (Nat.le_of_ble_eq_true rfl)) dX0_perform_174 ⟨Nat.le_of_ble_eq_true rfl, Nat.le_of_ble_eq_true rfl⟩) (fun r9 e9 => ?_)
    subst e9
    refine vp_callSi (W.runV (As := [.int (fx_x_fieldB a0)]) (rest := [.int (fx_x_register u (fx_x_fieldA a0)), .int a0, .int (fx_x_fieldD a0), .ref a.1]) ⟨hx, hb, hml, hown, htb⟩ (ct_x_register l dC dI a u (fx_x_fieldB a0)) (cwV 1 htb gw_X0_41 rfl rfl rfl (by decide +kernel) ⟨Nat.le_of_ble_eq_true rfl, Nat.le_of_ble_eq_true rfl⟩) (xu_preR hK hP) rfl rfl hl.1 rfl (lv_room (Nat.le_of_ble_eq_true rfl)) dX0_perform_177 ⟨Nat.le_of_ble_eq_true rfl, Nat.le_of_ble_eq_true rfl⟩) (fun r9 e9 => ?_)
    subst e9
    refine lv_aload_n hx hb dX0_perform_180 rfl (lv_at hl 0 rfl) ?_
    refine va_get (D := (dC, dI)) (ci := 0) (v := .int u.2.2.1) (C := RX0) (T := TX0) (N := 6) hx hb htb inX0 hown hK hP 0 rfl rfl 2 (by decide) (htb _ iw_f_X0_16) (fun _ h9 => h9) rfl dX0_perform_181 ?_
    refine vp_callSi (W.runS (As := [.int a0, .int (fx_x_register u (fx_x_fieldA a0)), .int (fx_x_register u (fx_x_fieldB a0)), .int u.2.2.1]) (rest := [.int (fx_x_fieldD a0), .ref a.1]) ⟨hx, hb, hml, hown, htb⟩ (ct_x_result l a0 (fx_x_register u (fx_x_fieldA a0)) (fx_x_register u (fx_x_fieldB a0)) u.2.2.1) (va_cwS 4 htb gw_X0_90 rfl rfl rfl (by decide +kernel) ⟨Nat.le_of_ble_eq_true rfl, Nat.le_of_ble_eq_true rfl⟩) jj_pre rfl rfl hl.1 rfl (lv_room (Nat.le_of_ble_eq_true rfl)) dX0_perform_184 ⟨Nat.le_of_ble_eq_true rfl, Nat.le_of_ble_eq_true rfl⟩) (fun r9 e9 => ?_)
    subst e9
    refine xu_callv (va_runV (As := [.int (fx_x_fieldD a0), .int (fx_x_result a0 (fx_x_register u (fx_x_fieldA a0)) (fx_x_register u (fx_x_fieldB a0)) u.2.2.1)]) (rest := []) ⟨hx, hb, hml, hown, htb⟩ (ct_x_setRegister l dC dI a u (fx_x_fieldD a0) (fx_x_result a0 (fx_x_register u (fx_x_fieldA a0)) (fx_x_register u (fx_x_fieldB a0)) u.2.2.1)) (cwV 2 htb gw_X0_44 rfl rfl rfl (by decide +kernel) ⟨Nat.le_of_ble_eq_true rfl, Nat.le_of_ble_eq_true rfl⟩) (xu_preW hK hP hd) rfl rfl hl.1 rfl (lv_room (Nat.le_of_ble_eq_true rfl)) dX0_perform_187 ⟨Nat.le_of_ble_eq_true rfl, Nat.le_of_ble_eq_true rfl⟩) hS (fun H locs hP hS => ?_)
    refine lv_aload_n hx hb dX0_perform_190 rfl (lv_at hl 0 rfl) ?_
    refine lv_aload_n hx hb dX0_perform_191 rfl (lv_at hl 0 rfl) ?_
    refine va_get (D := (dC, dI)) (ci := 0) (v := .int (fx_x_setRegister u (fx_x_fieldD a0) (fx_x_result a0 (fx_x_register u (fx_x_fieldA a0)) (fx_x_register u (fx_x_fieldB a0)) u.2.2.1)).2.2.1) (C := RX0) (T := TX0) (N := 6) hx hb htb inX0 hown hK hP 0 rfl rfl 2 (by decide) (htb _ iw_f_X0_16) (fun _ h9 => h9) rfl dX0_perform_192 ?_
    refine lv_iconst (v := (4 : Int32)) hx hb dX0_perform_195 (by decide) ?_
    refine lv_iadd hx hb dX0_perform_196 ?_
    refine xu_calli (va_runV (As := [.int ((fx_x_setRegister u (fx_x_fieldD a0) (fx_x_result a0 (fx_x_register u (fx_x_fieldA a0)) (fx_x_register u (fx_x_fieldB a0)) u.2.2.1)).2.2.1 + (4 : Int32))]) (rest := []) ⟨hx, hb, hml, hown, htb⟩ (ct_x_finish l dC dI a (fx_x_setRegister u (fx_x_fieldD a0) (fx_x_result a0 (fx_x_register u (fx_x_fieldA a0)) (fx_x_register u (fx_x_fieldB a0)) u.2.2.1)) ((fx_x_setRegister u (fx_x_fieldD a0) (fx_x_result a0 (fx_x_register u (fx_x_fieldA a0)) (fx_x_register u (fx_x_fieldB a0)) u.2.2.1)).2.2.1 + (4 : Int32))) (cwV 1 htb gw_X0_113 rfl rfl rfl (by decide +kernel) ⟨Nat.le_of_ble_eq_true rfl, Nat.le_of_ble_eq_true rfl⟩) (xu_preW hK hP hd) rfl rfl hl.1 rfl (lv_room (Nat.le_of_ble_eq_true rfl)) dX0_perform_197 ⟨Nat.le_of_ble_eq_true rfl, Nat.le_of_ble_eq_true rfl⟩) hS (fun H locs hP hS => ?_)
    exact W.iret (v := (fx_x_finish (fx_x_setRegister u (fx_x_fieldD a0) (fx_x_result a0 (fx_x_register u (fx_x_fieldA a0)) (fx_x_register u (fx_x_fieldB a0)) u.2.2.1)) ((fx_x_setRegister u (fx_x_fieldD a0) (fx_x_result a0 (fx_x_register u (fx_x_fieldA a0)) (fx_x_register u (fx_x_fieldB a0)) u.2.2.1)).2.2.1 + (4 : Int32))).1) hx hb hr (fun t ht hW => ⟨⟨(fx_x_finish (fx_x_setRegister u (fx_x_fieldD a0) (fx_x_result a0 (fx_x_register u (fx_x_fieldA a0)) (fx_x_register u (fx_x_fieldB a0)) u.2.2.1)) ((fx_x_setRegister u (fx_x_fieldD a0) (fx_x_result a0 (fx_x_register u (fx_x_fieldA a0)) (fx_x_register u (fx_x_fieldB a0)) u.2.2.1)).2.2.1 + (4 : Int32))).1, (fx_x_finish (fx_x_setRegister u (fx_x_fieldD a0) (fx_x_result a0 (fx_x_register u (fx_x_fieldA a0)) (fx_x_register u (fx_x_fieldB a0)) u.2.2.1)) ((fx_x_setRegister u (fx_x_fieldD a0) (fx_x_result a0 (fx_x_register u (fx_x_fieldA a0)) (fx_x_register u (fx_x_fieldB a0)) u.2.2.1)).2.2.1 + (4 : Int32))).2, rfl, (by unfold fx_x_perform; rw [if_neg c1, if_neg c2, if_neg c3, if_neg c4, if_neg c5, if_neg c6, if_neg c7, if_neg c8]), by rw [ht]; exact hP, va_K.moved hW.alike hK⟩, hS.F ht⟩) hS.2.2 dX0_perform_200
  · refine lv_aload_n hx hb dX0_perform_7 rfl (lv_at hl 0 rfl) ?_
    refine lv_iconst (v := (2 : Int32)) hx hb dX0_perform_8 (by decide) ?_
    refine lv_iload_n hx hb dX0_perform_9 rfl (lv_at hl 1 rfl) ?_
    refine xu_calli (va_runV (As := [.int (2 : Int32), .int a0]) (rest := []) ⟨hx, hb, hml, hown, htb⟩ (ct_x_tell l dC dI a u (2 : Int32) a0) (cwV 2 htb gw_X0_97 rfl rfl rfl (by decide +kernel) ⟨Nat.le_of_ble_eq_true rfl, Nat.le_of_ble_eq_true rfl⟩) (xu_preW hK hP hd) rfl rfl hl.1 rfl (lv_room (Nat.le_of_ble_eq_true rfl)) dX0_perform_10 ⟨Nat.le_of_ble_eq_true rfl, Nat.le_of_ble_eq_true rfl⟩) hS (fun H locs hP hS => ?_)
    exact W.iret (v := (fx_x_tell u (2 : Int32) a0).1) hx hb hr (fun t ht hW => ⟨⟨(fx_x_tell u (2 : Int32) a0).1, (fx_x_tell u (2 : Int32) a0).2, rfl, (by unfold fx_x_perform; rw [if_pos c1]), by rw [ht]; exact hP, va_K.moved hW.alike hK⟩, hS.F ht⟩) hS.2.2 dX0_perform_13
def fx_x_doStep (u : XS)  : Int32 × XS := (if (fx_x_isOfMemory u.2.2.1) = (0 : Int32) then ((fx_x_tell u (1 : Int32) u.2.2.1).1, (fx_x_tell u (1 : Int32) u.2.2.1).2) else ((fx_x_perform u (fx_x_wordAround u u.2.2.1)).1, (fx_x_perform u (fx_x_wordAround u u.2.2.1)).2))
set_option maxHeartbeats 4000000 in
set_option maxRecDepth 100000 in
theorem ct_x_doStep (l : Launch) (dC : Nat → ClassId) (dI : Nat → Nat → Nat) (a : XA) (u : XS)   : Met l yX0_doStep wsX0_doStep ({ frames := 5, cells := 0, slots := 0, locals := 111 }) (va_Pc [.ref a.1] (fun U => va_P (dC, dI) vwCl (xu_w a u) U.heap ∧ va_K (dC, dI) vwCl (xu_t a) U ∧ xu_D a)) (va_Qi (fun r u9 => (r, u9) = fx_x_doStep u) (fun u9 t => va_P (dC, dI) vwCl (xu_w a u9) t.heap ∧ va_K (dC, dI) vwCl (xu_t a) t) (xu_A a)) 0 0 (xu_A a) := by
  refine Met.ofW (cc := cX0_doStep) (maxL := 1) (ret := (some .int)) (by decide) rfl ?_
  intro p e s m args below meth c s₁ B hml hv
  obtain ⟨rfl, hP, hK, hd⟩ := hv
  have hx := B.exec
  have hb := B.bytes
  have hr := B.returns
  have htb : ∀ w ∈ lw_g, w.before ([.ref a.1] : List Value).toArray s = true := fun w h => atoms_spec (ws := wsX0_doStep) B.pre w (List.mem_cons_of_mem _ h)
  have hown : s.vm.findClass RX0 = some m.cls := findClass_of_methodNamed B.named
  have hlocks := B.notSynchronized
  have hS : va_S (xu_A a) s.heap s.heap [] := va_S.rf
  have hl := lv_entry ([.ref a.1]) (n := 1) (Nat.le_of_ble_eq_true rfl)
  rw [lg_entry_eq]
  generalize (lg_sl ([.ref a.1]) ++ List.replicate (1 - (lg_sl ([.ref a.1])).length) Slot.unset).toArray = ls at hl ⊢
  have hl : lv_has ls 1 [(0, .ref a.1)] := hl
  refine lv_aload_n hx hb dX0_doStep_0 rfl (lv_at hl 0 rfl) ?_
  refine va_get (D := (dC, dI)) (ci := 0) (v := .int u.2.2.1) (C := RX0) (T := TX0) (N := 6) hx hb htb inX0 hown hK hP 0 rfl rfl 2 (by decide) (htb _ iw_f_X0_16) (fun _ h9 => h9) rfl dX0_doStep_1 ?_
  refine vp_callSi (W.runS (As := [.int u.2.2.1]) (rest := []) ⟨hx, hb, hml, hown, htb⟩ (ct_x_isOfMemory l u.2.2.1) (va_cwS 1 htb gw_X0_94 rfl rfl rfl (by decide +kernel) ⟨Nat.le_of_ble_eq_true rfl, Nat.le_of_ble_eq_true rfl⟩) jj_pre rfl rfl hl.1 rfl (lv_room (Nat.le_of_ble_eq_true rfl)) dX0_doStep_4 ⟨Nat.le_of_ble_eq_true rfl, Nat.le_of_ble_eq_true rfl⟩) (fun r9 e9 => ?_)
  subst e9
  refine lv_if_ne (tgt := 20) hx hb dX0_doStep_7 (by decide) (fun c1 => ?_) (fun c1 => ?_)
  · refine lv_aload_n hx hb dX0_doStep_20 rfl (lv_at hl 0 rfl) ?_
    refine lv_aload_n hx hb dX0_doStep_21 rfl (lv_at hl 0 rfl) ?_
    refine lv_aload_n hx hb dX0_doStep_22 rfl (lv_at hl 0 rfl) ?_
    refine va_get (D := (dC, dI)) (ci := 0) (v := .int u.2.2.1) (C := RX0) (T := TX0) (N := 6) hx hb htb inX0 hown hK hP 0 rfl rfl 2 (by decide) (htb _ iw_f_X0_16) (fun _ h9 => h9) rfl dX0_doStep_23 ?_
    refine vp_callSi (W.runV (As := [.int u.2.2.1]) (rest := [.ref a.1]) ⟨hx, hb, hml, hown, htb⟩ (ct_x_wordAround l dC dI a u u.2.2.1) (cwV 1 htb gw_X0_37 rfl rfl rfl (by decide +kernel) ⟨Nat.le_of_ble_eq_true rfl, Nat.le_of_ble_eq_true rfl⟩) (xu_preR hK hP) rfl rfl hl.1 rfl (lv_room (Nat.le_of_ble_eq_true rfl)) dX0_doStep_26 ⟨Nat.le_of_ble_eq_true rfl, Nat.le_of_ble_eq_true rfl⟩) (fun r9 e9 => ?_)
    subst e9
    refine xu_calli (va_runV (As := [.int (fx_x_wordAround u u.2.2.1)]) (rest := []) ⟨hx, hb, hml, hown, htb⟩ (ct_x_perform l dC dI a u (fx_x_wordAround u u.2.2.1)) (cwV 1 htb gw_X0_51 rfl rfl rfl (by decide +kernel) ⟨Nat.le_of_ble_eq_true rfl, Nat.le_of_ble_eq_true rfl⟩) (xu_preW hK hP hd) rfl rfl hl.1 rfl (lv_room (Nat.le_of_ble_eq_true rfl)) dX0_doStep_29 ⟨Nat.le_of_ble_eq_true rfl, Nat.le_of_ble_eq_true rfl⟩) hS (fun H locs hP hS => ?_)
    exact W.iret (v := (fx_x_perform u (fx_x_wordAround u u.2.2.1)).1) hx hb hr (fun t ht hW => ⟨⟨(fx_x_perform u (fx_x_wordAround u u.2.2.1)).1, (fx_x_perform u (fx_x_wordAround u u.2.2.1)).2, rfl, (by unfold fx_x_doStep; rw [if_neg c1]), by rw [ht]; exact hP, va_K.moved hW.alike hK⟩, hS.F ht⟩) hS.2.2 dX0_doStep_32
  · refine lv_aload_n hx hb dX0_doStep_10 rfl (lv_at hl 0 rfl) ?_
    refine lv_iconst (v := (1 : Int32)) hx hb dX0_doStep_11 (by decide) ?_
    refine lv_aload_n hx hb dX0_doStep_12 rfl (lv_at hl 0 rfl) ?_
    refine va_get (D := (dC, dI)) (ci := 0) (v := .int u.2.2.1) (C := RX0) (T := TX0) (N := 6) hx hb htb inX0 hown hK hP 0 rfl rfl 2 (by decide) (htb _ iw_f_X0_16) (fun _ h9 => h9) rfl dX0_doStep_13 ?_
    refine xu_calli (va_runV (As := [.int (1 : Int32), .int u.2.2.1]) (rest := []) ⟨hx, hb, hml, hown, htb⟩ (ct_x_tell l dC dI a u (1 : Int32) u.2.2.1) (cwV 2 htb gw_X0_97 rfl rfl rfl (by decide +kernel) ⟨Nat.le_of_ble_eq_true rfl, Nat.le_of_ble_eq_true rfl⟩) (xu_preW hK hP hd) rfl rfl hl.1 rfl (lv_room (Nat.le_of_ble_eq_true rfl)) dX0_doStep_16 ⟨Nat.le_of_ble_eq_true rfl, Nat.le_of_ble_eq_true rfl⟩) hS (fun H locs hP hS => ?_)
    exact W.iret (v := (fx_x_tell u (1 : Int32) u.2.2.1).1) hx hb hr (fun t ht hW => ⟨⟨(fx_x_tell u (1 : Int32) u.2.2.1).1, (fx_x_tell u (1 : Int32) u.2.2.1).2, rfl, (by unfold fx_x_doStep; rw [if_pos c1]), by rw [ht]; exact hP, va_K.moved hW.alike hK⟩, hS.F ht⟩) hS.2.2 dX0_doStep_19
def fx_x_step (u : XS)  : Int32 × XS := ((fx_x_doStep u).1, (fx_x_doStep u).2)
set_option maxHeartbeats 4000000 in
set_option maxRecDepth 100000 in
theorem ct_x_step (l : Launch) (dC : Nat → ClassId) (dI : Nat → Nat → Nat) (a : XA) (u : XS)   : Met l yX0_step wsX0_step ({ frames := 6, cells := 0, slots := 0, locals := 131 }) (va_Pc [.ref a.1] (fun U => va_P (dC, dI) vwCl (xu_w a u) U.heap ∧ va_K (dC, dI) vwCl (xu_t a) U ∧ xu_D a)) (va_Qi (fun r u9 => (r, u9) = fx_x_step u) (fun u9 t => va_P (dC, dI) vwCl (xu_w a u9) t.heap ∧ va_K (dC, dI) vwCl (xu_t a) t) (xu_A a)) 0 0 (xu_A a) := by
  refine Met.ofW (cc := cX0_step) (maxL := 1) (ret := (some .int)) (by decide) rfl ?_
  intro p e s m args below meth c s₁ B hml hv
  obtain ⟨rfl, hP, hK, hd⟩ := hv
  have hx := B.exec
  have hb := B.bytes
  have hr := B.returns
  have htb : ∀ w ∈ lw_g, w.before ([.ref a.1] : List Value).toArray s = true := fun w h => atoms_spec (ws := wsX0_step) B.pre w (List.mem_cons_of_mem _ h)
  have hown : s.vm.findClass RX0 = some m.cls := findClass_of_methodNamed B.named
  have hlocks := B.notSynchronized
  have hS : va_S (xu_A a) s.heap s.heap [] := va_S.rf
  have hl := lv_entry ([.ref a.1]) (n := 1) (Nat.le_of_ble_eq_true rfl)
  rw [lg_entry_eq]
  generalize (lg_sl ([.ref a.1]) ++ List.replicate (1 - (lg_sl ([.ref a.1])).length) Slot.unset).toArray = ls at hl ⊢
  have hl : lv_has ls 1 [(0, .ref a.1)] := hl
  refine lv_aload_n hx hb dX0_step_0 rfl (lv_at hl 0 rfl) ?_
  refine xu_calli (va_runV (As := []) (rest := []) ⟨hx, hb, hml, hown, htb⟩ (ct_x_doStep l dC dI a u ) (cwV 0 htb gw_X0_47 rfl rfl rfl (by decide +kernel) ⟨Nat.le_of_ble_eq_true rfl, Nat.le_of_ble_eq_true rfl⟩) (xu_preW hK hP hd) rfl rfl hl.1 rfl (lv_room (Nat.le_of_ble_eq_true rfl)) dX0_step_1 ⟨Nat.le_of_ble_eq_true rfl, Nat.le_of_ble_eq_true rfl⟩) hS (fun H locs hP hS => ?_)
  exact W.iret (v := (fx_x_doStep u).1) hx hb hr (fun t ht hW => ⟨⟨(fx_x_doStep u).1, (fx_x_doStep u).2, rfl, rfl, by rw [ht]; exact hP, va_K.moved hW.alike hK⟩, hS.F ht⟩) hS.2.2 dX0_step_4
def fx_x_run_lp15 : Nat → XS → Int32 → Int32 → Int32 × XS
  | 0, u1, _, _ => (0, u1)
  | k + 1, u1, a0, v2 => (if a0 ≤ v2 then (a0, u1) else (if (fx_x_doStep u1).1 = (-1 : Int32) then (fx_x_run_lp15 k (fx_x_doStep u1).2 a0 (v2 + (1 : Int32))) else (v2, (fx_x_doStep u1).2)))
def fx_x_run (u : XS) (a0 : Int32) : Int32 × XS := (if a0 < (0 : Int32) then ((-1 : Int32), u) else (if a0 ≤ (2000 : Int32) then (fx_x_run_lp15 2001 u a0 (0 : Int32)) else ((-1 : Int32), u)))
set_option maxHeartbeats 4000000 in
set_option maxRecDepth 100000 in
theorem ct_x_run (l : Launch) (dC : Nat → ClassId) (dI : Nat → Nat → Nat) (a : XA) (u : XS) (a0 : Int32)  : Met l yX0_run wsX0_run ({ frames := 6, cells := 0, slots := 0, locals := 131 }) (va_Pc [.ref a.1, .int a0] (fun U => va_P (dC, dI) vwCl (xu_w a u) U.heap ∧ va_K (dC, dI) vwCl (xu_t a) U ∧ xu_D a)) (va_Qi (fun r u9 => (r, u9) = fx_x_run u a0) (fun u9 t => va_P (dC, dI) vwCl (xu_w a u9) t.heap ∧ va_K (dC, dI) vwCl (xu_t a) t) (xu_A a)) 0 0 (xu_A a) := by
  refine Met.ofW (cc := cX0_run) (maxL := 3) (ret := (some .int)) (by decide) rfl ?_
  intro p e s m args below meth c s₁ B hml hv
  obtain ⟨rfl, hP, hK, hd⟩ := hv
  have hx := B.exec
  have hb := B.bytes
  have hr := B.returns
  have htb : ∀ w ∈ lw_g, w.before ([.ref a.1, .int a0] : List Value).toArray s = true := fun w h => atoms_spec (ws := wsX0_run) B.pre w (List.mem_cons_of_mem _ h)
  have hown : s.vm.findClass RX0 = some m.cls := findClass_of_methodNamed B.named
  have hlocks := B.notSynchronized
  have hS : va_S (xu_A a) s.heap s.heap [] := va_S.rf
  have hl := lv_entry ([.ref a.1, .int a0]) (n := 3) (Nat.le_of_ble_eq_true rfl)
  rw [lg_entry_eq]
  generalize (lg_sl ([.ref a.1, .int a0]) ++ List.replicate (3 - (lg_sl ([.ref a.1, .int a0])).length) Slot.unset).toArray = ls at hl ⊢
  have hl : lv_has ls 3 [(0, .ref a.1), (1, .int a0)] := hl
  refine lv_iload_n hx hb dX0_run_0 rfl (lv_at hl 1 rfl) ?_
  refine lv_if_lt (tgt := 11) hx hb dX0_run_1 (by decide) (fun c1 => ?_) (fun c1 => ?_)
  · refine lv_iconst (v := (-1 : Int32)) hx hb dX0_run_11 (by decide) ?_
    exact W.iret (v := (-1 : Int32)) hx hb hr (fun t ht hW => ⟨⟨(-1 : Int32), u, rfl, (by unfold fx_x_run; rw [if_pos c1]), by rw [ht]; exact hP, va_K.moved hW.alike hK⟩, hS.F ht⟩) hS.2.2 dX0_run_12
  · refine lv_iload_n hx hb dX0_run_4 rfl (lv_at hl 1 rfl) ?_
    refine lv_sipush (v := (2000 : Int32)) hx hb dX0_run_5 (by decide) ?_
    refine lv_icmp_le (tgt := 13) hx hb dX0_run_8 (by decide) (fun c2 => ?_) (fun c2 => ?_)
    · refine lv_iconst (v := (0 : Int32)) hx hb dX0_run_13 (by decide) ?_
      refine lv_istore_n (lv' := [(2, .int (0 : Int32)), (0, .ref a.1), (1, .int a0)]) hx hb dX0_run_14 rfl hl (by decide) rfl (fun ls hl => ?_)
      have loop : ∀ (k : Nat) (u1 : XS) (v2 : Int32) (H : Heap) (locs : List Loc) (ls : Array Slot), (v2.toInt ≤ a0.toInt ∧ a0.toInt < v2.toInt + k) → fx_x_run_lp15 k u1 a0 v2 = fx_x_run u a0 → va_P (dC, dI) vwCl (xu_w a u1) H → va_S (xu_A a) s.heap H locs → lv_has ls 3 [(2, .int v2), (0, .ref a.1), (1, .int a0)] → W p l e (headSpec wsX0_run ({ frames := 6, cells := 0, slots := 0, locals := 131 })).room s m ([.ref a.1, .int a0] : List Value).toArray below meth c H locs 0 0 (MQ below (va_Qi (fun r u9 => (r, u9) = fx_x_run u a0) (fun u9 t => va_P (dC, dI) vwCl (xu_w a u9) t.heap ∧ va_K (dC, dI) vwCl (xu_t a) t) (xu_A a)) ([.ref a.1, .int a0] : List Value).toArray s 0 0 (xu_A a)) (F0 m 15 ls []) := by
        intro k
        induction k with
        | zero => intro u1 v2 H locs ls hI; exact absurd hI (by omega)
        | succ k ih =>
          intro u1 v2 H locs ls hI hF hP hS hl
          refine lv_iload_n hx hb dX0_run_15 rfl (lv_at hl 0 rfl) ?_
          refine lv_iload_n hx hb dX0_run_16 rfl (lv_at hl 2 rfl) ?_
          refine lv_icmp_ge (tgt := 36) hx hb dX0_run_17 (by decide) (fun c3 => ?_) (fun c3 => ?_)
          · refine lv_iload_n hx hb dX0_run_36 rfl (lv_at hl 2 rfl) ?_
            exact W.iret (v := a0) hx hb hr (fun t ht hW => ⟨⟨a0, u1, rfl, (by have hF := hF; unfold fx_x_run_lp15 at hF; rw [if_pos c3] at hF; exact hF), by rw [ht]; exact hP, va_K.moved hW.alike hK⟩, hS.F ht⟩) hS.2.2 dX0_run_37
          · refine lv_aload_n hx hb dX0_run_20 rfl (lv_at hl 1 rfl) ?_
            refine xu_calli (va_runV (As := []) (rest := []) ⟨hx, hb, hml, hown, htb⟩ (ct_x_doStep l dC dI a u1 ) (cwV 0 htb gw_X0_47 rfl rfl rfl (by decide +kernel) ⟨Nat.le_of_ble_eq_true rfl, Nat.le_of_ble_eq_true rfl⟩) (xu_preW hK hP hd) rfl rfl hl.1 rfl (lv_room (Nat.le_of_ble_eq_true rfl)) dX0_run_21 ⟨Nat.le_of_ble_eq_true rfl, Nat.le_of_ble_eq_true rfl⟩) hS (fun H locs hP hS => ?_)
            refine lv_iconst (v := (-1 : Int32)) hx hb dX0_run_24 (by decide) ?_
            refine lv_icmp_eq (tgt := 30) hx hb dX0_run_25 (by decide) (fun c4 => ?_) (fun c4 => ?_)
            · refine lv_iinc (v := (v2 + (1 : Int32))) (lv' := [(2, .int (v2 + (1 : Int32))), (0, .ref a.1), (1, .int a0)]) hx hb dX0_run_30 hl (k := 0) rfl rfl (by decide) rfl (fun ls hl => ?_)
              refine lv_goto (tgt := 15) hx hb dX0_run_33 (by decide) ?_
              exact ih (fx_x_doStep u1).2 (v2 + (1 : Int32)) _ _ _ (jj_run1 hI c3) (by have hF := hF; unfold fx_x_run_lp15 at hF; rw [if_neg c3, if_pos c4] at hF; exact hF) hP hS (lv_sub hl [0, 1, 2] rfl)
            · refine lv_iload_n hx hb dX0_run_28 rfl (lv_at hl 0 rfl) ?_
              exact W.iret (v := v2) hx hb hr (fun t ht hW => ⟨⟨v2, (fx_x_doStep u1).2, rfl, (by have hF := hF; unfold fx_x_run_lp15 at hF; rw [if_neg c3, if_neg c4] at hF; exact hF), by rw [ht]; exact hP, va_K.moved hW.alike hK⟩, hS.F ht⟩) hS.2.2 dX0_run_29
      exact loop 2001 u (0 : Int32) _ _ _ (jj_run0 c1 c2) (by unfold fx_x_run; rw [if_neg c1, if_pos c2]) hP hS (lv_sub hl [0, 1, 2] rfl)
    · refine lv_iconst (v := (-1 : Int32)) hx hb dX0_run_11 (by decide) ?_
      exact W.iret (v := (-1 : Int32)) hx hb hr (fun t ht hW => ⟨⟨(-1 : Int32), u, rfl, (by unfold fx_x_run; rw [if_neg c1, if_neg c2]), by rw [ht]; exact hP, va_K.moved hW.alike hK⟩, hS.F ht⟩) hS.2.2 dX0_run_12
def fx_x_doWord (u : XS) (a0 : Int32) : Int32 × XS := ((fx_x_perform u a0).1, (fx_x_perform u a0).2)
set_option maxHeartbeats 4000000 in
set_option maxRecDepth 100000 in
theorem ct_x_doWord (l : Launch) (dC : Nat → ClassId) (dI : Nat → Nat → Nat) (a : XA) (u : XS) (a0 : Int32)  : Met l yX0_doWord wsX0_doWord ({ frames := 5, cells := 0, slots := 0, locals := 111 }) (va_Pc [.ref a.1, .int a0] (fun U => va_P (dC, dI) vwCl (xu_w a u) U.heap ∧ va_K (dC, dI) vwCl (xu_t a) U ∧ xu_D a)) (va_Qi (fun r u9 => (r, u9) = fx_x_doWord u a0) (fun u9 t => va_P (dC, dI) vwCl (xu_w a u9) t.heap ∧ va_K (dC, dI) vwCl (xu_t a) t) (xu_A a)) 0 0 (xu_A a) := by
  refine Met.ofW (cc := cX0_doWord) (maxL := 2) (ret := (some .int)) (by decide) rfl ?_
  intro p e s m args below meth c s₁ B hml hv
  obtain ⟨rfl, hP, hK, hd⟩ := hv
  have hx := B.exec
  have hb := B.bytes
  have hr := B.returns
  have htb : ∀ w ∈ lw_g, w.before ([.ref a.1, .int a0] : List Value).toArray s = true := fun w h => atoms_spec (ws := wsX0_doWord) B.pre w (List.mem_cons_of_mem _ h)
  have hown : s.vm.findClass RX0 = some m.cls := findClass_of_methodNamed B.named
  have hlocks := B.notSynchronized
  have hS : va_S (xu_A a) s.heap s.heap [] := va_S.rf
  have hl := lv_entry ([.ref a.1, .int a0]) (n := 2) (Nat.le_of_ble_eq_true rfl)
  rw [lg_entry_eq]
  generalize (lg_sl ([.ref a.1, .int a0]) ++ List.replicate (2 - (lg_sl ([.ref a.1, .int a0])).length) Slot.unset).toArray = ls at hl ⊢
  have hl : lv_has ls 2 [(0, .ref a.1), (1, .int a0)] := hl
  refine lv_aload_n hx hb dX0_doWord_0 rfl (lv_at hl 0 rfl) ?_
  refine lv_iload_n hx hb dX0_doWord_1 rfl (lv_at hl 1 rfl) ?_
  refine xu_calli (va_runV (As := [.int a0]) (rest := []) ⟨hx, hb, hml, hown, htb⟩ (ct_x_perform l dC dI a u a0) (cwV 1 htb gw_X0_51 rfl rfl rfl (by decide +kernel) ⟨Nat.le_of_ble_eq_true rfl, Nat.le_of_ble_eq_true rfl⟩) (xu_preW hK hP hd) rfl rfl hl.1 rfl (lv_room (Nat.le_of_ble_eq_true rfl)) dX0_doWord_2 ⟨Nat.le_of_ble_eq_true rfl, Nat.le_of_ble_eq_true rfl⟩) hS (fun H locs hP hS => ?_)
  exact W.iret (v := (fx_x_perform u a0).1) hx hb hr (fun t ht hW => ⟨⟨(fx_x_perform u a0).1, (fx_x_perform u a0).2, rfl, rfl, by rw [ht]; exact hP, va_K.moved hW.alike hK⟩, hS.F ht⟩) hS.2.2 dX0_doWord_5
