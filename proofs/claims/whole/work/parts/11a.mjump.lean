def fx_m_jump (u : XS) (a0 : Int32) (a1 : Int32) : Int32 × XS := (if (fx_m_field0 u a0 (0 : Int32)) = (111 : Int32) then (if ((((((u.2.2.1).toInt64) + (((fx_m_field0 u a0 (10 : Int32))).toInt64))).toInt32) - (((((u.2.2.1).toInt64) + (((fx_m_field0 u a0 (10 : Int32))).toInt64))).toInt32) / (4 : Int32) * (4 : Int32)) = (0 : Int32) then ((fx_m_finish (fx_m_set u (fx_m_field0 u a0 (1 : Int32)) a1) (((((u.2.2.1).toInt64) + (((fx_m_field0 u a0 (10 : Int32))).toInt64))).toInt32)).1, (fx_m_finish (fx_m_set u (fx_m_field0 u a0 (1 : Int32)) a1) (((((u.2.2.1).toInt64) + (((fx_m_field0 u a0 (10 : Int32))).toInt64))).toInt32)).2) else ((fx_m_fail u (0 : Int32) (((((u.2.2.1).toInt64) + (((fx_m_field0 u a0 (10 : Int32))).toInt64))).toInt32)).1, (fx_m_fail u (0 : Int32) (((((u.2.2.1).toInt64) + (((fx_m_field0 u a0 (10 : Int32))).toInt64))).toInt32)).2)) else (if (fx_m_field0 u a0 (0 : Int32)) = (99 : Int32) then (if (fx_m_holds u (fx_m_field0 u a0 (2 : Int32)) (u.2.1 ((fx_m_field0 u a0 (3 : Int32))).toNatClampNeg) (u.2.1 ((fx_m_field0 u a0 (4 : Int32))).toNatClampNeg)) = (0 : Int32) then ((fx_m_finish u a1).1, (fx_m_finish u a1).2) else (if ((((((u.2.2.1).toInt64) + (((fx_m_field0 u a0 (8 : Int32))).toInt64))).toInt32) - (((((u.2.2.1).toInt64) + (((fx_m_field0 u a0 (8 : Int32))).toInt64))).toInt32) / (4 : Int32) * (4 : Int32)) = (0 : Int32) then ((fx_m_finish u (((((u.2.2.1).toInt64) + (((fx_m_field0 u a0 (8 : Int32))).toInt64))).toInt32)).1, (fx_m_finish u (((((u.2.2.1).toInt64) + (((fx_m_field0 u a0 (8 : Int32))).toInt64))).toInt32)).2) else ((fx_m_fail u (0 : Int32) (((((u.2.2.1).toInt64) + (((fx_m_field0 u a0 (8 : Int32))).toInt64))).toInt32)).1, (fx_m_fail u (0 : Int32) (((((u.2.2.1).toInt64) + (((fx_m_field0 u a0 (8 : Int32))).toInt64))).toInt32)).2))) else (if (fx_m_field0 u a0 (0 : Int32)) = (103 : Int32) then (if (((((((u.2.1 ((fx_m_field0 u a0 (3 : Int32))).toNatClampNeg)).toInt64) + (((fx_m_field0 u a0 (6 : Int32))).toInt64))).toInt32) - ((((((u.2.1 ((fx_m_field0 u a0 (3 : Int32))).toNatClampNeg)).toInt64) + (((fx_m_field0 u a0 (6 : Int32))).toInt64))).toInt32) / (2 : Int32) * (2 : Int32)) = (0 : Int32) then (if (((((((u.2.1 ((fx_m_field0 u a0 (3 : Int32))).toNatClampNeg)).toInt64) + (((fx_m_field0 u a0 (6 : Int32))).toInt64))).toInt32) - ((((((u.2.1 ((fx_m_field0 u a0 (3 : Int32))).toNatClampNeg)).toInt64) + (((fx_m_field0 u a0 (6 : Int32))).toInt64))).toInt32) / (4 : Int32) * (4 : Int32)) = (0 : Int32) then ((fx_m_finish (fx_m_set u (fx_m_field0 u a0 (1 : Int32)) a1) ((((((u.2.1 ((fx_m_field0 u a0 (3 : Int32))).toNatClampNeg)).toInt64) + (((fx_m_field0 u a0 (6 : Int32))).toInt64))).toInt32)).1, (fx_m_finish (fx_m_set u (fx_m_field0 u a0 (1 : Int32)) a1) ((((((u.2.1 ((fx_m_field0 u a0 (3 : Int32))).toNatClampNeg)).toInt64) + (((fx_m_field0 u a0 (6 : Int32))).toInt64))).toInt32)).2) else ((fx_m_fail u (0 : Int32) ((((((u.2.1 ((fx_m_field0 u a0 (3 : Int32))).toNatClampNeg)).toInt64) + (((fx_m_field0 u a0 (6 : Int32))).toInt64))).toInt32)).1, (fx_m_fail u (0 : Int32) ((((((u.2.1 ((fx_m_field0 u a0 (3 : Int32))).toNatClampNeg)).toInt64) + (((fx_m_field0 u a0 (6 : Int32))).toInt64))).toInt32)).2)) else (if ((((((((((((u.2.1 ((fx_m_field0 u a0 (3 : Int32))).toNatClampNeg)).toInt64) + (((fx_m_field0 u a0 (6 : Int32))).toInt64))).toInt32)).toInt64) - (1 : Int64))).toInt32) - (((((((((((u.2.1 ((fx_m_field0 u a0 (3 : Int32))).toNatClampNeg)).toInt64) + (((fx_m_field0 u a0 (6 : Int32))).toInt64))).toInt32)).toInt64) - (1 : Int64))).toInt32) / (4 : Int32) * (4 : Int32)) = (0 : Int32) then ((fx_m_finish (fx_m_set u (fx_m_field0 u a0 (1 : Int32)) a1) (((((((((((u.2.1 ((fx_m_field0 u a0 (3 : Int32))).toNatClampNeg)).toInt64) + (((fx_m_field0 u a0 (6 : Int32))).toInt64))).toInt32)).toInt64) - (1 : Int64))).toInt32)).1, (fx_m_finish (fx_m_set u (fx_m_field0 u a0 (1 : Int32)) a1) (((((((((((u.2.1 ((fx_m_field0 u a0 (3 : Int32))).toNatClampNeg)).toInt64) + (((fx_m_field0 u a0 (6 : Int32))).toInt64))).toInt32)).toInt64) - (1 : Int64))).toInt32)).2) else ((fx_m_fail u (0 : Int32) (((((((((((u.2.1 ((fx_m_field0 u a0 (3 : Int32))).toNatClampNeg)).toInt64) + (((fx_m_field0 u a0 (6 : Int32))).toInt64))).toInt32)).toInt64) - (1 : Int64))).toInt32)).1, (fx_m_fail u (0 : Int32) (((((((((((u.2.1 ((fx_m_field0 u a0 (3 : Int32))).toNatClampNeg)).toInt64) + (((fx_m_field0 u a0 (6 : Int32))).toInt64))).toInt32)).toInt64) - (1 : Int64))).toInt32)).2))) else (if (((((((u.2.1 ((fx_m_field0 u a0 (3 : Int32))).toNatClampNeg)).toInt64) + (((fx_m_field0 u a0 (6 : Int32))).toInt64))).toInt32) - ((((((u.2.1 ((fx_m_field0 u a0 (3 : Int32))).toNatClampNeg)).toInt64) + (((fx_m_field0 u a0 (6 : Int32))).toInt64))).toInt32) / (4 : Int32) * (4 : Int32)) = (0 : Int32) then ((fx_m_finish (fx_m_set u (fx_m_field0 u a0 (1 : Int32)) a1) ((((((u.2.1 ((fx_m_field0 u a0 (3 : Int32))).toNatClampNeg)).toInt64) + (((fx_m_field0 u a0 (6 : Int32))).toInt64))).toInt32)).1, (fx_m_finish (fx_m_set u (fx_m_field0 u a0 (1 : Int32)) a1) ((((((u.2.1 ((fx_m_field0 u a0 (3 : Int32))).toNatClampNeg)).toInt64) + (((fx_m_field0 u a0 (6 : Int32))).toInt64))).toInt32)).2) else ((fx_m_fail u (0 : Int32) ((((((u.2.1 ((fx_m_field0 u a0 (3 : Int32))).toNatClampNeg)).toInt64) + (((fx_m_field0 u a0 (6 : Int32))).toInt64))).toInt32)).1, (fx_m_fail u (0 : Int32) ((((((u.2.1 ((fx_m_field0 u a0 (3 : Int32))).toNatClampNeg)).toInt64) + (((fx_m_field0 u a0 (6 : Int32))).toInt64))).toInt32)).2)))))
set_option maxHeartbeats 4000000 in
set_option maxRecDepth 100000 in
theorem ct_m_jump (l : Launch) (dC : Nat → ClassId) (dI : Nat → Nat → Nat) (a : XA) (u : XS) (a0 : Int32) (a1 : Int32)  : Met l yX1_jump wsX1_jump ({ frames := 2, cells := 0, slots := 0, locals := 49 }) (va_Pc [.ref a.1, .int a0, .int a1] (fun U => va_P (dC, dI) vwCl (mu_w a u) U.heap ∧ va_K (dC, dI) vwCl (xu_t a) U ∧ xu_D a)) (va_Qi (fun r u9 => (r, u9) = fx_m_jump u a0 a1) (fun u9 t => va_P (dC, dI) vwCl (mu_w a u9) t.heap ∧ va_K (dC, dI) vwCl (xu_t a) t) (xu_A a)) 0 0 (xu_A a) := by
  refine Met.ofW (cc := cX1_jump) (maxL := 11) (ret := (some .int)) (by decide) rfl ?_
  intro p e s m args below meth c s₁ B hml hv
  obtain ⟨rfl, hP, hK, hd⟩ := hv
  have hx := B.exec
  have hb := B.bytes
  have hr := B.returns
  have htb : ∀ w ∈ lw_g, w.before ([.ref a.1, .int a0, .int a1] : List Value).toArray s = true := fun w h => atoms_spec (ws := wsX1_jump) B.pre w (List.mem_cons_of_mem _ h)
  have hown : s.vm.findClass RX1 = some m.cls := findClass_of_methodNamed B.named
  have hlocks := B.notSynchronized
  have hS : va_S (xu_A a) s.heap s.heap [] := va_S.rf
  have hl := lv_entry ([.ref a.1, .int a0, .int a1]) (n := 11) (Nat.le_of_ble_eq_true rfl)
  rw [lg_entry_eq]
  generalize (lg_sl ([.ref a.1, .int a0, .int a1]) ++ List.replicate (11 - (lg_sl ([.ref a.1, .int a0, .int a1])).length) Slot.unset).toArray = ls at hl ⊢
  have hl : lv_has ls 11 [(0, .ref a.1), (1, .int a0), (2, .int a1)] := hl
  refine lv_aload_n hx hb dX1_jump_0 rfl (lv_at hl 0 rfl) ?_
  refine lv_iload_n hx hb dX1_jump_1 rfl (lv_at hl 1 rfl) ?_
  refine lv_iconst (v := (0 : Int32)) hx hb dX1_jump_2 (by decide) ?_
  refine vp_callSi (W.runV (As := [.int a0, .int (0 : Int32)]) (rest := []) ⟨hx, hb, hml, hown, htb⟩ (ct_m_field0 l dC dI a u a0 (0 : Int32) (by decide)) (cwV 2 htb gw_X1_40 rfl rfl rfl (by decide +kernel) ⟨Nat.le_of_ble_eq_true rfl, Nat.le_of_ble_eq_true rfl⟩) (mu_preR hK hP) rfl rfl hl.1 rfl (lv_room (Nat.le_of_ble_eq_true rfl)) dX1_jump_3 ⟨Nat.le_of_ble_eq_true rfl, Nat.le_of_ble_eq_true rfl⟩) (fun r9 e9 => ?_)
  subst e9
  refine lv_istore_n (lv' := [(3, .int (fx_m_field0 u a0 (0 : Int32))), (0, .ref a.1), (1, .int a0), (2, .int a1)]) hx hb dX1_jump_6 rfl hl (by decide) rfl (fun ls hl => ?_)
  refine lv_aload_n hx hb dX1_jump_7 rfl (lv_at hl 1 rfl) ?_
  refine lv_iload_n hx hb dX1_jump_8 rfl (lv_at hl 2 rfl) ?_
  refine lv_iconst (v := (1 : Int32)) hx hb dX1_jump_9 (by decide) ?_
  refine vp_callSi (W.runV (As := [.int a0, .int (1 : Int32)]) (rest := []) ⟨hx, hb, hml, hown, htb⟩ (ct_m_field0 l dC dI a u a0 (1 : Int32) (by decide)) (cwV 2 htb gw_X1_40 rfl rfl rfl (by decide +kernel) ⟨Nat.le_of_ble_eq_true rfl, Nat.le_of_ble_eq_true rfl⟩) (mu_preR hK hP) rfl rfl hl.1 rfl (lv_room (Nat.le_of_ble_eq_true rfl)) dX1_jump_10 ⟨Nat.le_of_ble_eq_true rfl, Nat.le_of_ble_eq_true rfl⟩) (fun r9 e9 => ?_)
  subst e9
  refine lv_istore (lv' := [(4, .int (fx_m_field0 u a0 (1 : Int32))), (3, .int (fx_m_field0 u a0 (0 : Int32))), (0, .ref a.1), (1, .int a0), (2, .int a1)]) hx hb dX1_jump_13 hl (by decide) rfl (fun ls hl => ?_)
  refine lv_aload_n hx hb dX1_jump_15 rfl (lv_at hl 2 rfl) ?_
  refine va_get (D := (dC, dI)) (ci := 1) (v := .ref a.2.2.1) (C := RX1) (T := TX1) (N := 7) hx hb htb inX1 hown hK hP 0 rfl rfl 1 (by decide) (htb _ iw_f_X1_13) (fun _ h9 => h9) rfl dX1_jump_16 ?_
  refine lv_aload_n hx hb dX1_jump_19 rfl (lv_at hl 2 rfl) ?_
  refine lv_iload_n hx hb dX1_jump_20 rfl (lv_at hl 3 rfl) ?_
  refine lv_iconst (v := (3 : Int32)) hx hb dX1_jump_21 (by decide) ?_
  refine vp_callSi (W.runV (As := [.int a0, .int (3 : Int32)]) (rest := [.ref a.2.2.1]) ⟨hx, hb, hml, hown, htb⟩ (ct_m_field0 l dC dI a u a0 (3 : Int32) (by decide)) (cwV 2 htb gw_X1_40 rfl rfl rfl (by decide +kernel) ⟨Nat.le_of_ble_eq_true rfl, Nat.le_of_ble_eq_true rfl⟩) (mu_preR hK hP) rfl rfl hl.1 rfl (lv_room (Nat.le_of_ble_eq_true rfl)) dX1_jump_22 ⟨Nat.le_of_ble_eq_true rfl, Nat.le_of_ble_eq_true rfl⟩) (fun r9 e9 => ?_)
  subst e9
  refine va_iald hx hb hK hP 2 1 (cA := a.2.2.2.2) (n := 32) (f := u.2.1) rfl rfl (mu_inX3 _ _) dX1_jump_25 ?_
  refine lv_i2l (v := (((u.2.1 ((fx_m_field0 u a0 (3 : Int32))).toNatClampNeg)).toInt64)) hx hb dX1_jump_26 rfl ?_
  refine lv_lstore (lv' := [(5, .long (((u.2.1 ((fx_m_field0 u a0 (3 : Int32))).toNatClampNeg)).toInt64)), (4, .int (fx_m_field0 u a0 (1 : Int32))), (3, .int (fx_m_field0 u a0 (0 : Int32))), (0, .ref a.1), (1, .int a0), (2, .int a1)]) hx hb dX1_jump_27 hl (by decide) rfl (fun ls hl => ?_)
  refine lv_aload_n hx hb dX1_jump_29 rfl (lv_at hl 3 rfl) ?_
  refine lv_iload_n hx hb dX1_jump_30 rfl (lv_at hl 4 rfl) ?_
  refine lv_iconst (v := (2 : Int32)) hx hb dX1_jump_31 (by decide) ?_
  refine vp_callSi (W.runV (As := [.int a0, .int (2 : Int32)]) (rest := []) ⟨hx, hb, hml, hown, htb⟩ (ct_m_field0 l dC dI a u a0 (2 : Int32) (by decide)) (cwV 2 htb gw_X1_40 rfl rfl rfl (by decide +kernel) ⟨Nat.le_of_ble_eq_true rfl, Nat.le_of_ble_eq_true rfl⟩) (mu_preR hK hP) rfl rfl hl.1 rfl (lv_room (Nat.le_of_ble_eq_true rfl)) dX1_jump_32 ⟨Nat.le_of_ble_eq_true rfl, Nat.le_of_ble_eq_true rfl⟩) (fun r9 e9 => ?_)
  subst e9
  refine lv_istore (lv' := [(7, .int (fx_m_field0 u a0 (2 : Int32))), (5, .long (((u.2.1 ((fx_m_field0 u a0 (3 : Int32))).toNatClampNeg)).toInt64)), (4, .int (fx_m_field0 u a0 (1 : Int32))), (3, .int (fx_m_field0 u a0 (0 : Int32))), (0, .ref a.1), (1, .int a0), (2, .int a1)]) hx hb dX1_jump_35 hl (by decide) rfl (fun ls hl => ?_)
  refine lv_iload_n hx hb dX1_jump_37 rfl (lv_at hl 3 rfl) ?_
  refine lv_bipush (v := (111 : Int32)) hx hb dX1_jump_38 (by decide) ?_
  refine lv_icmp_ne (tgt := 60) hx hb dX1_jump_40 (by decide) (fun c1 => ?_) (fun c1 => ?_)
  · refine lv_iload_n hx hb dX1_jump_60 rfl (lv_at hl 3 rfl) ?_
    refine lv_bipush (v := (99 : Int32)) hx hb dX1_jump_61 (by decide) ?_
    refine lv_icmp_ne (tgt := 83) hx hb dX1_jump_63 (by decide) (fun c2 => ?_) (fun c2 => ?_)
    · refine lv_lload hx hb dX1_jump_83 (lv_at hl 1 rfl) ?_
      refine lv_aload_n hx hb dX1_jump_85 rfl (lv_at hl 4 rfl) ?_
      refine lv_iload_n hx hb dX1_jump_86 rfl (lv_at hl 5 rfl) ?_
      refine lv_bipush (v := (6 : Int32)) hx hb dX1_jump_87 (by decide) ?_
      refine vp_callSi (W.runV (As := [.int a0, .int (6 : Int32)]) (rest := [.long (((u.2.1 ((fx_m_field0 u a0 (3 : Int32))).toNatClampNeg)).toInt64)]) ⟨hx, hb, hml, hown, htb⟩ (ct_m_field0 l dC dI a u a0 (6 : Int32) (by decide)) (cwV 2 htb gw_X1_40 rfl rfl rfl (by decide +kernel) ⟨Nat.le_of_ble_eq_true rfl, Nat.le_of_ble_eq_true rfl⟩) (mu_preR hK hP) rfl rfl hl.1 rfl (lv_room (Nat.le_of_ble_eq_true rfl)) dX1_jump_89 ⟨Nat.le_of_ble_eq_true rfl, Nat.le_of_ble_eq_true rfl⟩) (fun r9 e9 => ?_)
      subst e9
      refine lv_i2l (v := (((fx_m_field0 u a0 (6 : Int32))).toInt64)) hx hb dX1_jump_92 rfl ?_
      refine lv_ladd hx hb dX1_jump_93 ?_
      refine lv_lstore (lv' := [(8, .long ((((u.2.1 ((fx_m_field0 u a0 (3 : Int32))).toNatClampNeg)).toInt64) + (((fx_m_field0 u a0 (6 : Int32))).toInt64))), (7, .int (fx_m_field0 u a0 (2 : Int32))), (5, .long (((u.2.1 ((fx_m_field0 u a0 (3 : Int32))).toNatClampNeg)).toInt64)), (4, .int (fx_m_field0 u a0 (1 : Int32))), (3, .int (fx_m_field0 u a0 (0 : Int32))), (0, .ref a.1), (1, .int a0), (2, .int a1)]) hx hb dX1_jump_94 hl (by decide) rfl (fun ls hl => ?_)
      refine lv_lload hx hb dX1_jump_96 (lv_at hl 0 rfl) ?_
      refine lv_l2i (v := ((((((u.2.1 ((fx_m_field0 u a0 (3 : Int32))).toNatClampNeg)).toInt64) + (((fx_m_field0 u a0 (6 : Int32))).toInt64))).toInt32)) hx hb dX1_jump_98 rfl ?_
      refine lv_istore (lv' := [(10, .int ((((((u.2.1 ((fx_m_field0 u a0 (3 : Int32))).toNatClampNeg)).toInt64) + (((fx_m_field0 u a0 (6 : Int32))).toInt64))).toInt32)), (8, .long ((((u.2.1 ((fx_m_field0 u a0 (3 : Int32))).toNatClampNeg)).toInt64) + (((fx_m_field0 u a0 (6 : Int32))).toInt64))), (7, .int (fx_m_field0 u a0 (2 : Int32))), (5, .long (((u.2.1 ((fx_m_field0 u a0 (3 : Int32))).toNatClampNeg)).toInt64)), (4, .int (fx_m_field0 u a0 (1 : Int32))), (3, .int (fx_m_field0 u a0 (0 : Int32))), (0, .ref a.1), (1, .int a0), (2, .int a1)]) hx hb dX1_jump_99 hl (by decide) rfl (fun ls hl => ?_)
      refine lv_iload_n hx hb dX1_jump_101 rfl (lv_at hl 5 rfl) ?_
      refine lv_bipush (v := (103 : Int32)) hx hb dX1_jump_102 (by decide) ?_
      refine lv_icmp_ne (tgt := 123) hx hb dX1_jump_104 (by decide) (fun c3 => ?_) (fun c3 => ?_)
      · refine lv_iload hx hb dX1_jump_123 (lv_at hl 0 rfl) ?_
        refine lv_istore (lv' := [(10, .int ((((((u.2.1 ((fx_m_field0 u a0 (3 : Int32))).toNatClampNeg)).toInt64) + (((fx_m_field0 u a0 (6 : Int32))).toInt64))).toInt32)), (8, .long ((((u.2.1 ((fx_m_field0 u a0 (3 : Int32))).toNatClampNeg)).toInt64) + (((fx_m_field0 u a0 (6 : Int32))).toInt64))), (7, .int (fx_m_field0 u a0 (2 : Int32))), (5, .long (((u.2.1 ((fx_m_field0 u a0 (3 : Int32))).toNatClampNeg)).toInt64)), (4, .int (fx_m_field0 u a0 (1 : Int32))), (3, .int (fx_m_field0 u a0 (0 : Int32))), (0, .ref a.1), (1, .int a0), (2, .int a1)]) hx hb dX1_jump_125 hl (by decide) rfl (fun ls hl => ?_)
        refine lv_iload_n hx hb dX1_jump_127 rfl (lv_at hl 5 rfl) ?_
        refine lv_bipush (v := (99 : Int32)) hx hb dX1_jump_128 (by decide) ?_
        refine lv_icmp_ne (tgt := 170) hx hb dX1_jump_130 (by decide) (fun c4 => ?_) (fun c4 => ?_)
        · refine lv_iload hx hb dX1_jump_170 (lv_at hl 0 rfl) ?_
          refine lv_iconst (v := (4 : Int32)) hx hb dX1_jump_172 (by decide) ?_
          refine lv_irem hx hb dX1_jump_173 (by decide) ?_
          refine lv_if_eq (tgt := 185) hx hb dX1_jump_174 (by decide) (fun c5 => ?_) (fun c5 => ?_)
          · refine lv_iload_n hx hb dX1_jump_185 rfl (lv_at hl 5 rfl) ?_
            refine lv_bipush (v := (99 : Int32)) hx hb dX1_jump_186 (by decide) ?_
            refine lv_icmp_eq (tgt := 198) hx hb dX1_jump_188 (by decide) (fun c6 => ?_) (fun c6 => ?_)
            · exact absurd c6 c2
            · refine lv_aload_n hx hb dX1_jump_191 rfl (lv_at hl 6 rfl) ?_
              refine lv_iload hx hb dX1_jump_192 (lv_at hl 4 rfl) ?_
              refine lv_iload_n hx hb dX1_jump_194 rfl (lv_at hl 8 rfl) ?_
              refine mu_callv (va_runV (As := [.int (fx_m_field0 u a0 (1 : Int32)), .int a1]) (rest := []) ⟨hx, hb, hml, hown, htb⟩ (ct_m_set l dC dI a u (fx_m_field0 u a0 (1 : Int32)) a1 (mu_inX1 _ _)) (cwV 2 htb gw_X1_100 rfl rfl rfl (by decide +kernel) ⟨Nat.le_of_ble_eq_true rfl, Nat.le_of_ble_eq_true rfl⟩) (mu_preW hK hP hd) rfl rfl hl.1 rfl (lv_room (Nat.le_of_ble_eq_true rfl)) dX1_jump_195 ⟨Nat.le_of_ble_eq_true rfl, Nat.le_of_ble_eq_true rfl⟩) hS (fun H locs hP hS => ?_)
              refine lv_aload_n hx hb dX1_jump_198 rfl (lv_at hl 6 rfl) ?_
              refine lv_iload hx hb dX1_jump_199 (lv_at hl 0 rfl) ?_
              refine mu_calli (va_runV (As := [.int ((((((u.2.1 ((fx_m_field0 u a0 (3 : Int32))).toNatClampNeg)).toInt64) + (((fx_m_field0 u a0 (6 : Int32))).toInt64))).toInt32)]) (rest := []) ⟨hx, hb, hml, hown, htb⟩ (ct_m_finish l dC dI a (fx_m_set u (fx_m_field0 u a0 (1 : Int32)) a1) ((((((u.2.1 ((fx_m_field0 u a0 (3 : Int32))).toNatClampNeg)).toInt64) + (((fx_m_field0 u a0 (6 : Int32))).toInt64))).toInt32)) (cwV 1 htb gw_X1_117 rfl rfl rfl (by decide +kernel) ⟨Nat.le_of_ble_eq_true rfl, Nat.le_of_ble_eq_true rfl⟩) (mu_preW hK hP hd) rfl rfl hl.1 rfl (lv_room (Nat.le_of_ble_eq_true rfl)) dX1_jump_201 ⟨Nat.le_of_ble_eq_true rfl, Nat.le_of_ble_eq_true rfl⟩) hS (fun H locs hP hS => ?_)
              exact W.iret (v := (fx_m_finish (fx_m_set u (fx_m_field0 u a0 (1 : Int32)) a1) ((((((u.2.1 ((fx_m_field0 u a0 (3 : Int32))).toNatClampNeg)).toInt64) + (((fx_m_field0 u a0 (6 : Int32))).toInt64))).toInt32)).1) hx hb hr (fun t ht hW => ⟨⟨(fx_m_finish (fx_m_set u (fx_m_field0 u a0 (1 : Int32)) a1) ((((((u.2.1 ((fx_m_field0 u a0 (3 : Int32))).toNatClampNeg)).toInt64) + (((fx_m_field0 u a0 (6 : Int32))).toInt64))).toInt32)).1, (fx_m_finish (fx_m_set u (fx_m_field0 u a0 (1 : Int32)) a1) ((((((u.2.1 ((fx_m_field0 u a0 (3 : Int32))).toNatClampNeg)).toInt64) + (((fx_m_field0 u a0 (6 : Int32))).toInt64))).toInt32)).2, rfl, (by unfold fx_m_jump; rw [if_neg c1, if_neg c2, if_neg c3, if_pos c5]), by rw [ht]; exact hP, va_K.moved hW.alike hK⟩, hS.F ht⟩) hS.2.2 dX1_jump_204
          · refine lv_aload_n hx hb dX1_jump_177 rfl (lv_at hl 6 rfl) ?_
            refine lv_iconst (v := (0 : Int32)) hx hb dX1_jump_178 (by decide) ?_
            refine lv_iload hx hb dX1_jump_179 (lv_at hl 0 rfl) ?_
            refine mu_calli (va_runV (As := [.int (0 : Int32), .int ((((((u.2.1 ((fx_m_field0 u a0 (3 : Int32))).toNatClampNeg)).toInt64) + (((fx_m_field0 u a0 (6 : Int32))).toInt64))).toInt32)]) (rest := []) ⟨hx, hb, hml, hown, htb⟩ (ct_m_fail l dC dI a u (0 : Int32) ((((((u.2.1 ((fx_m_field0 u a0 (3 : Int32))).toNatClampNeg)).toInt64) + (((fx_m_field0 u a0 (6 : Int32))).toInt64))).toInt32)) (cwV 2 htb gw_X1_121 rfl rfl rfl (by decide +kernel) ⟨Nat.le_of_ble_eq_true rfl, Nat.le_of_ble_eq_true rfl⟩) (mu_preW hK hP hd) rfl rfl hl.1 rfl (lv_room (Nat.le_of_ble_eq_true rfl)) dX1_jump_181 ⟨Nat.le_of_ble_eq_true rfl, Nat.le_of_ble_eq_true rfl⟩) hS (fun H locs hP hS => ?_)
            exact W.iret (v := (fx_m_fail u (0 : Int32) ((((((u.2.1 ((fx_m_field0 u a0 (3 : Int32))).toNatClampNeg)).toInt64) + (((fx_m_field0 u a0 (6 : Int32))).toInt64))).toInt32)).1) hx hb hr (fun t ht hW => ⟨⟨(fx_m_fail u (0 : Int32) ((((((u.2.1 ((fx_m_field0 u a0 (3 : Int32))).toNatClampNeg)).toInt64) + (((fx_m_field0 u a0 (6 : Int32))).toInt64))).toInt32)).1, (fx_m_fail u (0 : Int32) ((((((u.2.1 ((fx_m_field0 u a0 (3 : Int32))).toNatClampNeg)).toInt64) + (((fx_m_field0 u a0 (6 : Int32))).toInt64))).toInt32)).2, rfl, (by unfold fx_m_jump; rw [if_neg c1, if_neg c2, if_neg c3, if_neg c5]), by rw [ht]; exact hP, va_K.moved hW.alike hK⟩, hS.F ht⟩) hS.2.2 dX1_jump_184
        · exact absurd c4 c2
      · refine lv_iload hx hb dX1_jump_107 (lv_at hl 0 rfl) ?_
        refine lv_iconst (v := (2 : Int32)) hx hb dX1_jump_109 (by decide) ?_
        refine lv_irem hx hb dX1_jump_110 (by decide) ?_
        refine lv_if_eq (tgt := 123) hx hb dX1_jump_111 (by decide) (fun c7 => ?_) (fun c7 => ?_)
        · refine lv_iload hx hb dX1_jump_123 (lv_at hl 0 rfl) ?_
          refine lv_istore (lv' := [(10, .int ((((((u.2.1 ((fx_m_field0 u a0 (3 : Int32))).toNatClampNeg)).toInt64) + (((fx_m_field0 u a0 (6 : Int32))).toInt64))).toInt32)), (8, .long ((((u.2.1 ((fx_m_field0 u a0 (3 : Int32))).toNatClampNeg)).toInt64) + (((fx_m_field0 u a0 (6 : Int32))).toInt64))), (7, .int (fx_m_field0 u a0 (2 : Int32))), (5, .long (((u.2.1 ((fx_m_field0 u a0 (3 : Int32))).toNatClampNeg)).toInt64)), (4, .int (fx_m_field0 u a0 (1 : Int32))), (3, .int (fx_m_field0 u a0 (0 : Int32))), (0, .ref a.1), (1, .int a0), (2, .int a1)]) hx hb dX1_jump_125 hl (by decide) rfl (fun ls hl => ?_)
          refine lv_iload_n hx hb dX1_jump_127 rfl (lv_at hl 5 rfl) ?_
          refine lv_bipush (v := (99 : Int32)) hx hb dX1_jump_128 (by decide) ?_
          refine lv_icmp_ne (tgt := 170) hx hb dX1_jump_130 (by decide) (fun c8 => ?_) (fun c8 => ?_)
          · refine lv_iload hx hb dX1_jump_170 (lv_at hl 0 rfl) ?_
            refine lv_iconst (v := (4 : Int32)) hx hb dX1_jump_172 (by decide) ?_
            refine lv_irem hx hb dX1_jump_173 (by decide) ?_
            refine lv_if_eq (tgt := 185) hx hb dX1_jump_174 (by decide) (fun c9 => ?_) (fun c9 => ?_)
            · refine lv_iload_n hx hb dX1_jump_185 rfl (lv_at hl 5 rfl) ?_
              refine lv_bipush (v := (99 : Int32)) hx hb dX1_jump_186 (by decide) ?_
              refine lv_icmp_eq (tgt := 198) hx hb dX1_jump_188 (by decide) (fun c10 => ?_) (fun c10 => ?_)
              · exact absurd c10 c2
              · refine lv_aload_n hx hb dX1_jump_191 rfl (lv_at hl 6 rfl) ?_
                refine lv_iload hx hb dX1_jump_192 (lv_at hl 4 rfl) ?_
                refine lv_iload_n hx hb dX1_jump_194 rfl (lv_at hl 8 rfl) ?_
                refine mu_callv (va_runV (As := [.int (fx_m_field0 u a0 (1 : Int32)), .int a1]) (rest := []) ⟨hx, hb, hml, hown, htb⟩ (ct_m_set l dC dI a u (fx_m_field0 u a0 (1 : Int32)) a1 (mu_inX1 _ _)) (cwV 2 htb gw_X1_100 rfl rfl rfl (by decide +kernel) ⟨Nat.le_of_ble_eq_true rfl, Nat.le_of_ble_eq_true rfl⟩) (mu_preW hK hP hd) rfl rfl hl.1 rfl (lv_room (Nat.le_of_ble_eq_true rfl)) dX1_jump_195 ⟨Nat.le_of_ble_eq_true rfl, Nat.le_of_ble_eq_true rfl⟩) hS (fun H locs hP hS => ?_)
                refine lv_aload_n hx hb dX1_jump_198 rfl (lv_at hl 6 rfl) ?_
                refine lv_iload hx hb dX1_jump_199 (lv_at hl 0 rfl) ?_
                refine mu_calli (va_runV (As := [.int ((((((u.2.1 ((fx_m_field0 u a0 (3 : Int32))).toNatClampNeg)).toInt64) + (((fx_m_field0 u a0 (6 : Int32))).toInt64))).toInt32)]) (rest := []) ⟨hx, hb, hml, hown, htb⟩ (ct_m_finish l dC dI a (fx_m_set u (fx_m_field0 u a0 (1 : Int32)) a1) ((((((u.2.1 ((fx_m_field0 u a0 (3 : Int32))).toNatClampNeg)).toInt64) + (((fx_m_field0 u a0 (6 : Int32))).toInt64))).toInt32)) (cwV 1 htb gw_X1_117 rfl rfl rfl (by decide +kernel) ⟨Nat.le_of_ble_eq_true rfl, Nat.le_of_ble_eq_true rfl⟩) (mu_preW hK hP hd) rfl rfl hl.1 rfl (lv_room (Nat.le_of_ble_eq_true rfl)) dX1_jump_201 ⟨Nat.le_of_ble_eq_true rfl, Nat.le_of_ble_eq_true rfl⟩) hS (fun H locs hP hS => ?_)
                exact W.iret (v := (fx_m_finish (fx_m_set u (fx_m_field0 u a0 (1 : Int32)) a1) ((((((u.2.1 ((fx_m_field0 u a0 (3 : Int32))).toNatClampNeg)).toInt64) + (((fx_m_field0 u a0 (6 : Int32))).toInt64))).toInt32)).1) hx hb hr (fun t ht hW => ⟨⟨(fx_m_finish (fx_m_set u (fx_m_field0 u a0 (1 : Int32)) a1) ((((((u.2.1 ((fx_m_field0 u a0 (3 : Int32))).toNatClampNeg)).toInt64) + (((fx_m_field0 u a0 (6 : Int32))).toInt64))).toInt32)).1, (fx_m_finish (fx_m_set u (fx_m_field0 u a0 (1 : Int32)) a1) ((((((u.2.1 ((fx_m_field0 u a0 (3 : Int32))).toNatClampNeg)).toInt64) + (((fx_m_field0 u a0 (6 : Int32))).toInt64))).toInt32)).2, rfl, (by unfold fx_m_jump; rw [if_neg c1, if_neg c2, if_pos c3, if_pos c7, if_pos c9]), by rw [ht]; exact hP, va_K.moved hW.alike hK⟩, hS.F ht⟩) hS.2.2 dX1_jump_204
            · refine lv_aload_n hx hb dX1_jump_177 rfl (lv_at hl 6 rfl) ?_
              refine lv_iconst (v := (0 : Int32)) hx hb dX1_jump_178 (by decide) ?_
              refine lv_iload hx hb dX1_jump_179 (lv_at hl 0 rfl) ?_
              refine mu_calli (va_runV (As := [.int (0 : Int32), .int ((((((u.2.1 ((fx_m_field0 u a0 (3 : Int32))).toNatClampNeg)).toInt64) + (((fx_m_field0 u a0 (6 : Int32))).toInt64))).toInt32)]) (rest := []) ⟨hx, hb, hml, hown, htb⟩ (ct_m_fail l dC dI a u (0 : Int32) ((((((u.2.1 ((fx_m_field0 u a0 (3 : Int32))).toNatClampNeg)).toInt64) + (((fx_m_field0 u a0 (6 : Int32))).toInt64))).toInt32)) (cwV 2 htb gw_X1_121 rfl rfl rfl (by decide +kernel) ⟨Nat.le_of_ble_eq_true rfl, Nat.le_of_ble_eq_true rfl⟩) (mu_preW hK hP hd) rfl rfl hl.1 rfl (lv_room (Nat.le_of_ble_eq_true rfl)) dX1_jump_181 ⟨Nat.le_of_ble_eq_true rfl, Nat.le_of_ble_eq_true rfl⟩) hS (fun H locs hP hS => ?_)
              exact W.iret (v := (fx_m_fail u (0 : Int32) ((((((u.2.1 ((fx_m_field0 u a0 (3 : Int32))).toNatClampNeg)).toInt64) + (((fx_m_field0 u a0 (6 : Int32))).toInt64))).toInt32)).1) hx hb hr (fun t ht hW => ⟨⟨(fx_m_fail u (0 : Int32) ((((((u.2.1 ((fx_m_field0 u a0 (3 : Int32))).toNatClampNeg)).toInt64) + (((fx_m_field0 u a0 (6 : Int32))).toInt64))).toInt32)).1, (fx_m_fail u (0 : Int32) ((((((u.2.1 ((fx_m_field0 u a0 (3 : Int32))).toNatClampNeg)).toInt64) + (((fx_m_field0 u a0 (6 : Int32))).toInt64))).toInt32)).2, rfl, (by unfold fx_m_jump; rw [if_neg c1, if_neg c2, if_pos c3, if_pos c7, if_neg c9]), by rw [ht]; exact hP, va_K.moved hW.alike hK⟩, hS.F ht⟩) hS.2.2 dX1_jump_184
          · exact absurd c8 c2
        · refine lv_iload hx hb dX1_jump_114 (lv_at hl 0 rfl) ?_
          refine lv_i2l (v := ((((((((u.2.1 ((fx_m_field0 u a0 (3 : Int32))).toNatClampNeg)).toInt64) + (((fx_m_field0 u a0 (6 : Int32))).toInt64))).toInt32)).toInt64)) hx hb dX1_jump_116 rfl ?_
          refine lv_lconst (v := (1 : Int64)) hx hb dX1_jump_117 (by decide) ?_
          refine lv_lsub hx hb dX1_jump_118 ?_
          refine lv_l2i (v := (((((((((((u.2.1 ((fx_m_field0 u a0 (3 : Int32))).toNatClampNeg)).toInt64) + (((fx_m_field0 u a0 (6 : Int32))).toInt64))).toInt32)).toInt64) - (1 : Int64))).toInt32)) hx hb dX1_jump_119 rfl ?_
          refine lv_goto (tgt := 125) hx hb dX1_jump_120 (by decide) ?_
          refine lv_istore (lv' := [(10, .int (((((((((((u.2.1 ((fx_m_field0 u a0 (3 : Int32))).toNatClampNeg)).toInt64) + (((fx_m_field0 u a0 (6 : Int32))).toInt64))).toInt32)).toInt64) - (1 : Int64))).toInt32)), (8, .long ((((u.2.1 ((fx_m_field0 u a0 (3 : Int32))).toNatClampNeg)).toInt64) + (((fx_m_field0 u a0 (6 : Int32))).toInt64))), (7, .int (fx_m_field0 u a0 (2 : Int32))), (5, .long (((u.2.1 ((fx_m_field0 u a0 (3 : Int32))).toNatClampNeg)).toInt64)), (4, .int (fx_m_field0 u a0 (1 : Int32))), (3, .int (fx_m_field0 u a0 (0 : Int32))), (0, .ref a.1), (1, .int a0), (2, .int a1)]) hx hb dX1_jump_125 hl (by decide) rfl (fun ls hl => ?_)
          refine lv_iload_n hx hb dX1_jump_127 rfl (lv_at hl 5 rfl) ?_
          refine lv_bipush (v := (99 : Int32)) hx hb dX1_jump_128 (by decide) ?_
          refine lv_icmp_ne (tgt := 170) hx hb dX1_jump_130 (by decide) (fun c11 => ?_) (fun c11 => ?_)
          · refine lv_iload hx hb dX1_jump_170 (lv_at hl 0 rfl) ?_
            refine lv_iconst (v := (4 : Int32)) hx hb dX1_jump_172 (by decide) ?_
            refine lv_irem hx hb dX1_jump_173 (by decide) ?_
            refine lv_if_eq (tgt := 185) hx hb dX1_jump_174 (by decide) (fun c12 => ?_) (fun c12 => ?_)
            · refine lv_iload_n hx hb dX1_jump_185 rfl (lv_at hl 5 rfl) ?_
              refine lv_bipush (v := (99 : Int32)) hx hb dX1_jump_186 (by decide) ?_
              refine lv_icmp_eq (tgt := 198) hx hb dX1_jump_188 (by decide) (fun c13 => ?_) (fun c13 => ?_)
              · exact absurd c13 c2
              · refine lv_aload_n hx hb dX1_jump_191 rfl (lv_at hl 6 rfl) ?_
                refine lv_iload hx hb dX1_jump_192 (lv_at hl 4 rfl) ?_
                refine lv_iload_n hx hb dX1_jump_194 rfl (lv_at hl 8 rfl) ?_
                refine mu_callv (va_runV (As := [.int (fx_m_field0 u a0 (1 : Int32)), .int a1]) (rest := []) ⟨hx, hb, hml, hown, htb⟩ (ct_m_set l dC dI a u (fx_m_field0 u a0 (1 : Int32)) a1 (mu_inX1 _ _)) (cwV 2 htb gw_X1_100 rfl rfl rfl (by decide +kernel) ⟨Nat.le_of_ble_eq_true rfl, Nat.le_of_ble_eq_true rfl⟩) (mu_preW hK hP hd) rfl rfl hl.1 rfl (lv_room (Nat.le_of_ble_eq_true rfl)) dX1_jump_195 ⟨Nat.le_of_ble_eq_true rfl, Nat.le_of_ble_eq_true rfl⟩) hS (fun H locs hP hS => ?_)
                refine lv_aload_n hx hb dX1_jump_198 rfl (lv_at hl 6 rfl) ?_
                refine lv_iload hx hb dX1_jump_199 (lv_at hl 0 rfl) ?_
                refine mu_calli (va_runV (As := [.int (((((((((((u.2.1 ((fx_m_field0 u a0 (3 : Int32))).toNatClampNeg)).toInt64) + (((fx_m_field0 u a0 (6 : Int32))).toInt64))).toInt32)).toInt64) - (1 : Int64))).toInt32)]) (rest := []) ⟨hx, hb, hml, hown, htb⟩ (ct_m_finish l dC dI a (fx_m_set u (fx_m_field0 u a0 (1 : Int32)) a1) (((((((((((u.2.1 ((fx_m_field0 u a0 (3 : Int32))).toNatClampNeg)).toInt64) + (((fx_m_field0 u a0 (6 : Int32))).toInt64))).toInt32)).toInt64) - (1 : Int64))).toInt32)) (cwV 1 htb gw_X1_117 rfl rfl rfl (by decide +kernel) ⟨Nat.le_of_ble_eq_true rfl, Nat.le_of_ble_eq_true rfl⟩) (mu_preW hK hP hd) rfl rfl hl.1 rfl (lv_room (Nat.le_of_ble_eq_true rfl)) dX1_jump_201 ⟨Nat.le_of_ble_eq_true rfl, Nat.le_of_ble_eq_true rfl⟩) hS (fun H locs hP hS => ?_)
                exact W.iret (v := (fx_m_finish (fx_m_set u (fx_m_field0 u a0 (1 : Int32)) a1) (((((((((((u.2.1 ((fx_m_field0 u a0 (3 : Int32))).toNatClampNeg)).toInt64) + (((fx_m_field0 u a0 (6 : Int32))).toInt64))).toInt32)).toInt64) - (1 : Int64))).toInt32)).1) hx hb hr (fun t ht hW => ⟨⟨(fx_m_finish (fx_m_set u (fx_m_field0 u a0 (1 : Int32)) a1) (((((((((((u.2.1 ((fx_m_field0 u a0 (3 : Int32))).toNatClampNeg)).toInt64) + (((fx_m_field0 u a0 (6 : Int32))).toInt64))).toInt32)).toInt64) - (1 : Int64))).toInt32)).1, (fx_m_finish (fx_m_set u (fx_m_field0 u a0 (1 : Int32)) a1) (((((((((((u.2.1 ((fx_m_field0 u a0 (3 : Int32))).toNatClampNeg)).toInt64) + (((fx_m_field0 u a0 (6 : Int32))).toInt64))).toInt32)).toInt64) - (1 : Int64))).toInt32)).2, rfl, (by unfold fx_m_jump; rw [if_neg c1, if_neg c2, if_pos c3, if_neg c7, if_pos c12]), by rw [ht]; exact hP, va_K.moved hW.alike hK⟩, hS.F ht⟩) hS.2.2 dX1_jump_204
            · refine lv_aload_n hx hb dX1_jump_177 rfl (lv_at hl 6 rfl) ?_
              refine lv_iconst (v := (0 : Int32)) hx hb dX1_jump_178 (by decide) ?_
              refine lv_iload hx hb dX1_jump_179 (lv_at hl 0 rfl) ?_
              refine mu_calli (va_runV (As := [.int (0 : Int32), .int (((((((((((u.2.1 ((fx_m_field0 u a0 (3 : Int32))).toNatClampNeg)).toInt64) + (((fx_m_field0 u a0 (6 : Int32))).toInt64))).toInt32)).toInt64) - (1 : Int64))).toInt32)]) (rest := []) ⟨hx, hb, hml, hown, htb⟩ (ct_m_fail l dC dI a u (0 : Int32) (((((((((((u.2.1 ((fx_m_field0 u a0 (3 : Int32))).toNatClampNeg)).toInt64) + (((fx_m_field0 u a0 (6 : Int32))).toInt64))).toInt32)).toInt64) - (1 : Int64))).toInt32)) (cwV 2 htb gw_X1_121 rfl rfl rfl (by decide +kernel) ⟨Nat.le_of_ble_eq_true rfl, Nat.le_of_ble_eq_true rfl⟩) (mu_preW hK hP hd) rfl rfl hl.1 rfl (lv_room (Nat.le_of_ble_eq_true rfl)) dX1_jump_181 ⟨Nat.le_of_ble_eq_true rfl, Nat.le_of_ble_eq_true rfl⟩) hS (fun H locs hP hS => ?_)
              exact W.iret (v := (fx_m_fail u (0 : Int32) (((((((((((u.2.1 ((fx_m_field0 u a0 (3 : Int32))).toNatClampNeg)).toInt64) + (((fx_m_field0 u a0 (6 : Int32))).toInt64))).toInt32)).toInt64) - (1 : Int64))).toInt32)).1) hx hb hr (fun t ht hW => ⟨⟨(fx_m_fail u (0 : Int32) (((((((((((u.2.1 ((fx_m_field0 u a0 (3 : Int32))).toNatClampNeg)).toInt64) + (((fx_m_field0 u a0 (6 : Int32))).toInt64))).toInt32)).toInt64) - (1 : Int64))).toInt32)).1, (fx_m_fail u (0 : Int32) (((((((((((u.2.1 ((fx_m_field0 u a0 (3 : Int32))).toNatClampNeg)).toInt64) + (((fx_m_field0 u a0 (6 : Int32))).toInt64))).toInt32)).toInt64) - (1 : Int64))).toInt32)).2, rfl, (by unfold fx_m_jump; rw [if_neg c1, if_neg c2, if_pos c3, if_neg c7, if_neg c12]), by rw [ht]; exact hP, va_K.moved hW.alike hK⟩, hS.F ht⟩) hS.2.2 dX1_jump_184
          · exact absurd c11 c2
    · refine lv_aload_n hx hb dX1_jump_66 rfl (lv_at hl 4 rfl) ?_
      refine va_get (D := (dC, dI)) (ci := 1) (v := .int u.2.2.1) (C := RX1) (T := TX1) (N := 7) hx hb htb inX1 hown hK hP 0 rfl rfl 2 (by decide) (htb _ iw_f_X1_104) (fun _ h9 => h9) rfl dX1_jump_67 ?_
      refine lv_i2l (v := ((u.2.2.1).toInt64)) hx hb dX1_jump_70 rfl ?_
      refine lv_aload_n hx hb dX1_jump_71 rfl (lv_at hl 4 rfl) ?_
      refine lv_iload_n hx hb dX1_jump_72 rfl (lv_at hl 5 rfl) ?_
      refine lv_bipush (v := (8 : Int32)) hx hb dX1_jump_73 (by decide) ?_
      refine vp_callSi (W.runV (As := [.int a0, .int (8 : Int32)]) (rest := [.long ((u.2.2.1).toInt64)]) ⟨hx, hb, hml, hown, htb⟩ (ct_m_field0 l dC dI a u a0 (8 : Int32) (by decide)) (cwV 2 htb gw_X1_40 rfl rfl rfl (by decide +kernel) ⟨Nat.le_of_ble_eq_true rfl, Nat.le_of_ble_eq_true rfl⟩) (mu_preR hK hP) rfl rfl hl.1 rfl (lv_room (Nat.le_of_ble_eq_true rfl)) dX1_jump_75 ⟨Nat.le_of_ble_eq_true rfl, Nat.le_of_ble_eq_true rfl⟩) (fun r9 e9 => ?_)
      subst e9
      refine lv_i2l (v := (((fx_m_field0 u a0 (8 : Int32))).toInt64)) hx hb dX1_jump_78 rfl ?_
      refine lv_ladd hx hb dX1_jump_79 ?_
      refine lv_goto (tgt := 94) hx hb dX1_jump_80 (by decide) ?_
      refine lv_lstore (lv' := [(8, .long (((u.2.2.1).toInt64) + (((fx_m_field0 u a0 (8 : Int32))).toInt64))), (7, .int (fx_m_field0 u a0 (2 : Int32))), (5, .long (((u.2.1 ((fx_m_field0 u a0 (3 : Int32))).toNatClampNeg)).toInt64)), (4, .int (fx_m_field0 u a0 (1 : Int32))), (3, .int (fx_m_field0 u a0 (0 : Int32))), (0, .ref a.1), (1, .int a0), (2, .int a1)]) hx hb dX1_jump_94 hl (by decide) rfl (fun ls hl => ?_)
      refine lv_lload hx hb dX1_jump_96 (lv_at hl 0 rfl) ?_
      refine lv_l2i (v := (((((u.2.2.1).toInt64) + (((fx_m_field0 u a0 (8 : Int32))).toInt64))).toInt32)) hx hb dX1_jump_98 rfl ?_
      refine lv_istore (lv' := [(10, .int (((((u.2.2.1).toInt64) + (((fx_m_field0 u a0 (8 : Int32))).toInt64))).toInt32)), (8, .long (((u.2.2.1).toInt64) + (((fx_m_field0 u a0 (8 : Int32))).toInt64))), (7, .int (fx_m_field0 u a0 (2 : Int32))), (5, .long (((u.2.1 ((fx_m_field0 u a0 (3 : Int32))).toNatClampNeg)).toInt64)), (4, .int (fx_m_field0 u a0 (1 : Int32))), (3, .int (fx_m_field0 u a0 (0 : Int32))), (0, .ref a.1), (1, .int a0), (2, .int a1)]) hx hb dX1_jump_99 hl (by decide) rfl (fun ls hl => ?_)
      refine lv_iload_n hx hb dX1_jump_101 rfl (lv_at hl 5 rfl) ?_
      refine lv_bipush (v := (103 : Int32)) hx hb dX1_jump_102 (by decide) ?_
      refine lv_icmp_ne (tgt := 123) hx hb dX1_jump_104 (by decide) (fun c14 => ?_) (fun c14 => ?_)
      · refine lv_iload hx hb dX1_jump_123 (lv_at hl 0 rfl) ?_
        refine lv_istore (lv' := [(10, .int (((((u.2.2.1).toInt64) + (((fx_m_field0 u a0 (8 : Int32))).toInt64))).toInt32)), (8, .long (((u.2.2.1).toInt64) + (((fx_m_field0 u a0 (8 : Int32))).toInt64))), (7, .int (fx_m_field0 u a0 (2 : Int32))), (5, .long (((u.2.1 ((fx_m_field0 u a0 (3 : Int32))).toNatClampNeg)).toInt64)), (4, .int (fx_m_field0 u a0 (1 : Int32))), (3, .int (fx_m_field0 u a0 (0 : Int32))), (0, .ref a.1), (1, .int a0), (2, .int a1)]) hx hb dX1_jump_125 hl (by decide) rfl (fun ls hl => ?_)
        refine lv_iload_n hx hb dX1_jump_127 rfl (lv_at hl 5 rfl) ?_
        refine lv_bipush (v := (99 : Int32)) hx hb dX1_jump_128 (by decide) ?_
        refine lv_icmp_ne (tgt := 170) hx hb dX1_jump_130 (by decide) (fun c15 => ?_) (fun c15 => ?_)
        · exact absurd c2 c15
        · refine lv_aload_n hx hb dX1_jump_133 rfl (lv_at hl 6 rfl) ?_
          refine lv_iload hx hb dX1_jump_134 (lv_at hl 2 rfl) ?_
          refine lv_aload_n hx hb dX1_jump_136 rfl (lv_at hl 6 rfl) ?_
          refine va_get (D := (dC, dI)) (ci := 1) (v := .ref a.2.2.1) (C := RX1) (T := TX1) (N := 7) hx hb htb inX1 hown hK hP 0 rfl rfl 1 (by decide) (htb _ iw_f_X1_13) (fun _ h9 => h9) rfl dX1_jump_137 ?_
          refine lv_aload_n hx hb dX1_jump_140 rfl (lv_at hl 6 rfl) ?_
          refine lv_iload_n hx hb dX1_jump_141 rfl (lv_at hl 7 rfl) ?_
          refine lv_iconst (v := (3 : Int32)) hx hb dX1_jump_142 (by decide) ?_
          refine vp_callSi (W.runV (As := [.int a0, .int (3 : Int32)]) (rest := [.ref a.2.2.1, .int (fx_m_field0 u a0 (2 : Int32)), .ref a.1]) ⟨hx, hb, hml, hown, htb⟩ (ct_m_field0 l dC dI a u a0 (3 : Int32) (by decide)) (cwV 2 htb gw_X1_40 rfl rfl rfl (by decide +kernel) ⟨Nat.le_of_ble_eq_true rfl, Nat.le_of_ble_eq_true rfl⟩) (mu_preR hK hP) rfl rfl hl.1 rfl (lv_room (Nat.le_of_ble_eq_true rfl)) dX1_jump_143 ⟨Nat.le_of_ble_eq_true rfl, Nat.le_of_ble_eq_true rfl⟩) (fun r9 e9 => ?_)
          subst e9
          refine va_iald hx hb hK hP 2 1 (cA := a.2.2.2.2) (n := 32) (f := u.2.1) rfl rfl (mu_inX3 _ _) dX1_jump_146 ?_
          refine lv_aload_n hx hb dX1_jump_147 rfl (lv_at hl 6 rfl) ?_
          refine va_get (D := (dC, dI)) (ci := 1) (v := .ref a.2.2.1) (C := RX1) (T := TX1) (N := 7) hx hb htb inX1 hown hK hP 0 rfl rfl 1 (by decide) (htb _ iw_f_X1_13) (fun _ h9 => h9) rfl dX1_jump_148 ?_
          refine lv_aload_n hx hb dX1_jump_151 rfl (lv_at hl 6 rfl) ?_
          refine lv_iload_n hx hb dX1_jump_152 rfl (lv_at hl 7 rfl) ?_
          refine lv_iconst (v := (4 : Int32)) hx hb dX1_jump_153 (by decide) ?_
          refine vp_callSi (W.runV (As := [.int a0, .int (4 : Int32)]) (rest := [.ref a.2.2.1, .int (u.2.1 ((fx_m_field0 u a0 (3 : Int32))).toNatClampNeg), .int (fx_m_field0 u a0 (2 : Int32)), .ref a.1]) ⟨hx, hb, hml, hown, htb⟩ (ct_m_field0 l dC dI a u a0 (4 : Int32) (by decide)) (cwV 2 htb gw_X1_40 rfl rfl rfl (by decide +kernel) ⟨Nat.le_of_ble_eq_true rfl, Nat.le_of_ble_eq_true rfl⟩) (mu_preR hK hP) rfl rfl hl.1 rfl (lv_room (Nat.le_of_ble_eq_true rfl)) dX1_jump_154 ⟨Nat.le_of_ble_eq_true rfl, Nat.le_of_ble_eq_true rfl⟩) (fun r9 e9 => ?_)
          subst e9
          refine va_iald hx hb hK hP 2 1 (cA := a.2.2.2.2) (n := 32) (f := u.2.1) rfl rfl (mu_inX4 _ _) dX1_jump_157 ?_
          refine vp_callSi (W.runV (As := [.int (fx_m_field0 u a0 (2 : Int32)), .int (u.2.1 ((fx_m_field0 u a0 (3 : Int32))).toNatClampNeg), .int (u.2.1 ((fx_m_field0 u a0 (4 : Int32))).toNatClampNeg)]) (rest := []) ⟨hx, hb, hml, hown, htb⟩ (ct_m_holds l dC dI a u (fx_m_field0 u a0 (2 : Int32)) (u.2.1 ((fx_m_field0 u a0 (3 : Int32))).toNatClampNeg) (u.2.1 ((fx_m_field0 u a0 (4 : Int32))).toNatClampNeg)) (cwV 3 htb gw_X1_113 rfl rfl rfl (by decide +kernel) ⟨Nat.le_of_ble_eq_true rfl, Nat.le_of_ble_eq_true rfl⟩) (mu_preR hK hP) rfl rfl hl.1 rfl (lv_room (Nat.le_of_ble_eq_true rfl)) dX1_jump_158 ⟨Nat.le_of_ble_eq_true rfl, Nat.le_of_ble_eq_true rfl⟩) (fun r9 e9 => ?_)
          subst e9
          refine lv_if_ne (tgt := 170) hx hb dX1_jump_161 (by decide) (fun c16 => ?_) (fun c16 => ?_)
          · refine lv_iload hx hb dX1_jump_170 (lv_at hl 0 rfl) ?_
            refine lv_iconst (v := (4 : Int32)) hx hb dX1_jump_172 (by decide) ?_
            refine lv_irem hx hb dX1_jump_173 (by decide) ?_
            refine lv_if_eq (tgt := 185) hx hb dX1_jump_174 (by decide) (fun c17 => ?_) (fun c17 => ?_)
            · refine lv_iload_n hx hb dX1_jump_185 rfl (lv_at hl 5 rfl) ?_
              refine lv_bipush (v := (99 : Int32)) hx hb dX1_jump_186 (by decide) ?_
              refine lv_icmp_eq (tgt := 198) hx hb dX1_jump_188 (by decide) (fun c18 => ?_) (fun c18 => ?_)
              · refine lv_aload_n hx hb dX1_jump_198 rfl (lv_at hl 6 rfl) ?_
                refine lv_iload hx hb dX1_jump_199 (lv_at hl 0 rfl) ?_
                refine mu_calli (va_runV (As := [.int (((((u.2.2.1).toInt64) + (((fx_m_field0 u a0 (8 : Int32))).toInt64))).toInt32)]) (rest := []) ⟨hx, hb, hml, hown, htb⟩ (ct_m_finish l dC dI a u (((((u.2.2.1).toInt64) + (((fx_m_field0 u a0 (8 : Int32))).toInt64))).toInt32)) (cwV 1 htb gw_X1_117 rfl rfl rfl (by decide +kernel) ⟨Nat.le_of_ble_eq_true rfl, Nat.le_of_ble_eq_true rfl⟩) (mu_preW hK hP hd) rfl rfl hl.1 rfl (lv_room (Nat.le_of_ble_eq_true rfl)) dX1_jump_201 ⟨Nat.le_of_ble_eq_true rfl, Nat.le_of_ble_eq_true rfl⟩) hS (fun H locs hP hS => ?_)
                exact W.iret (v := (fx_m_finish u (((((u.2.2.1).toInt64) + (((fx_m_field0 u a0 (8 : Int32))).toInt64))).toInt32)).1) hx hb hr (fun t ht hW => ⟨⟨(fx_m_finish u (((((u.2.2.1).toInt64) + (((fx_m_field0 u a0 (8 : Int32))).toInt64))).toInt32)).1, (fx_m_finish u (((((u.2.2.1).toInt64) + (((fx_m_field0 u a0 (8 : Int32))).toInt64))).toInt32)).2, rfl, (by unfold fx_m_jump; rw [if_neg c1, if_pos c2, if_neg c16, if_pos c17]), by rw [ht]; exact hP, va_K.moved hW.alike hK⟩, hS.F ht⟩) hS.2.2 dX1_jump_204
              · exact absurd c2 c18
            · refine lv_aload_n hx hb dX1_jump_177 rfl (lv_at hl 6 rfl) ?_
              refine lv_iconst (v := (0 : Int32)) hx hb dX1_jump_178 (by decide) ?_
              refine lv_iload hx hb dX1_jump_179 (lv_at hl 0 rfl) ?_
              refine mu_calli (va_runV (As := [.int (0 : Int32), .int (((((u.2.2.1).toInt64) + (((fx_m_field0 u a0 (8 : Int32))).toInt64))).toInt32)]) (rest := []) ⟨hx, hb, hml, hown, htb⟩ (ct_m_fail l dC dI a u (0 : Int32) (((((u.2.2.1).toInt64) + (((fx_m_field0 u a0 (8 : Int32))).toInt64))).toInt32)) (cwV 2 htb gw_X1_121 rfl rfl rfl (by decide +kernel) ⟨Nat.le_of_ble_eq_true rfl, Nat.le_of_ble_eq_true rfl⟩) (mu_preW hK hP hd) rfl rfl hl.1 rfl (lv_room (Nat.le_of_ble_eq_true rfl)) dX1_jump_181 ⟨Nat.le_of_ble_eq_true rfl, Nat.le_of_ble_eq_true rfl⟩) hS (fun H locs hP hS => ?_)
              exact W.iret (v := (fx_m_fail u (0 : Int32) (((((u.2.2.1).toInt64) + (((fx_m_field0 u a0 (8 : Int32))).toInt64))).toInt32)).1) hx hb hr (fun t ht hW => ⟨⟨(fx_m_fail u (0 : Int32) (((((u.2.2.1).toInt64) + (((fx_m_field0 u a0 (8 : Int32))).toInt64))).toInt32)).1, (fx_m_fail u (0 : Int32) (((((u.2.2.1).toInt64) + (((fx_m_field0 u a0 (8 : Int32))).toInt64))).toInt32)).2, rfl, (by unfold fx_m_jump; rw [if_neg c1, if_pos c2, if_neg c16, if_neg c17]), by rw [ht]; exact hP, va_K.moved hW.alike hK⟩, hS.F ht⟩) hS.2.2 dX1_jump_184
          · refine lv_aload_n hx hb dX1_jump_164 rfl (lv_at hl 6 rfl) ?_
            refine lv_iload_n hx hb dX1_jump_165 rfl (lv_at hl 8 rfl) ?_
            refine mu_calli (va_runV (As := [.int a1]) (rest := []) ⟨hx, hb, hml, hown, htb⟩ (ct_m_finish l dC dI a u a1) (cwV 1 htb gw_X1_117 rfl rfl rfl (by decide +kernel) ⟨Nat.le_of_ble_eq_true rfl, Nat.le_of_ble_eq_true rfl⟩) (mu_preW hK hP hd) rfl rfl hl.1 rfl (lv_room (Nat.le_of_ble_eq_true rfl)) dX1_jump_166 ⟨Nat.le_of_ble_eq_true rfl, Nat.le_of_ble_eq_true rfl⟩) hS (fun H locs hP hS => ?_)
            exact W.iret (v := (fx_m_finish u a1).1) hx hb hr (fun t ht hW => ⟨⟨(fx_m_finish u a1).1, (fx_m_finish u a1).2, rfl, (by unfold fx_m_jump; rw [if_neg c1, if_pos c2, if_pos c16]), by rw [ht]; exact hP, va_K.moved hW.alike hK⟩, hS.F ht⟩) hS.2.2 dX1_jump_169
      · exact absurd (c2.symm.trans c14) (by decide)
  · refine lv_aload_n hx hb dX1_jump_43 rfl (lv_at hl 4 rfl) ?_
    refine va_get (D := (dC, dI)) (ci := 1) (v := .int u.2.2.1) (C := RX1) (T := TX1) (N := 7) hx hb htb inX1 hown hK hP 0 rfl rfl 2 (by decide) (htb _ iw_f_X1_104) (fun _ h9 => h9) rfl dX1_jump_44 ?_
    refine lv_i2l (v := ((u.2.2.1).toInt64)) hx hb dX1_jump_47 rfl ?_
    refine lv_aload_n hx hb dX1_jump_48 rfl (lv_at hl 4 rfl) ?_
    refine lv_iload_n hx hb dX1_jump_49 rfl (lv_at hl 5 rfl) ?_
    refine lv_bipush (v := (10 : Int32)) hx hb dX1_jump_50 (by decide) ?_
    refine vp_callSi (W.runV (As := [.int a0, .int (10 : Int32)]) (rest := [.long ((u.2.2.1).toInt64)]) ⟨hx, hb, hml, hown, htb⟩ (ct_m_field0 l dC dI a u a0 (10 : Int32) (by decide)) (cwV 2 htb gw_X1_40 rfl rfl rfl (by decide +kernel) ⟨Nat.le_of_ble_eq_true rfl, Nat.le_of_ble_eq_true rfl⟩) (mu_preR hK hP) rfl rfl hl.1 rfl (lv_room (Nat.le_of_ble_eq_true rfl)) dX1_jump_52 ⟨Nat.le_of_ble_eq_true rfl, Nat.le_of_ble_eq_true rfl⟩) (fun r9 e9 => ?_)
    subst e9
    refine lv_i2l (v := (((fx_m_field0 u a0 (10 : Int32))).toInt64)) hx hb dX1_jump_55 rfl ?_
    refine lv_ladd hx hb dX1_jump_56 ?_
    refine lv_goto (tgt := 94) hx hb dX1_jump_57 (by decide) ?_
    refine lv_lstore (lv' := [(8, .long (((u.2.2.1).toInt64) + (((fx_m_field0 u a0 (10 : Int32))).toInt64))), (7, .int (fx_m_field0 u a0 (2 : Int32))), (5, .long (((u.2.1 ((fx_m_field0 u a0 (3 : Int32))).toNatClampNeg)).toInt64)), (4, .int (fx_m_field0 u a0 (1 : Int32))), (3, .int (fx_m_field0 u a0 (0 : Int32))), (0, .ref a.1), (1, .int a0), (2, .int a1)]) hx hb dX1_jump_94 hl (by decide) rfl (fun ls hl => ?_)
    refine lv_lload hx hb dX1_jump_96 (lv_at hl 0 rfl) ?_
    refine lv_l2i (v := (((((u.2.2.1).toInt64) + (((fx_m_field0 u a0 (10 : Int32))).toInt64))).toInt32)) hx hb dX1_jump_98 rfl ?_
    refine lv_istore (lv' := [(10, .int (((((u.2.2.1).toInt64) + (((fx_m_field0 u a0 (10 : Int32))).toInt64))).toInt32)), (8, .long (((u.2.2.1).toInt64) + (((fx_m_field0 u a0 (10 : Int32))).toInt64))), (7, .int (fx_m_field0 u a0 (2 : Int32))), (5, .long (((u.2.1 ((fx_m_field0 u a0 (3 : Int32))).toNatClampNeg)).toInt64)), (4, .int (fx_m_field0 u a0 (1 : Int32))), (3, .int (fx_m_field0 u a0 (0 : Int32))), (0, .ref a.1), (1, .int a0), (2, .int a1)]) hx hb dX1_jump_99 hl (by decide) rfl (fun ls hl => ?_)
    refine lv_iload_n hx hb dX1_jump_101 rfl (lv_at hl 5 rfl) ?_
    refine lv_bipush (v := (103 : Int32)) hx hb dX1_jump_102 (by decide) ?_
    refine lv_icmp_ne (tgt := 123) hx hb dX1_jump_104 (by decide) (fun c19 => ?_) (fun c19 => ?_)
    · refine lv_iload hx hb dX1_jump_123 (lv_at hl 0 rfl) ?_
      refine lv_istore (lv' := [(10, .int (((((u.2.2.1).toInt64) + (((fx_m_field0 u a0 (10 : Int32))).toInt64))).toInt32)), (8, .long (((u.2.2.1).toInt64) + (((fx_m_field0 u a0 (10 : Int32))).toInt64))), (7, .int (fx_m_field0 u a0 (2 : Int32))), (5, .long (((u.2.1 ((fx_m_field0 u a0 (3 : Int32))).toNatClampNeg)).toInt64)), (4, .int (fx_m_field0 u a0 (1 : Int32))), (3, .int (fx_m_field0 u a0 (0 : Int32))), (0, .ref a.1), (1, .int a0), (2, .int a1)]) hx hb dX1_jump_125 hl (by decide) rfl (fun ls hl => ?_)
      refine lv_iload_n hx hb dX1_jump_127 rfl (lv_at hl 5 rfl) ?_
      refine lv_bipush (v := (99 : Int32)) hx hb dX1_jump_128 (by decide) ?_
      refine lv_icmp_ne (tgt := 170) hx hb dX1_jump_130 (by decide) (fun c20 => ?_) (fun c20 => ?_)
      · refine lv_iload hx hb dX1_jump_170 (lv_at hl 0 rfl) ?_
        refine lv_iconst (v := (4 : Int32)) hx hb dX1_jump_172 (by decide) ?_
        refine lv_irem hx hb dX1_jump_173 (by decide) ?_
        refine lv_if_eq (tgt := 185) hx hb dX1_jump_174 (by decide) (fun c21 => ?_) (fun c21 => ?_)
        · refine lv_iload_n hx hb dX1_jump_185 rfl (lv_at hl 5 rfl) ?_
          refine lv_bipush (v := (99 : Int32)) hx hb dX1_jump_186 (by decide) ?_
          refine lv_icmp_eq (tgt := 198) hx hb dX1_jump_188 (by decide) (fun c22 => ?_) (fun c22 => ?_)
          · exact absurd (c1.symm.trans c22) (by decide)
          · refine lv_aload_n hx hb dX1_jump_191 rfl (lv_at hl 6 rfl) ?_
            refine lv_iload hx hb dX1_jump_192 (lv_at hl 4 rfl) ?_
            refine lv_iload_n hx hb dX1_jump_194 rfl (lv_at hl 8 rfl) ?_
            refine mu_callv (va_runV (As := [.int (fx_m_field0 u a0 (1 : Int32)), .int a1]) (rest := []) ⟨hx, hb, hml, hown, htb⟩ (ct_m_set l dC dI a u (fx_m_field0 u a0 (1 : Int32)) a1 (mu_inX1 _ _)) (cwV 2 htb gw_X1_100 rfl rfl rfl (by decide +kernel) ⟨Nat.le_of_ble_eq_true rfl, Nat.le_of_ble_eq_true rfl⟩) (mu_preW hK hP hd) rfl rfl hl.1 rfl (lv_room (Nat.le_of_ble_eq_true rfl)) dX1_jump_195 ⟨Nat.le_of_ble_eq_true rfl, Nat.le_of_ble_eq_true rfl⟩) hS (fun H locs hP hS => ?_)
            refine lv_aload_n hx hb dX1_jump_198 rfl (lv_at hl 6 rfl) ?_
            refine lv_iload hx hb dX1_jump_199 (lv_at hl 0 rfl) ?_
            refine mu_calli (va_runV (As := [.int (((((u.2.2.1).toInt64) + (((fx_m_field0 u a0 (10 : Int32))).toInt64))).toInt32)]) (rest := []) ⟨hx, hb, hml, hown, htb⟩ (ct_m_finish l dC dI a (fx_m_set u (fx_m_field0 u a0 (1 : Int32)) a1) (((((u.2.2.1).toInt64) + (((fx_m_field0 u a0 (10 : Int32))).toInt64))).toInt32)) (cwV 1 htb gw_X1_117 rfl rfl rfl (by decide +kernel) ⟨Nat.le_of_ble_eq_true rfl, Nat.le_of_ble_eq_true rfl⟩) (mu_preW hK hP hd) rfl rfl hl.1 rfl (lv_room (Nat.le_of_ble_eq_true rfl)) dX1_jump_201 ⟨Nat.le_of_ble_eq_true rfl, Nat.le_of_ble_eq_true rfl⟩) hS (fun H locs hP hS => ?_)
            exact W.iret (v := (fx_m_finish (fx_m_set u (fx_m_field0 u a0 (1 : Int32)) a1) (((((u.2.2.1).toInt64) + (((fx_m_field0 u a0 (10 : Int32))).toInt64))).toInt32)).1) hx hb hr (fun t ht hW => ⟨⟨(fx_m_finish (fx_m_set u (fx_m_field0 u a0 (1 : Int32)) a1) (((((u.2.2.1).toInt64) + (((fx_m_field0 u a0 (10 : Int32))).toInt64))).toInt32)).1, (fx_m_finish (fx_m_set u (fx_m_field0 u a0 (1 : Int32)) a1) (((((u.2.2.1).toInt64) + (((fx_m_field0 u a0 (10 : Int32))).toInt64))).toInt32)).2, rfl, (by unfold fx_m_jump; rw [if_pos c1, if_pos c21]), by rw [ht]; exact hP, va_K.moved hW.alike hK⟩, hS.F ht⟩) hS.2.2 dX1_jump_204
        · refine lv_aload_n hx hb dX1_jump_177 rfl (lv_at hl 6 rfl) ?_
          refine lv_iconst (v := (0 : Int32)) hx hb dX1_jump_178 (by decide) ?_
          refine lv_iload hx hb dX1_jump_179 (lv_at hl 0 rfl) ?_
          refine mu_calli (va_runV (As := [.int (0 : Int32), .int (((((u.2.2.1).toInt64) + (((fx_m_field0 u a0 (10 : Int32))).toInt64))).toInt32)]) (rest := []) ⟨hx, hb, hml, hown, htb⟩ (ct_m_fail l dC dI a u (0 : Int32) (((((u.2.2.1).toInt64) + (((fx_m_field0 u a0 (10 : Int32))).toInt64))).toInt32)) (cwV 2 htb gw_X1_121 rfl rfl rfl (by decide +kernel) ⟨Nat.le_of_ble_eq_true rfl, Nat.le_of_ble_eq_true rfl⟩) (mu_preW hK hP hd) rfl rfl hl.1 rfl (lv_room (Nat.le_of_ble_eq_true rfl)) dX1_jump_181 ⟨Nat.le_of_ble_eq_true rfl, Nat.le_of_ble_eq_true rfl⟩) hS (fun H locs hP hS => ?_)
          exact W.iret (v := (fx_m_fail u (0 : Int32) (((((u.2.2.1).toInt64) + (((fx_m_field0 u a0 (10 : Int32))).toInt64))).toInt32)).1) hx hb hr (fun t ht hW => ⟨⟨(fx_m_fail u (0 : Int32) (((((u.2.2.1).toInt64) + (((fx_m_field0 u a0 (10 : Int32))).toInt64))).toInt32)).1, (fx_m_fail u (0 : Int32) (((((u.2.2.1).toInt64) + (((fx_m_field0 u a0 (10 : Int32))).toInt64))).toInt32)).2, rfl, (by unfold fx_m_jump; rw [if_pos c1, if_neg c21]), by rw [ht]; exact hP, va_K.moved hW.alike hK⟩, hS.F ht⟩) hS.2.2 dX1_jump_184
      · exact absurd (c1.symm.trans c20) (by decide)
    · exact absurd (c1.symm.trans c19) (by decide)
