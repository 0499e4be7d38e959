def fx_m_act (u : XS) (a0 : Int32) : Int32 × XS := (if (fx_m_isNamed u a0) = (0 : Int32) then ((fx_m_fail u (2 : Int32) a0).1, (fx_m_fail u (2 : Int32) a0).2) else (if (fx_m_field0 u a0 (0 : Int32)) = (115 : Int32) then ((fx_m_fail u (100 : Int32) a0).1, (fx_m_fail u (100 : Int32) a0).2) else (if (fx_m_field0 u a0 (0 : Int32)) = (111 : Int32) then ((fx_m_jump u a0 (((((u.2.2.1).toInt64) + (4 : Int64))).toInt32)).1, (fx_m_jump u a0 (((((u.2.2.1).toInt64) + (4 : Int64))).toInt32)).2) else (if (fx_m_field0 u a0 (0 : Int32)) = (103 : Int32) then ((fx_m_jump u a0 (((((u.2.2.1).toInt64) + (4 : Int64))).toInt32)).1, (fx_m_jump u a0 (((((u.2.2.1).toInt64) + (4 : Int64))).toInt32)).2) else (if (fx_m_field0 u a0 (0 : Int32)) = (99 : Int32) then ((fx_m_jump u a0 (((((u.2.2.1).toInt64) + (4 : Int64))).toInt32)).1, (fx_m_jump u a0 (((((u.2.2.1).toInt64) + (4 : Int64))).toInt32)).2) else (if (fx_m_field0 u a0 (0 : Int32)) = (3 : Int32) then ((fx_m_access u a0 (((((u.2.2.1).toInt64) + (4 : Int64))).toInt32)).1, (fx_m_access u a0 (((((u.2.2.1).toInt64) + (4 : Int64))).toInt32)).2) else (if (fx_m_field0 u a0 (0 : Int32)) = (35 : Int32) then ((fx_m_access u a0 (((((u.2.2.1).toInt64) + (4 : Int64))).toInt32)).1, (fx_m_access u a0 (((((u.2.2.1).toInt64) + (4 : Int64))).toInt32)).2) else (if (fx_m_field0 u a0 (0 : Int32)) = (15 : Int32) then ((fx_m_finish u (((((u.2.2.1).toInt64) + (4 : Int64))).toInt32)).1, (fx_m_finish u (((((u.2.2.1).toInt64) + (4 : Int64))).toInt32)).2) else ((fx_m_finish (fx_m_set u (fx_m_field0 u a0 (1 : Int32)) (fx_m_puts u a0 (u.2.1 ((fx_m_field0 u a0 (3 : Int32))).toNatClampNeg) (u.2.1 ((fx_m_field0 u a0 (4 : Int32))).toNatClampNeg) u.2.2.1)) (((((u.2.2.1).toInt64) + (4 : Int64))).toInt32)).1, (fx_m_finish (fx_m_set u (fx_m_field0 u a0 (1 : Int32)) (fx_m_puts u a0 (u.2.1 ((fx_m_field0 u a0 (3 : Int32))).toNatClampNeg) (u.2.1 ((fx_m_field0 u a0 (4 : Int32))).toNatClampNeg) u.2.2.1)) (((((u.2.2.1).toInt64) + (4 : Int64))).toInt32)).2)))))))))
set_option maxHeartbeats 4000000 in
set_option maxRecDepth 100000 in
theorem ct_m_act (l : Launch) (dC : Nat → ClassId) (dI : Nat → Nat → Nat) (a : XA) (u : XS) (a0 : Int32)  : Met l yX1_act wsX1_act ({ frames := 3, cells := 0, slots := 0, locals := 81 }) (va_Pc [.ref a.1, .int a0] (fun U => va_P (dC, dI) vwCl (mu_w a u) U.heap ∧ va_K (dC, dI) vwCl (xu_t a) U ∧ xu_D a)) (va_Qi (fun r u9 => (r, u9) = fx_m_act u a0) (fun u9 t => va_P (dC, dI) vwCl (mu_w a u9) t.heap ∧ va_K (dC, dI) vwCl (xu_t a) t) (xu_A a)) 0 0 (xu_A a) := by
  refine Met.ofW (cc := cX1_act) (maxL := 4) (ret := (some .int)) (by decide) rfl ?_
  intro p e s m args below meth c s₁ B hml hv
  obtain ⟨rfl, hP, hK, hd⟩ := hv
  have hx := B.exec
  have hb := B.bytes
  have hr := B.returns
  have htb : ∀ w ∈ lw_g, w.before ([.ref a.1, .int a0] : List Value).toArray s = true := fun w h => atoms_spec (ws := wsX1_act) B.pre w (List.mem_cons_of_mem _ h)
  have hown : s.vm.findClass RX1 = some m.cls := findClass_of_methodNamed B.named
  have hlocks := B.notSynchronized
  have hS : va_S (xu_A a) s.heap s.heap [] := va_S.rf
  have hl := lv_entry ([.ref a.1, .int a0]) (n := 4) (Nat.le_of_ble_eq_true rfl)
  rw [lg_entry_eq]
  generalize (lg_sl ([.ref a.1, .int a0]) ++ List.replicate (4 - (lg_sl ([.ref a.1, .int a0])).length) Slot.unset).toArray = ls at hl ⊢
  have hl : lv_has ls 4 [(0, .ref a.1), (1, .int a0)] := hl
  refine lv_aload_n hx hb dX1_act_0 rfl (lv_at hl 0 rfl) ?_
  refine lv_iload_n hx hb dX1_act_1 rfl (lv_at hl 1 rfl) ?_
  refine lv_iconst (v := (0 : Int32)) hx hb dX1_act_2 (by decide) ?_
  refine vp_callSi (W.runV (As := [.int a0, .int (0 : Int32)]) (rest := []) ⟨hx, hb, hml, hown, htb⟩ (ct_m_field0 l dC dI a u a0 (0 : Int32) (by decide)) (cwV 2 htb gw_X1_40 rfl rfl rfl (by decide +kernel) ⟨Nat.le_of_ble_eq_true rfl, Nat.le_of_ble_eq_true rfl⟩) (mu_preR hK hP) rfl rfl hl.1 rfl (lv_room (Nat.le_of_ble_eq_true rfl)) dX1_act_3 ⟨Nat.le_of_ble_eq_true rfl, Nat.le_of_ble_eq_true rfl⟩) (fun r9 e9 => ?_)
  subst e9
  refine lv_istore_n (lv' := [(2, .int (fx_m_field0 u a0 (0 : Int32))), (0, .ref a.1), (1, .int a0)]) hx hb dX1_act_6 rfl hl (by decide) rfl (fun ls hl => ?_)
  refine lv_aload_n hx hb dX1_act_7 rfl (lv_at hl 1 rfl) ?_
  refine va_get (D := (dC, dI)) (ci := 1) (v := .int u.2.2.1) (C := RX1) (T := TX1) (N := 7) hx hb htb inX1 hown hK hP 0 rfl rfl 2 (by decide) (htb _ iw_f_X1_104) (fun _ h9 => h9) rfl dX1_act_8 ?_
  refine lv_i2l (v := ((u.2.2.1).toInt64)) hx hb dX1_act_11 rfl ?_
  refine lv_ldc2 (v := (4 : Int64)) hx hb hown (htb _ iw_k_X1_124) dX1_act_12 ?_
  refine lv_ladd hx hb dX1_act_15 ?_
  refine lv_l2i (v := (((((u.2.2.1).toInt64) + (4 : Int64))).toInt32)) hx hb dX1_act_16 rfl ?_
  refine lv_istore_n (lv' := [(3, .int (((((u.2.2.1).toInt64) + (4 : Int64))).toInt32)), (2, .int (fx_m_field0 u a0 (0 : Int32))), (0, .ref a.1), (1, .int a0)]) hx hb dX1_act_17 rfl hl (by decide) rfl (fun ls hl => ?_)
  refine lv_aload_n hx hb dX1_act_18 rfl (lv_at hl 2 rfl) ?_
  refine lv_iload_n hx hb dX1_act_19 rfl (lv_at hl 3 rfl) ?_
  refine vp_callSi (W.runV (As := [.int a0]) (rest := []) ⟨hx, hb, hml, hown, htb⟩ (ct_m_isNamed l dC dI a u a0) (cwV 1 htb gw_X1_36 rfl rfl rfl (by decide +kernel) ⟨Nat.le_of_ble_eq_true rfl, Nat.le_of_ble_eq_true rfl⟩) (mu_preR hK hP) rfl rfl hl.1 rfl (lv_room (Nat.le_of_ble_eq_true rfl)) dX1_act_20 ⟨Nat.le_of_ble_eq_true rfl, Nat.le_of_ble_eq_true rfl⟩) (fun r9 e9 => ?_)
  subst e9
  refine lv_if_ne (tgt := 33) hx hb dX1_act_23 (by decide) (fun c1 => ?_) (fun c1 => ?_)
  · refine lv_iload_n hx hb dX1_act_33 rfl (lv_at hl 1 rfl) ?_
    refine lv_bipush (v := (115 : Int32)) hx hb dX1_act_34 (by decide) ?_
    refine lv_icmp_ne (tgt := 47) hx hb dX1_act_36 (by decide) (fun c2 => ?_) (fun c2 => ?_)
    · refine lv_iload_n hx hb dX1_act_47 rfl (lv_at hl 1 rfl) ?_
      refine lv_bipush (v := (111 : Int32)) hx hb dX1_act_48 (by decide) ?_
      refine lv_icmp_eq (tgt := 65) hx hb dX1_act_50 (by decide) (fun c3 => ?_) (fun c3 => ?_)
      · refine lv_aload_n hx hb dX1_act_65 rfl (lv_at hl 2 rfl) ?_
        refine lv_iload_n hx hb dX1_act_66 rfl (lv_at hl 3 rfl) ?_
        refine lv_iload_n hx hb dX1_act_67 rfl (lv_at hl 0 rfl) ?_
        refine mu_calli (va_runV (As := [.int a0, .int (((((u.2.2.1).toInt64) + (4 : Int64))).toInt32)]) (rest := []) ⟨hx, hb, hml, hown, htb⟩ (ct_m_jump l dC dI a u a0 (((((u.2.2.1).toInt64) + (4 : Int64))).toInt32)) (cwV 2 htb gw_X1_126 rfl rfl rfl (by decide +kernel) ⟨Nat.le_of_ble_eq_true rfl, Nat.le_of_ble_eq_true rfl⟩) (mu_preW hK hP hd) rfl rfl hl.1 rfl (lv_room (Nat.le_of_ble_eq_true rfl)) dX1_act_68 ⟨Nat.le_of_ble_eq_true rfl, Nat.le_of_ble_eq_true rfl⟩) hS (fun H locs hP hS => ?_)
        exact W.iret (v := (fx_m_jump u a0 (((((u.2.2.1).toInt64) + (4 : Int64))).toInt32)).1) hx hb hr (fun t ht hW => ⟨⟨(fx_m_jump u a0 (((((u.2.2.1).toInt64) + (4 : Int64))).toInt32)).1, (fx_m_jump u a0 (((((u.2.2.1).toInt64) + (4 : Int64))).toInt32)).2, rfl, (by unfold fx_m_act; rw [if_neg c1, if_neg c2, if_pos c3]), by rw [ht]; exact hP, va_K.moved hW.alike hK⟩, hS.F ht⟩) hS.2.2 dX1_act_71
      · refine lv_iload_n hx hb dX1_act_53 rfl (lv_at hl 1 rfl) ?_
        refine lv_bipush (v := (103 : Int32)) hx hb dX1_act_54 (by decide) ?_
        refine lv_icmp_eq (tgt := 65) hx hb dX1_act_56 (by decide) (fun c4 => ?_) (fun c4 => ?_)
        · refine lv_aload_n hx hb dX1_act_65 rfl (lv_at hl 2 rfl) ?_
          refine lv_iload_n hx hb dX1_act_66 rfl (lv_at hl 3 rfl) ?_
          refine lv_iload_n hx hb dX1_act_67 rfl (lv_at hl 0 rfl) ?_
          refine mu_calli (va_runV (As := [.int a0, .int (((((u.2.2.1).toInt64) + (4 : Int64))).toInt32)]) (rest := []) ⟨hx, hb, hml, hown, htb⟩ (ct_m_jump l dC dI a u a0 (((((u.2.2.1).toInt64) + (4 : Int64))).toInt32)) (cwV 2 htb gw_X1_126 rfl rfl rfl (by decide +kernel) ⟨Nat.le_of_ble_eq_true rfl, Nat.le_of_ble_eq_true rfl⟩) (mu_preW hK hP hd) rfl rfl hl.1 rfl (lv_room (Nat.le_of_ble_eq_true rfl)) dX1_act_68 ⟨Nat.le_of_ble_eq_true rfl, Nat.le_of_ble_eq_true rfl⟩) hS (fun H locs hP hS => ?_)
          exact W.iret (v := (fx_m_jump u a0 (((((u.2.2.1).toInt64) + (4 : Int64))).toInt32)).1) hx hb hr (fun t ht hW => ⟨⟨(fx_m_jump u a0 (((((u.2.2.1).toInt64) + (4 : Int64))).toInt32)).1, (fx_m_jump u a0 (((((u.2.2.1).toInt64) + (4 : Int64))).toInt32)).2, rfl, (by unfold fx_m_act; rw [if_neg c1, if_neg c2, if_neg c3, if_pos c4]), by rw [ht]; exact hP, va_K.moved hW.alike hK⟩, hS.F ht⟩) hS.2.2 dX1_act_71
        · refine lv_iload_n hx hb dX1_act_59 rfl (lv_at hl 1 rfl) ?_
          refine lv_bipush (v := (99 : Int32)) hx hb dX1_act_60 (by decide) ?_
          refine lv_icmp_ne (tgt := 72) hx hb dX1_act_62 (by decide) (fun c5 => ?_) (fun c5 => ?_)
          · refine lv_iload_n hx hb dX1_act_72 rfl (lv_at hl 1 rfl) ?_
            refine lv_iconst (v := (3 : Int32)) hx hb dX1_act_73 (by decide) ?_
            refine lv_icmp_eq (tgt := 83) hx hb dX1_act_74 (by decide) (fun c6 => ?_) (fun c6 => ?_)
            · refine lv_aload_n hx hb dX1_act_83 rfl (lv_at hl 2 rfl) ?_
              refine lv_iload_n hx hb dX1_act_84 rfl (lv_at hl 3 rfl) ?_
              refine lv_iload_n hx hb dX1_act_85 rfl (lv_at hl 0 rfl) ?_
              refine mu_calli (va_runV (As := [.int a0, .int (((((u.2.2.1).toInt64) + (4 : Int64))).toInt32)]) (rest := []) ⟨hx, hb, hml, hown, htb⟩ (ct_m_access l dC dI a u a0 (((((u.2.2.1).toInt64) + (4 : Int64))).toInt32)) (cwV 2 htb gw_X1_129 rfl rfl rfl (by decide +kernel) ⟨Nat.le_of_ble_eq_true rfl, Nat.le_of_ble_eq_true rfl⟩) (mu_preW hK hP hd) rfl rfl hl.1 rfl (lv_room (Nat.le_of_ble_eq_true rfl)) dX1_act_86 ⟨Nat.le_of_ble_eq_true rfl, Nat.le_of_ble_eq_true rfl⟩) hS (fun H locs hP hS => ?_)
              exact W.iret (v := (fx_m_access u a0 (((((u.2.2.1).toInt64) + (4 : Int64))).toInt32)).1) hx hb hr (fun t ht hW => ⟨⟨(fx_m_access u a0 (((((u.2.2.1).toInt64) + (4 : Int64))).toInt32)).1, (fx_m_access u a0 (((((u.2.2.1).toInt64) + (4 : Int64))).toInt32)).2, rfl, (by unfold fx_m_act; rw [if_neg c1, if_neg c2, if_neg c3, if_neg c4, if_neg c5, if_pos c6]), by rw [ht]; exact hP, va_K.moved hW.alike hK⟩, hS.F ht⟩) hS.2.2 dX1_act_89
            · refine lv_iload_n hx hb dX1_act_77 rfl (lv_at hl 1 rfl) ?_
              refine lv_bipush (v := (35 : Int32)) hx hb dX1_act_78 (by decide) ?_
              refine lv_icmp_ne (tgt := 90) hx hb dX1_act_80 (by decide) (fun c7 => ?_) (fun c7 => ?_)
              · refine lv_iload_n hx hb dX1_act_90 rfl (lv_at hl 1 rfl) ?_
                refine lv_bipush (v := (15 : Int32)) hx hb dX1_act_91 (by decide) ?_
                refine lv_icmp_eq (tgt := 137) hx hb dX1_act_93 (by decide) (fun c8 => ?_) (fun c8 => ?_)
                · refine lv_aload_n hx hb dX1_act_137 rfl (lv_at hl 2 rfl) ?_
                  refine lv_iload_n hx hb dX1_act_138 rfl (lv_at hl 0 rfl) ?_
                  refine mu_calli (va_runV (As := [.int (((((u.2.2.1).toInt64) + (4 : Int64))).toInt32)]) (rest := []) ⟨hx, hb, hml, hown, htb⟩ (ct_m_finish l dC dI a u (((((u.2.2.1).toInt64) + (4 : Int64))).toInt32)) (cwV 1 htb gw_X1_117 rfl rfl rfl (by decide +kernel) ⟨Nat.le_of_ble_eq_true rfl, Nat.le_of_ble_eq_true rfl⟩) (mu_preW hK hP hd) rfl rfl hl.1 rfl (lv_room (Nat.le_of_ble_eq_true rfl)) dX1_act_139 ⟨Nat.le_of_ble_eq_true rfl, Nat.le_of_ble_eq_true rfl⟩) hS (fun H locs hP hS => ?_)
                  exact W.iret (v := (fx_m_finish u (((((u.2.2.1).toInt64) + (4 : Int64))).toInt32)).1) hx hb hr (fun t ht hW => ⟨⟨(fx_m_finish u (((((u.2.2.1).toInt64) + (4 : Int64))).toInt32)).1, (fx_m_finish u (((((u.2.2.1).toInt64) + (4 : Int64))).toInt32)).2, rfl, (by unfold fx_m_act; rw [if_neg c1, if_neg c2, if_neg c3, if_neg c4, if_neg c5, if_neg c6, if_neg c7, if_pos c8]), by rw [ht]; exact hP, va_K.moved hW.alike hK⟩, hS.F ht⟩) hS.2.2 dX1_act_142
                · refine lv_aload_n hx hb dX1_act_96 rfl (lv_at hl 2 rfl) ?_
                  refine lv_aload_n hx hb dX1_act_97 rfl (lv_at hl 2 rfl) ?_
                  refine lv_iload_n hx hb dX1_act_98 rfl (lv_at hl 3 rfl) ?_
                  refine lv_iconst (v := (1 : Int32)) hx hb dX1_act_99 (by decide) ?_
                  refine vp_callSi (W.runV (As := [.int a0, .int (1 : Int32)]) (rest := [.ref a.1]) ⟨hx, hb, hml, hown, htb⟩ (ct_m_field0 l dC dI a u a0 (1 : Int32) (by decide)) (cwV 2 htb gw_X1_40 rfl rfl rfl (by decide +kernel) ⟨Nat.le_of_ble_eq_true rfl, Nat.le_of_ble_eq_true rfl⟩) (mu_preR hK hP) rfl rfl hl.1 rfl (lv_room (Nat.le_of_ble_eq_true rfl)) dX1_act_100 ⟨Nat.le_of_ble_eq_true rfl, Nat.le_of_ble_eq_true rfl⟩) (fun r9 e9 => ?_)
                  subst e9
                  refine lv_aload_n hx hb dX1_act_103 rfl (lv_at hl 2 rfl) ?_
                  refine lv_iload_n hx hb dX1_act_104 rfl (lv_at hl 3 rfl) ?_
                  refine lv_aload_n hx hb dX1_act_105 rfl (lv_at hl 2 rfl) ?_
                  refine va_get (D := (dC, dI)) (ci := 1) (v := .ref a.2.2.1) (C := RX1) (T := TX1) (N := 7) hx hb htb inX1 hown hK hP 0 rfl rfl 1 (by decide) (htb _ iw_f_X1_13) (fun _ h9 => h9) rfl dX1_act_106 ?_
                  refine lv_aload_n hx hb dX1_act_109 rfl (lv_at hl 2 rfl) ?_
                  refine lv_iload_n hx hb dX1_act_110 rfl (lv_at hl 3 rfl) ?_
                  refine lv_iconst (v := (3 : Int32)) hx hb dX1_act_111 (by decide) ?_
                  refine vp_callSi (W.runV (As := [.int a0, .int (3 : Int32)]) (rest := [.ref a.2.2.1, .int a0, .ref a.1, .int (fx_m_field0 u a0 (1 : Int32)), .ref a.1]) ⟨hx, hb, hml, hown, htb⟩ (ct_m_field0 l dC dI a u a0 (3 : Int32) (by decide)) (cwV 2 htb gw_X1_40 rfl rfl rfl (by decide +kernel) ⟨Nat.le_of_ble_eq_true rfl, Nat.le_of_ble_eq_true rfl⟩) (mu_preR hK hP) rfl rfl hl.1 rfl (lv_room (Nat.le_of_ble_eq_true rfl)) dX1_act_112 ⟨Nat.le_of_ble_eq_true rfl, Nat.le_of_ble_eq_true rfl⟩) (fun r9 e9 => ?_)
                  subst e9
                  refine va_iald hx hb hK hP 2 1 (cA := a.2.2.2.2) (n := 32) (f := u.2.1) rfl rfl (mu_inX3 _ _) dX1_act_115 ?_
                  refine lv_aload_n hx hb dX1_act_116 rfl (lv_at hl 2 rfl) ?_
                  refine va_get (D := (dC, dI)) (ci := 1) (v := .ref a.2.2.1) (C := RX1) (T := TX1) (N := 7) hx hb htb inX1 hown hK hP 0 rfl rfl 1 (by decide) (htb _ iw_f_X1_13) (fun _ h9 => h9) rfl dX1_act_117 ?_
                  refine lv_aload_n hx hb dX1_act_120 rfl (lv_at hl 2 rfl) ?_
                  refine lv_iload_n hx hb dX1_act_121 rfl (lv_at hl 3 rfl) ?_
                  refine lv_iconst (v := (4 : Int32)) hx hb dX1_act_122 (by decide) ?_
                  refine vp_callSi (W.runV (As := [.int a0, .int (4 : Int32)]) (rest := [.ref a.2.2.1, .int (u.2.1 ((fx_m_field0 u a0 (3 : Int32))).toNatClampNeg), .int a0, .ref a.1, .int (fx_m_field0 u a0 (1 : Int32)), .ref a.1]) ⟨hx, hb, hml, hown, htb⟩ (ct_m_field0 l dC dI a u a0 (4 : Int32) (by decide)) (cwV 2 htb gw_X1_40 rfl rfl rfl (by decide +kernel) ⟨Nat.le_of_ble_eq_true rfl, Nat.le_of_ble_eq_true rfl⟩) (mu_preR hK hP) rfl rfl hl.1 rfl (lv_room (Nat.le_of_ble_eq_true rfl)) dX1_act_123 ⟨Nat.le_of_ble_eq_true rfl, Nat.le_of_ble_eq_true rfl⟩) (fun r9 e9 => ?_)
                  subst e9
                  refine va_iald hx hb hK hP 2 1 (cA := a.2.2.2.2) (n := 32) (f := u.2.1) rfl rfl (mu_inX4 _ _) dX1_act_126 ?_
                  refine lv_aload_n hx hb dX1_act_127 rfl (lv_at hl 2 rfl) ?_
                  refine va_get (D := (dC, dI)) (ci := 1) (v := .int u.2.2.1) (C := RX1) (T := TX1) (N := 7) hx hb htb inX1 hown hK hP 0 rfl rfl 2 (by decide) (htb _ iw_f_X1_104) (fun _ h9 => h9) rfl dX1_act_128 ?_
                  refine vp_callSi (W.runV (As := [.int a0, .int (u.2.1 ((fx_m_field0 u a0 (3 : Int32))).toNatClampNeg), .int (u.2.1 ((fx_m_field0 u a0 (4 : Int32))).toNatClampNeg), .int u.2.2.1]) (rest := [.int (fx_m_field0 u a0 (1 : Int32)), .ref a.1]) ⟨hx, hb, hml, hown, htb⟩ (ct_m_puts l dC dI a u a0 (u.2.1 ((fx_m_field0 u a0 (3 : Int32))).toNatClampNeg) (u.2.1 ((fx_m_field0 u a0 (4 : Int32))).toNatClampNeg) u.2.2.1) (cwV 4 htb gw_X1_81 rfl rfl rfl (by decide +kernel) ⟨Nat.le_of_ble_eq_true rfl, Nat.le_of_ble_eq_true rfl⟩) (mu_preR hK hP) rfl rfl hl.1 rfl (lv_room (Nat.le_of_ble_eq_true rfl)) dX1_act_131 ⟨Nat.le_of_ble_eq_true rfl, Nat.le_of_ble_eq_true rfl⟩) (fun r9 e9 => ?_)
                  subst e9
                  refine mu_callv (va_runV (As := [.int (fx_m_field0 u a0 (1 : Int32)), .int (fx_m_puts u a0 (u.2.1 ((fx_m_field0 u a0 (3 : Int32))).toNatClampNeg) (u.2.1 ((fx_m_field0 u a0 (4 : Int32))).toNatClampNeg) u.2.2.1)]) (rest := []) ⟨hx, hb, hml, hown, htb⟩ (ct_m_set l dC dI a u (fx_m_field0 u a0 (1 : Int32)) (fx_m_puts u a0 (u.2.1 ((fx_m_field0 u a0 (3 : Int32))).toNatClampNeg) (u.2.1 ((fx_m_field0 u a0 (4 : Int32))).toNatClampNeg) u.2.2.1) (mu_inX1 _ _)) (cwV 2 htb gw_X1_100 rfl rfl rfl (by decide +kernel) ⟨Nat.le_of_ble_eq_true rfl, Nat.le_of_ble_eq_true rfl⟩) (mu_preW hK hP hd) rfl rfl hl.1 rfl (lv_room (Nat.le_of_ble_eq_true rfl)) dX1_act_134 ⟨Nat.le_of_ble_eq_true rfl, Nat.le_of_ble_eq_true rfl⟩) hS (fun H locs hP hS => ?_)
                  refine lv_aload_n hx hb dX1_act_137 rfl (lv_at hl 2 rfl) ?_
                  refine lv_iload_n hx hb dX1_act_138 rfl (lv_at hl 0 rfl) ?_
                  refine mu_calli (va_runV (As := [.int (((((u.2.2.1).toInt64) + (4 : Int64))).toInt32)]) (rest := []) ⟨hx, hb, hml, hown, htb⟩ (ct_m_finish l dC dI a (fx_m_set u (fx_m_field0 u a0 (1 : Int32)) (fx_m_puts u a0 (u.2.1 ((fx_m_field0 u a0 (3 : Int32))).toNatClampNeg) (u.2.1 ((fx_m_field0 u a0 (4 : Int32))).toNatClampNeg) u.2.2.1)) (((((u.2.2.1).toInt64) + (4 : Int64))).toInt32)) (cwV 1 htb gw_X1_117 rfl rfl rfl (by decide +kernel) ⟨Nat.le_of_ble_eq_true rfl, Nat.le_of_ble_eq_true rfl⟩) (mu_preW hK hP hd) rfl rfl hl.1 rfl (lv_room (Nat.le_of_ble_eq_true rfl)) dX1_act_139 ⟨Nat.le_of_ble_eq_true rfl, Nat.le_of_ble_eq_true rfl⟩) hS (fun H locs hP hS => ?_)
                  exact W.iret (v := (fx_m_finish (fx_m_set u (fx_m_field0 u a0 (1 : Int32)) (fx_m_puts u a0 (u.2.1 ((fx_m_field0 u a0 (3 : Int32))).toNatClampNeg) (u.2.1 ((fx_m_field0 u a0 (4 : Int32))).toNatClampNeg) u.2.2.1)) (((((u.2.2.1).toInt64) + (4 : Int64))).toInt32)).1) hx hb hr (fun t ht hW => ⟨⟨(fx_m_finish (fx_m_set u (fx_m_field0 u a0 (1 : Int32)) (fx_m_puts u a0 (u.2.1 ((fx_m_field0 u a0 (3 : Int32))).toNatClampNeg) (u.2.1 ((fx_m_field0 u a0 (4 : Int32))).toNatClampNeg) u.2.2.1)) (((((u.2.2.1).toInt64) + (4 : Int64))).toInt32)).1, (fx_m_finish (fx_m_set u (fx_m_field0 u a0 (1 : Int32)) (fx_m_puts u a0 (u.2.1 ((fx_m_field0 u a0 (3 : Int32))).toNatClampNeg) (u.2.1 ((fx_m_field0 u a0 (4 : Int32))).toNatClampNeg) u.2.2.1)) (((((u.2.2.1).toInt64) + (4 : Int64))).toInt32)).2, rfl, (by unfold fx_m_act; rw [if_neg c1, if_neg c2, if_neg c3, if_neg c4, if_neg c5, if_neg c6, if_neg c7, if_neg c8]), by rw [ht]; exact hP, va_K.moved hW.alike hK⟩, hS.F ht⟩) hS.2.2 dX1_act_142
              · refine lv_aload_n hx hb dX1_act_83 rfl (lv_at hl 2 rfl) ?_
                refine lv_iload_n hx hb dX1_act_84 rfl (lv_at hl 3 rfl) ?_
                refine lv_iload_n hx hb dX1_act_85 rfl (lv_at hl 0 rfl) ?_
                refine mu_calli (va_runV (As := [.int a0, .int (((((u.2.2.1).toInt64) + (4 : Int64))).toInt32)]) (rest := []) ⟨hx, hb, hml, hown, htb⟩ (ct_m_access l dC dI a u a0 (((((u.2.2.1).toInt64) + (4 : Int64))).toInt32)) (cwV 2 htb gw_X1_129 rfl rfl rfl (by decide +kernel) ⟨Nat.le_of_ble_eq_true rfl, Nat.le_of_ble_eq_true rfl⟩) (mu_preW hK hP hd) rfl rfl hl.1 rfl (lv_room (Nat.le_of_ble_eq_true rfl)) dX1_act_86 ⟨Nat.le_of_ble_eq_true rfl, Nat.le_of_ble_eq_true rfl⟩) hS (fun H locs hP hS => ?_)
                exact W.iret (v := (fx_m_access u a0 (((((u.2.2.1).toInt64) + (4 : Int64))).toInt32)).1) hx hb hr (fun t ht hW => ⟨⟨(fx_m_access u a0 (((((u.2.2.1).toInt64) + (4 : Int64))).toInt32)).1, (fx_m_access u a0 (((((u.2.2.1).toInt64) + (4 : Int64))).toInt32)).2, rfl, (by unfold fx_m_act; rw [if_neg c1, if_neg c2, if_neg c3, if_neg c4, if_neg c5, if_neg c6, if_pos c7]), by rw [ht]; exact hP, va_K.moved hW.alike hK⟩, hS.F ht⟩) hS.2.2 dX1_act_89
          · refine lv_aload_n hx hb dX1_act_65 rfl (lv_at hl 2 rfl) ?_
            refine lv_iload_n hx hb dX1_act_66 rfl (lv_at hl 3 rfl) ?_
            refine lv_iload_n hx hb dX1_act_67 rfl (lv_at hl 0 rfl) ?_
            refine mu_calli (va_runV (As := [.int a0, .int (((((u.2.2.1).toInt64) + (4 : Int64))).toInt32)]) (rest := []) ⟨hx, hb, hml, hown, htb⟩ (ct_m_jump l dC dI a u a0 (((((u.2.2.1).toInt64) + (4 : Int64))).toInt32)) (cwV 2 htb gw_X1_126 rfl rfl rfl (by decide +kernel) ⟨Nat.le_of_ble_eq_true rfl, Nat.le_of_ble_eq_true rfl⟩) (mu_preW hK hP hd) rfl rfl hl.1 rfl (lv_room (Nat.le_of_ble_eq_true rfl)) dX1_act_68 ⟨Nat.le_of_ble_eq_true rfl, Nat.le_of_ble_eq_true rfl⟩) hS (fun H locs hP hS => ?_)
            exact W.iret (v := (fx_m_jump u a0 (((((u.2.2.1).toInt64) + (4 : Int64))).toInt32)).1) hx hb hr (fun t ht hW => ⟨⟨(fx_m_jump u a0 (((((u.2.2.1).toInt64) + (4 : Int64))).toInt32)).1, (fx_m_jump u a0 (((((u.2.2.1).toInt64) + (4 : Int64))).toInt32)).2, rfl, (by unfold fx_m_act; rw [if_neg c1, if_neg c2, if_neg c3, if_neg c4, if_pos c5]), by rw [ht]; exact hP, va_K.moved hW.alike hK⟩, hS.F ht⟩) hS.2.2 dX1_act_71
    · refine lv_aload_n hx hb dX1_act_39 rfl (lv_at hl 2 rfl) ?_
      refine lv_bipush (v := (100 : Int32)) hx hb dX1_act_40 (by decide) ?_
      refine lv_iload_n hx hb dX1_act_42 rfl (lv_at hl 3 rfl) ?_
      refine mu_calli (va_runV (As := [.int (100 : Int32), .int a0]) (rest := []) ⟨hx, hb, hml, hown, htb⟩ (ct_m_fail l dC dI a u (100 : Int32) a0) (cwV 2 htb gw_X1_121 rfl rfl rfl (by decide +kernel) ⟨Nat.le_of_ble_eq_true rfl, Nat.le_of_ble_eq_true rfl⟩) (mu_preW hK hP hd) rfl rfl hl.1 rfl (lv_room (Nat.le_of_ble_eq_true rfl)) dX1_act_43 ⟨Nat.le_of_ble_eq_true rfl, Nat.le_of_ble_eq_true rfl⟩) hS (fun H locs hP hS => ?_)
      exact W.iret (v := (fx_m_fail u (100 : Int32) a0).1) hx hb hr (fun t ht hW => ⟨⟨(fx_m_fail u (100 : Int32) a0).1, (fx_m_fail u (100 : Int32) a0).2, rfl, (by unfold fx_m_act; rw [if_neg c1, if_pos c2]), by rw [ht]; exact hP, va_K.moved hW.alike hK⟩, hS.F ht⟩) hS.2.2 dX1_act_46
  · refine lv_aload_n hx hb dX1_act_26 rfl (lv_at hl 2 rfl) ?_
    refine lv_iconst (v := (2 : Int32)) hx hb dX1_act_27 (by decide) ?_
    refine lv_iload_n hx hb dX1_act_28 rfl (lv_at hl 3 rfl) ?_
    refine mu_calli (va_runV (As := [.int (2 : Int32), .int a0]) (rest := []) ⟨hx, hb, hml, hown, htb⟩ (ct_m_fail l dC dI a u (2 : Int32) a0) (cwV 2 htb gw_X1_121 rfl rfl rfl (by decide +kernel) ⟨Nat.le_of_ble_eq_true rfl, Nat.le_of_ble_eq_true rfl⟩) (mu_preW hK hP hd) rfl rfl hl.1 rfl (lv_room (Nat.le_of_ble_eq_true rfl)) dX1_act_29 ⟨Nat.le_of_ble_eq_true rfl, Nat.le_of_ble_eq_true rfl⟩) hS (fun H locs hP hS => ?_)
    exact W.iret (v := (fx_m_fail u (2 : Int32) a0).1) hx hb hr (fun t ht hW => ⟨⟨(fx_m_fail u (2 : Int32) a0).1, (fx_m_fail u (2 : Int32) a0).2, rfl, (by unfold fx_m_act; rw [if_pos c1]), by rw [ht]; exact hP, va_K.moved hW.alike hK⟩, hS.F ht⟩) hS.2.2 dX1_act_32
def fx_m_step (u : XS)  : Int32 × XS := (if (fx_m_isThere ((u.2.2.1).toInt64) (4 : Int32)) = (0 : Int32) then ((fx_m_fail u (1 : Int32) u.2.2.1).1, (fx_m_fail u (1 : Int32) u.2.2.1).2) else ((fx_m_act u (fx_m_read u u.2.2.1 (4 : Int32))).1, (fx_m_act u (fx_m_read u u.2.2.1 (4 : Int32))).2))
set_option maxHeartbeats 4000000 in
set_option maxRecDepth 100000 in
theorem ct_m_step (l : Launch) (dC : Nat → ClassId) (dI : Nat → Nat → Nat) (a : XA) (u : XS)   : Met l yX1_step wsX1_step ({ frames := 4, cells := 0, slots := 0, locals := 104 }) (va_Pc [.ref a.1] (fun U => va_P (dC, dI) vwCl (mu_w a u) U.heap ∧ va_K (dC, dI) vwCl (xu_t a) U ∧ xu_D a)) (va_Qi (fun r u9 => (r, u9) = fx_m_step u) (fun u9 t => va_P (dC, dI) vwCl (mu_w a u9) t.heap ∧ va_K (dC, dI) vwCl (xu_t a) t) (xu_A a)) 0 0 (xu_A a) := by
  refine Met.ofW (cc := cX1_step) (maxL := 1) (ret := (some .int)) (by decide) rfl ?_
  intro p e s m args below meth c s₁ B hml hv
  obtain ⟨rfl, hP, hK, hd⟩ := hv
  have hx := B.exec
  have hb := B.bytes
  have hr := B.returns
  have htb : ∀ w ∈ lw_g, w.before ([.ref a.1] : List Value).toArray s = true := fun w h => atoms_spec (ws := wsX1_step) B.pre w (List.mem_cons_of_mem _ h)
  have hown : s.vm.findClass RX1 = some m.cls := findClass_of_methodNamed B.named
  have hlocks := B.notSynchronized
  have hS : va_S (xu_A a) s.heap s.heap [] := va_S.rf
  have hl := lv_entry ([.ref a.1]) (n := 1) (Nat.le_of_ble_eq_true rfl)
  rw [lg_entry_eq]
  generalize (lg_sl ([.ref a.1]) ++ List.replicate (1 - (lg_sl ([.ref a.1])).length) Slot.unset).toArray = ls at hl ⊢
  have hl : lv_has ls 1 [(0, .ref a.1)] := hl
  refine lv_aload_n hx hb dX1_step_0 rfl (lv_at hl 0 rfl) ?_
  refine va_get (D := (dC, dI)) (ci := 1) (v := .int u.2.2.1) (C := RX1) (T := TX1) (N := 7) hx hb htb inX1 hown hK hP 0 rfl rfl 2 (by decide) (htb _ iw_f_X1_104) (fun _ h9 => h9) rfl dX1_step_1 ?_
  refine lv_i2l (v := ((u.2.2.1).toInt64)) hx hb dX1_step_4 rfl ?_
  refine lv_iconst (v := (4 : Int32)) hx hb dX1_step_5 (by decide) ?_
  refine vp_callSi (W.runS (As := [.long ((u.2.2.1).toInt64), .int (4 : Int32)]) (rest := []) ⟨hx, hb, hml, hown, htb⟩ (ct_m_isThere l ((u.2.2.1).toInt64) (4 : Int32)) (va_cwS 2 htb gw_X1_89 rfl rfl rfl (by decide +kernel) ⟨Nat.le_of_ble_eq_true rfl, Nat.le_of_ble_eq_true rfl⟩) jj_pre rfl rfl hl.1 rfl (lv_room (Nat.le_of_ble_eq_true rfl)) dX1_step_6 ⟨Nat.le_of_ble_eq_true rfl, Nat.le_of_ble_eq_true rfl⟩) (fun r9 e9 => ?_)
  subst e9
  refine lv_if_eq (tgt := 28) hx hb dX1_step_9 (by decide) (fun c1 => ?_) (fun c1 => ?_)
  · refine lv_aload_n hx hb dX1_step_28 rfl (lv_at hl 0 rfl) ?_
    refine lv_iconst (v := (1 : Int32)) hx hb dX1_step_29 (by decide) ?_
    refine lv_aload_n hx hb dX1_step_30 rfl (lv_at hl 0 rfl) ?_
    refine va_get (D := (dC, dI)) (ci := 1) (v := .int u.2.2.1) (C := RX1) (T := TX1) (N := 7) hx hb htb inX1 hown hK hP 0 rfl rfl 2 (by decide) (htb _ iw_f_X1_104) (fun _ h9 => h9) rfl dX1_step_31 ?_
    refine mu_calli (va_runV (As := [.int (1 : Int32), .int u.2.2.1]) (rest := []) ⟨hx, hb, hml, hown, htb⟩ (ct_m_fail l dC dI a u (1 : Int32) u.2.2.1) (cwV 2 htb gw_X1_121 rfl rfl rfl (by decide +kernel) ⟨Nat.le_of_ble_eq_true rfl, Nat.le_of_ble_eq_true rfl⟩) (mu_preW hK hP hd) rfl rfl hl.1 rfl (lv_room (Nat.le_of_ble_eq_true rfl)) dX1_step_34 ⟨Nat.le_of_ble_eq_true rfl, Nat.le_of_ble_eq_true rfl⟩) hS (fun H locs hP hS => ?_)
    exact W.iret (v := (fx_m_fail u (1 : Int32) u.2.2.1).1) hx hb hr (fun t ht hW => ⟨⟨(fx_m_fail u (1 : Int32) u.2.2.1).1, (fx_m_fail u (1 : Int32) u.2.2.1).2, rfl, (by unfold fx_m_step; rw [if_pos c1]), by rw [ht]; exact hP, va_K.moved hW.alike hK⟩, hS.F ht⟩) hS.2.2 dX1_step_37
  · refine lv_aload_n hx hb dX1_step_12 rfl (lv_at hl 0 rfl) ?_
    refine lv_aload_n hx hb dX1_step_13 rfl (lv_at hl 0 rfl) ?_
    refine lv_aload_n hx hb dX1_step_14 rfl (lv_at hl 0 rfl) ?_
    refine va_get (D := (dC, dI)) (ci := 1) (v := .int u.2.2.1) (C := RX1) (T := TX1) (N := 7) hx hb htb inX1 hown hK hP 0 rfl rfl 2 (by decide) (htb _ iw_f_X1_104) (fun _ h9 => h9) rfl dX1_step_15 ?_
    refine lv_iconst (v := (4 : Int32)) hx hb dX1_step_18 (by decide) ?_
    refine vp_callSi (W.runV (As := [.int u.2.2.1, .int (4 : Int32)]) (rest := [.ref a.1]) ⟨hx, hb, hml, hown, htb⟩ (ct_m_read l dC dI a u u.2.2.1 (4 : Int32) (mt_ok (by decide) c1)) (cwV 2 htb gw_X1_97 rfl rfl rfl (by decide +kernel) ⟨Nat.le_of_ble_eq_true rfl, Nat.le_of_ble_eq_true rfl⟩) (mu_preR hK hP) rfl rfl hl.1 rfl (lv_room (Nat.le_of_ble_eq_true rfl)) dX1_step_19 ⟨Nat.le_of_ble_eq_true rfl, Nat.le_of_ble_eq_true rfl⟩) (fun r9 e9 => ?_)
    subst e9
    refine mu_calli (va_runV (As := [.int (fx_m_read u u.2.2.1 (4 : Int32))]) (rest := []) ⟨hx, hb, hml, hown, htb⟩ (ct_m_act l dC dI a u (fx_m_read u u.2.2.1 (4 : Int32))) (cwV 1 htb gw_X1_132 rfl rfl rfl (by decide +kernel) ⟨Nat.le_of_ble_eq_true rfl, Nat.le_of_ble_eq_true rfl⟩) (mu_preW hK hP hd) rfl rfl hl.1 rfl (lv_room (Nat.le_of_ble_eq_true rfl)) dX1_step_22 ⟨Nat.le_of_ble_eq_true rfl, Nat.le_of_ble_eq_true rfl⟩) hS (fun H locs hP hS => ?_)
    refine lv_goto (tgt := 37) hx hb dX1_step_25 (by decide) ?_
    exact W.iret (v := (fx_m_act u (fx_m_read u u.2.2.1 (4 : Int32))).1) hx hb hr (fun t ht hW => ⟨⟨(fx_m_act u (fx_m_read u u.2.2.1 (4 : Int32))).1, (fx_m_act u (fx_m_read u u.2.2.1 (4 : Int32))).2, rfl, (by unfold fx_m_step; rw [if_neg c1]), by rw [ht]; exact hP, va_K.moved hW.alike hK⟩, hS.F ht⟩) hS.2.2 dX1_step_37
def fx_m_run_lp15 : Nat → XS → Int32 → Int32 → Int32 × XS
  | 0, u1, _, _ => (0, u1)
  | k + 1, u1, a0, v2 => (if a0 ≤ v2 then (v2, u1) else (if (fx_m_step u1).1 = (-1 : Int32) then (fx_m_run_lp15 k (fx_m_step u1).2 a0 (v2 + (1 : Int32))) else (v2, (fx_m_step u1).2)))
def fx_m_run (u : XS) (a0 : Int32) : Int32 × XS := (if a0 < (0 : Int32) then ((-1 : Int32), u) else (if a0 ≤ (2000 : Int32) then (fx_m_run_lp15 2001 u a0 (0 : Int32)) else ((-1 : Int32), u)))
set_option maxHeartbeats 4000000 in
set_option maxRecDepth 100000 in
theorem ct_m_run (l : Launch) (dC : Nat → ClassId) (dI : Nat → Nat → Nat) (a : XA) (u : XS) (a0 : Int32)  : Met l yX1_run wsX1_run ({ frames := 5, cells := 0, slots := 0, locals := 124 }) (va_Pc [.ref a.1, .int a0] (fun U => va_P (dC, dI) vwCl (mu_w a u) U.heap ∧ va_K (dC, dI) vwCl (xu_t a) U ∧ xu_D a)) (va_Qi (fun r u9 => (r, u9) = fx_m_run u a0) (fun u9 t => va_P (dC, dI) vwCl (mu_w a u9) t.heap ∧ va_K (dC, dI) vwCl (xu_t a) t) (xu_A a)) 0 0 (xu_A a) := by
  refine Met.ofW (cc := cX1_run) (maxL := 3) (ret := (some .int)) (by decide) rfl ?_
  intro p e s m args below meth c s₁ B hml hv
  obtain ⟨rfl, hP, hK, hd⟩ := hv
  have hx := B.exec
  have hb := B.bytes
  have hr := B.returns
  have htb : ∀ w ∈ lw_g, w.before ([.ref a.1, .int a0] : List Value).toArray s = true := fun w h => atoms_spec (ws := wsX1_run) B.pre w (List.mem_cons_of_mem _ h)
  have hown : s.vm.findClass RX1 = some m.cls := findClass_of_methodNamed B.named
  have hlocks := B.notSynchronized
  have hS : va_S (xu_A a) s.heap s.heap [] := va_S.rf
  have hl := lv_entry ([.ref a.1, .int a0]) (n := 3) (Nat.le_of_ble_eq_true rfl)
  rw [lg_entry_eq]
  generalize (lg_sl ([.ref a.1, .int a0]) ++ List.replicate (3 - (lg_sl ([.ref a.1, .int a0])).length) Slot.unset).toArray = ls at hl ⊢
  have hl : lv_has ls 3 [(0, .ref a.1), (1, .int a0)] := hl
  refine lv_iload_n hx hb dX1_run_0 rfl (lv_at hl 1 rfl) ?_
  refine lv_if_lt (tgt := 11) hx hb dX1_run_1 (by decide) (fun c1 => ?_) (fun c1 => ?_)
  · refine lv_iconst (v := (-1 : Int32)) hx hb dX1_run_11 (by decide) ?_
    exact W.iret (v := (-1 : Int32)) hx hb hr (fun t ht hW => ⟨⟨(-1 : Int32), u, rfl, (by unfold fx_m_run; rw [if_pos c1]), by rw [ht]; exact hP, va_K.moved hW.alike hK⟩, hS.F ht⟩) hS.2.2 dX1_run_12
  · refine lv_iload_n hx hb dX1_run_4 rfl (lv_at hl 1 rfl) ?_
    refine lv_sipush (v := (2000 : Int32)) hx hb dX1_run_5 (by decide) ?_
    refine lv_icmp_le (tgt := 13) hx hb dX1_run_8 (by decide) (fun c2 => ?_) (fun c2 => ?_)
    · refine lv_iconst (v := (0 : Int32)) hx hb dX1_run_13 (by decide) ?_
      refine lv_istore_n (lv' := [(2, .int (0 : Int32)), (0, .ref a.1), (1, .int a0)]) hx hb dX1_run_14 rfl hl (by decide) rfl (fun ls hl => ?_)
      have loop : ∀ (k : Nat) (u1 : XS) (v2 : Int32) (H : Heap) (locs : List Loc) (ls : Array Slot), (v2.toInt ≤ a0.toInt ∧ a0.toInt < v2.toInt + k) → fx_m_run_lp15 k u1 a0 v2 = fx_m_run u a0 → va_P (dC, dI) vwCl (mu_w a u1) H → va_S (xu_A a) s.heap H locs → lv_has ls 3 [(2, .int v2), (0, .ref a.1), (1, .int a0)] → W p l e (headSpec wsX1_run ({ frames := 5, cells := 0, slots := 0, locals := 124 })).room s m ([.ref a.1, .int a0] : List Value).toArray below meth c H locs 0 0 (MQ below (va_Qi (fun r u9 => (r, u9) = fx_m_run u a0) (fun u9 t => va_P (dC, dI) vwCl (mu_w a u9) t.heap ∧ va_K (dC, dI) vwCl (xu_t a) t) (xu_A a)) ([.ref a.1, .int a0] : List Value).toArray s 0 0 (xu_A a)) (F0 m 15 ls []) := by
        intro k
        induction k with
        | zero => intro u1 v2 H locs ls hI; exact absurd hI (by omega)
        | succ k ih =>
          intro u1 v2 H locs ls hI hF hP hS hl
          refine lv_iload_n hx hb dX1_run_15 rfl (lv_at hl 0 rfl) ?_
          refine lv_iload_n hx hb dX1_run_16 rfl (lv_at hl 2 rfl) ?_
          refine lv_icmp_ge (tgt := 34) hx hb dX1_run_17 (by decide) (fun c3 => ?_) (fun c3 => ?_)
          · refine lv_iload_n hx hb dX1_run_34 rfl (lv_at hl 0 rfl) ?_
            exact W.iret (v := v2) hx hb hr (fun t ht hW => ⟨⟨v2, u1, rfl, (by have hF := hF; unfold fx_m_run_lp15 at hF; rw [if_pos c3] at hF; exact hF), by rw [ht]; exact hP, va_K.moved hW.alike hK⟩, hS.F ht⟩) hS.2.2 dX1_run_35
          · refine lv_aload_n hx hb dX1_run_20 rfl (lv_at hl 1 rfl) ?_
            refine mu_calli (va_runV (As := []) (rest := []) ⟨hx, hb, hml, hown, htb⟩ (ct_m_step l dC dI a u1 ) (cwV 0 htb gw_X1_135 rfl rfl rfl (by decide +kernel) ⟨Nat.le_of_ble_eq_true rfl, Nat.le_of_ble_eq_true rfl⟩) (mu_preW hK hP hd) rfl rfl hl.1 rfl (lv_room (Nat.le_of_ble_eq_true rfl)) dX1_run_21 ⟨Nat.le_of_ble_eq_true rfl, Nat.le_of_ble_eq_true rfl⟩) hS (fun H locs hP hS => ?_)
            refine lv_iconst (v := (-1 : Int32)) hx hb dX1_run_24 (by decide) ?_
            refine lv_icmp_ne (tgt := 34) hx hb dX1_run_25 (by decide) (fun c4 => ?_) (fun c4 => ?_)
            · refine lv_iload_n hx hb dX1_run_34 rfl (lv_at hl 0 rfl) ?_
              exact W.iret (v := v2) hx hb hr (fun t ht hW => ⟨⟨v2, (fx_m_step u1).2, rfl, (by have hF := hF; unfold fx_m_run_lp15 at hF; rw [if_neg c3, if_neg c4] at hF; exact hF), by rw [ht]; exact hP, va_K.moved hW.alike hK⟩, hS.F ht⟩) hS.2.2 dX1_run_35
            · refine lv_iinc (v := (v2 + (1 : Int32))) (lv' := [(2, .int (v2 + (1 : Int32))), (0, .ref a.1), (1, .int a0)]) hx hb dX1_run_28 hl (k := 0) rfl rfl (by decide) rfl (fun ls hl => ?_)
              refine lv_goto (tgt := 15) hx hb dX1_run_31 (by decide) ?_
              exact ih (fx_m_step u1).2 (v2 + (1 : Int32)) _ _ _ (jj_run1 hI c3) (by have hF := hF; unfold fx_m_run_lp15 at hF; rw [if_neg c3, if_pos c4] at hF; exact hF) hP hS (lv_sub hl [0, 1, 2] rfl)
      exact loop 2001 u (0 : Int32) _ _ _ (jj_run0 c1 c2) (by unfold fx_m_run; rw [if_neg c1, if_pos c2]) hP hS (lv_sub hl [0, 1, 2] rfl)
    · refine lv_iconst (v := (-1 : Int32)) hx hb dX1_run_11 (by decide) ?_
      exact W.iret (v := (-1 : Int32)) hx hb hr (fun t ht hW => ⟨⟨(-1 : Int32), u, rfl, (by unfold fx_m_run; rw [if_neg c1, if_neg c2]), by rw [ht]; exact hP, va_K.moved hW.alike hK⟩, hS.F ht⟩) hS.2.2 dX1_run_12
def fx_m_doWord (u : XS) (a0 : Int32) : Int32 × XS := ((fx_m_act u a0).1, (fx_m_act u a0).2)
set_option maxHeartbeats 4000000 in
set_option maxRecDepth 100000 in
theorem ct_m_doWord (l : Launch) (dC : Nat → ClassId) (dI : Nat → Nat → Nat) (a : XA) (u : XS) (a0 : Int32)  : Met l yX1_doWord wsX1_doWord ({ frames := 4, cells := 0, slots := 0, locals := 104 }) (va_Pc [.ref a.1, .int a0] (fun U => va_P (dC, dI) vwCl (mu_w a u) U.heap ∧ va_K (dC, dI) vwCl (xu_t a) U ∧ xu_D a)) (va_Qi (fun r u9 => (r, u9) = fx_m_doWord u a0) (fun u9 t => va_P (dC, dI) vwCl (mu_w a u9) t.heap ∧ va_K (dC, dI) vwCl (xu_t a) t) (xu_A a)) 0 0 (xu_A a) := by
  refine Met.ofW (cc := cX1_doWord) (maxL := 2) (ret := (some .int)) (by decide) rfl ?_
  intro p e s m args below meth c s₁ B hml hv
  obtain ⟨rfl, hP, hK, hd⟩ := hv
  have hx := B.exec
  have hb := B.bytes
  have hr := B.returns
  have htb : ∀ w ∈ lw_g, w.before ([.ref a.1, .int a0] : List Value).toArray s = true := fun w h => atoms_spec (ws := wsX1_doWord) B.pre w (List.mem_cons_of_mem _ h)
  have hown : s.vm.findClass RX1 = some m.cls := findClass_of_methodNamed B.named
  have hlocks := B.notSynchronized
  have hS : va_S (xu_A a) s.heap s.heap [] := va_S.rf
  have hl := lv_entry ([.ref a.1, .int a0]) (n := 2) (Nat.le_of_ble_eq_true rfl)
  rw [lg_entry_eq]
  generalize (lg_sl ([.ref a.1, .int a0]) ++ List.replicate (2 - (lg_sl ([.ref a.1, .int a0])).length) Slot.unset).toArray = ls at hl ⊢
  have hl : lv_has ls 2 [(0, .ref a.1), (1, .int a0)] := hl
  refine lv_aload_n hx hb dX1_doWord_0 rfl (lv_at hl 0 rfl) ?_
  refine lv_iload_n hx hb dX1_doWord_1 rfl (lv_at hl 1 rfl) ?_
  refine mu_calli (va_runV (As := [.int a0]) (rest := []) ⟨hx, hb, hml, hown, htb⟩ (ct_m_act l dC dI a u a0) (cwV 1 htb gw_X1_132 rfl rfl rfl (by decide +kernel) ⟨Nat.le_of_ble_eq_true rfl, Nat.le_of_ble_eq_true rfl⟩) (mu_preW hK hP hd) rfl rfl hl.1 rfl (lv_room (Nat.le_of_ble_eq_true rfl)) dX1_doWord_2 ⟨Nat.le_of_ble_eq_true rfl, Nat.le_of_ble_eq_true rfl⟩) hS (fun H locs hP hS => ?_)
  exact W.iret (v := (fx_m_act u a0).1) hx hb hr (fun t ht hW => ⟨⟨(fx_m_act u a0).1, (fx_m_act u a0).2, rfl, rfl, by rw [ht]; exact hP, va_K.moved hW.alike hK⟩, hS.F ht⟩) hS.2.2 dX1_doWord_5
