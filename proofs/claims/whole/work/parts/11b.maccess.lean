theorem mc_ne {v : Int32} (h : v = 1 ∨ v = 2 ∨ v = 4) : ¬ v = 0 := by
  rcases h with rfl | rfl | rfl <;> decide
theorem mc_rng {v : Int32} (h : v = 1 ∨ v = 2 ∨ v = 4) : 0 ≤ v.toInt ∧ v.toInt ≤ 4 := by
  rcases h with rfl | rfl | rfl <;> decide

def fx_m_access_at84 (u1 : XS) (a0 : Int32) (a1 : Int32) (v3 : Int32) (v4 : Int32) (v5 : Int32) (v6 : Int32) : Int32 × XS := (if (v6 - v6 / v5 * v5) = (0 : Int32) then (if (fx_m_isThere ((v6).toInt64) v5) = (0 : Int32) then (if v3 = (0 : Int32) then ((fx_m_fail u1 (5 : Int32) v6).1, (fx_m_fail u1 (5 : Int32) v6).2) else ((fx_m_fail u1 (7 : Int32) v6).1, (fx_m_fail u1 (7 : Int32) v6).2)) else (if v3 = (0 : Int32) then (if (2 : Int32) ≤ v4 then ((fx_m_finish (fx_m_set u1 (fx_m_field0 u1 a0 (1 : Int32)) (fx_m_read u1 v6 v5)) a1).1, (fx_m_finish (fx_m_set u1 (fx_m_field0 u1 a0 (1 : Int32)) (fx_m_read u1 v6 v5)) a1).2) else ((fx_m_finish (fx_m_set u1 (fx_m_field0 u1 a0 (1 : Int32)) (fx_m_signed (fx_m_read u1 v6 v5) ((8 : Int32) * v5))) a1).1, (fx_m_finish (fx_m_set u1 (fx_m_field0 u1 a0 (1 : Int32)) (fx_m_signed (fx_m_read u1 v6 v5) ((8 : Int32) * v5))) a1).2)) else ((fx_m_finish (fx_m_write u1 v6 v5 (u1.2.1 ((fx_m_field0 u1 a0 (4 : Int32))).toNatClampNeg)) a1).1, (fx_m_finish (fx_m_write u1 v6 v5 (u1.2.1 ((fx_m_field0 u1 a0 (4 : Int32))).toNatClampNeg)) a1).2))) else (if v3 = (0 : Int32) then ((fx_m_fail u1 (4 : Int32) v6).1, (fx_m_fail u1 (4 : Int32) v6).2) else ((fx_m_fail u1 (6 : Int32) v6).1, (fx_m_fail u1 (6 : Int32) v6).2)))
def fx_m_access (u : XS) (a0 : Int32) (a1 : Int32) : Int32 × XS := (if (fx_m_field0 u a0 (0 : Int32)) = (35 : Int32) then (if ((fx_m_field0 u a0 (2 : Int32)) - (fx_m_field0 u a0 (2 : Int32)) / (4 : Int32) * (4 : Int32)) = (0 : Int32) then (fx_m_access_at84 u a0 a1 (1 : Int32) (fx_m_field0 u a0 (2 : Int32)) (1 : Int32) ((((((u.2.1 ((fx_m_field0 u a0 (3 : Int32))).toNatClampNeg)).toInt64) + (((fx_m_field0 u a0 (7 : Int32))).toInt64))).toInt32)) else (if ((fx_m_field0 u a0 (2 : Int32)) - (fx_m_field0 u a0 (2 : Int32)) / (4 : Int32) * (4 : Int32)) = (1 : Int32) then (fx_m_access_at84 u a0 a1 (1 : Int32) (fx_m_field0 u a0 (2 : Int32)) (2 : Int32) ((((((u.2.1 ((fx_m_field0 u a0 (3 : Int32))).toNatClampNeg)).toInt64) + (((fx_m_field0 u a0 (7 : Int32))).toInt64))).toInt32)) else (fx_m_access_at84 u a0 a1 (1 : Int32) (fx_m_field0 u a0 (2 : Int32)) (4 : Int32) ((((((u.2.1 ((fx_m_field0 u a0 (3 : Int32))).toNatClampNeg)).toInt64) + (((fx_m_field0 u a0 (7 : Int32))).toInt64))).toInt32)))) else (if ((fx_m_field0 u a0 (2 : Int32)) - (fx_m_field0 u a0 (2 : Int32)) / (4 : Int32) * (4 : Int32)) = (0 : Int32) then (fx_m_access_at84 u a0 a1 (0 : Int32) (fx_m_field0 u a0 (2 : Int32)) (1 : Int32) ((((((u.2.1 ((fx_m_field0 u a0 (3 : Int32))).toNatClampNeg)).toInt64) + (((fx_m_field0 u a0 (6 : Int32))).toInt64))).toInt32)) else (if ((fx_m_field0 u a0 (2 : Int32)) - (fx_m_field0 u a0 (2 : Int32)) / (4 : Int32) * (4 : Int32)) = (1 : Int32) then (fx_m_access_at84 u a0 a1 (0 : Int32) (fx_m_field0 u a0 (2 : Int32)) (2 : Int32) ((((((u.2.1 ((fx_m_field0 u a0 (3 : Int32))).toNatClampNeg)).toInt64) + (((fx_m_field0 u a0 (6 : Int32))).toInt64))).toInt32)) else (fx_m_access_at84 u a0 a1 (0 : Int32) (fx_m_field0 u a0 (2 : Int32)) (4 : Int32) ((((((u.2.1 ((fx_m_field0 u a0 (3 : Int32))).toNatClampNeg)).toInt64) + (((fx_m_field0 u a0 (6 : Int32))).toInt64))).toInt32)))))
set_option maxHeartbeats 4000000 in
set_option maxRecDepth 100000 in
theorem ct_m_access (l : Launch) (dC : Nat → ClassId) (dI : Nat → Nat → Nat) (a : XA) (u : XS) (a0 : Int32) (a1 : Int32)  : Met l yX1_access wsX1_access ({ frames := 2, cells := 0, slots := 0, locals := 51 }) (va_Pc [.ref a.1, .int a0, .int a1] (fun U => va_P (dC, dI) vwCl (mu_w a u) U.heap ∧ va_K (dC, dI) vwCl (xu_t a) U ∧ xu_D a)) (va_Qi (fun r u9 => (r, u9) = fx_m_access u a0 a1) (fun u9 t => va_P (dC, dI) vwCl (mu_w a u9) t.heap ∧ va_K (dC, dI) vwCl (xu_t a) t) (xu_A a)) 0 0 (xu_A a) := by
  refine Met.ofW (cc := cX1_access) (maxL := 8) (ret := (some .int)) (by decide) rfl ?_
  intro p e s m args below meth c s₁ B hml hv
  obtain ⟨rfl, hP, hK, hd⟩ := hv
  have hx := B.exec
  have hb := B.bytes
  have hr := B.returns
  have htb : ∀ w ∈ lw_g, w.before ([.ref a.1, .int a0, .int a1] : List Value).toArray s = true := fun w h => atoms_spec (ws := wsX1_access) B.pre w (List.mem_cons_of_mem _ h)
  have hown : s.vm.findClass RX1 = some m.cls := findClass_of_methodNamed B.named
  have hlocks := B.notSynchronized
  have hS : va_S (xu_A a) s.heap s.heap [] := va_S.rf
  have hl := lv_entry ([.ref a.1, .int a0, .int a1]) (n := 8) (Nat.le_of_ble_eq_true rfl)
  rw [lg_entry_eq]
  generalize (lg_sl ([.ref a.1, .int a0, .int a1]) ++ List.replicate (8 - (lg_sl ([.ref a.1, .int a0, .int a1])).length) Slot.unset).toArray = ls at hl ⊢
  have hl : lv_has ls 8 [(0, .ref a.1), (1, .int a0), (2, .int a1)] := hl
  have cut84 : ∀ (u1 : XS) (v3 : Int32) (v4 : Int32) (v5 : Int32) (v6 : Int32) (H : Heap) (locs : List Loc) (ls : Array Slot), (v5 = 1 ∨ v5 = 2 ∨ v5 = 4) → fx_m_access_at84 u1 a0 a1 v3 v4 v5 v6 = fx_m_access u a0 a1 → va_P (dC, dI) vwCl (mu_w a u1) H → va_S (xu_A a) s.heap H locs → lv_has ls 8 [(3, .int v3), (4, .int v4), (5, .int v5), (6, .int v6), (0, .ref a.1), (1, .int a0), (2, .int a1)] → W p l e (headSpec wsX1_access ({ frames := 2, cells := 0, slots := 0, locals := 51 })).room s m ([.ref a.1, .int a0, .int a1] : List Value).toArray below meth c H locs 0 0 (MQ below (va_Qi (fun r u9 => (r, u9) = fx_m_access u a0 a1) (fun u9 t => va_P (dC, dI) vwCl (mu_w a u9) t.heap ∧ va_K (dC, dI) vwCl (xu_t a) t) (xu_A a)) ([.ref a.1, .int a0, .int a1] : List Value).toArray s 0 0 (xu_A a)) (F0 m 84 ls []) := by
    intro u1 v3 v4 v5 v6 H locs ls hI hF hP hS hl
    refine lv_iload hx hb dX1_access_84 (lv_at hl 3 rfl) ?_
    refine lv_iload hx hb dX1_access_86 (lv_at hl 2 rfl) ?_
    refine lv_irem hx hb dX1_access_88 (mc_ne hI) ?_
    refine lv_if_eq (tgt := 109) hx hb dX1_access_89 (by decide) (fun c1 => ?_) (fun c1 => ?_)
    · refine lv_iload hx hb dX1_access_109 (lv_at hl 3 rfl) ?_
      refine lv_i2l (v := ((v6).toInt64)) hx hb dX1_access_111 rfl ?_
      refine lv_iload hx hb dX1_access_112 (lv_at hl 2 rfl) ?_
      refine vp_callSi (W.runS (As := [.long ((v6).toInt64), .int v5]) (rest := []) ⟨hx, hb, hml, hown, htb⟩ (ct_m_isThere l ((v6).toInt64) v5) (va_cwS 2 htb gw_X1_89 rfl rfl rfl (by decide +kernel) ⟨Nat.le_of_ble_eq_true rfl, Nat.le_of_ble_eq_true rfl⟩) jj_pre rfl rfl hl.1 rfl (lv_room (Nat.le_of_ble_eq_true rfl)) dX1_access_114 ⟨Nat.le_of_ble_eq_true rfl, Nat.le_of_ble_eq_true rfl⟩) (fun r9 e9 => ?_)
      subst e9
      refine lv_if_ne (tgt := 137) hx hb dX1_access_117 (by decide) (fun c2 => ?_) (fun c2 => ?_)
      · refine lv_iload_n hx hb dX1_access_137 rfl (lv_at hl 0 rfl) ?_
        refine lv_if_eq (tgt := 163) hx hb dX1_access_138 (by decide) (fun c3 => ?_) (fun c3 => ?_)
        · refine lv_aload_n hx hb dX1_access_163 rfl (lv_at hl 4 rfl) ?_
          refine lv_iload hx hb dX1_access_164 (lv_at hl 3 rfl) ?_
          refine lv_iload hx hb dX1_access_166 (lv_at hl 2 rfl) ?_
          refine vp_callSi (W.runV (As := [.int v6, .int v5]) (rest := []) ⟨hx, hb, hml, hown, htb⟩ (ct_m_read l dC dI a u1 v6 v5 (mt_ok (mc_rng hI) c2)) (cwV 2 htb gw_X1_97 rfl rfl rfl (by decide +kernel) ⟨Nat.le_of_ble_eq_true rfl, Nat.le_of_ble_eq_true rfl⟩) (mu_preR hK hP) rfl rfl hl.1 rfl (lv_room (Nat.le_of_ble_eq_true rfl)) dX1_access_168 ⟨Nat.le_of_ble_eq_true rfl, Nat.le_of_ble_eq_true rfl⟩) (fun r9 e9 => ?_)
          subst e9
          refine lv_istore (lv' := [(7, .int (fx_m_read u1 v6 v5)), (3, .int v3), (4, .int v4), (5, .int v5), (6, .int v6), (0, .ref a.1), (1, .int a0), (2, .int a1)]) hx hb dX1_access_171 hl (by decide) rfl (fun ls hl => ?_)
          refine lv_aload_n hx hb dX1_access_173 rfl (lv_at hl 5 rfl) ?_
          refine lv_aload_n hx hb dX1_access_174 rfl (lv_at hl 5 rfl) ?_
          refine lv_iload_n hx hb dX1_access_175 rfl (lv_at hl 6 rfl) ?_
          refine lv_iconst (v := (1 : Int32)) hx hb dX1_access_176 (by decide) ?_
          refine vp_callSi (W.runV (As := [.int a0, .int (1 : Int32)]) (rest := [.ref a.1]) ⟨hx, hb, hml, hown, htb⟩ (ct_m_field0 l dC dI a u1 a0 (1 : Int32) (by decide)) (cwV 2 htb gw_X1_40 rfl rfl rfl (by decide +kernel) ⟨Nat.le_of_ble_eq_true rfl, Nat.le_of_ble_eq_true rfl⟩) (mu_preR hK hP) rfl rfl hl.1 rfl (lv_room (Nat.le_of_ble_eq_true rfl)) dX1_access_177 ⟨Nat.le_of_ble_eq_true rfl, Nat.le_of_ble_eq_true rfl⟩) (fun r9 e9 => ?_)
          subst e9
          refine lv_iload hx hb dX1_access_180 (lv_at hl 2 rfl) ?_
          refine lv_iconst (v := (2 : Int32)) hx hb dX1_access_182 (by decide) ?_
          refine lv_icmp_ge (tgt := 199) hx hb dX1_access_183 (by decide) (fun c4 => ?_) (fun c4 => ?_)
          · refine lv_iload hx hb dX1_access_199 (lv_at hl 0 rfl) ?_
            refine mu_callv (va_runV (As := [.int (fx_m_field0 u1 a0 (1 : Int32)), .int (fx_m_read u1 v6 v5)]) (rest := []) ⟨hx, hb, hml, hown, htb⟩ (ct_m_set l dC dI a u1 (fx_m_field0 u1 a0 (1 : Int32)) (fx_m_read u1 v6 v5) (mu_inX1 _ _)) (cwV 2 htb gw_X1_100 rfl rfl rfl (by decide +kernel) ⟨Nat.le_of_ble_eq_true rfl, Nat.le_of_ble_eq_true rfl⟩) (mu_preW hK hP hd) rfl rfl hl.1 rfl (lv_room (Nat.le_of_ble_eq_true rfl)) dX1_access_201 ⟨Nat.le_of_ble_eq_true rfl, Nat.le_of_ble_eq_true rfl⟩) hS (fun H locs hP hS => ?_)
            refine lv_aload_n hx hb dX1_access_204 rfl (lv_at hl 5 rfl) ?_
            refine lv_iload_n hx hb dX1_access_205 rfl (lv_at hl 7 rfl) ?_
            refine mu_calli (va_runV (As := [.int a1]) (rest := []) ⟨hx, hb, hml, hown, htb⟩ (ct_m_finish l dC dI a (fx_m_set u1 (fx_m_field0 u1 a0 (1 : Int32)) (fx_m_read u1 v6 v5)) a1) (cwV 1 htb gw_X1_117 rfl rfl rfl (by decide +kernel) ⟨Nat.le_of_ble_eq_true rfl, Nat.le_of_ble_eq_true rfl⟩) (mu_preW hK hP hd) rfl rfl hl.1 rfl (lv_room (Nat.le_of_ble_eq_true rfl)) dX1_access_206 ⟨Nat.le_of_ble_eq_true rfl, Nat.le_of_ble_eq_true rfl⟩) hS (fun H locs hP hS => ?_)
            exact W.iret (v := (fx_m_finish (fx_m_set u1 (fx_m_field0 u1 a0 (1 : Int32)) (fx_m_read u1 v6 v5)) a1).1) hx hb hr (fun t ht hW => ⟨⟨(fx_m_finish (fx_m_set u1 (fx_m_field0 u1 a0 (1 : Int32)) (fx_m_read u1 v6 v5)) a1).1, (fx_m_finish (fx_m_set u1 (fx_m_field0 u1 a0 (1 : Int32)) (fx_m_read u1 v6 v5)) a1).2, rfl, (by have hF := hF; unfold fx_m_access_at84 at hF; rw [if_pos c1, if_neg c2, if_pos c3, if_pos c4] at hF; exact hF), by rw [ht]; exact hP, va_K.moved hW.alike hK⟩, hS.F ht⟩) hS.2.2 dX1_access_209
          · refine lv_iload hx hb dX1_access_186 (lv_at hl 0 rfl) ?_
            refine lv_bipush (v := (8 : Int32)) hx hb dX1_access_188 (by decide) ?_
            refine lv_iload hx hb dX1_access_190 (lv_at hl 3 rfl) ?_
            refine lv_imul hx hb dX1_access_192 ?_
            refine vp_callSi (W.runS (As := [.int (fx_m_read u1 v6 v5), .int ((8 : Int32) * v5)]) (rest := [.int (fx_m_field0 u1 a0 (1 : Int32)), .ref a.1]) ⟨hx, hb, hml, hown, htb⟩ (ct_m_signed l (fx_m_read u1 v6 v5) ((8 : Int32) * v5)) (va_cwS 2 htb gw_X1_31 rfl rfl rfl (by decide +kernel) ⟨Nat.le_of_ble_eq_true rfl, Nat.le_of_ble_eq_true rfl⟩) jj_pre rfl rfl hl.1 rfl (lv_room (Nat.le_of_ble_eq_true rfl)) dX1_access_193 ⟨Nat.le_of_ble_eq_true rfl, Nat.le_of_ble_eq_true rfl⟩) (fun r9 e9 => ?_)
            subst e9
            refine lv_goto (tgt := 201) hx hb dX1_access_196 (by decide) ?_
            refine mu_callv (va_runV (As := [.int (fx_m_field0 u1 a0 (1 : Int32)), .int (fx_m_signed (fx_m_read u1 v6 v5) ((8 : Int32) * v5))]) (rest := []) ⟨hx, hb, hml, hown, htb⟩ (ct_m_set l dC dI a u1 (fx_m_field0 u1 a0 (1 : Int32)) (fx_m_signed (fx_m_read u1 v6 v5) ((8 : Int32) * v5)) (mu_inX1 _ _)) (cwV 2 htb gw_X1_100 rfl rfl rfl (by decide +kernel) ⟨Nat.le_of_ble_eq_true rfl, Nat.le_of_ble_eq_true rfl⟩) (mu_preW hK hP hd) rfl rfl hl.1 rfl (lv_room (Nat.le_of_ble_eq_true rfl)) dX1_access_201 ⟨Nat.le_of_ble_eq_true rfl, Nat.le_of_ble_eq_true rfl⟩) hS (fun H locs hP hS => ?_)
            refine lv_aload_n hx hb dX1_access_204 rfl (lv_at hl 5 rfl) ?_
            refine lv_iload_n hx hb dX1_access_205 rfl (lv_at hl 7 rfl) ?_
            refine mu_calli (va_runV (As := [.int a1]) (rest := []) ⟨hx, hb, hml, hown, htb⟩ (ct_m_finish l dC dI a (fx_m_set u1 (fx_m_field0 u1 a0 (1 : Int32)) (fx_m_signed (fx_m_read u1 v6 v5) ((8 : Int32) * v5))) a1) (cwV 1 htb gw_X1_117 rfl rfl rfl (by decide +kernel) ⟨Nat.le_of_ble_eq_true rfl, Nat.le_of_ble_eq_true rfl⟩) (mu_preW hK hP hd) rfl rfl hl.1 rfl (lv_room (Nat.le_of_ble_eq_true rfl)) dX1_access_206 ⟨Nat.le_of_ble_eq_true rfl, Nat.le_of_ble_eq_true rfl⟩) hS (fun H locs hP hS => ?_)
            exact W.iret (v := (fx_m_finish (fx_m_set u1 (fx_m_field0 u1 a0 (1 : Int32)) (fx_m_signed (fx_m_read u1 v6 v5) ((8 : Int32) * v5))) a1).1) hx hb hr (fun t ht hW => ⟨⟨(fx_m_finish (fx_m_set u1 (fx_m_field0 u1 a0 (1 : Int32)) (fx_m_signed (fx_m_read u1 v6 v5) ((8 : Int32) * v5))) a1).1, (fx_m_finish (fx_m_set u1 (fx_m_field0 u1 a0 (1 : Int32)) (fx_m_signed (fx_m_read u1 v6 v5) ((8 : Int32) * v5))) a1).2, rfl, (by have hF := hF; unfold fx_m_access_at84 at hF; rw [if_pos c1, if_neg c2, if_pos c3, if_neg c4] at hF; exact hF), by rw [ht]; exact hP, va_K.moved hW.alike hK⟩, hS.F ht⟩) hS.2.2 dX1_access_209
        · refine lv_aload_n hx hb dX1_access_141 rfl (lv_at hl 4 rfl) ?_
          refine lv_iload hx hb dX1_access_142 (lv_at hl 3 rfl) ?_
          refine lv_iload hx hb dX1_access_144 (lv_at hl 2 rfl) ?_
          refine lv_aload_n hx hb dX1_access_146 rfl (lv_at hl 4 rfl) ?_
          refine va_get (D := (dC, dI)) (ci := 1) (v := .ref a.2.2.1) (C := RX1) (T := TX1) (N := 7) hx hb htb inX1 hown hK hP 0 rfl rfl 1 (by decide) (htb _ iw_f_X1_13) (fun _ h9 => h9) rfl dX1_access_147 ?_
          refine lv_aload_n hx hb dX1_access_150 rfl (lv_at hl 4 rfl) ?_
          refine lv_iload_n hx hb dX1_access_151 rfl (lv_at hl 5 rfl) ?_
          refine lv_iconst (v := (4 : Int32)) hx hb dX1_access_152 (by decide) ?_
          refine vp_callSi (W.runV (As := [.int a0, .int (4 : Int32)]) (rest := [.ref a.2.2.1, .int v5, .int v6, .ref a.1]) ⟨hx, hb, hml, hown, htb⟩ (ct_m_field0 l dC dI a u1 a0 (4 : Int32) (by decide)) (cwV 2 htb gw_X1_40 rfl rfl rfl (by decide +kernel) ⟨Nat.le_of_ble_eq_true rfl, Nat.le_of_ble_eq_true rfl⟩) (mu_preR hK hP) rfl rfl hl.1 rfl (lv_room (Nat.le_of_ble_eq_true rfl)) dX1_access_153 ⟨Nat.le_of_ble_eq_true rfl, Nat.le_of_ble_eq_true rfl⟩) (fun r9 e9 => ?_)
          subst e9
          refine va_iald hx hb hK hP 2 1 (cA := a.2.2.2.2) (n := 32) (f := u1.2.1) rfl rfl (mu_inX4 _ _) dX1_access_156 ?_
          refine mu_callv (va_runV (As := [.int v6, .int v5, .int (u1.2.1 ((fx_m_field0 u1 a0 (4 : Int32))).toNatClampNeg)]) (rest := []) ⟨hx, hb, hml, hown, htb⟩ (ct_m_write l dC dI a u1 v6 v5 (u1.2.1 ((fx_m_field0 u1 a0 (4 : Int32))).toNatClampNeg) (mt_ok (mc_rng hI) c2)) (cwV 3 htb gw_X1_93 rfl rfl rfl (by decide +kernel) ⟨Nat.le_of_ble_eq_true rfl, Nat.le_of_ble_eq_true rfl⟩) (mu_preW hK hP hd) rfl rfl hl.1 rfl (lv_room (Nat.le_of_ble_eq_true rfl)) dX1_access_157 ⟨Nat.le_of_ble_eq_true rfl, Nat.le_of_ble_eq_true rfl⟩) hS (fun H locs hP hS => ?_)
          refine lv_goto (tgt := 204) hx hb dX1_access_160 (by decide) ?_
          refine lv_aload_n hx hb dX1_access_204 rfl (lv_at hl 4 rfl) ?_
          refine lv_iload_n hx hb dX1_access_205 rfl (lv_at hl 6 rfl) ?_
          refine mu_calli (va_runV (As := [.int a1]) (rest := []) ⟨hx, hb, hml, hown, htb⟩ (ct_m_finish l dC dI a (fx_m_write u1 v6 v5 (u1.2.1 ((fx_m_field0 u1 a0 (4 : Int32))).toNatClampNeg)) a1) (cwV 1 htb gw_X1_117 rfl rfl rfl (by decide +kernel) ⟨Nat.le_of_ble_eq_true rfl, Nat.le_of_ble_eq_true rfl⟩) (mu_preW hK hP hd) rfl rfl hl.1 rfl (lv_room (Nat.le_of_ble_eq_true rfl)) dX1_access_206 ⟨Nat.le_of_ble_eq_true rfl, Nat.le_of_ble_eq_true rfl⟩) hS (fun H locs hP hS => ?_)
          exact W.iret (v := (fx_m_finish (fx_m_write u1 v6 v5 (u1.2.1 ((fx_m_field0 u1 a0 (4 : Int32))).toNatClampNeg)) a1).1) hx hb hr (fun t ht hW => ⟨⟨(fx_m_finish (fx_m_write u1 v6 v5 (u1.2.1 ((fx_m_field0 u1 a0 (4 : Int32))).toNatClampNeg)) a1).1, (fx_m_finish (fx_m_write u1 v6 v5 (u1.2.1 ((fx_m_field0 u1 a0 (4 : Int32))).toNatClampNeg)) a1).2, rfl, (by have hF := hF; unfold fx_m_access_at84 at hF; rw [if_pos c1, if_neg c2, if_neg c3] at hF; exact hF), by rw [ht]; exact hP, va_K.moved hW.alike hK⟩, hS.F ht⟩) hS.2.2 dX1_access_209
      · refine lv_aload_n hx hb dX1_access_120 rfl (lv_at hl 4 rfl) ?_
        refine lv_iload_n hx hb dX1_access_121 rfl (lv_at hl 0 rfl) ?_
        refine lv_if_eq (tgt := 130) hx hb dX1_access_122 (by decide) (fun c5 => ?_) (fun c5 => ?_)
        · refine lv_iconst (v := (5 : Int32)) hx hb dX1_access_130 (by decide) ?_
          refine lv_iload hx hb dX1_access_131 (lv_at hl 3 rfl) ?_
          refine mu_calli (va_runV (As := [.int (5 : Int32), .int v6]) (rest := []) ⟨hx, hb, hml, hown, htb⟩ (ct_m_fail l dC dI a u1 (5 : Int32) v6) (cwV 2 htb gw_X1_121 rfl rfl rfl (by decide +kernel) ⟨Nat.le_of_ble_eq_true rfl, Nat.le_of_ble_eq_true rfl⟩) (mu_preW hK hP hd) rfl rfl hl.1 rfl (lv_room (Nat.le_of_ble_eq_true rfl)) dX1_access_133 ⟨Nat.le_of_ble_eq_true rfl, Nat.le_of_ble_eq_true rfl⟩) hS (fun H locs hP hS => ?_)
          exact W.iret (v := (fx_m_fail u1 (5 : Int32) v6).1) hx hb hr (fun t ht hW => ⟨⟨(fx_m_fail u1 (5 : Int32) v6).1, (fx_m_fail u1 (5 : Int32) v6).2, rfl, (by have hF := hF; unfold fx_m_access_at84 at hF; rw [if_pos c1, if_pos c2, if_pos c5] at hF; exact hF), by rw [ht]; exact hP, va_K.moved hW.alike hK⟩, hS.F ht⟩) hS.2.2 dX1_access_136
        · refine lv_bipush (v := (7 : Int32)) hx hb dX1_access_125 (by decide) ?_
          refine lv_goto (tgt := 131) hx hb dX1_access_127 (by decide) ?_
          refine lv_iload hx hb dX1_access_131 (lv_at hl 3 rfl) ?_
          refine mu_calli (va_runV (As := [.int (7 : Int32), .int v6]) (rest := []) ⟨hx, hb, hml, hown, htb⟩ (ct_m_fail l dC dI a u1 (7 : Int32) v6) (cwV 2 htb gw_X1_121 rfl rfl rfl (by decide +kernel) ⟨Nat.le_of_ble_eq_true rfl, Nat.le_of_ble_eq_true rfl⟩) (mu_preW hK hP hd) rfl rfl hl.1 rfl (lv_room (Nat.le_of_ble_eq_true rfl)) dX1_access_133 ⟨Nat.le_of_ble_eq_true rfl, Nat.le_of_ble_eq_true rfl⟩) hS (fun H locs hP hS => ?_)
          exact W.iret (v := (fx_m_fail u1 (7 : Int32) v6).1) hx hb hr (fun t ht hW => ⟨⟨(fx_m_fail u1 (7 : Int32) v6).1, (fx_m_fail u1 (7 : Int32) v6).2, rfl, (by have hF := hF; unfold fx_m_access_at84 at hF; rw [if_pos c1, if_pos c2, if_neg c5] at hF; exact hF), by rw [ht]; exact hP, va_K.moved hW.alike hK⟩, hS.F ht⟩) hS.2.2 dX1_access_136
    · refine lv_aload_n hx hb dX1_access_92 rfl (lv_at hl 4 rfl) ?_
      refine lv_iload_n hx hb dX1_access_93 rfl (lv_at hl 0 rfl) ?_
      refine lv_if_eq (tgt := 102) hx hb dX1_access_94 (by decide) (fun c6 => ?_) (fun c6 => ?_)
      · refine lv_iconst (v := (4 : Int32)) hx hb dX1_access_102 (by decide) ?_
        refine lv_iload hx hb dX1_access_103 (lv_at hl 3 rfl) ?_
        refine mu_calli (va_runV (As := [.int (4 : Int32), .int v6]) (rest := []) ⟨hx, hb, hml, hown, htb⟩ (ct_m_fail l dC dI a u1 (4 : Int32) v6) (cwV 2 htb gw_X1_121 rfl rfl rfl (by decide +kernel) ⟨Nat.le_of_ble_eq_true rfl, Nat.le_of_ble_eq_true rfl⟩) (mu_preW hK hP hd) rfl rfl hl.1 rfl (lv_room (Nat.le_of_ble_eq_true rfl)) dX1_access_105 ⟨Nat.le_of_ble_eq_true rfl, Nat.le_of_ble_eq_true rfl⟩) hS (fun H locs hP hS => ?_)
        exact W.iret (v := (fx_m_fail u1 (4 : Int32) v6).1) hx hb hr (fun t ht hW => ⟨⟨(fx_m_fail u1 (4 : Int32) v6).1, (fx_m_fail u1 (4 : Int32) v6).2, rfl, (by have hF := hF; unfold fx_m_access_at84 at hF; rw [if_neg c1, if_pos c6] at hF; exact hF), by rw [ht]; exact hP, va_K.moved hW.alike hK⟩, hS.F ht⟩) hS.2.2 dX1_access_108
      · refine lv_bipush (v := (6 : Int32)) hx hb dX1_access_97 (by decide) ?_
        refine lv_goto (tgt := 103) hx hb dX1_access_99 (by decide) ?_
        refine lv_iload hx hb dX1_access_103 (lv_at hl 3 rfl) ?_
        refine mu_calli (va_runV (As := [.int (6 : Int32), .int v6]) (rest := []) ⟨hx, hb, hml, hown, htb⟩ (ct_m_fail l dC dI a u1 (6 : Int32) v6) (cwV 2 htb gw_X1_121 rfl rfl rfl (by decide +kernel) ⟨Nat.le_of_ble_eq_true rfl, Nat.le_of_ble_eq_true rfl⟩) (mu_preW hK hP hd) rfl rfl hl.1 rfl (lv_room (Nat.le_of_ble_eq_true rfl)) dX1_access_105 ⟨Nat.le_of_ble_eq_true rfl, Nat.le_of_ble_eq_true rfl⟩) hS (fun H locs hP hS => ?_)
        exact W.iret (v := (fx_m_fail u1 (6 : Int32) v6).1) hx hb hr (fun t ht hW => ⟨⟨(fx_m_fail u1 (6 : Int32) v6).1, (fx_m_fail u1 (6 : Int32) v6).2, rfl, (by have hF := hF; unfold fx_m_access_at84 at hF; rw [if_neg c1, if_neg c6] at hF; exact hF), by rw [ht]; exact hP, va_K.moved hW.alike hK⟩, hS.F ht⟩) hS.2.2 dX1_access_108
  refine lv_aload_n hx hb dX1_access_0 rfl (lv_at hl 0 rfl) ?_
  refine lv_iload_n hx hb dX1_access_1 rfl (lv_at hl 1 rfl) ?_
  refine lv_iconst (v := (0 : Int32)) hx hb dX1_access_2 (by decide) ?_
  refine vp_callSi (W.runV (As := [.int a0, .int (0 : Int32)]) (rest := []) ⟨hx, hb, hml, hown, htb⟩ (ct_m_field0 l dC dI a u a0 (0 : Int32) (by decide)) (cwV 2 htb gw_X1_40 rfl rfl rfl (by decide +kernel) ⟨Nat.le_of_ble_eq_true rfl, Nat.le_of_ble_eq_true rfl⟩) (mu_preR hK hP) rfl rfl hl.1 rfl (lv_room (Nat.le_of_ble_eq_true rfl)) dX1_access_3 ⟨Nat.le_of_ble_eq_true rfl, Nat.le_of_ble_eq_true rfl⟩) (fun r9 e9 => ?_)
  subst e9
  refine lv_bipush (v := (35 : Int32)) hx hb dX1_access_6 (by decide) ?_
  refine lv_icmp_ne (tgt := 15) hx hb dX1_access_8 (by decide) (fun c7 => ?_) (fun c7 => ?_)
  · refine lv_iconst (v := (0 : Int32)) hx hb dX1_access_15 (by decide) ?_
    refine lv_istore_n (lv' := [(3, .int (0 : Int32)), (0, .ref a.1), (1, .int a0), (2, .int a1)]) hx hb dX1_access_16 rfl hl (by decide) rfl (fun ls hl => ?_)
    refine lv_aload_n hx hb dX1_access_17 rfl (lv_at hl 1 rfl) ?_
    refine lv_iload_n hx hb dX1_access_18 rfl (lv_at hl 2 rfl) ?_
    refine lv_iconst (v := (2 : Int32)) hx hb dX1_access_19 (by decide) ?_
    refine vp_callSi (W.runV (As := [.int a0, .int (2 : Int32)]) (rest := []) ⟨hx, hb, hml, hown, htb⟩ (ct_m_field0 l dC dI a u a0 (2 : Int32) (by decide)) (cwV 2 htb gw_X1_40 rfl rfl rfl (by decide +kernel) ⟨Nat.le_of_ble_eq_true rfl, Nat.le_of_ble_eq_true rfl⟩) (mu_preR hK hP) rfl rfl hl.1 rfl (lv_room (Nat.le_of_ble_eq_true rfl)) dX1_access_20 ⟨Nat.le_of_ble_eq_true rfl, Nat.le_of_ble_eq_true rfl⟩) (fun r9 e9 => ?_)
    subst e9
    refine lv_istore (lv' := [(4, .int (fx_m_field0 u a0 (2 : Int32))), (3, .int (0 : Int32)), (0, .ref a.1), (1, .int a0), (2, .int a1)]) hx hb dX1_access_23 hl (by decide) rfl (fun ls hl => ?_)
    refine lv_iload hx hb dX1_access_25 (lv_at hl 0 rfl) ?_
    refine lv_iconst (v := (4 : Int32)) hx hb dX1_access_27 (by decide) ?_
    refine lv_irem hx hb dX1_access_28 (by decide) ?_
    refine lv_if_ne (tgt := 36) hx hb dX1_access_29 (by decide) (fun c8 => ?_) (fun c8 => ?_)
    · refine lv_iload hx hb dX1_access_36 (lv_at hl 0 rfl) ?_
      refine lv_iconst (v := (4 : Int32)) hx hb dX1_access_38 (by decide) ?_
      refine lv_irem hx hb dX1_access_39 (by decide) ?_
      refine lv_iconst (v := (1 : Int32)) hx hb dX1_access_40 (by decide) ?_
      refine lv_icmp_ne (tgt := 48) hx hb dX1_access_41 (by decide) (fun c9 => ?_) (fun c9 => ?_)
      · refine lv_iconst (v := (4 : Int32)) hx hb dX1_access_48 (by decide) ?_
        refine lv_istore (lv' := [(5, .int (4 : Int32)), (4, .int (fx_m_field0 u a0 (2 : Int32))), (3, .int (0 : Int32)), (0, .ref a.1), (1, .int a0), (2, .int a1)]) hx hb dX1_access_49 hl (by decide) rfl (fun ls hl => ?_)
        refine lv_aload_n hx hb dX1_access_51 rfl (lv_at hl 3 rfl) ?_
        refine va_get (D := (dC, dI)) (ci := 1) (v := .ref a.2.2.1) (C := RX1) (T := TX1) (N := 7) hx hb htb inX1 hown hK hP 0 rfl rfl 1 (by decide) (htb _ iw_f_X1_13) (fun _ h9 => h9) rfl dX1_access_52 ?_
        refine lv_aload_n hx hb dX1_access_55 rfl (lv_at hl 3 rfl) ?_
        refine lv_iload_n hx hb dX1_access_56 rfl (lv_at hl 4 rfl) ?_
        refine lv_iconst (v := (3 : Int32)) hx hb dX1_access_57 (by decide) ?_
        refine vp_callSi (W.runV (As := [.int a0, .int (3 : Int32)]) (rest := [.ref a.2.2.1]) ⟨hx, hb, hml, hown, htb⟩ (ct_m_field0 l dC dI a u a0 (3 : Int32) (by decide)) (cwV 2 htb gw_X1_40 rfl rfl rfl (by decide +kernel) ⟨Nat.le_of_ble_eq_true rfl, Nat.le_of_ble_eq_true rfl⟩) (mu_preR hK hP) rfl rfl hl.1 rfl (lv_room (Nat.le_of_ble_eq_true rfl)) dX1_access_58 ⟨Nat.le_of_ble_eq_true rfl, Nat.le_of_ble_eq_true rfl⟩) (fun r9 e9 => ?_)
        subst e9
        refine va_iald hx hb hK hP 2 1 (cA := a.2.2.2.2) (n := 32) (f := u.2.1) rfl rfl (mu_inX3 _ _) dX1_access_61 ?_
        refine lv_i2l (v := (((u.2.1 ((fx_m_field0 u a0 (3 : Int32))).toNatClampNeg)).toInt64)) hx hb dX1_access_62 rfl ?_
        refine lv_aload_n hx hb dX1_access_63 rfl (lv_at hl 3 rfl) ?_
        refine lv_iload_n hx hb dX1_access_64 rfl (lv_at hl 4 rfl) ?_
        refine lv_iload_n hx hb dX1_access_65 rfl (lv_at hl 2 rfl) ?_
        refine lv_if_eq (tgt := 74) hx hb dX1_access_66 (by decide) (fun c10 => ?_) (fun c10 => ?_)
        · refine lv_bipush (v := (6 : Int32)) hx hb dX1_access_74 (by decide) ?_
          refine vp_callSi (W.runV (As := [.int a0, .int (6 : Int32)]) (rest := [.long (((u.2.1 ((fx_m_field0 u a0 (3 : Int32))).toNatClampNeg)).toInt64)]) ⟨hx, hb, hml, hown, htb⟩ (ct_m_field0 l dC dI a u a0 (6 : Int32) (by decide)) (cwV 2 htb gw_X1_40 rfl rfl rfl (by decide +kernel) ⟨Nat.le_of_ble_eq_true rfl, Nat.le_of_ble_eq_true rfl⟩) (mu_preR hK hP) rfl rfl hl.1 rfl (lv_room (Nat.le_of_ble_eq_true rfl)) dX1_access_76 ⟨Nat.le_of_ble_eq_true rfl, Nat.le_of_ble_eq_true rfl⟩) (fun r9 e9 => ?_)
          subst e9
          refine lv_i2l (v := (((fx_m_field0 u a0 (6 : Int32))).toInt64)) hx hb dX1_access_79 rfl ?_
          refine lv_ladd hx hb dX1_access_80 ?_
          refine lv_l2i (v := ((((((u.2.1 ((fx_m_field0 u a0 (3 : Int32))).toNatClampNeg)).toInt64) + (((fx_m_field0 u a0 (6 : Int32))).toInt64))).toInt32)) hx hb dX1_access_81 rfl ?_
          refine lv_istore (lv' := [(6, .int ((((((u.2.1 ((fx_m_field0 u a0 (3 : Int32))).toNatClampNeg)).toInt64) + (((fx_m_field0 u a0 (6 : Int32))).toInt64))).toInt32)), (5, .int (4 : Int32)), (4, .int (fx_m_field0 u a0 (2 : Int32))), (3, .int (0 : Int32)), (0, .ref a.1), (1, .int a0), (2, .int a1)]) hx hb dX1_access_82 hl (by decide) rfl (fun ls hl => ?_)
          exact cut84 u (0 : Int32) (fx_m_field0 u a0 (2 : Int32)) (4 : Int32) ((((((u.2.1 ((fx_m_field0 u a0 (3 : Int32))).toNatClampNeg)).toInt64) + (((fx_m_field0 u a0 (6 : Int32))).toInt64))).toInt32) _ _ _ (by decide) (by unfold fx_m_access; rw [if_neg c7, if_neg c8, if_neg c9]) hP hS (lv_sub hl [3, 2, 1, 0, 4, 5, 6] rfl)
        · exact absurd c10 (by decide)
      · refine lv_iconst (v := (2 : Int32)) hx hb dX1_access_44 (by decide) ?_
        refine lv_goto (tgt := 49) hx hb dX1_access_45 (by decide) ?_
        refine lv_istore (lv' := [(5, .int (2 : Int32)), (4, .int (fx_m_field0 u a0 (2 : Int32))), (3, .int (0 : Int32)), (0, .ref a.1), (1, .int a0), (2, .int a1)]) hx hb dX1_access_49 hl (by decide) rfl (fun ls hl => ?_)
        refine lv_aload_n hx hb dX1_access_51 rfl (lv_at hl 3 rfl) ?_
        refine va_get (D := (dC, dI)) (ci := 1) (v := .ref a.2.2.1) (C := RX1) (T := TX1) (N := 7) hx hb htb inX1 hown hK hP 0 rfl rfl 1 (by decide) (htb _ iw_f_X1_13) (fun _ h9 => h9) rfl dX1_access_52 ?_
        refine lv_aload_n hx hb dX1_access_55 rfl (lv_at hl 3 rfl) ?_
        refine lv_iload_n hx hb dX1_access_56 rfl (lv_at hl 4 rfl) ?_
        refine lv_iconst (v := (3 : Int32)) hx hb dX1_access_57 (by decide) ?_
        refine vp_callSi (W.runV (As := [.int a0, .int (3 : Int32)]) (rest := [.ref a.2.2.1]) ⟨hx, hb, hml, hown, htb⟩ (ct_m_field0 l dC dI a u a0 (3 : Int32) (by decide)) (cwV 2 htb gw_X1_40 rfl rfl rfl (by decide +kernel) ⟨Nat.le_of_ble_eq_true rfl, Nat.le_of_ble_eq_true rfl⟩) (mu_preR hK hP) rfl rfl hl.1 rfl (lv_room (Nat.le_of_ble_eq_true rfl)) dX1_access_58 ⟨Nat.le_of_ble_eq_true rfl, Nat.le_of_ble_eq_true rfl⟩) (fun r9 e9 => ?_)
        subst e9
        refine va_iald hx hb hK hP 2 1 (cA := a.2.2.2.2) (n := 32) (f := u.2.1) rfl rfl (mu_inX3 _ _) dX1_access_61 ?_
        refine lv_i2l (v := (((u.2.1 ((fx_m_field0 u a0 (3 : Int32))).toNatClampNeg)).toInt64)) hx hb dX1_access_62 rfl ?_
        refine lv_aload_n hx hb dX1_access_63 rfl (lv_at hl 3 rfl) ?_
        refine lv_iload_n hx hb dX1_access_64 rfl (lv_at hl 4 rfl) ?_
        refine lv_iload_n hx hb dX1_access_65 rfl (lv_at hl 2 rfl) ?_
        refine lv_if_eq (tgt := 74) hx hb dX1_access_66 (by decide) (fun c11 => ?_) (fun c11 => ?_)
        · refine lv_bipush (v := (6 : Int32)) hx hb dX1_access_74 (by decide) ?_
          refine vp_callSi (W.runV (As := [.int a0, .int (6 : Int32)]) (rest := [.long (((u.2.1 ((fx_m_field0 u a0 (3 : Int32))).toNatClampNeg)).toInt64)]) ⟨hx, hb, hml, hown, htb⟩ (ct_m_field0 l dC dI a u a0 (6 : Int32) (by decide)) (cwV 2 htb gw_X1_40 rfl rfl rfl (by decide +kernel) ⟨Nat.le_of_ble_eq_true rfl, Nat.le_of_ble_eq_true rfl⟩) (mu_preR hK hP) rfl rfl hl.1 rfl (lv_room (Nat.le_of_ble_eq_true rfl)) dX1_access_76 ⟨Nat.le_of_ble_eq_true rfl, Nat.le_of_ble_eq_true rfl⟩) (fun r9 e9 => ?_)
          subst e9
          refine lv_i2l (v := (((fx_m_field0 u a0 (6 : Int32))).toInt64)) hx hb dX1_access_79 rfl ?_
          refine lv_ladd hx hb dX1_access_80 ?_
          refine lv_l2i (v := ((((((u.2.1 ((fx_m_field0 u a0 (3 : Int32))).toNatClampNeg)).toInt64) + (((fx_m_field0 u a0 (6 : Int32))).toInt64))).toInt32)) hx hb dX1_access_81 rfl ?_
          refine lv_istore (lv' := [(6, .int ((((((u.2.1 ((fx_m_field0 u a0 (3 : Int32))).toNatClampNeg)).toInt64) + (((fx_m_field0 u a0 (6 : Int32))).toInt64))).toInt32)), (5, .int (2 : Int32)), (4, .int (fx_m_field0 u a0 (2 : Int32))), (3, .int (0 : Int32)), (0, .ref a.1), (1, .int a0), (2, .int a1)]) hx hb dX1_access_82 hl (by decide) rfl (fun ls hl => ?_)
          exact cut84 u (0 : Int32) (fx_m_field0 u a0 (2 : Int32)) (2 : Int32) ((((((u.2.1 ((fx_m_field0 u a0 (3 : Int32))).toNatClampNeg)).toInt64) + (((fx_m_field0 u a0 (6 : Int32))).toInt64))).toInt32) _ _ _ (by decide) (by unfold fx_m_access; rw [if_neg c7, if_neg c8, if_pos c9]) hP hS (lv_sub hl [3, 2, 1, 0, 4, 5, 6] rfl)
        · exact absurd c11 (by decide)
    · refine lv_iconst (v := (1 : Int32)) hx hb dX1_access_32 (by decide) ?_
      refine lv_goto (tgt := 49) hx hb dX1_access_33 (by decide) ?_
      refine lv_istore (lv' := [(5, .int (1 : Int32)), (4, .int (fx_m_field0 u a0 (2 : Int32))), (3, .int (0 : Int32)), (0, .ref a.1), (1, .int a0), (2, .int a1)]) hx hb dX1_access_49 hl (by decide) rfl (fun ls hl => ?_)
      refine lv_aload_n hx hb dX1_access_51 rfl (lv_at hl 3 rfl) ?_
      refine va_get (D := (dC, dI)) (ci := 1) (v := .ref a.2.2.1) (C := RX1) (T := TX1) (N := 7) hx hb htb inX1 hown hK hP 0 rfl rfl 1 (by decide) (htb _ iw_f_X1_13) (fun _ h9 => h9) rfl dX1_access_52 ?_
      refine lv_aload_n hx hb dX1_access_55 rfl (lv_at hl 3 rfl) ?_
      refine lv_iload_n hx hb dX1_access_56 rfl (lv_at hl 4 rfl) ?_
      refine lv_iconst (v := (3 : Int32)) hx hb dX1_access_57 (by decide) ?_
      refine vp_callSi (W.runV (As := [.int a0, .int (3 : Int32)]) (rest := [.ref a.2.2.1]) ⟨hx, hb, hml, hown, htb⟩ (ct_m_field0 l dC dI a u a0 (3 : Int32) (by decide)) (cwV 2 htb gw_X1_40 rfl rfl rfl (by decide +kernel) ⟨Nat.le_of_ble_eq_true rfl, Nat.le_of_ble_eq_true rfl⟩) (mu_preR hK hP) rfl rfl hl.1 rfl (lv_room (Nat.le_of_ble_eq_true rfl)) dX1_access_58 ⟨Nat.le_of_ble_eq_true rfl, Nat.le_of_ble_eq_true rfl⟩) (fun r9 e9 => ?_)
      subst e9
      refine va_iald hx hb hK hP 2 1 (cA := a.2.2.2.2) (n := 32) (f := u.2.1) rfl rfl (mu_inX3 _ _) dX1_access_61 ?_
      refine lv_i2l (v := (((u.2.1 ((fx_m_field0 u a0 (3 : Int32))).toNatClampNeg)).toInt64)) hx hb dX1_access_62 rfl ?_
      refine lv_aload_n hx hb dX1_access_63 rfl (lv_at hl 3 rfl) ?_
      refine lv_iload_n hx hb dX1_access_64 rfl (lv_at hl 4 rfl) ?_
      refine lv_iload_n hx hb dX1_access_65 rfl (lv_at hl 2 rfl) ?_
      refine lv_if_eq (tgt := 74) hx hb dX1_access_66 (by decide) (fun c12 => ?_) (fun c12 => ?_)
      · refine lv_bipush (v := (6 : Int32)) hx hb dX1_access_74 (by decide) ?_
        refine vp_callSi (W.runV (As := [.int a0, .int (6 : Int32)]) (rest := [.long (((u.2.1 ((fx_m_field0 u a0 (3 : Int32))).toNatClampNeg)).toInt64)]) ⟨hx, hb, hml, hown, htb⟩ (ct_m_field0 l dC dI a u a0 (6 : Int32) (by decide)) (cwV 2 htb gw_X1_40 rfl rfl rfl (by decide +kernel) ⟨Nat.le_of_ble_eq_true rfl, Nat.le_of_ble_eq_true rfl⟩) (mu_preR hK hP) rfl rfl hl.1 rfl (lv_room (Nat.le_of_ble_eq_true rfl)) dX1_access_76 ⟨Nat.le_of_ble_eq_true rfl, Nat.le_of_ble_eq_true rfl⟩) (fun r9 e9 => ?_)
        subst e9
        refine lv_i2l (v := (((fx_m_field0 u a0 (6 : Int32))).toInt64)) hx hb dX1_access_79 rfl ?_
        refine lv_ladd hx hb dX1_access_80 ?_
        refine lv_l2i (v := ((((((u.2.1 ((fx_m_field0 u a0 (3 : Int32))).toNatClampNeg)).toInt64) + (((fx_m_field0 u a0 (6 : Int32))).toInt64))).toInt32)) hx hb dX1_access_81 rfl ?_
        refine lv_istore (lv' := [(6, .int ((((((u.2.1 ((fx_m_field0 u a0 (3 : Int32))).toNatClampNeg)).toInt64) + (((fx_m_field0 u a0 (6 : Int32))).toInt64))).toInt32)), (5, .int (1 : Int32)), (4, .int (fx_m_field0 u a0 (2 : Int32))), (3, .int (0 : Int32)), (0, .ref a.1), (1, .int a0), (2, .int a1)]) hx hb dX1_access_82 hl (by decide) rfl (fun ls hl => ?_)
        exact cut84 u (0 : Int32) (fx_m_field0 u a0 (2 : Int32)) (1 : Int32) ((((((u.2.1 ((fx_m_field0 u a0 (3 : Int32))).toNatClampNeg)).toInt64) + (((fx_m_field0 u a0 (6 : Int32))).toInt64))).toInt32) _ _ _ (by decide) (by unfold fx_m_access; rw [if_neg c7, if_pos c8]) hP hS (lv_sub hl [3, 2, 1, 0, 4, 5, 6] rfl)
      · exact absurd c12 (by decide)
  · refine lv_iconst (v := (1 : Int32)) hx hb dX1_access_11 (by decide) ?_
    refine lv_goto (tgt := 16) hx hb dX1_access_12 (by decide) ?_
    refine lv_istore_n (lv' := [(3, .int (1 : Int32)), (0, .ref a.1), (1, .int a0), (2, .int a1)]) hx hb dX1_access_16 rfl hl (by decide) rfl (fun ls hl => ?_)
    refine lv_aload_n hx hb dX1_access_17 rfl (lv_at hl 1 rfl) ?_
    refine lv_iload_n hx hb dX1_access_18 rfl (lv_at hl 2 rfl) ?_
    refine lv_iconst (v := (2 : Int32)) hx hb dX1_access_19 (by decide) ?_
    refine vp_callSi (W.runV (As := [.int a0, .int (2 : Int32)]) (rest := []) ⟨hx, hb, hml, hown, htb⟩ (ct_m_field0 l dC dI a u a0 (2 : Int32) (by decide)) (cwV 2 htb gw_X1_40 rfl rfl rfl (by decide +kernel) ⟨Nat.le_of_ble_eq_true rfl, Nat.le_of_ble_eq_true rfl⟩) (mu_preR hK hP) rfl rfl hl.1 rfl (lv_room (Nat.le_of_ble_eq_true rfl)) dX1_access_20 ⟨Nat.le_of_ble_eq_true rfl, Nat.le_of_ble_eq_true rfl⟩) (fun r9 e9 => ?_)
    subst e9
    refine lv_istore (lv' := [(4, .int (fx_m_field0 u a0 (2 : Int32))), (3, .int (1 : Int32)), (0, .ref a.1), (1, .int a0), (2, .int a1)]) hx hb dX1_access_23 hl (by decide) rfl (fun ls hl => ?_)
    refine lv_iload hx hb dX1_access_25 (lv_at hl 0 rfl) ?_
    refine lv_iconst (v := (4 : Int32)) hx hb dX1_access_27 (by decide) ?_
    refine lv_irem hx hb dX1_access_28 (by decide) ?_
    refine lv_if_ne (tgt := 36) hx hb dX1_access_29 (by decide) (fun c13 => ?_) (fun c13 => ?_)
    · refine lv_iload hx hb dX1_access_36 (lv_at hl 0 rfl) ?_
      refine lv_iconst (v := (4 : Int32)) hx hb dX1_access_38 (by decide) ?_
      refine lv_irem hx hb dX1_access_39 (by decide) ?_
      refine lv_iconst (v := (1 : Int32)) hx hb dX1_access_40 (by decide) ?_
      refine lv_icmp_ne (tgt := 48) hx hb dX1_access_41 (by decide) (fun c14 => ?_) (fun c14 => ?_)
      · refine lv_iconst (v := (4 : Int32)) hx hb dX1_access_48 (by decide) ?_
        refine lv_istore (lv' := [(5, .int (4 : Int32)), (4, .int (fx_m_field0 u a0 (2 : Int32))), (3, .int (1 : Int32)), (0, .ref a.1), (1, .int a0), (2, .int a1)]) hx hb dX1_access_49 hl (by decide) rfl (fun ls hl => ?_)
        refine lv_aload_n hx hb dX1_access_51 rfl (lv_at hl 3 rfl) ?_
        refine va_get (D := (dC, dI)) (ci := 1) (v := .ref a.2.2.1) (C := RX1) (T := TX1) (N := 7) hx hb htb inX1 hown hK hP 0 rfl rfl 1 (by decide) (htb _ iw_f_X1_13) (fun _ h9 => h9) rfl dX1_access_52 ?_
        refine lv_aload_n hx hb dX1_access_55 rfl (lv_at hl 3 rfl) ?_
        refine lv_iload_n hx hb dX1_access_56 rfl (lv_at hl 4 rfl) ?_
        refine lv_iconst (v := (3 : Int32)) hx hb dX1_access_57 (by decide) ?_
        refine vp_callSi (W.runV (As := [.int a0, .int (3 : Int32)]) (rest := [.ref a.2.2.1]) ⟨hx, hb, hml, hown, htb⟩ (ct_m_field0 l dC dI a u a0 (3 : Int32) (by decide)) (cwV 2 htb gw_X1_40 rfl rfl rfl (by decide +kernel) ⟨Nat.le_of_ble_eq_true rfl, Nat.le_of_ble_eq_true rfl⟩) (mu_preR hK hP) rfl rfl hl.1 rfl (lv_room (Nat.le_of_ble_eq_true rfl)) dX1_access_58 ⟨Nat.le_of_ble_eq_true rfl, Nat.le_of_ble_eq_true rfl⟩) (fun r9 e9 => ?_)
        subst e9
        refine va_iald hx hb hK hP 2 1 (cA := a.2.2.2.2) (n := 32) (f := u.2.1) rfl rfl (mu_inX3 _ _) dX1_access_61 ?_
        refine lv_i2l (v := (((u.2.1 ((fx_m_field0 u a0 (3 : Int32))).toNatClampNeg)).toInt64)) hx hb dX1_access_62 rfl ?_
        refine lv_aload_n hx hb dX1_access_63 rfl (lv_at hl 3 rfl) ?_
        refine lv_iload_n hx hb dX1_access_64 rfl (lv_at hl 4 rfl) ?_
        refine lv_iload_n hx hb dX1_access_65 rfl (lv_at hl 2 rfl) ?_
        refine lv_if_eq (tgt := 74) hx hb dX1_access_66 (by decide) (fun c15 => ?_) (fun c15 => ?_)
        · exact absurd c15 (by decide)
        · refine lv_bipush (v := (7 : Int32)) hx hb dX1_access_69 (by decide) ?_
          refine lv_goto (tgt := 76) hx hb dX1_access_71 (by decide) ?_
          refine vp_callSi (W.runV (As := [.int a0, .int (7 : Int32)]) (rest := [.long (((u.2.1 ((fx_m_field0 u a0 (3 : Int32))).toNatClampNeg)).toInt64)]) ⟨hx, hb, hml, hown, htb⟩ (ct_m_field0 l dC dI a u a0 (7 : Int32) (by decide)) (cwV 2 htb gw_X1_40 rfl rfl rfl (by decide +kernel) ⟨Nat.le_of_ble_eq_true rfl, Nat.le_of_ble_eq_true rfl⟩) (mu_preR hK hP) rfl rfl hl.1 rfl (lv_room (Nat.le_of_ble_eq_true rfl)) dX1_access_76 ⟨Nat.le_of_ble_eq_true rfl, Nat.le_of_ble_eq_true rfl⟩) (fun r9 e9 => ?_)
          subst e9
          refine lv_i2l (v := (((fx_m_field0 u a0 (7 : Int32))).toInt64)) hx hb dX1_access_79 rfl ?_
          refine lv_ladd hx hb dX1_access_80 ?_
          refine lv_l2i (v := ((((((u.2.1 ((fx_m_field0 u a0 (3 : Int32))).toNatClampNeg)).toInt64) + (((fx_m_field0 u a0 (7 : Int32))).toInt64))).toInt32)) hx hb dX1_access_81 rfl ?_
          refine lv_istore (lv' := [(6, .int ((((((u.2.1 ((fx_m_field0 u a0 (3 : Int32))).toNatClampNeg)).toInt64) + (((fx_m_field0 u a0 (7 : Int32))).toInt64))).toInt32)), (5, .int (4 : Int32)), (4, .int (fx_m_field0 u a0 (2 : Int32))), (3, .int (1 : Int32)), (0, .ref a.1), (1, .int a0), (2, .int a1)]) hx hb dX1_access_82 hl (by decide) rfl (fun ls hl => ?_)
          exact cut84 u (1 : Int32) (fx_m_field0 u a0 (2 : Int32)) (4 : Int32) ((((((u.2.1 ((fx_m_field0 u a0 (3 : Int32))).toNatClampNeg)).toInt64) + (((fx_m_field0 u a0 (7 : Int32))).toInt64))).toInt32) _ _ _ (by decide) (by unfold fx_m_access; rw [if_pos c7, if_neg c13, if_neg c14]) hP hS (lv_sub hl [3, 2, 1, 0, 4, 5, 6] rfl)
      · refine lv_iconst (v := (2 : Int32)) hx hb dX1_access_44 (by decide) ?_
        refine lv_goto (tgt := 49) hx hb dX1_access_45 (by decide) ?_
        refine lv_istore (lv' := [(5, .int (2 : Int32)), (4, .int (fx_m_field0 u a0 (2 : Int32))), (3, .int (1 : Int32)), (0, .ref a.1), (1, .int a0), (2, .int a1)]) hx hb dX1_access_49 hl (by decide) rfl (fun ls hl => ?_)
        refine lv_aload_n hx hb dX1_access_51 rfl (lv_at hl 3 rfl) ?_
        refine va_get (D := (dC, dI)) (ci := 1) (v := .ref a.2.2.1) (C := RX1) (T := TX1) (N := 7) hx hb htb inX1 hown hK hP 0 rfl rfl 1 (by decide) (htb _ iw_f_X1_13) (fun _ h9 => h9) rfl dX1_access_52 ?_
        refine lv_aload_n hx hb dX1_access_55 rfl (lv_at hl 3 rfl) ?_
        refine lv_iload_n hx hb dX1_access_56 rfl (lv_at hl 4 rfl) ?_
        refine lv_iconst (v := (3 : Int32)) hx hb dX1_access_57 (by decide) ?_
        refine vp_callSi (W.runV (As := [.int a0, .int (3 : Int32)]) (rest := [.ref a.2.2.1]) ⟨hx, hb, hml, hown, htb⟩ (ct_m_field0 l dC dI a u a0 (3 : Int32) (by decide)) (cwV 2 htb gw_X1_40 rfl rfl rfl (by decide +kernel) ⟨Nat.le_of_ble_eq_true rfl, Nat.le_of_ble_eq_true rfl⟩) (mu_preR hK hP) rfl rfl hl.1 rfl (lv_room (Nat.le_of_ble_eq_true rfl)) dX1_access_58 ⟨Nat.le_of_ble_eq_true rfl, Nat.le_of_ble_eq_true rfl⟩) (fun r9 e9 => ?_)
        subst e9
        refine va_iald hx hb hK hP 2 1 (cA := a.2.2.2.2) (n := 32) (f := u.2.1) rfl rfl (mu_inX3 _ _) dX1_access_61 ?_
        refine lv_i2l (v := (((u.2.1 ((fx_m_field0 u a0 (3 : Int32))).toNatClampNeg)).toInt64)) hx hb dX1_access_62 rfl ?_
        refine lv_aload_n hx hb dX1_access_63 rfl (lv_at hl 3 rfl) ?_
        refine lv_iload_n hx hb dX1_access_64 rfl (lv_at hl 4 rfl) ?_
        refine lv_iload_n hx hb dX1_access_65 rfl (lv_at hl 2 rfl) ?_
        refine lv_if_eq (tgt := 74) hx hb dX1_access_66 (by decide) (fun c16 => ?_) (fun c16 => ?_)
        · exact absurd c16 (by decide)
        · refine lv_bipush (v := (7 : Int32)) hx hb dX1_access_69 (by decide) ?_
          refine lv_goto (tgt := 76) hx hb dX1_access_71 (by decide) ?_
          refine vp_callSi (W.runV (As := [.int a0, .int (7 : Int32)]) (rest := [.long (((u.2.1 ((fx_m_field0 u a0 (3 : Int32))).toNatClampNeg)).toInt64)]) ⟨hx, hb, hml, hown, htb⟩ (ct_m_field0 l dC dI a u a0 (7 : Int32) (by decide)) (cwV 2 htb gw_X1_40 rfl rfl rfl (by decide +kernel) ⟨Nat.le_of_ble_eq_true rfl, Nat.le_of_ble_eq_true rfl⟩) (mu_preR hK hP) rfl rfl hl.1 rfl (lv_room (Nat.le_of_ble_eq_true rfl)) dX1_access_76 ⟨Nat.le_of_ble_eq_true rfl, Nat.le_of_ble_eq_true rfl⟩) (fun r9 e9 => ?_)
          subst e9
          refine lv_i2l (v := (((fx_m_field0 u a0 (7 : Int32))).toInt64)) hx hb dX1_access_79 rfl ?_
          refine lv_ladd hx hb dX1_access_80 ?_
          refine lv_l2i (v := ((((((u.2.1 ((fx_m_field0 u a0 (3 : Int32))).toNatClampNeg)).toInt64) + (((fx_m_field0 u a0 (7 : Int32))).toInt64))).toInt32)) hx hb dX1_access_81 rfl ?_
          refine lv_istore (lv' := [(6, .int ((((((u.2.1 ((fx_m_field0 u a0 (3 : Int32))).toNatClampNeg)).toInt64) + (((fx_m_field0 u a0 (7 : Int32))).toInt64))).toInt32)), (5, .int (2 : Int32)), (4, .int (fx_m_field0 u a0 (2 : Int32))), (3, .int (1 : Int32)), (0, .ref a.1), (1, .int a0), (2, .int a1)]) hx hb dX1_access_82 hl (by decide) rfl (fun ls hl => ?_)
          exact cut84 u (1 : Int32) (fx_m_field0 u a0 (2 : Int32)) (2 : Int32) ((((((u.2.1 ((fx_m_field0 u a0 (3 : Int32))).toNatClampNeg)).toInt64) + (((fx_m_field0 u a0 (7 : Int32))).toInt64))).toInt32) _ _ _ (by decide) (by unfold fx_m_access; rw [if_pos c7, if_neg c13, if_pos c14]) hP hS (lv_sub hl [3, 2, 1, 0, 4, 5, 6] rfl)
    · refine lv_iconst (v := (1 : Int32)) hx hb dX1_access_32 (by decide) ?_
      refine lv_goto (tgt := 49) hx hb dX1_access_33 (by decide) ?_
      refine lv_istore (lv' := [(5, .int (1 : Int32)), (4, .int (fx_m_field0 u a0 (2 : Int32))), (3, .int (1 : Int32)), (0, .ref a.1), (1, .int a0), (2, .int a1)]) hx hb dX1_access_49 hl (by decide) rfl (fun ls hl => ?_)
      refine lv_aload_n hx hb dX1_access_51 rfl (lv_at hl 3 rfl) ?_
      refine va_get (D := (dC, dI)) (ci := 1) (v := .ref a.2.2.1) (C := RX1) (T := TX1) (N := 7) hx hb htb inX1 hown hK hP 0 rfl rfl 1 (by decide) (htb _ iw_f_X1_13) (fun _ h9 => h9) rfl dX1_access_52 ?_
      refine lv_aload_n hx hb dX1_access_55 rfl (lv_at hl 3 rfl) ?_
      refine lv_iload_n hx hb dX1_access_56 rfl (lv_at hl 4 rfl) ?_
      refine lv_iconst (v := (3 : Int32)) hx hb dX1_access_57 (by decide) ?_
      refine vp_callSi (W.runV (As := [.int a0, .int (3 : Int32)]) (rest := [.ref a.2.2.1]) ⟨hx, hb, hml, hown, htb⟩ (ct_m_field0 l dC dI a u a0 (3 : Int32) (by decide)) (cwV 2 htb gw_X1_40 rfl rfl rfl (by decide +kernel) ⟨Nat.le_of_ble_eq_true rfl, Nat.le_of_ble_eq_true rfl⟩) (mu_preR hK hP) rfl rfl hl.1 rfl (lv_room (Nat.le_of_ble_eq_true rfl)) dX1_access_58 ⟨Nat.le_of_ble_eq_true rfl, Nat.le_of_ble_eq_true rfl⟩) (fun r9 e9 => ?_)
      subst e9
      refine va_iald hx hb hK hP 2 1 (cA := a.2.2.2.2) (n := 32) (f := u.2.1) rfl rfl (mu_inX3 _ _) dX1_access_61 ?_
      refine lv_i2l (v := (((u.2.1 ((fx_m_field0 u a0 (3 : Int32))).toNatClampNeg)).toInt64)) hx hb dX1_access_62 rfl ?_
      refine lv_aload_n hx hb dX1_access_63 rfl (lv_at hl 3 rfl) ?_
      refine lv_iload_n hx hb dX1_access_64 rfl (lv_at hl 4 rfl) ?_
      refine lv_iload_n hx hb dX1_access_65 rfl (lv_at hl 2 rfl) ?_
      refine lv_if_eq (tgt := 74) hx hb dX1_access_66 (by decide) (fun c17 => ?_) (fun c17 => ?_)
      · exact absurd c17 (by decide)
      · refine lv_bipush (v := (7 : Int32)) hx hb dX1_access_69 (by decide) ?_
        refine lv_goto (tgt := 76) hx hb dX1_access_71 (by decide) ?_
        refine vp_callSi (W.runV (As := [.int a0, .int (7 : Int32)]) (rest := [.long (((u.2.1 ((fx_m_field0 u a0 (3 : Int32))).toNatClampNeg)).toInt64)]) ⟨hx, hb, hml, hown, htb⟩ (ct_m_field0 l dC dI a u a0 (7 : Int32) (by decide)) (cwV 2 htb gw_X1_40 rfl rfl rfl (by decide +kernel) ⟨Nat.le_of_ble_eq_true rfl, Nat.le_of_ble_eq_true rfl⟩) (mu_preR hK hP) rfl rfl hl.1 rfl (lv_room (Nat.le_of_ble_eq_true rfl)) dX1_access_76 ⟨Nat.le_of_ble_eq_true rfl, Nat.le_of_ble_eq_true rfl⟩) (fun r9 e9 => ?_)
        subst e9
        refine lv_i2l (v := (((fx_m_field0 u a0 (7 : Int32))).toInt64)) hx hb dX1_access_79 rfl ?_
        refine lv_ladd hx hb dX1_access_80 ?_
        refine lv_l2i (v := ((((((u.2.1 ((fx_m_field0 u a0 (3 : Int32))).toNatClampNeg)).toInt64) + (((fx_m_field0 u a0 (7 : Int32))).toInt64))).toInt32)) hx hb dX1_access_81 rfl ?_
        refine lv_istore (lv' := [(6, .int ((((((u.2.1 ((fx_m_field0 u a0 (3 : Int32))).toNatClampNeg)).toInt64) + (((fx_m_field0 u a0 (7 : Int32))).toInt64))).toInt32)), (5, .int (1 : Int32)), (4, .int (fx_m_field0 u a0 (2 : Int32))), (3, .int (1 : Int32)), (0, .ref a.1), (1, .int a0), (2, .int a1)]) hx hb dX1_access_82 hl (by decide) rfl (fun ls hl => ?_)
        exact cut84 u (1 : Int32) (fx_m_field0 u a0 (2 : Int32)) (1 : Int32) ((((((u.2.1 ((fx_m_field0 u a0 (3 : Int32))).toNatClampNeg)).toInt64) + (((fx_m_field0 u a0 (7 : Int32))).toInt64))).toInt32) _ _ _ (by decide) (by unfold fx_m_access; rw [if_pos c7, if_pos c13]) hP hS (lv_sub hl [3, 2, 1, 0, 4, 5, 6] rfl)
