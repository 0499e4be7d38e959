def fx_m_bits_lp34 : Nat → Int64 → Int32 → Int32 → Int32 → Int64 → Int32 → Int32
  | 0, _, _, _, _, _, _ => 0
  | k + 1, v3, a0, a1, a2, v5, v7 => (if a1 < v7 then (((v3 - v3 / v5 * v5)).toInt32) else (fx_m_bits_lp34 k v3 a0 a1 a2 (v5 * (2 : Int64)) (v7 + (1 : Int32))))
def fx_m_bits_lp10 : Nat → Int32 → Int32 → Int32 → Int64 → Int32 → Int32
  | 0, _, _, _, _, _ => 0
  | k + 1, a0, a1, a2, v3, v5 => (if a2 ≤ v5 then (fx_m_bits_lp34 ((a1.toInt - a2.toInt).toNat + 2) v3 a0 a1 a2 (1 : Int64) a2) else (fx_m_bits_lp10 k a0 a1 a2 (v3 / (2 : Int64)) (v5 + (1 : Int32))))
def fx_m_bits (a0 : Int32) (a1 : Int32) (a2 : Int32) : Int32 := (fx_m_bits_lp10 (a2.toInt.toNat + 1) a0 a1 a2 (((a0).toInt64) &&& (4294967295 : Int64)) (0 : Int32))
set_option maxHeartbeats 4000000 in
set_option maxRecDepth 100000 in
theorem ct_m_bits (l : Launch)  (a0 : Int32) (a1 : Int32) (a2 : Int32) (h0 : (0 ≤ a2.toInt ∧ a2.toInt ≤ a1.toInt ∧ a1.toInt ≤ 31)) : Met l yX1_bits wsX1_bits ({ frames := 0, cells := 0, slots := 0, locals := 0 }) (va_Pc [.int a0, .int a1, .int a2] (fun _ => True)) (vp_Si (fun r => r = fx_m_bits a0 a1 a2)) 0 0 (fun _ => False) := by
  refine Met.ofW (cc := cX1_bits) (maxL := 8) (ret := (some .int)) (by decide) rfl ?_
  intro p e s m args below meth c s₁ B hml hv
  obtain ⟨rfl, -⟩ := hv
  have hx := B.exec
  have hb := B.bytes
  have hr := B.returns
  have htb : ∀ w ∈ lw_g, w.before ([.int a0, .int a1, .int a2] : List Value).toArray s = true := fun w h => atoms_spec (ws := wsX1_bits) B.pre w (List.mem_cons_of_mem _ h)
  have hown : s.vm.findClass RX1 = some m.cls := findClass_of_methodNamed B.named
  have hlocks := B.notSynchronized
  have hl := lv_entry ([.int a0, .int a1, .int a2]) (n := 8) (Nat.le_of_ble_eq_true rfl)
  rw [lg_entry_eq]
  generalize (lg_sl ([.int a0, .int a1, .int a2]) ++ List.replicate (8 - (lg_sl ([.int a0, .int a1, .int a2])).length) Slot.unset).toArray = ls at hl ⊢
  have hl : lv_has ls 8 [(0, .int a0), (1, .int a1), (2, .int a2)] := hl
  refine lv_iload_n hx hb dX1_bits_0 rfl (lv_at hl 0 rfl) ?_
  refine lv_i2l (v := ((a0).toInt64)) hx hb dX1_bits_1 rfl ?_
  refine lv_ldc2 (v := (4294967295 : Int64)) hx hb hown (htb _ iw_k_X1_23) dX1_bits_2 ?_
  refine lv_land hx hb dX1_bits_5 ?_
  refine lv_lstore_n (lv' := [(3, .long (((a0).toInt64) &&& (4294967295 : Int64))), (0, .int a0), (1, .int a1), (2, .int a2)]) hx hb dX1_bits_6 rfl hl (by decide) rfl (fun ls hl => ?_)
  refine lv_iconst (v := (0 : Int32)) hx hb dX1_bits_7 (by decide) ?_
  refine lv_istore (lv' := [(5, .int (0 : Int32)), (3, .long (((a0).toInt64) &&& (4294967295 : Int64))), (0, .int a0), (1, .int a1), (2, .int a2)]) hx hb dX1_bits_8 hl (by decide) rfl (fun ls hl => ?_)
  have loop : ∀ (k : Nat) (v3 : Int64) (v5 : Int32) (ls : Array Slot), (0 < k ∧ a2.toInt < v5.toInt + k) → fx_m_bits_lp10 k a0 a1 a2 v3 v5 = fx_m_bits a0 a1 a2 → lv_has ls 8 [(3, .long v3), (5, .int v5), (0, .int a0), (1, .int a1), (2, .int a2)] → W p l e (headSpec wsX1_bits ({ frames := 0, cells := 0, slots := 0, locals := 0 })).room s m ([.int a0, .int a1, .int a2] : List Value).toArray below meth c s.heap [] 0 0 (MQ below (vp_Si (fun r => r = fx_m_bits a0 a1 a2)) ([.int a0, .int a1, .int a2] : List Value).toArray s 0 0 (fun _ => False)) (F0 m 10 ls []) := by
    intro k
    induction k with
    | zero => intro v3 v5 ls hI; exact absurd hI (fun h => absurd h.1 (Nat.lt_irrefl 0))
    | succ k ih =>
      intro v3 v5 ls hI hF hl
      refine lv_iload hx hb dX1_bits_10 (lv_at hl 1 rfl) ?_
      refine lv_iload_n hx hb dX1_bits_12 rfl (lv_at hl 4 rfl) ?_
      refine lv_icmp_ge (tgt := 28) hx hb dX1_bits_13 (by decide) (fun c1 => ?_) (fun c1 => ?_)
      · refine lv_lconst (v := (1 : Int64)) hx hb dX1_bits_28 (by decide) ?_
        refine lv_lstore (lv' := [(5, .long (1 : Int64)), (3, .long v3), (0, .int a0), (1, .int a1), (2, .int a2)]) hx hb dX1_bits_29 hl (by decide) rfl (fun ls hl => ?_)
        refine lv_iload_n hx hb dX1_bits_31 rfl (lv_at hl 4 rfl) ?_
        refine lv_istore (lv' := [(7, .int a2), (5, .long (1 : Int64)), (3, .long v3), (0, .int a0), (1, .int a1), (2, .int a2)]) hx hb dX1_bits_32 hl (by decide) rfl (fun ls hl => ?_)
        have loop : ∀ (k : Nat) (v5 : Int64) (v7 : Int32) (ls : Array Slot), (0 < k ∧ a1.toInt + 1 < v7.toInt + k ∧ ∃ j : Nat, j ≤ 32 ∧ v5 = lN (2 ^ j) ∧ v7.toInt = a2.toInt + j) → fx_m_bits_lp34 k v3 a0 a1 a2 v5 v7 = fx_m_bits a0 a1 a2 → lv_has ls 8 [(5, .long v5), (7, .int v7), (3, .long v3), (0, .int a0), (1, .int a1), (2, .int a2)] → W p l e (headSpec wsX1_bits ({ frames := 0, cells := 0, slots := 0, locals := 0 })).room s m ([.int a0, .int a1, .int a2] : List Value).toArray below meth c s.heap [] 0 0 (MQ below (vp_Si (fun r => r = fx_m_bits a0 a1 a2)) ([.int a0, .int a1, .int a2] : List Value).toArray s 0 0 (fun _ => False)) (F0 m 34 ls []) := by
          intro k
          induction k with
          | zero => intro v5 v7 ls hI; exact absurd hI (fun h => absurd h.1 (Nat.lt_irrefl 0))
          | succ k ih =>
            intro v5 v7 ls hI hF hl
            refine lv_iload hx hb dX1_bits_34 (lv_at hl 1 rfl) ?_
            refine lv_iload_n hx hb dX1_bits_36 rfl (lv_at hl 4 rfl) ?_
            refine lv_icmp_gt (tgt := 54) hx hb dX1_bits_37 (by decide) (fun c2 => ?_) (fun c2 => ?_)
            · refine lv_lload_n hx hb dX1_bits_54 rfl (lv_at hl 2 rfl) ?_
              refine lv_lload hx hb dX1_bits_55 (lv_at hl 0 rfl) ?_
              refine lv_lrem hx hb dX1_bits_57 (mb_ne hI) ?_
              refine lv_l2i (v := (((v3 - v3 / v5 * v5)).toInt32)) hx hb dX1_bits_58 rfl ?_
              exact W.iret (v := (((v3 - v3 / v5 * v5)).toInt32)) hx hb hr (fun t ht hW => ⟨_, rfl, (by have hF := hF; unfold fx_m_bits_lp34 at hF; rw [if_pos c2] at hF; exact hF), ht⟩) (fun q h => by cases h) dX1_bits_59
            · refine lv_lload hx hb dX1_bits_40 (lv_at hl 0 rfl) ?_
              refine lv_ldc2 (v := (2 : Int64)) hx hb hown (htb _ iw_k_X1_25) dX1_bits_42 ?_
              refine lv_lmul hx hb dX1_bits_45 ?_
              refine lv_lstore (lv' := [(5, .long (v5 * (2 : Int64))), (7, .int v7), (3, .long v3), (0, .int a0), (1, .int a1), (2, .int a2)]) hx hb dX1_bits_46 hl (by decide) rfl (fun ls hl => ?_)
              refine lv_iinc (v := (v7 + (1 : Int32))) (lv' := [(7, .int (v7 + (1 : Int32))), (5, .long (v5 * (2 : Int64))), (3, .long v3), (0, .int a0), (1, .int a1), (2, .int a2)]) hx hb dX1_bits_48 hl (k := 1) rfl rfl (by decide) rfl (fun ls hl => ?_)
              refine lv_goto (tgt := 34) hx hb dX1_bits_51 (by decide) ?_
              exact ih (v5 * (2 : Int64)) (v7 + (1 : Int32)) _ (mb_inv1 h0 hI c2) (by have hF := hF; unfold fx_m_bits_lp34 at hF; rw [if_neg c2] at hF; exact hF)  (lv_sub hl [1, 0, 2, 3, 4, 5] rfl)
        exact loop ((a1.toInt - a2.toInt).toNat + 2) (1 : Int64) a2 _ (mb_inv0 h0) (by have hF := hF; unfold fx_m_bits_lp10 at hF; rw [if_pos c1] at hF; exact hF)  (lv_sub hl [1, 0, 2, 3, 4, 5] rfl)
      · refine lv_lload_n hx hb dX1_bits_16 rfl (lv_at hl 0 rfl) ?_
        refine lv_ldc2 (v := (2 : Int64)) hx hb hown (htb _ iw_k_X1_25) dX1_bits_17 ?_
        refine lv_ldiv hx hb dX1_bits_20 (by decide) ?_
        refine lv_lstore_n (lv' := [(3, .long (v3 / (2 : Int64))), (5, .int v5), (0, .int a0), (1, .int a1), (2, .int a2)]) hx hb dX1_bits_21 rfl hl (by decide) rfl (fun ls hl => ?_)
        refine lv_iinc (v := (v5 + (1 : Int32))) (lv' := [(5, .int (v5 + (1 : Int32))), (3, .long (v3 / (2 : Int64))), (0, .int a0), (1, .int a1), (2, .int a2)]) hx hb dX1_bits_22 hl (k := 1) rfl rfl (by decide) rfl (fun ls hl => ?_)
        refine lv_goto (tgt := 10) hx hb dX1_bits_25 (by decide) ?_
        exact ih (v3 / (2 : Int64)) (v5 + (1 : Int32)) _ (jj_up1 hI c1) (by have hF := hF; unfold fx_m_bits_lp10 at hF; rw [if_neg c1] at hF; exact hF)  (lv_sub hl [1, 0, 2, 3, 4] rfl)
  exact loop (a2.toInt.toNat + 1) (((a0).toInt64) &&& (4294967295 : Int64)) (0 : Int32) _ (jj_up0 (by decide)) rfl  (lv_sub hl [1, 0, 2, 3, 4] rfl)
def fx_m_signed_lp4 : Nat → Int32 → Int32 → Int32 → Int32 → Int32
  | 0, _, _, _, _ => 0
  | k + 1, a0, a1, v2, v3 => (if a1 ≤ v3 then (if a0 < v2 then a0 else (a0 - ((2 : Int32) * v2))) else (fx_m_signed_lp4 k a0 a1 (v2 * (2 : Int32)) (v3 + (1 : Int32))))
def fx_m_signed (a0 : Int32) (a1 : Int32) : Int32 := (fx_m_signed_lp4 (a1.toInt.toNat + 1) a0 a1 (1 : Int32) (1 : Int32))
set_option maxHeartbeats 4000000 in
set_option maxRecDepth 100000 in
theorem ct_m_signed (l : Launch)  (a0 : Int32) (a1 : Int32)  : Met l yX1_signed wsX1_signed ({ frames := 0, cells := 0, slots := 0, locals := 0 }) (va_Pc [.int a0, .int a1] (fun _ => True)) (vp_Si (fun r => r = fx_m_signed a0 a1)) 0 0 (fun _ => False) := by
  refine Met.ofW (cc := cX1_signed) (maxL := 4) (ret := (some .int)) (by decide) rfl ?_
  intro p e s m args below meth c s₁ B hml hv
  obtain ⟨rfl, -⟩ := hv
  have hx := B.exec
  have hb := B.bytes
  have hr := B.returns
  have htb : ∀ w ∈ lw_g, w.before ([.int a0, .int a1] : List Value).toArray s = true := fun w h => atoms_spec (ws := wsX1_signed) B.pre w (List.mem_cons_of_mem _ h)
  have hown : s.vm.findClass RX1 = some m.cls := findClass_of_methodNamed B.named
  have hlocks := B.notSynchronized
  have hl := lv_entry ([.int a0, .int a1]) (n := 4) (Nat.le_of_ble_eq_true rfl)
  rw [lg_entry_eq]
  generalize (lg_sl ([.int a0, .int a1]) ++ List.replicate (4 - (lg_sl ([.int a0, .int a1])).length) Slot.unset).toArray = ls at hl ⊢
  have hl : lv_has ls 4 [(0, .int a0), (1, .int a1)] := hl
  refine lv_iconst (v := (1 : Int32)) hx hb dX1_signed_0 (by decide) ?_
  refine lv_istore_n (lv' := [(2, .int (1 : Int32)), (0, .int a0), (1, .int a1)]) hx hb dX1_signed_1 rfl hl (by decide) rfl (fun ls hl => ?_)
  refine lv_iconst (v := (1 : Int32)) hx hb dX1_signed_2 (by decide) ?_
  refine lv_istore_n (lv' := [(3, .int (1 : Int32)), (2, .int (1 : Int32)), (0, .int a0), (1, .int a1)]) hx hb dX1_signed_3 rfl hl (by decide) rfl (fun ls hl => ?_)
  have loop : ∀ (k : Nat) (v2 : Int32) (v3 : Int32) (ls : Array Slot), (0 < k ∧ a1.toInt < v3.toInt + k) → fx_m_signed_lp4 k a0 a1 v2 v3 = fx_m_signed a0 a1 → lv_has ls 4 [(2, .int v2), (3, .int v3), (0, .int a0), (1, .int a1)] → W p l e (headSpec wsX1_signed ({ frames := 0, cells := 0, slots := 0, locals := 0 })).room s m ([.int a0, .int a1] : List Value).toArray below meth c s.heap [] 0 0 (MQ below (vp_Si (fun r => r = fx_m_signed a0 a1)) ([.int a0, .int a1] : List Value).toArray s 0 0 (fun _ => False)) (F0 m 4 ls []) := by
    intro k
    induction k with
    | zero => intro v2 v3 ls hI; exact absurd hI (fun h => absurd h.1 (Nat.lt_irrefl 0))
    | succ k ih =>
      intro v2 v3 ls hI hF hl
      refine lv_iload_n hx hb dX1_signed_4 rfl (lv_at hl 1 rfl) ?_
      refine lv_iload_n hx hb dX1_signed_5 rfl (lv_at hl 3 rfl) ?_
      refine lv_icmp_ge (tgt := 19) hx hb dX1_signed_6 (by decide) (fun c1 => ?_) (fun c1 => ?_)
      · refine lv_iload_n hx hb dX1_signed_19 rfl (lv_at hl 2 rfl) ?_
        refine lv_iload_n hx hb dX1_signed_20 rfl (lv_at hl 0 rfl) ?_
        refine lv_icmp_lt (tgt := 32) hx hb dX1_signed_21 (by decide) (fun c2 => ?_) (fun c2 => ?_)
        · refine lv_iload_n hx hb dX1_signed_32 rfl (lv_at hl 2 rfl) ?_
          exact W.iret (v := a0) hx hb hr (fun t ht hW => ⟨_, rfl, (by have hF := hF; unfold fx_m_signed_lp4 at hF; rw [if_pos c1, if_pos c2] at hF; exact hF), ht⟩) (fun q h => by cases h) dX1_signed_33
        · refine lv_iload_n hx hb dX1_signed_24 rfl (lv_at hl 2 rfl) ?_
          refine lv_iconst (v := (2 : Int32)) hx hb dX1_signed_25 (by decide) ?_
          refine lv_iload_n hx hb dX1_signed_26 rfl (lv_at hl 0 rfl) ?_
          refine lv_imul hx hb dX1_signed_27 ?_
          refine lv_isub hx hb dX1_signed_28 ?_
          refine lv_goto (tgt := 33) hx hb dX1_signed_29 (by decide) ?_
          exact W.iret (v := (a0 - ((2 : Int32) * v2))) hx hb hr (fun t ht hW => ⟨_, rfl, (by have hF := hF; unfold fx_m_signed_lp4 at hF; rw [if_pos c1, if_neg c2] at hF; exact hF), ht⟩) (fun q h => by cases h) dX1_signed_33
      · refine lv_iload_n hx hb dX1_signed_9 rfl (lv_at hl 0 rfl) ?_
        refine lv_iconst (v := (2 : Int32)) hx hb dX1_signed_10 (by decide) ?_
        refine lv_imul hx hb dX1_signed_11 ?_
        refine lv_istore_n (lv' := [(2, .int (v2 * (2 : Int32))), (3, .int v3), (0, .int a0), (1, .int a1)]) hx hb dX1_signed_12 rfl hl (by decide) rfl (fun ls hl => ?_)
        refine lv_iinc (v := (v3 + (1 : Int32))) (lv' := [(3, .int (v3 + (1 : Int32))), (2, .int (v2 * (2 : Int32))), (0, .int a0), (1, .int a1)]) hx hb dX1_signed_13 hl (k := 1) rfl rfl (by decide) rfl (fun ls hl => ?_)
        refine lv_goto (tgt := 4) hx hb dX1_signed_16 (by decide) ?_
        exact ih (v2 * (2 : Int32)) (v3 + (1 : Int32)) _ (jj_up1 hI c1) (by have hF := hF; unfold fx_m_signed_lp4 at hF; rw [if_neg c1] at hF; exact hF)  (lv_sub hl [1, 0, 2, 3] rfl)
  exact loop (a1.toInt.toNat + 1) (1 : Int32) (1 : Int32) _ (jj_up0 (by decide)) rfl  (lv_sub hl [1, 0, 2, 3] rfl)
def fx_m_unsigned (a0 : Int32) : Int64 := (if (0 : Int32) ≤ a0 then ((a0).toInt64) else (((a0).toInt64) + (4294967296 : Int64)))
set_option maxHeartbeats 4000000 in
set_option maxRecDepth 100000 in
theorem ct_m_unsigned (l : Launch)  (a0 : Int32)  : Met l yX1_unsigned wsX1_unsigned ({ frames := 0, cells := 0, slots := 0, locals := 0 }) (va_Pc [.int a0] (fun _ => True)) (vp_Sl (fun r => r = fx_m_unsigned a0)) 0 0 (fun _ => False) := by
  refine Met.ofW (cc := cX1_unsigned) (maxL := 1) (ret := (some .long)) (by decide) rfl ?_
  intro p e s m args below meth c s₁ B hml hv
  obtain ⟨rfl, -⟩ := hv
  have hx := B.exec
  have hb := B.bytes
  have hr := B.returns
  have htb : ∀ w ∈ lw_g, w.before ([.int a0] : List Value).toArray s = true := fun w h => atoms_spec (ws := wsX1_unsigned) B.pre w (List.mem_cons_of_mem _ h)
  have hown : s.vm.findClass RX1 = some m.cls := findClass_of_methodNamed B.named
  have hlocks := B.notSynchronized
  have hl := lv_entry ([.int a0]) (n := 1) (Nat.le_of_ble_eq_true rfl)
  rw [lg_entry_eq]
  generalize (lg_sl ([.int a0]) ++ List.replicate (1 - (lg_sl ([.int a0])).length) Slot.unset).toArray = ls at hl ⊢
  have hl : lv_has ls 1 [(0, .int a0)] := hl
  refine lv_iload_n hx hb dX1_unsigned_0 rfl (lv_at hl 0 rfl) ?_
  refine lv_if_ge (tgt := 13) hx hb dX1_unsigned_1 (by decide) (fun c1 => ?_) (fun c1 => ?_)
  · refine lv_iload_n hx hb dX1_unsigned_13 rfl (lv_at hl 0 rfl) ?_
    refine lv_i2l (v := ((a0).toInt64)) hx hb dX1_unsigned_14 rfl ?_
    exact W.lret (v := ((a0).toInt64)) hx hb hr (fun t ht hW => ⟨_, rfl, (by unfold fx_m_unsigned; rw [if_pos c1]), ht⟩) (fun q h => by cases h) dX1_unsigned_15
  · refine lv_iload_n hx hb dX1_unsigned_4 rfl (lv_at hl 0 rfl) ?_
    refine lv_i2l (v := ((a0).toInt64)) hx hb dX1_unsigned_5 rfl ?_
    refine lv_ldc2 (v := (4294967296 : Int64)) hx hb hown (htb _ iw_k_X1_43) dX1_unsigned_6 ?_
    refine lv_ladd hx hb dX1_unsigned_9 ?_
    refine lv_goto (tgt := 15) hx hb dX1_unsigned_10 (by decide) ?_
    exact W.lret (v := (((a0).toInt64) + (4294967296 : Int64))) hx hb hr (fun t ht hW => ⟨_, rfl, (by unfold fx_m_unsigned; rw [if_neg c1]), ht⟩) (fun q h => by cases h) dX1_unsigned_15
def fx_m_left_lp8 : Nat → Int32 → Int32 → Int64 → Int32 → Int32
  | 0, _, _, _, _ => 0
  | k + 1, a0, a1, v2, v4 => (if a1 ≤ v4 then ((v2).toInt32) else (fx_m_left_lp8 k a0 a1 ((v2 * (2 : Int64)) - (v2 * (2 : Int64)) / (4294967296 : Int64) * (4294967296 : Int64)) (v4 + (1 : Int32))))
def fx_m_left (a0 : Int32) (a1 : Int32) : Int32 := (fx_m_left_lp8 (a1.toInt.toNat + 1) a0 a1 (fx_m_unsigned a0) (0 : Int32))
set_option maxHeartbeats 4000000 in
set_option maxRecDepth 100000 in
theorem ct_m_left (l : Launch)  (a0 : Int32) (a1 : Int32)  : Met l yX1_left wsX1_left ({ frames := 1, cells := 0, slots := 0, locals := 20 }) (va_Pc [.int a0, .int a1] (fun _ => True)) (vp_Si (fun r => r = fx_m_left a0 a1)) 0 0 (fun _ => False) := by
  refine Met.ofW (cc := cX1_left) (maxL := 5) (ret := (some .int)) (by decide) rfl ?_
  intro p e s m args below meth c s₁ B hml hv
  obtain ⟨rfl, -⟩ := hv
  have hx := B.exec
  have hb := B.bytes
  have hr := B.returns
  have htb : ∀ w ∈ lw_g, w.before ([.int a0, .int a1] : List Value).toArray s = true := fun w h => atoms_spec (ws := wsX1_left) B.pre w (List.mem_cons_of_mem _ h)
  have hown : s.vm.findClass RX1 = some m.cls := findClass_of_methodNamed B.named
  have hlocks := B.notSynchronized
  have hl := lv_entry ([.int a0, .int a1]) (n := 5) (Nat.le_of_ble_eq_true rfl)
  rw [lg_entry_eq]
  generalize (lg_sl ([.int a0, .int a1]) ++ List.replicate (5 - (lg_sl ([.int a0, .int a1])).length) Slot.unset).toArray = ls at hl ⊢
  have hl : lv_has ls 5 [(0, .int a0), (1, .int a1)] := hl
  refine lv_iload_n hx hb dX1_left_0 rfl (lv_at hl 0 rfl) ?_
  refine vp_callSl (W.runS (As := [.int a0]) (rest := []) ⟨hx, hb, hml, hown, htb⟩ (ct_m_unsigned l a0) (va_cwS 1 htb gw_X1_45 rfl rfl rfl (by decide +kernel) ⟨Nat.le_of_ble_eq_true rfl, Nat.le_of_ble_eq_true rfl⟩) jj_pre rfl rfl hl.1 rfl (lv_room (Nat.le_of_ble_eq_true rfl)) dX1_left_1 ⟨Nat.le_of_ble_eq_true rfl, Nat.le_of_ble_eq_true rfl⟩) (fun r9 e9 => ?_)
  subst e9
  refine lv_lstore_n (lv' := [(2, .long (fx_m_unsigned a0)), (0, .int a0), (1, .int a1)]) hx hb dX1_left_4 rfl hl (by decide) rfl (fun ls hl => ?_)
  refine lv_iconst (v := (0 : Int32)) hx hb dX1_left_5 (by decide) ?_
  refine lv_istore (lv' := [(4, .int (0 : Int32)), (2, .long (fx_m_unsigned a0)), (0, .int a0), (1, .int a1)]) hx hb dX1_left_6 hl (by decide) rfl (fun ls hl => ?_)
  have loop : ∀ (k : Nat) (v2 : Int64) (v4 : Int32) (ls : Array Slot), (0 < k ∧ a1.toInt < v4.toInt + k) → fx_m_left_lp8 k a0 a1 v2 v4 = fx_m_left a0 a1 → lv_has ls 5 [(2, .long v2), (4, .int v4), (0, .int a0), (1, .int a1)] → W p l e (headSpec wsX1_left ({ frames := 1, cells := 0, slots := 0, locals := 20 })).room s m ([.int a0, .int a1] : List Value).toArray below meth c s.heap [] 0 0 (MQ below (vp_Si (fun r => r = fx_m_left a0 a1)) ([.int a0, .int a1] : List Value).toArray s 0 0 (fun _ => False)) (F0 m 8 ls []) := by
    intro k
    induction k with
    | zero => intro v2 v4 ls hI; exact absurd hI (fun h => absurd h.1 (Nat.lt_irrefl 0))
    | succ k ih =>
      intro v2 v4 ls hI hF hl
      refine lv_iload hx hb dX1_left_8 (lv_at hl 1 rfl) ?_
      refine lv_iload_n hx hb dX1_left_10 rfl (lv_at hl 3 rfl) ?_
      refine lv_icmp_ge (tgt := 30) hx hb dX1_left_11 (by decide) (fun c1 => ?_) (fun c1 => ?_)
      · refine lv_lload_n hx hb dX1_left_30 rfl (lv_at hl 0 rfl) ?_
        refine lv_l2i (v := ((v2).toInt32)) hx hb dX1_left_31 rfl ?_
        exact W.iret (v := ((v2).toInt32)) hx hb hr (fun t ht hW => ⟨_, rfl, (by have hF := hF; unfold fx_m_left_lp8 at hF; rw [if_pos c1] at hF; exact hF), ht⟩) (fun q h => by cases h) dX1_left_32
      · refine lv_lload_n hx hb dX1_left_14 rfl (lv_at hl 0 rfl) ?_
        refine lv_ldc2 (v := (2 : Int64)) hx hb hown (htb _ iw_k_X1_25) dX1_left_15 ?_
        refine lv_lmul hx hb dX1_left_18 ?_
        refine lv_ldc2 (v := (4294967296 : Int64)) hx hb hown (htb _ iw_k_X1_43) dX1_left_19 ?_
        refine lv_lrem hx hb dX1_left_22 (by decide) ?_
        refine lv_lstore_n (lv' := [(2, .long ((v2 * (2 : Int64)) - (v2 * (2 : Int64)) / (4294967296 : Int64) * (4294967296 : Int64))), (4, .int v4), (0, .int a0), (1, .int a1)]) hx hb dX1_left_23 rfl hl (by decide) rfl (fun ls hl => ?_)
        refine lv_iinc (v := (v4 + (1 : Int32))) (lv' := [(4, .int (v4 + (1 : Int32))), (2, .long ((v2 * (2 : Int64)) - (v2 * (2 : Int64)) / (4294967296 : Int64) * (4294967296 : Int64))), (0, .int a0), (1, .int a1)]) hx hb dX1_left_24 hl (k := 1) rfl rfl (by decide) rfl (fun ls hl => ?_)
        refine lv_goto (tgt := 8) hx hb dX1_left_27 (by decide) ?_
        exact ih ((v2 * (2 : Int64)) - (v2 * (2 : Int64)) / (4294967296 : Int64) * (4294967296 : Int64)) (v4 + (1 : Int32)) _ (jj_up1 hI c1) (by have hF := hF; unfold fx_m_left_lp8 at hF; rw [if_neg c1] at hF; exact hF)  (lv_sub hl [1, 0, 2, 3] rfl)
  exact loop (a1.toInt.toNat + 1) (fx_m_unsigned a0) (0 : Int32) _ (jj_up0 (by decide)) rfl  (lv_sub hl [1, 0, 2, 3] rfl)
def fx_m_right_lp17 : Nat → Int32 → Int32 → Int32 → Int64 → Int32 → Int32
  | 0, _, _, _, _, _ => 0
  | k + 1, a0, a1, a2, v3, v5 => (if a1 ≤ v5 then ((v3).toInt32) else (if (lg_cmp v3 (0 : Int64)) < (0 : Int32) then (fx_m_right_lp17 k a0 a1 a2 ((v3 - (1 : Int64)) / (2 : Int64)) (v5 + (1 : Int32))) else (fx_m_right_lp17 k a0 a1 a2 (v3 / (2 : Int64)) (v5 + (1 : Int32)))))
def fx_m_right (a0 : Int32) (a1 : Int32) (a2 : Int32) : Int32 := (if a2 = (0 : Int32) then (fx_m_right_lp17 (a1.toInt.toNat + 1) a0 a1 a2 (fx_m_unsigned a0) (0 : Int32)) else (fx_m_right_lp17 (a1.toInt.toNat + 1) a0 a1 a2 ((a0).toInt64) (0 : Int32)))
set_option maxHeartbeats 4000000 in
set_option maxRecDepth 100000 in
theorem ct_m_right (l : Launch)  (a0 : Int32) (a1 : Int32) (a2 : Int32)  : Met l yX1_right wsX1_right ({ frames := 1, cells := 0, slots := 0, locals := 20 }) (va_Pc [.int a0, .int a1, .int a2] (fun _ => True)) (vp_Si (fun r => r = fx_m_right a0 a1 a2)) 0 0 (fun _ => False) := by
  refine Met.ofW (cc := cX1_right) (maxL := 6) (ret := (some .int)) (by decide) rfl ?_
  intro p e s m args below meth c s₁ B hml hv
  obtain ⟨rfl, -⟩ := hv
  have hx := B.exec
  have hb := B.bytes
  have hr := B.returns
  have htb : ∀ w ∈ lw_g, w.before ([.int a0, .int a1, .int a2] : List Value).toArray s = true := fun w h => atoms_spec (ws := wsX1_right) B.pre w (List.mem_cons_of_mem _ h)
  have hown : s.vm.findClass RX1 = some m.cls := findClass_of_methodNamed B.named
  have hlocks := B.notSynchronized
  have hl := lv_entry ([.int a0, .int a1, .int a2]) (n := 6) (Nat.le_of_ble_eq_true rfl)
  rw [lg_entry_eq]
  generalize (lg_sl ([.int a0, .int a1, .int a2]) ++ List.replicate (6 - (lg_sl ([.int a0, .int a1, .int a2])).length) Slot.unset).toArray = ls at hl ⊢
  have hl : lv_has ls 6 [(0, .int a0), (1, .int a1), (2, .int a2)] := hl
  refine lv_iload_n hx hb dX1_right_0 rfl (lv_at hl 2 rfl) ?_
  refine lv_if_eq (tgt := 9) hx hb dX1_right_1 (by decide) (fun c1 => ?_) (fun c1 => ?_)
  · refine lv_iload_n hx hb dX1_right_9 rfl (lv_at hl 0 rfl) ?_
    refine vp_callSl (W.runS (As := [.int a0]) (rest := []) ⟨hx, hb, hml, hown, htb⟩ (ct_m_unsigned l a0) (va_cwS 1 htb gw_X1_45 rfl rfl rfl (by decide +kernel) ⟨Nat.le_of_ble_eq_true rfl, Nat.le_of_ble_eq_true rfl⟩) jj_pre rfl rfl hl.1 rfl (lv_room (Nat.le_of_ble_eq_true rfl)) dX1_right_10 ⟨Nat.le_of_ble_eq_true rfl, Nat.le_of_ble_eq_true rfl⟩) (fun r9 e9 => ?_)
    subst e9
    refine lv_lstore_n (lv' := [(3, .long (fx_m_unsigned a0)), (0, .int a0), (1, .int a1), (2, .int a2)]) hx hb dX1_right_13 rfl hl (by decide) rfl (fun ls hl => ?_)
    refine lv_iconst (v := (0 : Int32)) hx hb dX1_right_14 (by decide) ?_
    refine lv_istore (lv' := [(5, .int (0 : Int32)), (3, .long (fx_m_unsigned a0)), (0, .int a0), (1, .int a1), (2, .int a2)]) hx hb dX1_right_15 hl (by decide) rfl (fun ls hl => ?_)
    have loop : ∀ (k : Nat) (v3 : Int64) (v5 : Int32) (ls : Array Slot), (0 < k ∧ a1.toInt < v5.toInt + k) → fx_m_right_lp17 k a0 a1 a2 v3 v5 = fx_m_right a0 a1 a2 → lv_has ls 6 [(3, .long v3), (5, .int v5), (0, .int a0), (1, .int a1), (2, .int a2)] → W p l e (headSpec wsX1_right ({ frames := 1, cells := 0, slots := 0, locals := 20 })).room s m ([.int a0, .int a1, .int a2] : List Value).toArray below meth c s.heap [] 0 0 (MQ below (vp_Si (fun r => r = fx_m_right a0 a1 a2)) ([.int a0, .int a1, .int a2] : List Value).toArray s 0 0 (fun _ => False)) (F0 m 17 ls []) := by
      intro k
      induction k with
      | zero => intro v3 v5 ls hI; exact absurd hI (fun h => absurd h.1 (Nat.lt_irrefl 0))
      | succ k ih =>
        intro v3 v5 ls hI hF hl
        refine lv_iload hx hb dX1_right_17 (lv_at hl 1 rfl) ?_
        refine lv_iload_n hx hb dX1_right_19 rfl (lv_at hl 3 rfl) ?_
        refine lv_icmp_ge (tgt := 51) hx hb dX1_right_20 (by decide) (fun c2 => ?_) (fun c2 => ?_)
        · refine lv_lload_n hx hb dX1_right_51 rfl (lv_at hl 0 rfl) ?_
          refine lv_l2i (v := ((v3).toInt32)) hx hb dX1_right_52 rfl ?_
          exact W.iret (v := ((v3).toInt32)) hx hb hr (fun t ht hW => ⟨_, rfl, (by have hF := hF; unfold fx_m_right_lp17 at hF; rw [if_pos c2] at hF; exact hF), ht⟩) (fun q h => by cases h) dX1_right_53
        · refine lv_lload_n hx hb dX1_right_23 rfl (lv_at hl 0 rfl) ?_
          refine lv_lconst (v := (0 : Int64)) hx hb dX1_right_24 (by decide) ?_
          refine W.lcmp hx hb dX1_right_25 ?_
          refine lv_if_lt (tgt := 37) hx hb dX1_right_26 (by decide) (fun c3 => ?_) (fun c3 => ?_)
          · refine lv_lload_n hx hb dX1_right_37 rfl (lv_at hl 0 rfl) ?_
            refine lv_lconst (v := (1 : Int64)) hx hb dX1_right_38 (by decide) ?_
            refine lv_lsub hx hb dX1_right_39 ?_
            refine lv_ldc2 (v := (2 : Int64)) hx hb hown (htb _ iw_k_X1_25) dX1_right_40 ?_
            refine lv_ldiv hx hb dX1_right_43 (by decide) ?_
            refine lv_lstore_n (lv' := [(3, .long ((v3 - (1 : Int64)) / (2 : Int64))), (5, .int v5), (0, .int a0), (1, .int a1), (2, .int a2)]) hx hb dX1_right_44 rfl hl (by decide) rfl (fun ls hl => ?_)
            refine lv_iinc (v := (v5 + (1 : Int32))) (lv' := [(5, .int (v5 + (1 : Int32))), (3, .long ((v3 - (1 : Int64)) / (2 : Int64))), (0, .int a0), (1, .int a1), (2, .int a2)]) hx hb dX1_right_45 hl (k := 1) rfl rfl (by decide) rfl (fun ls hl => ?_)
            refine lv_goto (tgt := 17) hx hb dX1_right_48 (by decide) ?_
            exact ih ((v3 - (1 : Int64)) / (2 : Int64)) (v5 + (1 : Int32)) _ (jj_up1 hI c2) (by have hF := hF; unfold fx_m_right_lp17 at hF; rw [if_neg c2, if_pos c3] at hF; exact hF)  (lv_sub hl [1, 0, 2, 3, 4] rfl)
          · refine lv_lload_n hx hb dX1_right_29 rfl (lv_at hl 0 rfl) ?_
            refine lv_ldc2 (v := (2 : Int64)) hx hb hown (htb _ iw_k_X1_25) dX1_right_30 ?_
            refine lv_ldiv hx hb dX1_right_33 (by decide) ?_
            refine lv_goto (tgt := 44) hx hb dX1_right_34 (by decide) ?_
            refine lv_lstore_n (lv' := [(3, .long (v3 / (2 : Int64))), (5, .int v5), (0, .int a0), (1, .int a1), (2, .int a2)]) hx hb dX1_right_44 rfl hl (by decide) rfl (fun ls hl => ?_)
            refine lv_iinc (v := (v5 + (1 : Int32))) (lv' := [(5, .int (v5 + (1 : Int32))), (3, .long (v3 / (2 : Int64))), (0, .int a0), (1, .int a1), (2, .int a2)]) hx hb dX1_right_45 hl (k := 1) rfl rfl (by decide) rfl (fun ls hl => ?_)
            refine lv_goto (tgt := 17) hx hb dX1_right_48 (by decide) ?_
            exact ih (v3 / (2 : Int64)) (v5 + (1 : Int32)) _ (jj_up1 hI c2) (by have hF := hF; unfold fx_m_right_lp17 at hF; rw [if_neg c2, if_neg c3] at hF; exact hF)  (lv_sub hl [1, 0, 2, 3, 4] rfl)
    exact loop (a1.toInt.toNat + 1) (fx_m_unsigned a0) (0 : Int32) _ (jj_up0 (by decide)) (by unfold fx_m_right; rw [if_pos c1])  (lv_sub hl [1, 0, 2, 3, 4] rfl)
  · refine lv_iload_n hx hb dX1_right_4 rfl (lv_at hl 0 rfl) ?_
    refine lv_i2l (v := ((a0).toInt64)) hx hb dX1_right_5 rfl ?_
    refine lv_goto (tgt := 13) hx hb dX1_right_6 (by decide) ?_
    refine lv_lstore_n (lv' := [(3, .long ((a0).toInt64)), (0, .int a0), (1, .int a1), (2, .int a2)]) hx hb dX1_right_13 rfl hl (by decide) rfl (fun ls hl => ?_)
    refine lv_iconst (v := (0 : Int32)) hx hb dX1_right_14 (by decide) ?_
    refine lv_istore (lv' := [(5, .int (0 : Int32)), (3, .long ((a0).toInt64)), (0, .int a0), (1, .int a1), (2, .int a2)]) hx hb dX1_right_15 hl (by decide) rfl (fun ls hl => ?_)
    have loop : ∀ (k : Nat) (v3 : Int64) (v5 : Int32) (ls : Array Slot), (0 < k ∧ a1.toInt < v5.toInt + k) → fx_m_right_lp17 k a0 a1 a2 v3 v5 = fx_m_right a0 a1 a2 → lv_has ls 6 [(3, .long v3), (5, .int v5), (0, .int a0), (1, .int a1), (2, .int a2)] → W p l e (headSpec wsX1_right ({ frames := 1, cells := 0, slots := 0, locals := 20 })).room s m ([.int a0, .int a1, .int a2] : List Value).toArray below meth c s.heap [] 0 0 (MQ below (vp_Si (fun r => r = fx_m_right a0 a1 a2)) ([.int a0, .int a1, .int a2] : List Value).toArray s 0 0 (fun _ => False)) (F0 m 17 ls []) := by
      intro k
      induction k with
      | zero => intro v3 v5 ls hI; exact absurd hI (fun h => absurd h.1 (Nat.lt_irrefl 0))
      | succ k ih =>
        intro v3 v5 ls hI hF hl
        refine lv_iload hx hb dX1_right_17 (lv_at hl 1 rfl) ?_
        refine lv_iload_n hx hb dX1_right_19 rfl (lv_at hl 3 rfl) ?_
        refine lv_icmp_ge (tgt := 51) hx hb dX1_right_20 (by decide) (fun c4 => ?_) (fun c4 => ?_)
        · refine lv_lload_n hx hb dX1_right_51 rfl (lv_at hl 0 rfl) ?_
          refine lv_l2i (v := ((v3).toInt32)) hx hb dX1_right_52 rfl ?_
          exact W.iret (v := ((v3).toInt32)) hx hb hr (fun t ht hW => ⟨_, rfl, (by have hF := hF; unfold fx_m_right_lp17 at hF; rw [if_pos c4] at hF; exact hF), ht⟩) (fun q h => by cases h) dX1_right_53
        · refine lv_lload_n hx hb dX1_right_23 rfl (lv_at hl 0 rfl) ?_
          refine lv_lconst (v := (0 : Int64)) hx hb dX1_right_24 (by decide) ?_
          refine W.lcmp hx hb dX1_right_25 ?_
          refine lv_if_lt (tgt := 37) hx hb dX1_right_26 (by decide) (fun c5 => ?_) (fun c5 => ?_)
          · refine lv_lload_n hx hb dX1_right_37 rfl (lv_at hl 0 rfl) ?_
            refine lv_lconst (v := (1 : Int64)) hx hb dX1_right_38 (by decide) ?_
            refine lv_lsub hx hb dX1_right_39 ?_
            refine lv_ldc2 (v := (2 : Int64)) hx hb hown (htb _ iw_k_X1_25) dX1_right_40 ?_
            refine lv_ldiv hx hb dX1_right_43 (by decide) ?_
            refine lv_lstore_n (lv' := [(3, .long ((v3 - (1 : Int64)) / (2 : Int64))), (5, .int v5), (0, .int a0), (1, .int a1), (2, .int a2)]) hx hb dX1_right_44 rfl hl (by decide) rfl (fun ls hl => ?_)
            refine lv_iinc (v := (v5 + (1 : Int32))) (lv' := [(5, .int (v5 + (1 : Int32))), (3, .long ((v3 - (1 : Int64)) / (2 : Int64))), (0, .int a0), (1, .int a1), (2, .int a2)]) hx hb dX1_right_45 hl (k := 1) rfl rfl (by decide) rfl (fun ls hl => ?_)
            refine lv_goto (tgt := 17) hx hb dX1_right_48 (by decide) ?_
            exact ih ((v3 - (1 : Int64)) / (2 : Int64)) (v5 + (1 : Int32)) _ (jj_up1 hI c4) (by have hF := hF; unfold fx_m_right_lp17 at hF; rw [if_neg c4, if_pos c5] at hF; exact hF)  (lv_sub hl [1, 0, 2, 3, 4] rfl)
          · refine lv_lload_n hx hb dX1_right_29 rfl (lv_at hl 0 rfl) ?_
            refine lv_ldc2 (v := (2 : Int64)) hx hb hown (htb _ iw_k_X1_25) dX1_right_30 ?_
            refine lv_ldiv hx hb dX1_right_33 (by decide) ?_
            refine lv_goto (tgt := 44) hx hb dX1_right_34 (by decide) ?_
            refine lv_lstore_n (lv' := [(3, .long (v3 / (2 : Int64))), (5, .int v5), (0, .int a0), (1, .int a1), (2, .int a2)]) hx hb dX1_right_44 rfl hl (by decide) rfl (fun ls hl => ?_)
            refine lv_iinc (v := (v5 + (1 : Int32))) (lv' := [(5, .int (v5 + (1 : Int32))), (3, .long (v3 / (2 : Int64))), (0, .int a0), (1, .int a1), (2, .int a2)]) hx hb dX1_right_45 hl (k := 1) rfl rfl (by decide) rfl (fun ls hl => ?_)
            refine lv_goto (tgt := 17) hx hb dX1_right_48 (by decide) ?_
            exact ih (v3 / (2 : Int64)) (v5 + (1 : Int32)) _ (jj_up1 hI c4) (by have hF := hF; unfold fx_m_right_lp17 at hF; rw [if_neg c4, if_neg c5] at hF; exact hF)  (lv_sub hl [1, 0, 2, 3, 4] rfl)
    exact loop (a1.toInt.toNat + 1) ((a0).toInt64) (0 : Int32) _ (jj_up0 (by decide)) (by unfold fx_m_right; rw [if_neg c1])  (lv_sub hl [1, 0, 2, 3, 4] rfl)
def fx_m_upper (a0 : Int64) (a1 : Int64) : Int32 := (if (lg_cmp a1 (0 : Int64)) < (0 : Int32) then (if (lg_cmp (a0 * (a1 - ((65536 : Int64) * ((a1 - (65535 : Int64)) / (65536 : Int64))))) (0 : Int64)) < (0 : Int32) then (if (lg_cmp ((a0 * ((a1 - (65535 : Int64)) / (65536 : Int64))) + (((a0 * (a1 - ((65536 : Int64) * ((a1 - (65535 : Int64)) / (65536 : Int64))))) - (65535 : Int64)) / (65536 : Int64))) (0 : Int64)) < (0 : Int32) then ((((((a0 * ((a1 - (65535 : Int64)) / (65536 : Int64))) + (((a0 * (a1 - ((65536 : Int64) * ((a1 - (65535 : Int64)) / (65536 : Int64))))) - (65535 : Int64)) / (65536 : Int64))) - (65535 : Int64)) / (65536 : Int64))).toInt32) else (((((a0 * ((a1 - (65535 : Int64)) / (65536 : Int64))) + (((a0 * (a1 - ((65536 : Int64) * ((a1 - (65535 : Int64)) / (65536 : Int64))))) - (65535 : Int64)) / (65536 : Int64))) / (65536 : Int64))).toInt32)) else (if (lg_cmp ((a0 * ((a1 - (65535 : Int64)) / (65536 : Int64))) + ((a0 * (a1 - ((65536 : Int64) * ((a1 - (65535 : Int64)) / (65536 : Int64))))) / (65536 : Int64))) (0 : Int64)) < (0 : Int32) then ((((((a0 * ((a1 - (65535 : Int64)) / (65536 : Int64))) + ((a0 * (a1 - ((65536 : Int64) * ((a1 - (65535 : Int64)) / (65536 : Int64))))) / (65536 : Int64))) - (65535 : Int64)) / (65536 : Int64))).toInt32) else (((((a0 * ((a1 - (65535 : Int64)) / (65536 : Int64))) + ((a0 * (a1 - ((65536 : Int64) * ((a1 - (65535 : Int64)) / (65536 : Int64))))) / (65536 : Int64))) / (65536 : Int64))).toInt32))) else (if (lg_cmp (a0 * (a1 - ((65536 : Int64) * (a1 / (65536 : Int64))))) (0 : Int64)) < (0 : Int32) then (if (lg_cmp ((a0 * (a1 / (65536 : Int64))) + (((a0 * (a1 - ((65536 : Int64) * (a1 / (65536 : Int64))))) - (65535 : Int64)) / (65536 : Int64))) (0 : Int64)) < (0 : Int32) then ((((((a0 * (a1 / (65536 : Int64))) + (((a0 * (a1 - ((65536 : Int64) * (a1 / (65536 : Int64))))) - (65535 : Int64)) / (65536 : Int64))) - (65535 : Int64)) / (65536 : Int64))).toInt32) else (((((a0 * (a1 / (65536 : Int64))) + (((a0 * (a1 - ((65536 : Int64) * (a1 / (65536 : Int64))))) - (65535 : Int64)) / (65536 : Int64))) / (65536 : Int64))).toInt32)) else (if (lg_cmp ((a0 * (a1 / (65536 : Int64))) + ((a0 * (a1 - ((65536 : Int64) * (a1 / (65536 : Int64))))) / (65536 : Int64))) (0 : Int64)) < (0 : Int32) then ((((((a0 * (a1 / (65536 : Int64))) + ((a0 * (a1 - ((65536 : Int64) * (a1 / (65536 : Int64))))) / (65536 : Int64))) - (65535 : Int64)) / (65536 : Int64))).toInt32) else (((((a0 * (a1 / (65536 : Int64))) + ((a0 * (a1 - ((65536 : Int64) * (a1 / (65536 : Int64))))) / (65536 : Int64))) / (65536 : Int64))).toInt32))))
set_option maxHeartbeats 4000000 in
set_option maxRecDepth 100000 in
theorem ct_m_upper (l : Launch)  (a0 : Int64) (a1 : Int64)  : Met l yX1_upper wsX1_upper ({ frames := 0, cells := 0, slots := 0, locals := 0 }) (va_Pc [.long a0, .long a1] (fun _ => True)) (vp_Si (fun r => r = fx_m_upper a0 a1)) 0 0 (fun _ => False) := by
  refine Met.ofW (cc := cX1_upper) (maxL := 12) (ret := (some .int)) (by decide) rfl ?_
  intro p e s m args below meth c s₁ B hml hv
  obtain ⟨rfl, -⟩ := hv
  have hx := B.exec
  have hb := B.bytes
  have hr := B.returns
  have htb : ∀ w ∈ lw_g, w.before ([.long a0, .long a1] : List Value).toArray s = true := fun w h => atoms_spec (ws := wsX1_upper) B.pre w (List.mem_cons_of_mem _ h)
  have hown : s.vm.findClass RX1 = some m.cls := findClass_of_methodNamed B.named
  have hlocks := B.notSynchronized
  have hl := lv_entry ([.long a0, .long a1]) (n := 12) (Nat.le_of_ble_eq_true rfl)
  rw [lg_entry_eq]
  generalize (lg_sl ([.long a0, .long a1]) ++ List.replicate (12 - (lg_sl ([.long a0, .long a1])).length) Slot.unset).toArray = ls at hl ⊢
  have hl : lv_has ls 12 [(0, .long a0), (2, .long a1)] := hl
  refine lv_lload_n hx hb dX1_upper_0 rfl (lv_at hl 1 rfl) ?_
  refine lv_lconst (v := (0 : Int64)) hx hb dX1_upper_1 (by decide) ?_
  refine W.lcmp hx hb dX1_upper_2 ?_
  refine lv_if_lt (tgt := 14) hx hb dX1_upper_3 (by decide) (fun c1 => ?_) (fun c1 => ?_)
  · refine lv_lload_n hx hb dX1_upper_14 rfl (lv_at hl 1 rfl) ?_
    refine lv_ldc2 (v := (65535 : Int64)) hx hb hown (htb _ iw_k_X1_51) dX1_upper_15 ?_
    refine lv_lsub hx hb dX1_upper_18 ?_
    refine lv_ldc2 (v := (65536 : Int64)) hx hb hown (htb _ iw_k_X1_49) dX1_upper_19 ?_
    refine lv_ldiv hx hb dX1_upper_22 (by decide) ?_
    refine lv_lstore (lv' := [(4, .long ((a1 - (65535 : Int64)) / (65536 : Int64))), (0, .long a0), (2, .long a1)]) hx hb dX1_upper_23 hl (by decide) rfl (fun ls hl => ?_)
    refine lv_lload_n hx hb dX1_upper_25 rfl (lv_at hl 2 rfl) ?_
    refine lv_ldc2 (v := (65536 : Int64)) hx hb hown (htb _ iw_k_X1_49) dX1_upper_26 ?_
    refine lv_lload hx hb dX1_upper_29 (lv_at hl 0 rfl) ?_
    refine lv_lmul hx hb dX1_upper_31 ?_
    refine lv_lsub hx hb dX1_upper_32 ?_
    refine lv_lstore (lv' := [(6, .long (a1 - ((65536 : Int64) * ((a1 - (65535 : Int64)) / (65536 : Int64))))), (4, .long ((a1 - (65535 : Int64)) / (65536 : Int64))), (0, .long a0), (2, .long a1)]) hx hb dX1_upper_33 hl (by decide) rfl (fun ls hl => ?_)
    refine lv_lload_n hx hb dX1_upper_35 rfl (lv_at hl 2 rfl) ?_
    refine lv_lload hx hb dX1_upper_36 (lv_at hl 0 rfl) ?_
    refine lv_lmul hx hb dX1_upper_38 ?_
    refine lv_lstore (lv' := [(8, .long (a0 * (a1 - ((65536 : Int64) * ((a1 - (65535 : Int64)) / (65536 : Int64)))))), (6, .long (a1 - ((65536 : Int64) * ((a1 - (65535 : Int64)) / (65536 : Int64))))), (4, .long ((a1 - (65535 : Int64)) / (65536 : Int64))), (0, .long a0), (2, .long a1)]) hx hb dX1_upper_39 hl (by decide) rfl (fun ls hl => ?_)
    refine lv_lload_n hx hb dX1_upper_41 rfl (lv_at hl 3 rfl) ?_
    refine lv_lload hx hb dX1_upper_42 (lv_at hl 2 rfl) ?_
    refine lv_lmul hx hb dX1_upper_44 ?_
    refine lv_lload hx hb dX1_upper_45 (lv_at hl 0 rfl) ?_
    refine lv_lconst (v := (0 : Int64)) hx hb dX1_upper_47 (by decide) ?_
    refine W.lcmp hx hb dX1_upper_48 ?_
    refine lv_if_lt (tgt := 61) hx hb dX1_upper_49 (by decide) (fun c2 => ?_) (fun c2 => ?_)
    · refine lv_lload hx hb dX1_upper_61 (lv_at hl 0 rfl) ?_
      refine lv_ldc2 (v := (65535 : Int64)) hx hb hown (htb _ iw_k_X1_51) dX1_upper_63 ?_
      refine lv_lsub hx hb dX1_upper_66 ?_
      refine lv_ldc2 (v := (65536 : Int64)) hx hb hown (htb _ iw_k_X1_49) dX1_upper_67 ?_
      refine lv_ldiv hx hb dX1_upper_70 (by decide) ?_
      refine lv_ladd hx hb dX1_upper_71 ?_
      refine lv_lstore (lv' := [(10, .long ((a0 * ((a1 - (65535 : Int64)) / (65536 : Int64))) + (((a0 * (a1 - ((65536 : Int64) * ((a1 - (65535 : Int64)) / (65536 : Int64))))) - (65535 : Int64)) / (65536 : Int64)))), (8, .long (a0 * (a1 - ((65536 : Int64) * ((a1 - (65535 : Int64)) / (65536 : Int64)))))), (6, .long (a1 - ((65536 : Int64) * ((a1 - (65535 : Int64)) / (65536 : Int64))))), (4, .long ((a1 - (65535 : Int64)) / (65536 : Int64))), (0, .long a0), (2, .long a1)]) hx hb dX1_upper_72 hl (by decide) rfl (fun ls hl => ?_)
      refine lv_lload hx hb dX1_upper_74 (lv_at hl 0 rfl) ?_
      refine lv_lconst (v := (0 : Int64)) hx hb dX1_upper_76 (by decide) ?_
      refine W.lcmp hx hb dX1_upper_77 ?_
      refine lv_if_lt (tgt := 90) hx hb dX1_upper_78 (by decide) (fun c3 => ?_) (fun c3 => ?_)
      · refine lv_lload hx hb dX1_upper_90 (lv_at hl 0 rfl) ?_
        refine lv_ldc2 (v := (65535 : Int64)) hx hb hown (htb _ iw_k_X1_51) dX1_upper_92 ?_
        refine lv_lsub hx hb dX1_upper_95 ?_
        refine lv_ldc2 (v := (65536 : Int64)) hx hb hown (htb _ iw_k_X1_49) dX1_upper_96 ?_
        refine lv_ldiv hx hb dX1_upper_99 (by decide) ?_
        refine lv_l2i (v := ((((((a0 * ((a1 - (65535 : Int64)) / (65536 : Int64))) + (((a0 * (a1 - ((65536 : Int64) * ((a1 - (65535 : Int64)) / (65536 : Int64))))) - (65535 : Int64)) / (65536 : Int64))) - (65535 : Int64)) / (65536 : Int64))).toInt32)) hx hb dX1_upper_100 rfl ?_
        exact W.iret (v := ((((((a0 * ((a1 - (65535 : Int64)) / (65536 : Int64))) + (((a0 * (a1 - ((65536 : Int64) * ((a1 - (65535 : Int64)) / (65536 : Int64))))) - (65535 : Int64)) / (65536 : Int64))) - (65535 : Int64)) / (65536 : Int64))).toInt32)) hx hb hr (fun t ht hW => ⟨_, rfl, (by unfold fx_m_upper; rw [if_pos c1, if_pos c2, if_pos c3]), ht⟩) (fun q h => by cases h) dX1_upper_101
      · refine lv_lload hx hb dX1_upper_81 (lv_at hl 0 rfl) ?_
        refine lv_ldc2 (v := (65536 : Int64)) hx hb hown (htb _ iw_k_X1_49) dX1_upper_83 ?_
        refine lv_ldiv hx hb dX1_upper_86 (by decide) ?_
        refine lv_goto (tgt := 100) hx hb dX1_upper_87 (by decide) ?_
        refine lv_l2i (v := (((((a0 * ((a1 - (65535 : Int64)) / (65536 : Int64))) + (((a0 * (a1 - ((65536 : Int64) * ((a1 - (65535 : Int64)) / (65536 : Int64))))) - (65535 : Int64)) / (65536 : Int64))) / (65536 : Int64))).toInt32)) hx hb dX1_upper_100 rfl ?_
        exact W.iret (v := (((((a0 * ((a1 - (65535 : Int64)) / (65536 : Int64))) + (((a0 * (a1 - ((65536 : Int64) * ((a1 - (65535 : Int64)) / (65536 : Int64))))) - (65535 : Int64)) / (65536 : Int64))) / (65536 : Int64))).toInt32)) hx hb hr (fun t ht hW => ⟨_, rfl, (by unfold fx_m_upper; rw [if_pos c1, if_pos c2, if_neg c3]), ht⟩) (fun q h => by cases h) dX1_upper_101
    · refine lv_lload hx hb dX1_upper_52 (lv_at hl 0 rfl) ?_
      refine lv_ldc2 (v := (65536 : Int64)) hx hb hown (htb _ iw_k_X1_49) dX1_upper_54 ?_
      refine lv_ldiv hx hb dX1_upper_57 (by decide) ?_
      refine lv_goto (tgt := 71) hx hb dX1_upper_58 (by decide) ?_
      refine lv_ladd hx hb dX1_upper_71 ?_
      refine lv_lstore (lv' := [(10, .long ((a0 * ((a1 - (65535 : Int64)) / (65536 : Int64))) + ((a0 * (a1 - ((65536 : Int64) * ((a1 - (65535 : Int64)) / (65536 : Int64))))) / (65536 : Int64)))), (8, .long (a0 * (a1 - ((65536 : Int64) * ((a1 - (65535 : Int64)) / (65536 : Int64)))))), (6, .long (a1 - ((65536 : Int64) * ((a1 - (65535 : Int64)) / (65536 : Int64))))), (4, .long ((a1 - (65535 : Int64)) / (65536 : Int64))), (0, .long a0), (2, .long a1)]) hx hb dX1_upper_72 hl (by decide) rfl (fun ls hl => ?_)
      refine lv_lload hx hb dX1_upper_74 (lv_at hl 0 rfl) ?_
      refine lv_lconst (v := (0 : Int64)) hx hb dX1_upper_76 (by decide) ?_
      refine W.lcmp hx hb dX1_upper_77 ?_
      refine lv_if_lt (tgt := 90) hx hb dX1_upper_78 (by decide) (fun c4 => ?_) (fun c4 => ?_)
      · refine lv_lload hx hb dX1_upper_90 (lv_at hl 0 rfl) ?_
        refine lv_ldc2 (v := (65535 : Int64)) hx hb hown (htb _ iw_k_X1_51) dX1_upper_92 ?_
        refine lv_lsub hx hb dX1_upper_95 ?_
        refine lv_ldc2 (v := (65536 : Int64)) hx hb hown (htb _ iw_k_X1_49) dX1_upper_96 ?_
        refine lv_ldiv hx hb dX1_upper_99 (by decide) ?_
        refine lv_l2i (v := ((((((a0 * ((a1 - (65535 : Int64)) / (65536 : Int64))) + ((a0 * (a1 - ((65536 : Int64) * ((a1 - (65535 : Int64)) / (65536 : Int64))))) / (65536 : Int64))) - (65535 : Int64)) / (65536 : Int64))).toInt32)) hx hb dX1_upper_100 rfl ?_
        exact W.iret (v := ((((((a0 * ((a1 - (65535 : Int64)) / (65536 : Int64))) + ((a0 * (a1 - ((65536 : Int64) * ((a1 - (65535 : Int64)) / (65536 : Int64))))) / (65536 : Int64))) - (65535 : Int64)) / (65536 : Int64))).toInt32)) hx hb hr (fun t ht hW => ⟨_, rfl, (by unfold fx_m_upper; rw [if_pos c1, if_neg c2, if_pos c4]), ht⟩) (fun q h => by cases h) dX1_upper_101
      · refine lv_lload hx hb dX1_upper_81 (lv_at hl 0 rfl) ?_
        refine lv_ldc2 (v := (65536 : Int64)) hx hb hown (htb _ iw_k_X1_49) dX1_upper_83 ?_
        refine lv_ldiv hx hb dX1_upper_86 (by decide) ?_
        refine lv_goto (tgt := 100) hx hb dX1_upper_87 (by decide) ?_
        refine lv_l2i (v := (((((a0 * ((a1 - (65535 : Int64)) / (65536 : Int64))) + ((a0 * (a1 - ((65536 : Int64) * ((a1 - (65535 : Int64)) / (65536 : Int64))))) / (65536 : Int64))) / (65536 : Int64))).toInt32)) hx hb dX1_upper_100 rfl ?_
        exact W.iret (v := (((((a0 * ((a1 - (65535 : Int64)) / (65536 : Int64))) + ((a0 * (a1 - ((65536 : Int64) * ((a1 - (65535 : Int64)) / (65536 : Int64))))) / (65536 : Int64))) / (65536 : Int64))).toInt32)) hx hb hr (fun t ht hW => ⟨_, rfl, (by unfold fx_m_upper; rw [if_pos c1, if_neg c2, if_neg c4]), ht⟩) (fun q h => by cases h) dX1_upper_101
  · refine lv_lload_n hx hb dX1_upper_6 rfl (lv_at hl 1 rfl) ?_
    refine lv_ldc2 (v := (65536 : Int64)) hx hb hown (htb _ iw_k_X1_49) dX1_upper_7 ?_
    refine lv_ldiv hx hb dX1_upper_10 (by decide) ?_
    refine lv_goto (tgt := 23) hx hb dX1_upper_11 (by decide) ?_
    refine lv_lstore (lv' := [(4, .long (a1 / (65536 : Int64))), (0, .long a0), (2, .long a1)]) hx hb dX1_upper_23 hl (by decide) rfl (fun ls hl => ?_)
    refine lv_lload_n hx hb dX1_upper_25 rfl (lv_at hl 2 rfl) ?_
    refine lv_ldc2 (v := (65536 : Int64)) hx hb hown (htb _ iw_k_X1_49) dX1_upper_26 ?_
    refine lv_lload hx hb dX1_upper_29 (lv_at hl 0 rfl) ?_
    refine lv_lmul hx hb dX1_upper_31 ?_
    refine lv_lsub hx hb dX1_upper_32 ?_
    refine lv_lstore (lv' := [(6, .long (a1 - ((65536 : Int64) * (a1 / (65536 : Int64))))), (4, .long (a1 / (65536 : Int64))), (0, .long a0), (2, .long a1)]) hx hb dX1_upper_33 hl (by decide) rfl (fun ls hl => ?_)
    refine lv_lload_n hx hb dX1_upper_35 rfl (lv_at hl 2 rfl) ?_
    refine lv_lload hx hb dX1_upper_36 (lv_at hl 0 rfl) ?_
    refine lv_lmul hx hb dX1_upper_38 ?_
    refine lv_lstore (lv' := [(8, .long (a0 * (a1 - ((65536 : Int64) * (a1 / (65536 : Int64)))))), (6, .long (a1 - ((65536 : Int64) * (a1 / (65536 : Int64))))), (4, .long (a1 / (65536 : Int64))), (0, .long a0), (2, .long a1)]) hx hb dX1_upper_39 hl (by decide) rfl (fun ls hl => ?_)
    refine lv_lload_n hx hb dX1_upper_41 rfl (lv_at hl 3 rfl) ?_
    refine lv_lload hx hb dX1_upper_42 (lv_at hl 2 rfl) ?_
    refine lv_lmul hx hb dX1_upper_44 ?_
    refine lv_lload hx hb dX1_upper_45 (lv_at hl 0 rfl) ?_
    refine lv_lconst (v := (0 : Int64)) hx hb dX1_upper_47 (by decide) ?_
    refine W.lcmp hx hb dX1_upper_48 ?_
    refine lv_if_lt (tgt := 61) hx hb dX1_upper_49 (by decide) (fun c5 => ?_) (fun c5 => ?_)
    · refine lv_lload hx hb dX1_upper_61 (lv_at hl 0 rfl) ?_
      refine lv_ldc2 (v := (65535 : Int64)) hx hb hown (htb _ iw_k_X1_51) dX1_upper_63 ?_
      refine lv_lsub hx hb dX1_upper_66 ?_
      refine lv_ldc2 (v := (65536 : Int64)) hx hb hown (htb _ iw_k_X1_49) dX1_upper_67 ?_
      refine lv_ldiv hx hb dX1_upper_70 (by decide) ?_
      refine lv_ladd hx hb dX1_upper_71 ?_
      refine lv_lstore (lv' := [(10, .long ((a0 * (a1 / (65536 : Int64))) + (((a0 * (a1 - ((65536 : Int64) * (a1 / (65536 : Int64))))) - (65535 : Int64)) / (65536 : Int64)))), (8, .long (a0 * (a1 - ((65536 : Int64) * (a1 / (65536 : Int64)))))), (6, .long (a1 - ((65536 : Int64) * (a1 / (65536 : Int64))))), (4, .long (a1 / (65536 : Int64))), (0, .long a0), (2, .long a1)]) hx hb dX1_upper_72 hl (by decide) rfl (fun ls hl => ?_)
      refine lv_lload hx hb dX1_upper_74 (lv_at hl 0 rfl) ?_
      refine lv_lconst (v := (0 : Int64)) hx hb dX1_upper_76 (by decide) ?_
      refine W.lcmp hx hb dX1_upper_77 ?_
      refine lv_if_lt (tgt := 90) hx hb dX1_upper_78 (by decide) (fun c6 => ?_) (fun c6 => ?_)
      · refine lv_lload hx hb dX1_upper_90 (lv_at hl 0 rfl) ?_
        refine lv_ldc2 (v := (65535 : Int64)) hx hb hown (htb _ iw_k_X1_51) dX1_upper_92 ?_
        refine lv_lsub hx hb dX1_upper_95 ?_
        refine lv_ldc2 (v := (65536 : Int64)) hx hb hown (htb _ iw_k_X1_49) dX1_upper_96 ?_
        refine lv_ldiv hx hb dX1_upper_99 (by decide) ?_
        refine lv_l2i (v := ((((((a0 * (a1 / (65536 : Int64))) + (((a0 * (a1 - ((65536 : Int64) * (a1 / (65536 : Int64))))) - (65535 : Int64)) / (65536 : Int64))) - (65535 : Int64)) / (65536 : Int64))).toInt32)) hx hb dX1_upper_100 rfl ?_
        exact W.iret (v := ((((((a0 * (a1 / (65536 : Int64))) + (((a0 * (a1 - ((65536 : Int64) * (a1 / (65536 : Int64))))) - (65535 : Int64)) / (65536 : Int64))) - (65535 : Int64)) / (65536 : Int64))).toInt32)) hx hb hr (fun t ht hW => ⟨_, rfl, (by unfold fx_m_upper; rw [if_neg c1, if_pos c5, if_pos c6]), ht⟩) (fun q h => by cases h) dX1_upper_101
      · refine lv_lload hx hb dX1_upper_81 (lv_at hl 0 rfl) ?_
        refine lv_ldc2 (v := (65536 : Int64)) hx hb hown (htb _ iw_k_X1_49) dX1_upper_83 ?_
        refine lv_ldiv hx hb dX1_upper_86 (by decide) ?_
        refine lv_goto (tgt := 100) hx hb dX1_upper_87 (by decide) ?_
        refine lv_l2i (v := (((((a0 * (a1 / (65536 : Int64))) + (((a0 * (a1 - ((65536 : Int64) * (a1 / (65536 : Int64))))) - (65535 : Int64)) / (65536 : Int64))) / (65536 : Int64))).toInt32)) hx hb dX1_upper_100 rfl ?_
        exact W.iret (v := (((((a0 * (a1 / (65536 : Int64))) + (((a0 * (a1 - ((65536 : Int64) * (a1 / (65536 : Int64))))) - (65535 : Int64)) / (65536 : Int64))) / (65536 : Int64))).toInt32)) hx hb hr (fun t ht hW => ⟨_, rfl, (by unfold fx_m_upper; rw [if_neg c1, if_pos c5, if_neg c6]), ht⟩) (fun q h => by cases h) dX1_upper_101
    · refine lv_lload hx hb dX1_upper_52 (lv_at hl 0 rfl) ?_
      refine lv_ldc2 (v := (65536 : Int64)) hx hb hown (htb _ iw_k_X1_49) dX1_upper_54 ?_
      refine lv_ldiv hx hb dX1_upper_57 (by decide) ?_
      refine lv_goto (tgt := 71) hx hb dX1_upper_58 (by decide) ?_
      refine lv_ladd hx hb dX1_upper_71 ?_
      refine lv_lstore (lv' := [(10, .long ((a0 * (a1 / (65536 : Int64))) + ((a0 * (a1 - ((65536 : Int64) * (a1 / (65536 : Int64))))) / (65536 : Int64)))), (8, .long (a0 * (a1 - ((65536 : Int64) * (a1 / (65536 : Int64)))))), (6, .long (a1 - ((65536 : Int64) * (a1 / (65536 : Int64))))), (4, .long (a1 / (65536 : Int64))), (0, .long a0), (2, .long a1)]) hx hb dX1_upper_72 hl (by decide) rfl (fun ls hl => ?_)
      refine lv_lload hx hb dX1_upper_74 (lv_at hl 0 rfl) ?_
      refine lv_lconst (v := (0 : Int64)) hx hb dX1_upper_76 (by decide) ?_
      refine W.lcmp hx hb dX1_upper_77 ?_
      refine lv_if_lt (tgt := 90) hx hb dX1_upper_78 (by decide) (fun c7 => ?_) (fun c7 => ?_)
      · refine lv_lload hx hb dX1_upper_90 (lv_at hl 0 rfl) ?_
        refine lv_ldc2 (v := (65535 : Int64)) hx hb hown (htb _ iw_k_X1_51) dX1_upper_92 ?_
        refine lv_lsub hx hb dX1_upper_95 ?_
        refine lv_ldc2 (v := (65536 : Int64)) hx hb hown (htb _ iw_k_X1_49) dX1_upper_96 ?_
        refine lv_ldiv hx hb dX1_upper_99 (by decide) ?_
        refine lv_l2i (v := ((((((a0 * (a1 / (65536 : Int64))) + ((a0 * (a1 - ((65536 : Int64) * (a1 / (65536 : Int64))))) / (65536 : Int64))) - (65535 : Int64)) / (65536 : Int64))).toInt32)) hx hb dX1_upper_100 rfl ?_
        exact W.iret (v := ((((((a0 * (a1 / (65536 : Int64))) + ((a0 * (a1 - ((65536 : Int64) * (a1 / (65536 : Int64))))) / (65536 : Int64))) - (65535 : Int64)) / (65536 : Int64))).toInt32)) hx hb hr (fun t ht hW => ⟨_, rfl, (by unfold fx_m_upper; rw [if_neg c1, if_neg c5, if_pos c7]), ht⟩) (fun q h => by cases h) dX1_upper_101
      · refine lv_lload hx hb dX1_upper_81 (lv_at hl 0 rfl) ?_
        refine lv_ldc2 (v := (65536 : Int64)) hx hb hown (htb _ iw_k_X1_49) dX1_upper_83 ?_
        refine lv_ldiv hx hb dX1_upper_86 (by decide) ?_
        refine lv_goto (tgt := 100) hx hb dX1_upper_87 (by decide) ?_
        refine lv_l2i (v := (((((a0 * (a1 / (65536 : Int64))) + ((a0 * (a1 - ((65536 : Int64) * (a1 / (65536 : Int64))))) / (65536 : Int64))) / (65536 : Int64))).toInt32)) hx hb dX1_upper_100 rfl ?_
        exact W.iret (v := (((((a0 * (a1 / (65536 : Int64))) + ((a0 * (a1 - ((65536 : Int64) * (a1 / (65536 : Int64))))) / (65536 : Int64))) / (65536 : Int64))).toInt32)) hx hb hr (fun t ht hW => ⟨_, rfl, (by unfold fx_m_upper; rw [if_neg c1, if_neg c5, if_neg c7]), ht⟩) (fun q h => by cases h) dX1_upper_101
def fx_m_quotient (a0 : Int64) (a1 : Int64) : Int32 := (if (lg_cmp a1 (0 : Int64)) = (0 : Int32) then (-1 : Int32) else (((a0 / a1)).toInt32))
set_option maxHeartbeats 4000000 in
set_option maxRecDepth 100000 in
theorem ct_m_quotient (l : Launch)  (a0 : Int64) (a1 : Int64)  : Met l yX1_quotient wsX1_quotient ({ frames := 0, cells := 0, slots := 0, locals := 0 }) (va_Pc [.long a0, .long a1] (fun _ => True)) (vp_Si (fun r => r = fx_m_quotient a0 a1)) 0 0 (fun _ => False) := by
  refine Met.ofW (cc := cX1_quotient) (maxL := 4) (ret := (some .int)) (by decide) rfl ?_
  intro p e s m args below meth c s₁ B hml hv
  obtain ⟨rfl, -⟩ := hv
  have hx := B.exec
  have hb := B.bytes
  have hr := B.returns
  have htb : ∀ w ∈ lw_g, w.before ([.long a0, .long a1] : List Value).toArray s = true := fun w h => atoms_spec (ws := wsX1_quotient) B.pre w (List.mem_cons_of_mem _ h)
  have hown : s.vm.findClass RX1 = some m.cls := findClass_of_methodNamed B.named
  have hlocks := B.notSynchronized
  have hl := lv_entry ([.long a0, .long a1]) (n := 4) (Nat.le_of_ble_eq_true rfl)
  rw [lg_entry_eq]
  generalize (lg_sl ([.long a0, .long a1]) ++ List.replicate (4 - (lg_sl ([.long a0, .long a1])).length) Slot.unset).toArray = ls at hl ⊢
  have hl : lv_has ls 4 [(0, .long a0), (2, .long a1)] := hl
  refine lv_lload_n hx hb dX1_quotient_0 rfl (lv_at hl 1 rfl) ?_
  refine lv_lconst (v := (0 : Int64)) hx hb dX1_quotient_1 (by decide) ?_
  refine W.lcmp hx hb dX1_quotient_2 ?_
  refine lv_if_ne (tgt := 10) hx hb dX1_quotient_3 (by decide) (fun c1 => ?_) (fun c1 => ?_)
  · refine lv_lload_n hx hb dX1_quotient_10 rfl (lv_at hl 0 rfl) ?_
    refine lv_lload_n hx hb dX1_quotient_11 rfl (lv_at hl 1 rfl) ?_
    refine lv_ldiv hx hb dX1_quotient_12 (jj_cmp0 c1) ?_
    refine lv_l2i (v := (((a0 / a1)).toInt32)) hx hb dX1_quotient_13 rfl ?_
    exact W.iret (v := (((a0 / a1)).toInt32)) hx hb hr (fun t ht hW => ⟨_, rfl, (by unfold fx_m_quotient; rw [if_neg c1]), ht⟩) (fun q h => by cases h) dX1_quotient_14
  · refine lv_iconst (v := (-1 : Int32)) hx hb dX1_quotient_6 (by decide) ?_
    refine lv_goto (tgt := 14) hx hb dX1_quotient_7 (by decide) ?_
    exact W.iret (v := (-1 : Int32)) hx hb hr (fun t ht hW => ⟨_, rfl, (by unfold fx_m_quotient; rw [if_pos c1]), ht⟩) (fun q h => by cases h) dX1_quotient_14
def fx_m_rest (a0 : Int64) (a1 : Int64) : Int32 := (if (lg_cmp a1 (0 : Int64)) = (0 : Int32) then ((a0).toInt32) else (((a0 - ((a0 / a1) * a1))).toInt32))
set_option maxHeartbeats 4000000 in
set_option maxRecDepth 100000 in
theorem ct_m_rest (l : Launch)  (a0 : Int64) (a1 : Int64)  : Met l yX1_rest wsX1_rest ({ frames := 0, cells := 0, slots := 0, locals := 0 }) (va_Pc [.long a0, .long a1] (fun _ => True)) (vp_Si (fun r => r = fx_m_rest a0 a1)) 0 0 (fun _ => False) := by
  refine Met.ofW (cc := cX1_rest) (maxL := 4) (ret := (some .int)) (by decide) rfl ?_
  intro p e s m args below meth c s₁ B hml hv
  obtain ⟨rfl, -⟩ := hv
  have hx := B.exec
  have hb := B.bytes
  have hr := B.returns
  have htb : ∀ w ∈ lw_g, w.before ([.long a0, .long a1] : List Value).toArray s = true := fun w h => atoms_spec (ws := wsX1_rest) B.pre w (List.mem_cons_of_mem _ h)
  have hown : s.vm.findClass RX1 = some m.cls := findClass_of_methodNamed B.named
  have hlocks := B.notSynchronized
  have hl := lv_entry ([.long a0, .long a1]) (n := 4) (Nat.le_of_ble_eq_true rfl)
  rw [lg_entry_eq]
  generalize (lg_sl ([.long a0, .long a1]) ++ List.replicate (4 - (lg_sl ([.long a0, .long a1])).length) Slot.unset).toArray = ls at hl ⊢
  have hl : lv_has ls 4 [(0, .long a0), (2, .long a1)] := hl
  refine lv_lload_n hx hb dX1_rest_0 rfl (lv_at hl 1 rfl) ?_
  refine lv_lconst (v := (0 : Int64)) hx hb dX1_rest_1 (by decide) ?_
  refine W.lcmp hx hb dX1_rest_2 ?_
  refine lv_if_ne (tgt := 10) hx hb dX1_rest_3 (by decide) (fun c1 => ?_) (fun c1 => ?_)
  · refine lv_lload_n hx hb dX1_rest_10 rfl (lv_at hl 0 rfl) ?_
    refine lv_lload_n hx hb dX1_rest_11 rfl (lv_at hl 0 rfl) ?_
    refine lv_lload_n hx hb dX1_rest_12 rfl (lv_at hl 1 rfl) ?_
    refine lv_ldiv hx hb dX1_rest_13 (jj_cmp0 c1) ?_
    refine lv_lload_n hx hb dX1_rest_14 rfl (lv_at hl 1 rfl) ?_
    refine lv_lmul hx hb dX1_rest_15 ?_
    refine lv_lsub hx hb dX1_rest_16 ?_
    refine lv_l2i (v := (((a0 - ((a0 / a1) * a1))).toInt32)) hx hb dX1_rest_17 rfl ?_
    exact W.iret (v := (((a0 - ((a0 / a1) * a1))).toInt32)) hx hb hr (fun t ht hW => ⟨_, rfl, (by unfold fx_m_rest; rw [if_neg c1]), ht⟩) (fun q h => by cases h) dX1_rest_18
  · refine lv_lload_n hx hb dX1_rest_6 rfl (lv_at hl 0 rfl) ?_
    refine lv_goto (tgt := 17) hx hb dX1_rest_7 (by decide) ?_
    refine lv_l2i (v := ((a0).toInt32)) hx hb dX1_rest_17 rfl ?_
    exact W.iret (v := ((a0).toInt32)) hx hb hr (fun t ht hW => ⟨_, rfl, (by unfold fx_m_rest; rw [if_pos c1]), ht⟩) (fun q h => by cases h) dX1_rest_18
def fx_m_plain (a0 : Int32) (a1 : Int32) (a2 : Int32) : Int32 := (if a0 = (0 : Int32) then (((((a1).toInt64) + ((a2).toInt64))).toInt32) else (if a0 = (1 : Int32) then (a1 &&& a2) else (if a0 = (2 : Int32) then (if a2 ≤ a1 then (0 : Int32) else (1 : Int32)) else (if a0 = (3 : Int32) then (if (0 : Int32) ≤ (lg_cmp (fx_m_unsigned a1) (fx_m_unsigned a2)) then (0 : Int32) else (1 : Int32)) else (if a0 = (4 : Int32) then (a1 ^^^ a2) else (if a0 = (5 : Int32) then (a1 &&& a2) else (if a0 = (6 : Int32) then (a1 ||| a2) else (a1 &&& a2))))))))
set_option maxHeartbeats 4000000 in
set_option maxRecDepth 100000 in
theorem ct_m_plain (l : Launch)  (a0 : Int32) (a1 : Int32) (a2 : Int32)  : Met l yX1_plain wsX1_plain ({ frames := 1, cells := 0, slots := 0, locals := 20 }) (va_Pc [.int a0, .int a1, .int a2] (fun _ => True)) (vp_Si (fun r => r = fx_m_plain a0 a1 a2)) 0 0 (fun _ => False) := by
  refine Met.ofW (cc := cX1_plain) (maxL := 3) (ret := (some .int)) (by decide) rfl ?_
  intro p e s m args below meth c s₁ B hml hv
  obtain ⟨rfl, -⟩ := hv
  have hx := B.exec
  have hb := B.bytes
  have hr := B.returns
  have htb : ∀ w ∈ lw_g, w.before ([.int a0, .int a1, .int a2] : List Value).toArray s = true := fun w h => atoms_spec (ws := wsX1_plain) B.pre w (List.mem_cons_of_mem _ h)
  have hown : s.vm.findClass RX1 = some m.cls := findClass_of_methodNamed B.named
  have hlocks := B.notSynchronized
  have hl := lv_entry ([.int a0, .int a1, .int a2]) (n := 3) (Nat.le_of_ble_eq_true rfl)
  rw [lg_entry_eq]
  generalize (lg_sl ([.int a0, .int a1, .int a2]) ++ List.replicate (3 - (lg_sl ([.int a0, .int a1, .int a2])).length) Slot.unset).toArray = ls at hl ⊢
  have hl : lv_has ls 3 [(0, .int a0), (1, .int a1), (2, .int a2)] := hl
  refine lv_iload_n hx hb dX1_plain_0 rfl (lv_at hl 0 rfl) ?_
  by_cases c1 : a0 = (0 : Int32)
  · refine lv_tableIn (x := a0) (off := 43) (tgt := 44) hx hb dX1_plain_1 (by rw [c1]; decide) (by rw [c1]; decide) (by rw [c1]; decide) (by decide) ?_
    refine lv_iload_n hx hb dX1_plain_44 rfl (lv_at hl 1 rfl) ?_
    refine lv_i2l (v := ((a1).toInt64)) hx hb dX1_plain_45 rfl ?_
    refine lv_iload_n hx hb dX1_plain_46 rfl (lv_at hl 2 rfl) ?_
    refine lv_i2l (v := ((a2).toInt64)) hx hb dX1_plain_47 rfl ?_
    refine lv_ladd hx hb dX1_plain_48 ?_
    refine lv_l2i (v := (((((a1).toInt64) + ((a2).toInt64))).toInt32)) hx hb dX1_plain_49 rfl ?_
    exact W.iret (v := (((((a1).toInt64) + ((a2).toInt64))).toInt32)) hx hb hr (fun t ht hW => ⟨_, rfl, (by unfold fx_m_plain; rw [if_pos c1]), ht⟩) (fun q h => by cases h) dX1_plain_50
  by_cases c2 : a0 = (1 : Int32)
  · refine lv_tableIn (x := a0) (off := 87) (tgt := 88) hx hb dX1_plain_1 (by rw [c2]; decide) (by rw [c2]; decide) (by rw [c2]; decide) (by decide) ?_
    refine lv_iload_n hx hb dX1_plain_88 rfl (lv_at hl 1 rfl) ?_
    refine lv_iload_n hx hb dX1_plain_89 rfl (lv_at hl 2 rfl) ?_
    refine lv_iand hx hb dX1_plain_90 ?_
    exact W.iret (v := (a1 &&& a2)) hx hb hr (fun t ht hW => ⟨_, rfl, (by unfold fx_m_plain; rw [if_neg c1, if_pos c2]), ht⟩) (fun q h => by cases h) dX1_plain_91
  by_cases c3 : a0 = (2 : Int32)
  · refine lv_tableIn (x := a0) (off := 50) (tgt := 51) hx hb dX1_plain_1 (by rw [c3]; decide) (by rw [c3]; decide) (by rw [c3]; decide) (by decide) ?_
    refine lv_iload_n hx hb dX1_plain_51 rfl (lv_at hl 1 rfl) ?_
    refine lv_iload_n hx hb dX1_plain_52 rfl (lv_at hl 2 rfl) ?_
    refine lv_icmp_ge (tgt := 60) hx hb dX1_plain_53 (by decide) (fun c4 => ?_) (fun c4 => ?_)
    · refine lv_iconst (v := (0 : Int32)) hx hb dX1_plain_60 (by decide) ?_
      exact W.iret (v := (0 : Int32)) hx hb hr (fun t ht hW => ⟨_, rfl, (by unfold fx_m_plain; rw [if_neg c1, if_neg c2, if_pos c3, if_pos c4]), ht⟩) (fun q h => by cases h) dX1_plain_61
    · refine lv_iconst (v := (1 : Int32)) hx hb dX1_plain_56 (by decide) ?_
      refine lv_goto (tgt := 61) hx hb dX1_plain_57 (by decide) ?_
      exact W.iret (v := (1 : Int32)) hx hb hr (fun t ht hW => ⟨_, rfl, (by unfold fx_m_plain; rw [if_neg c1, if_neg c2, if_pos c3, if_neg c4]), ht⟩) (fun q h => by cases h) dX1_plain_61
  by_cases c5 : a0 = (3 : Int32)
  · refine lv_tableIn (x := a0) (off := 61) (tgt := 62) hx hb dX1_plain_1 (by rw [c5]; decide) (by rw [c5]; decide) (by rw [c5]; decide) (by decide) ?_
    refine lv_iload_n hx hb dX1_plain_62 rfl (lv_at hl 1 rfl) ?_
    refine vp_callSl (W.runS (As := [.int a1]) (rest := []) ⟨hx, hb, hml, hown, htb⟩ (ct_m_unsigned l a1) (va_cwS 1 htb gw_X1_45 rfl rfl rfl (by decide +kernel) ⟨Nat.le_of_ble_eq_true rfl, Nat.le_of_ble_eq_true rfl⟩) jj_pre rfl rfl hl.1 rfl (lv_room (Nat.le_of_ble_eq_true rfl)) dX1_plain_63 ⟨Nat.le_of_ble_eq_true rfl, Nat.le_of_ble_eq_true rfl⟩) (fun r9 e9 => ?_)
    subst e9
    refine lv_iload_n hx hb dX1_plain_66 rfl (lv_at hl 2 rfl) ?_
    refine vp_callSl (W.runS (As := [.int a2]) (rest := [.long (fx_m_unsigned a1)]) ⟨hx, hb, hml, hown, htb⟩ (ct_m_unsigned l a2) (va_cwS 1 htb gw_X1_45 rfl rfl rfl (by decide +kernel) ⟨Nat.le_of_ble_eq_true rfl, Nat.le_of_ble_eq_true rfl⟩) jj_pre rfl rfl hl.1 rfl (lv_room (Nat.le_of_ble_eq_true rfl)) dX1_plain_67 ⟨Nat.le_of_ble_eq_true rfl, Nat.le_of_ble_eq_true rfl⟩) (fun r9 e9 => ?_)
    subst e9
    refine W.lcmp hx hb dX1_plain_70 ?_
    refine lv_if_ge (tgt := 78) hx hb dX1_plain_71 (by decide) (fun c6 => ?_) (fun c6 => ?_)
    · refine lv_iconst (v := (0 : Int32)) hx hb dX1_plain_78 (by decide) ?_
      exact W.iret (v := (0 : Int32)) hx hb hr (fun t ht hW => ⟨_, rfl, (by unfold fx_m_plain; rw [if_neg c1, if_neg c2, if_neg c3, if_pos c5, if_pos c6]), ht⟩) (fun q h => by cases h) dX1_plain_79
    · refine lv_iconst (v := (1 : Int32)) hx hb dX1_plain_74 (by decide) ?_
      refine lv_goto (tgt := 79) hx hb dX1_plain_75 (by decide) ?_
      exact W.iret (v := (1 : Int32)) hx hb hr (fun t ht hW => ⟨_, rfl, (by unfold fx_m_plain; rw [if_neg c1, if_neg c2, if_neg c3, if_pos c5, if_neg c6]), ht⟩) (fun q h => by cases h) dX1_plain_79
  by_cases c7 : a0 = (4 : Int32)
  · refine lv_tableIn (x := a0) (off := 79) (tgt := 80) hx hb dX1_plain_1 (by rw [c7]; decide) (by rw [c7]; decide) (by rw [c7]; decide) (by decide) ?_
    refine lv_iload_n hx hb dX1_plain_80 rfl (lv_at hl 1 rfl) ?_
    refine lv_iload_n hx hb dX1_plain_81 rfl (lv_at hl 2 rfl) ?_
    refine lv_ixor hx hb dX1_plain_82 ?_
    exact W.iret (v := (a1 ^^^ a2)) hx hb hr (fun t ht hW => ⟨_, rfl, (by unfold fx_m_plain; rw [if_neg c1, if_neg c2, if_neg c3, if_neg c5, if_pos c7]), ht⟩) (fun q h => by cases h) dX1_plain_83
  by_cases c8 : a0 = (5 : Int32)
  · refine lv_tableIn (x := a0) (off := 87) (tgt := 88) hx hb dX1_plain_1 (by rw [c8]; decide) (by rw [c8]; decide) (by rw [c8]; decide) (by decide) ?_
    refine lv_iload_n hx hb dX1_plain_88 rfl (lv_at hl 1 rfl) ?_
    refine lv_iload_n hx hb dX1_plain_89 rfl (lv_at hl 2 rfl) ?_
    refine lv_iand hx hb dX1_plain_90 ?_
    exact W.iret (v := (a1 &&& a2)) hx hb hr (fun t ht hW => ⟨_, rfl, (by unfold fx_m_plain; rw [if_neg c1, if_neg c2, if_neg c3, if_neg c5, if_neg c7, if_pos c8]), ht⟩) (fun q h => by cases h) dX1_plain_91
  by_cases c9 : a0 = (6 : Int32)
  · refine lv_tableIn (x := a0) (off := 83) (tgt := 84) hx hb dX1_plain_1 (by rw [c9]; decide) (by rw [c9]; decide) (by rw [c9]; decide) (by decide) ?_
    refine lv_iload_n hx hb dX1_plain_84 rfl (lv_at hl 1 rfl) ?_
    refine lv_iload_n hx hb dX1_plain_85 rfl (lv_at hl 2 rfl) ?_
    refine lv_ior hx hb dX1_plain_86 ?_
    exact W.iret (v := (a1 ||| a2)) hx hb hr (fun t ht hW => ⟨_, rfl, (by unfold fx_m_plain; rw [if_neg c1, if_neg c2, if_neg c3, if_neg c5, if_neg c7, if_neg c8, if_pos c9]), ht⟩) (fun q h => by cases h) dX1_plain_87
  refine lv_tableOut (x := a0) (tgt := 88) hx hb dX1_plain_1 (by have hc1 := lv_neT c1 (a := 0) (by decide); have hc2 := lv_neT c2 (a := 1) (by decide); have hc3 := lv_neT c3 (a := 2) (by decide); have hc5 := lv_neT c5 (a := 3) (by decide); have hc7 := lv_neT c7 (a := 4) (by decide); have hc8 := lv_neT c8 (a := 5) (by decide); have hc9 := lv_neT c9 (a := 6) (by decide); omega) (by decide) ?_
  refine lv_iload_n hx hb dX1_plain_88 rfl (lv_at hl 1 rfl) ?_
  refine lv_iload_n hx hb dX1_plain_89 rfl (lv_at hl 2 rfl) ?_
  refine lv_iand hx hb dX1_plain_90 ?_
  exact W.iret (v := (a1 &&& a2)) hx hb hr (fun t ht hW => ⟨_, rfl, (by unfold fx_m_plain; rw [if_neg c1, if_neg c2, if_neg c3, if_neg c5, if_neg c7, if_neg c8, if_neg c9]), ht⟩) (fun q h => by cases h) dX1_plain_91
def fx_m_product (a0 : Int32) (a1 : Int32) (a2 : Int32) : Int32 := (if a0 = (0 : Int32) then (((((a1).toInt64) * ((a2).toInt64))).toInt32) else (if a0 = (1 : Int32) then (fx_m_upper ((a1).toInt64) ((a2).toInt64)) else (if a0 = (2 : Int32) then (fx_m_upper ((a1).toInt64) (fx_m_unsigned a2)) else (if a0 = (3 : Int32) then (fx_m_upper (fx_m_unsigned a1) (fx_m_unsigned a2)) else (if a0 = (4 : Int32) then (fx_m_quotient ((a1).toInt64) ((a2).toInt64)) else (if a0 = (5 : Int32) then (fx_m_quotient (fx_m_unsigned a1) (fx_m_unsigned a2)) else (if a0 = (6 : Int32) then (fx_m_rest ((a1).toInt64) ((a2).toInt64)) else (fx_m_rest (fx_m_unsigned a1) (fx_m_unsigned a2)))))))))
set_option maxHeartbeats 4000000 in
set_option maxRecDepth 100000 in
theorem ct_m_product (l : Launch)  (a0 : Int32) (a1 : Int32) (a2 : Int32)  : Met l yX1_product wsX1_product ({ frames := 1, cells := 0, slots := 0, locals := 31 }) (va_Pc [.int a0, .int a1, .int a2] (fun _ => True)) (vp_Si (fun r => r = fx_m_product a0 a1 a2)) 0 0 (fun _ => False) := by
  refine Met.ofW (cc := cX1_product) (maxL := 3) (ret := (some .int)) (by decide) rfl ?_
  intro p e s m args below meth c s₁ B hml hv
  obtain ⟨rfl, -⟩ := hv
  have hx := B.exec
  have hb := B.bytes
  have hr := B.returns
  have htb : ∀ w ∈ lw_g, w.before ([.int a0, .int a1, .int a2] : List Value).toArray s = true := fun w h => atoms_spec (ws := wsX1_product) B.pre w (List.mem_cons_of_mem _ h)
  have hown : s.vm.findClass RX1 = some m.cls := findClass_of_methodNamed B.named
  have hlocks := B.notSynchronized
  have hl := lv_entry ([.int a0, .int a1, .int a2]) (n := 3) (Nat.le_of_ble_eq_true rfl)
  rw [lg_entry_eq]
  generalize (lg_sl ([.int a0, .int a1, .int a2]) ++ List.replicate (3 - (lg_sl ([.int a0, .int a1, .int a2])).length) Slot.unset).toArray = ls at hl ⊢
  have hl : lv_has ls 3 [(0, .int a0), (1, .int a1), (2, .int a2)] := hl
  refine lv_iload_n hx hb dX1_product_0 rfl (lv_at hl 0 rfl) ?_
  by_cases c1 : a0 = (0 : Int32)
  · refine lv_tableIn (x := a0) (off := 43) (tgt := 44) hx hb dX1_product_1 (by rw [c1]; decide) (by rw [c1]; decide) (by rw [c1]; decide) (by decide) ?_
    refine lv_iload_n hx hb dX1_product_44 rfl (lv_at hl 1 rfl) ?_
    refine lv_i2l (v := ((a1).toInt64)) hx hb dX1_product_45 rfl ?_
    refine lv_iload_n hx hb dX1_product_46 rfl (lv_at hl 2 rfl) ?_
    refine lv_i2l (v := ((a2).toInt64)) hx hb dX1_product_47 rfl ?_
    refine lv_lmul hx hb dX1_product_48 ?_
    refine lv_l2i (v := (((((a1).toInt64) * ((a2).toInt64))).toInt32)) hx hb dX1_product_49 rfl ?_
    exact W.iret (v := (((((a1).toInt64) * ((a2).toInt64))).toInt32)) hx hb hr (fun t ht hW => ⟨_, rfl, (by unfold fx_m_product; rw [if_pos c1]), ht⟩) (fun q h => by cases h) dX1_product_50
  by_cases c2 : a0 = (1 : Int32)
  · refine lv_tableIn (x := a0) (off := 50) (tgt := 51) hx hb dX1_product_1 (by rw [c2]; decide) (by rw [c2]; decide) (by rw [c2]; decide) (by decide) ?_
    refine lv_iload_n hx hb dX1_product_51 rfl (lv_at hl 1 rfl) ?_
    refine lv_i2l (v := ((a1).toInt64)) hx hb dX1_product_52 rfl ?_
    refine lv_iload_n hx hb dX1_product_53 rfl (lv_at hl 2 rfl) ?_
    refine lv_i2l (v := ((a2).toInt64)) hx hb dX1_product_54 rfl ?_
    refine vp_callSi (W.runS (As := [.long ((a1).toInt64), .long ((a2).toInt64)]) (rest := []) ⟨hx, hb, hml, hown, htb⟩ (ct_m_upper l ((a1).toInt64) ((a2).toInt64)) (va_cwS 2 htb gw_X1_53 rfl rfl rfl (by decide +kernel) ⟨Nat.le_of_ble_eq_true rfl, Nat.le_of_ble_eq_true rfl⟩) jj_pre rfl rfl hl.1 rfl (lv_room (Nat.le_of_ble_eq_true rfl)) dX1_product_55 ⟨Nat.le_of_ble_eq_true rfl, Nat.le_of_ble_eq_true rfl⟩) (fun r9 e9 => ?_)
    subst e9
    exact W.iret (v := (fx_m_upper ((a1).toInt64) ((a2).toInt64))) hx hb hr (fun t ht hW => ⟨_, rfl, (by unfold fx_m_product; rw [if_neg c1, if_pos c2]), ht⟩) (fun q h => by cases h) dX1_product_58
  by_cases c3 : a0 = (2 : Int32)
  · refine lv_tableIn (x := a0) (off := 58) (tgt := 59) hx hb dX1_product_1 (by rw [c3]; decide) (by rw [c3]; decide) (by rw [c3]; decide) (by decide) ?_
    refine lv_iload_n hx hb dX1_product_59 rfl (lv_at hl 1 rfl) ?_
    refine lv_i2l (v := ((a1).toInt64)) hx hb dX1_product_60 rfl ?_
    refine lv_iload_n hx hb dX1_product_61 rfl (lv_at hl 2 rfl) ?_
    refine vp_callSl (W.runS (As := [.int a2]) (rest := [.long ((a1).toInt64)]) ⟨hx, hb, hml, hown, htb⟩ (ct_m_unsigned l a2) (va_cwS 1 htb gw_X1_45 rfl rfl rfl (by decide +kernel) ⟨Nat.le_of_ble_eq_true rfl, Nat.le_of_ble_eq_true rfl⟩) jj_pre rfl rfl hl.1 rfl (lv_room (Nat.le_of_ble_eq_true rfl)) dX1_product_62 ⟨Nat.le_of_ble_eq_true rfl, Nat.le_of_ble_eq_true rfl⟩) (fun r9 e9 => ?_)
    subst e9
    refine vp_callSi (W.runS (As := [.long ((a1).toInt64), .long (fx_m_unsigned a2)]) (rest := []) ⟨hx, hb, hml, hown, htb⟩ (ct_m_upper l ((a1).toInt64) (fx_m_unsigned a2)) (va_cwS 2 htb gw_X1_53 rfl rfl rfl (by decide +kernel) ⟨Nat.le_of_ble_eq_true rfl, Nat.le_of_ble_eq_true rfl⟩) jj_pre rfl rfl hl.1 rfl (lv_room (Nat.le_of_ble_eq_true rfl)) dX1_product_65 ⟨Nat.le_of_ble_eq_true rfl, Nat.le_of_ble_eq_true rfl⟩) (fun r9 e9 => ?_)
    subst e9
    exact W.iret (v := (fx_m_upper ((a1).toInt64) (fx_m_unsigned a2))) hx hb hr (fun t ht hW => ⟨_, rfl, (by unfold fx_m_product; rw [if_neg c1, if_neg c2, if_pos c3]), ht⟩) (fun q h => by cases h) dX1_product_68
  by_cases c4 : a0 = (3 : Int32)
  · refine lv_tableIn (x := a0) (off := 68) (tgt := 69) hx hb dX1_product_1 (by rw [c4]; decide) (by rw [c4]; decide) (by rw [c4]; decide) (by decide) ?_
    refine lv_iload_n hx hb dX1_product_69 rfl (lv_at hl 1 rfl) ?_
    refine vp_callSl (W.runS (As := [.int a1]) (rest := []) ⟨hx, hb, hml, hown, htb⟩ (ct_m_unsigned l a1) (va_cwS 1 htb gw_X1_45 rfl rfl rfl (by decide +kernel) ⟨Nat.le_of_ble_eq_true rfl, Nat.le_of_ble_eq_true rfl⟩) jj_pre rfl rfl hl.1 rfl (lv_room (Nat.le_of_ble_eq_true rfl)) dX1_product_70 ⟨Nat.le_of_ble_eq_true rfl, Nat.le_of_ble_eq_true rfl⟩) (fun r9 e9 => ?_)
    subst e9
    refine lv_iload_n hx hb dX1_product_73 rfl (lv_at hl 2 rfl) ?_
    refine vp_callSl (W.runS (As := [.int a2]) (rest := [.long (fx_m_unsigned a1)]) ⟨hx, hb, hml, hown, htb⟩ (ct_m_unsigned l a2) (va_cwS 1 htb gw_X1_45 rfl rfl rfl (by decide +kernel) ⟨Nat.le_of_ble_eq_true rfl, Nat.le_of_ble_eq_true rfl⟩) jj_pre rfl rfl hl.1 rfl (lv_room (Nat.le_of_ble_eq_true rfl)) dX1_product_74 ⟨Nat.le_of_ble_eq_true rfl, Nat.le_of_ble_eq_true rfl⟩) (fun r9 e9 => ?_)
    subst e9
    refine vp_callSi (W.runS (As := [.long (fx_m_unsigned a1), .long (fx_m_unsigned a2)]) (rest := []) ⟨hx, hb, hml, hown, htb⟩ (ct_m_upper l (fx_m_unsigned a1) (fx_m_unsigned a2)) (va_cwS 2 htb gw_X1_53 rfl rfl rfl (by decide +kernel) ⟨Nat.le_of_ble_eq_true rfl, Nat.le_of_ble_eq_true rfl⟩) jj_pre rfl rfl hl.1 rfl (lv_room (Nat.le_of_ble_eq_true rfl)) dX1_product_77 ⟨Nat.le_of_ble_eq_true rfl, Nat.le_of_ble_eq_true rfl⟩) (fun r9 e9 => ?_)
    subst e9
    exact W.iret (v := (fx_m_upper (fx_m_unsigned a1) (fx_m_unsigned a2))) hx hb hr (fun t ht hW => ⟨_, rfl, (by unfold fx_m_product; rw [if_neg c1, if_neg c2, if_neg c3, if_pos c4]), ht⟩) (fun q h => by cases h) dX1_product_80
  by_cases c5 : a0 = (4 : Int32)
  · refine lv_tableIn (x := a0) (off := 80) (tgt := 81) hx hb dX1_product_1 (by rw [c5]; decide) (by rw [c5]; decide) (by rw [c5]; decide) (by decide) ?_
    refine lv_iload_n hx hb dX1_product_81 rfl (lv_at hl 1 rfl) ?_
    refine lv_i2l (v := ((a1).toInt64)) hx hb dX1_product_82 rfl ?_
    refine lv_iload_n hx hb dX1_product_83 rfl (lv_at hl 2 rfl) ?_
    refine lv_i2l (v := ((a2).toInt64)) hx hb dX1_product_84 rfl ?_
    refine vp_callSi (W.runS (As := [.long ((a1).toInt64), .long ((a2).toInt64)]) (rest := []) ⟨hx, hb, hml, hown, htb⟩ (ct_m_quotient l ((a1).toInt64) ((a2).toInt64)) (va_cwS 2 htb gw_X1_57 rfl rfl rfl (by decide +kernel) ⟨Nat.le_of_ble_eq_true rfl, Nat.le_of_ble_eq_true rfl⟩) jj_pre rfl rfl hl.1 rfl (lv_room (Nat.le_of_ble_eq_true rfl)) dX1_product_85 ⟨Nat.le_of_ble_eq_true rfl, Nat.le_of_ble_eq_true rfl⟩) (fun r9 e9 => ?_)
    subst e9
    exact W.iret (v := (fx_m_quotient ((a1).toInt64) ((a2).toInt64))) hx hb hr (fun t ht hW => ⟨_, rfl, (by unfold fx_m_product; rw [if_neg c1, if_neg c2, if_neg c3, if_neg c4, if_pos c5]), ht⟩) (fun q h => by cases h) dX1_product_88
  by_cases c6 : a0 = (5 : Int32)
  · refine lv_tableIn (x := a0) (off := 88) (tgt := 89) hx hb dX1_product_1 (by rw [c6]; decide) (by rw [c6]; decide) (by rw [c6]; decide) (by decide) ?_
    refine lv_iload_n hx hb dX1_product_89 rfl (lv_at hl 1 rfl) ?_
    refine vp_callSl (W.runS (As := [.int a1]) (rest := []) ⟨hx, hb, hml, hown, htb⟩ (ct_m_unsigned l a1) (va_cwS 1 htb gw_X1_45 rfl rfl rfl (by decide +kernel) ⟨Nat.le_of_ble_eq_true rfl, Nat.le_of_ble_eq_true rfl⟩) jj_pre rfl rfl hl.1 rfl (lv_room (Nat.le_of_ble_eq_true rfl)) dX1_product_90 ⟨Nat.le_of_ble_eq_true rfl, Nat.le_of_ble_eq_true rfl⟩) (fun r9 e9 => ?_)
    subst e9
    refine lv_iload_n hx hb dX1_product_93 rfl (lv_at hl 2 rfl) ?_
    refine vp_callSl (W.runS (As := [.int a2]) (rest := [.long (fx_m_unsigned a1)]) ⟨hx, hb, hml, hown, htb⟩ (ct_m_unsigned l a2) (va_cwS 1 htb gw_X1_45 rfl rfl rfl (by decide +kernel) ⟨Nat.le_of_ble_eq_true rfl, Nat.le_of_ble_eq_true rfl⟩) jj_pre rfl rfl hl.1 rfl (lv_room (Nat.le_of_ble_eq_true rfl)) dX1_product_94 ⟨Nat.le_of_ble_eq_true rfl, Nat.le_of_ble_eq_true rfl⟩) (fun r9 e9 => ?_)
    subst e9
    refine vp_callSi (W.runS (As := [.long (fx_m_unsigned a1), .long (fx_m_unsigned a2)]) (rest := []) ⟨hx, hb, hml, hown, htb⟩ (ct_m_quotient l (fx_m_unsigned a1) (fx_m_unsigned a2)) (va_cwS 2 htb gw_X1_57 rfl rfl rfl (by decide +kernel) ⟨Nat.le_of_ble_eq_true rfl, Nat.le_of_ble_eq_true rfl⟩) jj_pre rfl rfl hl.1 rfl (lv_room (Nat.le_of_ble_eq_true rfl)) dX1_product_97 ⟨Nat.le_of_ble_eq_true rfl, Nat.le_of_ble_eq_true rfl⟩) (fun r9 e9 => ?_)
    subst e9
    exact W.iret (v := (fx_m_quotient (fx_m_unsigned a1) (fx_m_unsigned a2))) hx hb hr (fun t ht hW => ⟨_, rfl, (by unfold fx_m_product; rw [if_neg c1, if_neg c2, if_neg c3, if_neg c4, if_neg c5, if_pos c6]), ht⟩) (fun q h => by cases h) dX1_product_100
  by_cases c7 : a0 = (6 : Int32)
  · refine lv_tableIn (x := a0) (off := 100) (tgt := 101) hx hb dX1_product_1 (by rw [c7]; decide) (by rw [c7]; decide) (by rw [c7]; decide) (by decide) ?_
    refine lv_iload_n hx hb dX1_product_101 rfl (lv_at hl 1 rfl) ?_
    refine lv_i2l (v := ((a1).toInt64)) hx hb dX1_product_102 rfl ?_
    refine lv_iload_n hx hb dX1_product_103 rfl (lv_at hl 2 rfl) ?_
    refine lv_i2l (v := ((a2).toInt64)) hx hb dX1_product_104 rfl ?_
    refine vp_callSi (W.runS (As := [.long ((a1).toInt64), .long ((a2).toInt64)]) (rest := []) ⟨hx, hb, hml, hown, htb⟩ (ct_m_rest l ((a1).toInt64) ((a2).toInt64)) (va_cwS 2 htb gw_X1_60 rfl rfl rfl (by decide +kernel) ⟨Nat.le_of_ble_eq_true rfl, Nat.le_of_ble_eq_true rfl⟩) jj_pre rfl rfl hl.1 rfl (lv_room (Nat.le_of_ble_eq_true rfl)) dX1_product_105 ⟨Nat.le_of_ble_eq_true rfl, Nat.le_of_ble_eq_true rfl⟩) (fun r9 e9 => ?_)
    subst e9
    exact W.iret (v := (fx_m_rest ((a1).toInt64) ((a2).toInt64))) hx hb hr (fun t ht hW => ⟨_, rfl, (by unfold fx_m_product; rw [if_neg c1, if_neg c2, if_neg c3, if_neg c4, if_neg c5, if_neg c6, if_pos c7]), ht⟩) (fun q h => by cases h) dX1_product_108
  refine lv_tableOut (x := a0) (tgt := 109) hx hb dX1_product_1 (by have hc1 := lv_neT c1 (a := 0) (by decide); have hc2 := lv_neT c2 (a := 1) (by decide); have hc3 := lv_neT c3 (a := 2) (by decide); have hc4 := lv_neT c4 (a := 3) (by decide); have hc5 := lv_neT c5 (a := 4) (by decide); have hc6 := lv_neT c6 (a := 5) (by decide); have hc7 := lv_neT c7 (a := 6) (by decide); omega) (by decide) ?_
  refine lv_iload_n hx hb dX1_product_109 rfl (lv_at hl 1 rfl) ?_
  refine vp_callSl (W.runS (As := [.int a1]) (rest := []) ⟨hx, hb, hml, hown, htb⟩ (ct_m_unsigned l a1) (va_cwS 1 htb gw_X1_45 rfl rfl rfl (by decide +kernel) ⟨Nat.le_of_ble_eq_true rfl, Nat.le_of_ble_eq_true rfl⟩) jj_pre rfl rfl hl.1 rfl (lv_room (Nat.le_of_ble_eq_true rfl)) dX1_product_110 ⟨Nat.le_of_ble_eq_true rfl, Nat.le_of_ble_eq_true rfl⟩) (fun r9 e9 => ?_)
  subst e9
  refine lv_iload_n hx hb dX1_product_113 rfl (lv_at hl 2 rfl) ?_
  refine vp_callSl (W.runS (As := [.int a2]) (rest := [.long (fx_m_unsigned a1)]) ⟨hx, hb, hml, hown, htb⟩ (ct_m_unsigned l a2) (va_cwS 1 htb gw_X1_45 rfl rfl rfl (by decide +kernel) ⟨Nat.le_of_ble_eq_true rfl, Nat.le_of_ble_eq_true rfl⟩) jj_pre rfl rfl hl.1 rfl (lv_room (Nat.le_of_ble_eq_true rfl)) dX1_product_114 ⟨Nat.le_of_ble_eq_true rfl, Nat.le_of_ble_eq_true rfl⟩) (fun r9 e9 => ?_)
  subst e9
  refine vp_callSi (W.runS (As := [.long (fx_m_unsigned a1), .long (fx_m_unsigned a2)]) (rest := []) ⟨hx, hb, hml, hown, htb⟩ (ct_m_rest l (fx_m_unsigned a1) (fx_m_unsigned a2)) (va_cwS 2 htb gw_X1_60 rfl rfl rfl (by decide +kernel) ⟨Nat.le_of_ble_eq_true rfl, Nat.le_of_ble_eq_true rfl⟩) jj_pre rfl rfl hl.1 rfl (lv_room (Nat.le_of_ble_eq_true rfl)) dX1_product_117 ⟨Nat.le_of_ble_eq_true rfl, Nat.le_of_ble_eq_true rfl⟩) (fun r9 e9 => ?_)
  subst e9
  exact W.iret (v := (fx_m_rest (fx_m_unsigned a1) (fx_m_unsigned a2))) hx hb hr (fun t ht hW => ⟨_, rfl, (by unfold fx_m_product; rw [if_neg c1, if_neg c2, if_neg c3, if_neg c4, if_neg c5, if_neg c6, if_neg c7]), ht⟩) (fun q h => by cases h) dX1_product_120
def fx_m_isArithmetic (a0 : Int32) : Int32 := (if a0 = (19 : Int32) then (1 : Int32) else (if a0 = (51 : Int32) then (1 : Int32) else (if a0 = (23 : Int32) then (1 : Int32) else (if a0 = (55 : Int32) then (1 : Int32) else (0 : Int32)))))
set_option maxHeartbeats 4000000 in
set_option maxRecDepth 100000 in
theorem ct_m_isArithmetic (l : Launch)  (a0 : Int32)  : Met l yX1_isArithmetic wsX1_isArithmetic ({ frames := 0, cells := 0, slots := 0, locals := 0 }) (va_Pc [.int a0] (fun _ => True)) (vp_Si (fun r => r = fx_m_isArithmetic a0)) 0 0 (fun _ => False) := by
  refine Met.ofW (cc := cX1_isArithmetic) (maxL := 1) (ret := (some .boolean)) (by decide) rfl ?_
  intro p e s m args below meth c s₁ B hml hv
  obtain ⟨rfl, -⟩ := hv
  have hx := B.exec
  have hb := B.bytes
  have hr := B.returns
  have htb : ∀ w ∈ lw_g, w.before ([.int a0] : List Value).toArray s = true := fun w h => atoms_spec (ws := wsX1_isArithmetic) B.pre w (List.mem_cons_of_mem _ h)
  have hown : s.vm.findClass RX1 = some m.cls := findClass_of_methodNamed B.named
  have hlocks := B.notSynchronized
  have hl := lv_entry ([.int a0]) (n := 1) (Nat.le_of_ble_eq_true rfl)
  rw [lg_entry_eq]
  generalize (lg_sl ([.int a0]) ++ List.replicate (1 - (lg_sl ([.int a0])).length) Slot.unset).toArray = ls at hl ⊢
  have hl : lv_has ls 1 [(0, .int a0)] := hl
  refine lv_iload_n hx hb dX1_isArithmetic_0 rfl (lv_at hl 0 rfl) ?_
  refine lv_bipush (v := (19 : Int32)) hx hb dX1_isArithmetic_1 (by decide) ?_
  refine lv_icmp_eq (tgt := 24) hx hb dX1_isArithmetic_3 (by decide) (fun c1 => ?_) (fun c1 => ?_)
  · refine lv_iconst (v := (1 : Int32)) hx hb dX1_isArithmetic_24 (by decide) ?_
    refine lv_goto (tgt := 29) hx hb dX1_isArithmetic_25 (by decide) ?_
    exact W.zret (v := (1 : Int32)) hx hb hr rfl (fun t ht hW => ⟨_, rfl, (by unfold fx_m_isArithmetic; rw [if_pos c1]), ht⟩) (fun q h => by cases h) dX1_isArithmetic_29
  · refine lv_iload_n hx hb dX1_isArithmetic_6 rfl (lv_at hl 0 rfl) ?_
    refine lv_bipush (v := (51 : Int32)) hx hb dX1_isArithmetic_7 (by decide) ?_
    refine lv_icmp_eq (tgt := 24) hx hb dX1_isArithmetic_9 (by decide) (fun c2 => ?_) (fun c2 => ?_)
    · refine lv_iconst (v := (1 : Int32)) hx hb dX1_isArithmetic_24 (by decide) ?_
      refine lv_goto (tgt := 29) hx hb dX1_isArithmetic_25 (by decide) ?_
      exact W.zret (v := (1 : Int32)) hx hb hr rfl (fun t ht hW => ⟨_, rfl, (by unfold fx_m_isArithmetic; rw [if_neg c1, if_pos c2]), ht⟩) (fun q h => by cases h) dX1_isArithmetic_29
    · refine lv_iload_n hx hb dX1_isArithmetic_12 rfl (lv_at hl 0 rfl) ?_
      refine lv_bipush (v := (23 : Int32)) hx hb dX1_isArithmetic_13 (by decide) ?_
      refine lv_icmp_eq (tgt := 24) hx hb dX1_isArithmetic_15 (by decide) (fun c3 => ?_) (fun c3 => ?_)
      · refine lv_iconst (v := (1 : Int32)) hx hb dX1_isArithmetic_24 (by decide) ?_
        refine lv_goto (tgt := 29) hx hb dX1_isArithmetic_25 (by decide) ?_
        exact W.zret (v := (1 : Int32)) hx hb hr rfl (fun t ht hW => ⟨_, rfl, (by unfold fx_m_isArithmetic; rw [if_neg c1, if_neg c2, if_pos c3]), ht⟩) (fun q h => by cases h) dX1_isArithmetic_29
      · refine lv_iload_n hx hb dX1_isArithmetic_18 rfl (lv_at hl 0 rfl) ?_
        refine lv_bipush (v := (55 : Int32)) hx hb dX1_isArithmetic_19 (by decide) ?_
        refine lv_icmp_ne (tgt := 28) hx hb dX1_isArithmetic_21 (by decide) (fun c4 => ?_) (fun c4 => ?_)
        · refine lv_iconst (v := (0 : Int32)) hx hb dX1_isArithmetic_28 (by decide) ?_
          exact W.zret (v := (0 : Int32)) hx hb hr rfl (fun t ht hW => ⟨_, rfl, (by unfold fx_m_isArithmetic; rw [if_neg c1, if_neg c2, if_neg c3, if_neg c4]), ht⟩) (fun q h => by cases h) dX1_isArithmetic_29
        · refine lv_iconst (v := (1 : Int32)) hx hb dX1_isArithmetic_24 (by decide) ?_
          refine lv_goto (tgt := 29) hx hb dX1_isArithmetic_25 (by decide) ?_
          exact W.zret (v := (1 : Int32)) hx hb hr rfl (fun t ht hW => ⟨_, rfl, (by unfold fx_m_isArithmetic; rw [if_neg c1, if_neg c2, if_neg c3, if_pos c4]), ht⟩) (fun q h => by cases h) dX1_isArithmetic_29
def fx_m_isThere (a0 : Int64) (a1 : Int32) : Int32 := (if (lg_cmp a0 (0 : Int64)) < (0 : Int32) then (0 : Int32) else (if (0 : Int32) < (lg_cmp (a0 + ((a1).toInt64)) (4096 : Int64)) then (0 : Int32) else (1 : Int32)))
set_option maxHeartbeats 4000000 in
set_option maxRecDepth 100000 in
theorem ct_m_isThere (l : Launch)  (a0 : Int64) (a1 : Int32)  : Met l yX1_isThere wsX1_isThere ({ frames := 0, cells := 0, slots := 0, locals := 0 }) (va_Pc [.long a0, .int a1] (fun _ => True)) (vp_Si (fun r => r = fx_m_isThere a0 a1)) 0 0 (fun _ => False) := by
  refine Met.ofW (cc := cX1_isThere) (maxL := 3) (ret := (some .boolean)) (by decide) rfl ?_
  intro p e s m args below meth c s₁ B hml hv
  obtain ⟨rfl, -⟩ := hv
  have hx := B.exec
  have hb := B.bytes
  have hr := B.returns
  have htb : ∀ w ∈ lw_g, w.before ([.long a0, .int a1] : List Value).toArray s = true := fun w h => atoms_spec (ws := wsX1_isThere) B.pre w (List.mem_cons_of_mem _ h)
  have hown : s.vm.findClass RX1 = some m.cls := findClass_of_methodNamed B.named
  have hlocks := B.notSynchronized
  have hl := lv_entry ([.long a0, .int a1]) (n := 3) (Nat.le_of_ble_eq_true rfl)
  rw [lg_entry_eq]
  generalize (lg_sl ([.long a0, .int a1]) ++ List.replicate (3 - (lg_sl ([.long a0, .int a1])).length) Slot.unset).toArray = ls at hl ⊢
  have hl : lv_has ls 3 [(0, .long a0), (2, .int a1)] := hl
  refine lv_lload_n hx hb dX1_isThere_0 rfl (lv_at hl 0 rfl) ?_
  refine lv_lconst (v := (0 : Int64)) hx hb dX1_isThere_1 (by decide) ?_
  refine W.lcmp hx hb dX1_isThere_2 ?_
  refine lv_if_lt (tgt := 21) hx hb dX1_isThere_3 (by decide) (fun c1 => ?_) (fun c1 => ?_)
  · refine lv_iconst (v := (0 : Int32)) hx hb dX1_isThere_21 (by decide) ?_
    exact W.zret (v := (0 : Int32)) hx hb hr rfl (fun t ht hW => ⟨_, rfl, (by unfold fx_m_isThere; rw [if_pos c1]), ht⟩) (fun q h => by cases h) dX1_isThere_22
  · refine lv_lload_n hx hb dX1_isThere_6 rfl (lv_at hl 0 rfl) ?_
    refine lv_iload_n hx hb dX1_isThere_7 rfl (lv_at hl 1 rfl) ?_
    refine lv_i2l (v := ((a1).toInt64)) hx hb dX1_isThere_8 rfl ?_
    refine lv_ladd hx hb dX1_isThere_9 ?_
    refine lv_ldc2 (v := (4096 : Int64)) hx hb hown (htb _ iw_k_X1_85) dX1_isThere_10 ?_
    refine W.lcmp hx hb dX1_isThere_13 ?_
    refine lv_if_gt (tgt := 21) hx hb dX1_isThere_14 (by decide) (fun c2 => ?_) (fun c2 => ?_)
    · refine lv_iconst (v := (0 : Int32)) hx hb dX1_isThere_21 (by decide) ?_
      exact W.zret (v := (0 : Int32)) hx hb hr rfl (fun t ht hW => ⟨_, rfl, (by unfold fx_m_isThere; rw [if_neg c1, if_pos c2]), ht⟩) (fun q h => by cases h) dX1_isThere_22
    · refine lv_iconst (v := (1 : Int32)) hx hb dX1_isThere_17 (by decide) ?_
      refine lv_goto (tgt := 22) hx hb dX1_isThere_18 (by decide) ?_
      exact W.zret (v := (1 : Int32)) hx hb hr rfl (fun t ht hW => ⟨_, rfl, (by unfold fx_m_isThere; rw [if_neg c1, if_neg c2]), ht⟩) (fun q h => by cases h) dX1_isThere_22
