def fx_x_isMultipleOf4 (a0 : Int32) : Int32 := (if (a0 &&& (3 : Int32)) = (0 : Int32) then (1 : Int32) else (0 : Int32))
set_option maxHeartbeats 4000000 in
set_option maxRecDepth 100000 in
theorem ct_x_isMultipleOf4 (l : Launch)  (a0 : Int32)  : Met l yX0_isMultipleOf4 wsX0_isMultipleOf4 ({ frames := 0, cells := 0, slots := 0, locals := 0 }) (va_Pc [.int a0] (fun _ => True)) (vp_Si (fun r => r = fx_x_isMultipleOf4 a0)) 0 0 (fun _ => False) := by
  refine Met.ofW (cc := cX0_isMultipleOf4) (maxL := 1) (ret := (some .boolean)) (by decide) rfl ?_
  intro p e s m args below meth c s₁ B hml hv
  obtain ⟨rfl, -⟩ := hv
  have hx := B.exec
  have hb := B.bytes
  have hr := B.returns
  have htb : ∀ w ∈ lw_g, w.before ([.int a0] : List Value).toArray s = true := fun w h => atoms_spec (ws := wsX0_isMultipleOf4) B.pre w (List.mem_cons_of_mem _ h)
  have hown : s.vm.findClass RX0 = some m.cls := findClass_of_methodNamed B.named
  have hlocks := B.notSynchronized
  have hl := lv_entry ([.int a0]) (n := 1) (Nat.le_of_ble_eq_true rfl)
  rw [lg_entry_eq]
  generalize (lg_sl ([.int a0]) ++ List.replicate (1 - (lg_sl ([.int a0])).length) Slot.unset).toArray = ls at hl ⊢
  have hl : lv_has ls 1 [(0, .int a0)] := hl
  refine lv_iload_n hx hb dX0_isMultipleOf4_0 rfl (lv_at hl 0 rfl) ?_
  refine lv_iconst (v := (3 : Int32)) hx hb dX0_isMultipleOf4_1 (by decide) ?_
  refine lv_iand hx hb dX0_isMultipleOf4_2 ?_
  refine lv_if_ne (tgt := 10) hx hb dX0_isMultipleOf4_3 (by decide) (fun c1 => ?_) (fun c1 => ?_)
  · refine lv_iconst (v := (0 : Int32)) hx hb dX0_isMultipleOf4_10 (by decide) ?_
    exact W.zret (v := (0 : Int32)) hx hb hr rfl (fun t ht hW => ⟨_, rfl, (by unfold fx_x_isMultipleOf4; rw [if_neg c1]), ht⟩) (fun q h => by cases h) dX0_isMultipleOf4_11
  · refine lv_iconst (v := (1 : Int32)) hx hb dX0_isMultipleOf4_6 (by decide) ?_
    refine lv_goto (tgt := 11) hx hb dX0_isMultipleOf4_7 (by decide) ?_
    exact W.zret (v := (1 : Int32)) hx hb hr rfl (fun t ht hW => ⟨_, rfl, (by unfold fx_x_isMultipleOf4; rw [if_pos c1]), ht⟩) (fun q h => by cases h) dX0_isMultipleOf4_11
def fx_x_isOfMemory (a0 : Int32) : Int32 := (if a0 < (0 : Int32) then (0 : Int32) else (if (4096 : Int32) ≤ a0 then (0 : Int32) else (1 : Int32)))
set_option maxHeartbeats 4000000 in
set_option maxRecDepth 100000 in
theorem ct_x_isOfMemory (l : Launch)  (a0 : Int32)  : Met l yX0_isOfMemory wsX0_isOfMemory ({ frames := 0, cells := 0, slots := 0, locals := 0 }) (va_Pc [.int a0] (fun _ => True)) (vp_Si (fun r => r = fx_x_isOfMemory a0)) 0 0 (fun _ => False) := by
  refine Met.ofW (cc := cX0_isOfMemory) (maxL := 1) (ret := (some .boolean)) (by decide) rfl ?_
  intro p e s m args below meth c s₁ B hml hv
  obtain ⟨rfl, -⟩ := hv
  have hx := B.exec
  have hb := B.bytes
  have hr := B.returns
  have htb : ∀ w ∈ lw_g, w.before ([.int a0] : List Value).toArray s = true := fun w h => atoms_spec (ws := wsX0_isOfMemory) B.pre w (List.mem_cons_of_mem _ h)
  have hown : s.vm.findClass RX0 = some m.cls := findClass_of_methodNamed B.named
  have hlocks := B.notSynchronized
  have hl := lv_entry ([.int a0]) (n := 1) (Nat.le_of_ble_eq_true rfl)
  rw [lg_entry_eq]
  generalize (lg_sl ([.int a0]) ++ List.replicate (1 - (lg_sl ([.int a0])).length) Slot.unset).toArray = ls at hl ⊢
  have hl : lv_has ls 1 [(0, .int a0)] := hl
  refine lv_iload_n hx hb dX0_isOfMemory_0 rfl (lv_at hl 0 rfl) ?_
  refine lv_if_lt (tgt := 15) hx hb dX0_isOfMemory_1 (by decide) (fun c1 => ?_) (fun c1 => ?_)
  · refine lv_iconst (v := (0 : Int32)) hx hb dX0_isOfMemory_15 (by decide) ?_
    exact W.zret (v := (0 : Int32)) hx hb hr rfl (fun t ht hW => ⟨_, rfl, (by unfold fx_x_isOfMemory; rw [if_pos c1]), ht⟩) (fun q h => by cases h) dX0_isOfMemory_16
  · refine lv_iload_n hx hb dX0_isOfMemory_4 rfl (lv_at hl 0 rfl) ?_
    refine lv_sipush (v := (4096 : Int32)) hx hb dX0_isOfMemory_5 (by decide) ?_
    refine lv_icmp_ge (tgt := 15) hx hb dX0_isOfMemory_8 (by decide) (fun c2 => ?_) (fun c2 => ?_)
    · refine lv_iconst (v := (0 : Int32)) hx hb dX0_isOfMemory_15 (by decide) ?_
      exact W.zret (v := (0 : Int32)) hx hb hr rfl (fun t ht hW => ⟨_, rfl, (by unfold fx_x_isOfMemory; rw [if_neg c1, if_pos c2]), ht⟩) (fun q h => by cases h) dX0_isOfMemory_16
    · refine lv_iconst (v := (1 : Int32)) hx hb dX0_isOfMemory_11 (by decide) ?_
      refine lv_goto (tgt := 16) hx hb dX0_isOfMemory_12 (by decide) ?_
      exact W.zret (v := (1 : Int32)) hx hb hr rfl (fun t ht hW => ⟨_, rfl, (by unfold fx_x_isOfMemory; rw [if_neg c1, if_neg c2]), ht⟩) (fun q h => by cases h) dX0_isOfMemory_16
def fx_x_fieldF (a0 : Int32) : Int32 := ((jj_ushr a0 (12 : Int32)) &&& (7 : Int32))
set_option maxHeartbeats 4000000 in
set_option maxRecDepth 100000 in
theorem ct_x_fieldF (l : Launch)  (a0 : Int32)  : Met l yX0_fieldF wsX0_fieldF ({ frames := 0, cells := 0, slots := 0, locals := 0 }) (va_Pc [.int a0] (fun _ => True)) (vp_Si (fun r => r = fx_x_fieldF a0)) 0 0 (fun _ => False) := by
  refine Met.ofW (cc := cX0_fieldF) (maxL := 1) (ret := (some .int)) (by decide) rfl ?_
  intro p e s m args below meth c s₁ B hml hv
  obtain ⟨rfl, -⟩ := hv
  have hx := B.exec
  have hb := B.bytes
  have hr := B.returns
  have htb : ∀ w ∈ lw_g, w.before ([.int a0] : List Value).toArray s = true := fun w h => atoms_spec (ws := wsX0_fieldF) B.pre w (List.mem_cons_of_mem _ h)
  have hown : s.vm.findClass RX0 = some m.cls := findClass_of_methodNamed B.named
  have hlocks := B.notSynchronized
  have hl := lv_entry ([.int a0]) (n := 1) (Nat.le_of_ble_eq_true rfl)
  rw [lg_entry_eq]
  generalize (lg_sl ([.int a0]) ++ List.replicate (1 - (lg_sl ([.int a0])).length) Slot.unset).toArray = ls at hl ⊢
  have hl : lv_has ls 1 [(0, .int a0)] := hl
  refine lv_iload_n hx hb dX0_fieldF_0 rfl (lv_at hl 0 rfl) ?_
  refine lv_bipush (v := (12 : Int32)) hx hb dX0_fieldF_1 (by decide) ?_
  refine lv_iushr (v := (jj_ushr a0 (12 : Int32))) hx hb dX0_fieldF_3 rfl ?_
  refine lv_bipush (v := (7 : Int32)) hx hb dX0_fieldF_4 (by decide) ?_
  refine lv_iand hx hb dX0_fieldF_6 ?_
  exact W.iret (v := ((jj_ushr a0 (12 : Int32)) &&& (7 : Int32))) hx hb hr (fun t ht hW => ⟨_, rfl, rfl, ht⟩) (fun q h => by cases h) dX0_fieldF_7
def fx_x_fieldOp (a0 : Int32) : Int32 := (a0 &&& (127 : Int32))
set_option maxHeartbeats 4000000 in
set_option maxRecDepth 100000 in
theorem ct_x_fieldOp (l : Launch)  (a0 : Int32)  : Met l yX0_fieldOp wsX0_fieldOp ({ frames := 0, cells := 0, slots := 0, locals := 0 }) (va_Pc [.int a0] (fun _ => True)) (vp_Si (fun r => r = fx_x_fieldOp a0)) 0 0 (fun _ => False) := by
  refine Met.ofW (cc := cX0_fieldOp) (maxL := 1) (ret := (some .int)) (by decide) rfl ?_
  intro p e s m args below meth c s₁ B hml hv
  obtain ⟨rfl, -⟩ := hv
  have hx := B.exec
  have hb := B.bytes
  have hr := B.returns
  have htb : ∀ w ∈ lw_g, w.before ([.int a0] : List Value).toArray s = true := fun w h => atoms_spec (ws := wsX0_fieldOp) B.pre w (List.mem_cons_of_mem _ h)
  have hown : s.vm.findClass RX0 = some m.cls := findClass_of_methodNamed B.named
  have hlocks := B.notSynchronized
  have hl := lv_entry ([.int a0]) (n := 1) (Nat.le_of_ble_eq_true rfl)
  rw [lg_entry_eq]
  generalize (lg_sl ([.int a0]) ++ List.replicate (1 - (lg_sl ([.int a0])).length) Slot.unset).toArray = ls at hl ⊢
  have hl : lv_has ls 1 [(0, .int a0)] := hl
  refine lv_iload_n hx hb dX0_fieldOp_0 rfl (lv_at hl 0 rfl) ?_
  refine lv_bipush (v := (127 : Int32)) hx hb dX0_fieldOp_1 (by decide) ?_
  refine lv_iand hx hb dX0_fieldOp_3 ?_
  exact W.iret (v := (a0 &&& (127 : Int32))) hx hb hr (fun t ht hW => ⟨_, rfl, rfl, ht⟩) (fun q h => by cases h) dX0_fieldOp_4
def fx_x_fieldG (a0 : Int32) : Int32 := (jj_ushr a0 (25 : Int32))
set_option maxHeartbeats 4000000 in
set_option maxRecDepth 100000 in
theorem ct_x_fieldG (l : Launch)  (a0 : Int32)  : Met l yX0_fieldG wsX0_fieldG ({ frames := 0, cells := 0, slots := 0, locals := 0 }) (va_Pc [.int a0] (fun _ => True)) (vp_Si (fun r => r = fx_x_fieldG a0)) 0 0 (fun _ => False) := by
  refine Met.ofW (cc := cX0_fieldG) (maxL := 1) (ret := (some .int)) (by decide) rfl ?_
  intro p e s m args below meth c s₁ B hml hv
  obtain ⟨rfl, -⟩ := hv
  have hx := B.exec
  have hb := B.bytes
  have hr := B.returns
  have htb : ∀ w ∈ lw_g, w.before ([.int a0] : List Value).toArray s = true := fun w h => atoms_spec (ws := wsX0_fieldG) B.pre w (List.mem_cons_of_mem _ h)
  have hown : s.vm.findClass RX0 = some m.cls := findClass_of_methodNamed B.named
  have hlocks := B.notSynchronized
  have hl := lv_entry ([.int a0]) (n := 1) (Nat.le_of_ble_eq_true rfl)
  rw [lg_entry_eq]
  generalize (lg_sl ([.int a0]) ++ List.replicate (1 - (lg_sl ([.int a0])).length) Slot.unset).toArray = ls at hl ⊢
  have hl : lv_has ls 1 [(0, .int a0)] := hl
  refine lv_iload_n hx hb dX0_fieldG_0 rfl (lv_at hl 0 rfl) ?_
  refine lv_bipush (v := (25 : Int32)) hx hb dX0_fieldG_1 (by decide) ?_
  refine lv_iushr (v := (jj_ushr a0 (25 : Int32))) hx hb dX0_fieldG_3 rfl ?_
  exact W.iret (v := (jj_ushr a0 (25 : Int32))) hx hb hr (fun t ht hW => ⟨_, rfl, rfl, ht⟩) (fun q h => by cases h) dX0_fieldG_4
def fx_x_isNamedWithNumber (a0 : Int32) (a1 : Int32) : Int32 := (if a0 = (1 : Int32) then (if a1 = (0 : Int32) then (1 : Int32) else (0 : Int32)) else (if a0 = (5 : Int32) then (if a1 = (0 : Int32) then (1 : Int32) else (if a1 = (32 : Int32) then (1 : Int32) else (0 : Int32))) else (1 : Int32)))
set_option maxHeartbeats 4000000 in
set_option maxRecDepth 100000 in
theorem ct_x_isNamedWithNumber (l : Launch)  (a0 : Int32) (a1 : Int32)  : Met l yX0_isNamedWithNumber wsX0_isNamedWithNumber ({ frames := 0, cells := 0, slots := 0, locals := 0 }) (va_Pc [.int a0, .int a1] (fun _ => True)) (vp_Si (fun r => r = fx_x_isNamedWithNumber a0 a1)) 0 0 (fun _ => False) := by
  refine Met.ofW (cc := cX0_isNamedWithNumber) (maxL := 2) (ret := (some .boolean)) (by decide) rfl ?_
  intro p e s m args below meth c s₁ B hml hv
  obtain ⟨rfl, -⟩ := hv
  have hx := B.exec
  have hb := B.bytes
  have hr := B.returns
  have htb : ∀ w ∈ lw_g, w.before ([.int a0, .int a1] : List Value).toArray s = true := fun w h => atoms_spec (ws := wsX0_isNamedWithNumber) B.pre w (List.mem_cons_of_mem _ h)
  have hown : s.vm.findClass RX0 = some m.cls := findClass_of_methodNamed B.named
  have hlocks := B.notSynchronized
  have hl := lv_entry ([.int a0, .int a1]) (n := 2) (Nat.le_of_ble_eq_true rfl)
  rw [lg_entry_eq]
  generalize (lg_sl ([.int a0, .int a1]) ++ List.replicate (2 - (lg_sl ([.int a0, .int a1])).length) Slot.unset).toArray = ls at hl ⊢
  have hl : lv_has ls 2 [(0, .int a0), (1, .int a1)] := hl
  refine lv_iload_n hx hb dX0_isNamedWithNumber_0 rfl (lv_at hl 0 rfl) ?_
  by_cases c1 : a0 = (1 : Int32)
  · refine lv_lookup (x := a0) (off := 27) (tgt := 28) hx hb dX0_isNamedWithNumber_1 (by decide) (by rw [c1]; decide) (by decide) ?_
    refine lv_iload_n hx hb dX0_isNamedWithNumber_28 rfl (lv_at hl 1 rfl) ?_
    refine lv_if_ne (tgt := 36) hx hb dX0_isNamedWithNumber_29 (by decide) (fun c2 => ?_) (fun c2 => ?_)
    · refine lv_iconst (v := (0 : Int32)) hx hb dX0_isNamedWithNumber_36 (by decide) ?_
      exact W.zret (v := (0 : Int32)) hx hb hr rfl (fun t ht hW => ⟨_, rfl, (by unfold fx_x_isNamedWithNumber; rw [if_pos c1, if_neg c2]), ht⟩) (fun q h => by cases h) dX0_isNamedWithNumber_37
    · refine lv_iconst (v := (1 : Int32)) hx hb dX0_isNamedWithNumber_32 (by decide) ?_
      refine lv_goto (tgt := 37) hx hb dX0_isNamedWithNumber_33 (by decide) ?_
      exact W.zret (v := (1 : Int32)) hx hb hr rfl (fun t ht hW => ⟨_, rfl, (by unfold fx_x_isNamedWithNumber; rw [if_pos c1, if_pos c2]), ht⟩) (fun q h => by cases h) dX0_isNamedWithNumber_37
  by_cases c3 : a0 = (5 : Int32)
  · refine lv_lookup (x := a0) (off := 37) (tgt := 38) hx hb dX0_isNamedWithNumber_1 (by decide) (by rw [c3]; decide) (by decide) ?_
    refine lv_iload_n hx hb dX0_isNamedWithNumber_38 rfl (lv_at hl 1 rfl) ?_
    refine lv_if_eq (tgt := 48) hx hb dX0_isNamedWithNumber_39 (by decide) (fun c4 => ?_) (fun c4 => ?_)
    · refine lv_iconst (v := (1 : Int32)) hx hb dX0_isNamedWithNumber_48 (by decide) ?_
      refine lv_goto (tgt := 53) hx hb dX0_isNamedWithNumber_49 (by decide) ?_
      exact W.zret (v := (1 : Int32)) hx hb hr rfl (fun t ht hW => ⟨_, rfl, (by unfold fx_x_isNamedWithNumber; rw [if_neg c1, if_pos c3, if_pos c4]), ht⟩) (fun q h => by cases h) dX0_isNamedWithNumber_53
    · refine lv_iload_n hx hb dX0_isNamedWithNumber_42 rfl (lv_at hl 1 rfl) ?_
      refine lv_bipush (v := (32 : Int32)) hx hb dX0_isNamedWithNumber_43 (by decide) ?_
      refine lv_icmp_ne (tgt := 52) hx hb dX0_isNamedWithNumber_45 (by decide) (fun c5 => ?_) (fun c5 => ?_)
      · refine lv_iconst (v := (0 : Int32)) hx hb dX0_isNamedWithNumber_52 (by decide) ?_
        exact W.zret (v := (0 : Int32)) hx hb hr rfl (fun t ht hW => ⟨_, rfl, (by unfold fx_x_isNamedWithNumber; rw [if_neg c1, if_pos c3, if_neg c4, if_neg c5]), ht⟩) (fun q h => by cases h) dX0_isNamedWithNumber_53
      · refine lv_iconst (v := (1 : Int32)) hx hb dX0_isNamedWithNumber_48 (by decide) ?_
        refine lv_goto (tgt := 53) hx hb dX0_isNamedWithNumber_49 (by decide) ?_
        exact W.zret (v := (1 : Int32)) hx hb hr rfl (fun t ht hW => ⟨_, rfl, (by unfold fx_x_isNamedWithNumber; rw [if_neg c1, if_pos c3, if_neg c4, if_pos c5]), ht⟩) (fun q h => by cases h) dX0_isNamedWithNumber_53
  refine lv_lookup (x := a0) (off := 53) (tgt := 54) hx hb dX0_isNamedWithNumber_1 (by decide) (by show Op.lookupswitch.offset [(1, 27), (5, 37)] (53) _ = _; rw [lv_osw c1 (by decide), lv_osw c3 (by decide)]; rfl) (by decide) ?_
  refine lv_iconst (v := (1 : Int32)) hx hb dX0_isNamedWithNumber_54 (by decide) ?_
  exact W.zret (v := (1 : Int32)) hx hb hr rfl (fun t ht hW => ⟨_, rfl, (by unfold fx_x_isNamedWithNumber; rw [if_neg c1, if_neg c3]), ht⟩) (fun q h => by cases h) dX0_isNamedWithNumber_55
theorem xu_bz2 (x y : Int32) : narrow .boolean (.int (fx_x_isNamedWithNumber x y)) = .int (fx_x_isNamedWithNumber x y) := by
  unfold fx_x_isNamedWithNumber
  (repeat' split) <;> rfl
def fx_x_isNamedWithRegisters (a0 : Int32) (a1 : Int32) : Int32 := (if a1 = (0 : Int32) then (1 : Int32) else (if a1 = (1 : Int32) then (1 : Int32) else (if a1 = (32 : Int32) then (if a0 = (0 : Int32) then (1 : Int32) else (if a0 = (5 : Int32) then (1 : Int32) else (0 : Int32))) else (0 : Int32))))
set_option maxHeartbeats 4000000 in
set_option maxRecDepth 100000 in
theorem ct_x_isNamedWithRegisters (l : Launch)  (a0 : Int32) (a1 : Int32)  : Met l yX0_isNamedWithRegisters wsX0_isNamedWithRegisters ({ frames := 0, cells := 0, slots := 0, locals := 0 }) (va_Pc [.int a0, .int a1] (fun _ => True)) (vp_Si (fun r => r = fx_x_isNamedWithRegisters a0 a1)) 0 0 (fun _ => False) := by
  refine Met.ofW (cc := cX0_isNamedWithRegisters) (maxL := 2) (ret := (some .boolean)) (by decide) rfl ?_
  intro p e s m args below meth c s₁ B hml hv
  obtain ⟨rfl, -⟩ := hv
  have hx := B.exec
  have hb := B.bytes
  have hr := B.returns
  have htb : ∀ w ∈ lw_g, w.before ([.int a0, .int a1] : List Value).toArray s = true := fun w h => atoms_spec (ws := wsX0_isNamedWithRegisters) B.pre w (List.mem_cons_of_mem _ h)
  have hown : s.vm.findClass RX0 = some m.cls := findClass_of_methodNamed B.named
  have hlocks := B.notSynchronized
  have hl := lv_entry ([.int a0, .int a1]) (n := 2) (Nat.le_of_ble_eq_true rfl)
  rw [lg_entry_eq]
  generalize (lg_sl ([.int a0, .int a1]) ++ List.replicate (2 - (lg_sl ([.int a0, .int a1])).length) Slot.unset).toArray = ls at hl ⊢
  have hl : lv_has ls 2 [(0, .int a0), (1, .int a1)] := hl
  refine lv_iload_n hx hb dX0_isNamedWithRegisters_0 rfl (lv_at hl 1 rfl) ?_
  by_cases c1 : a1 = (0 : Int32)
  · refine lv_lookup (x := a1) (off := 35) (tgt := 36) hx hb dX0_isNamedWithRegisters_1 (by decide) (by rw [c1]; decide) (by decide) ?_
    refine lv_iconst (v := (1 : Int32)) hx hb dX0_isNamedWithRegisters_36 (by decide) ?_
    exact W.zret (v := (1 : Int32)) hx hb hr rfl (fun t ht hW => ⟨_, rfl, (by unfold fx_x_isNamedWithRegisters; rw [if_pos c1]), ht⟩) (fun q h => by cases h) dX0_isNamedWithRegisters_37
  by_cases c2 : a1 = (1 : Int32)
  · refine lv_lookup (x := a1) (off := 35) (tgt := 36) hx hb dX0_isNamedWithRegisters_1 (by decide) (by rw [c2]; decide) (by decide) ?_
    refine lv_iconst (v := (1 : Int32)) hx hb dX0_isNamedWithRegisters_36 (by decide) ?_
    exact W.zret (v := (1 : Int32)) hx hb hr rfl (fun t ht hW => ⟨_, rfl, (by unfold fx_x_isNamedWithRegisters; rw [if_neg c1, if_pos c2]), ht⟩) (fun q h => by cases h) dX0_isNamedWithRegisters_37
  by_cases c3 : a1 = (32 : Int32)
  · refine lv_lookup (x := a1) (off := 37) (tgt := 38) hx hb dX0_isNamedWithRegisters_1 (by decide) (by rw [c3]; decide) (by decide) ?_
    refine lv_iload_n hx hb dX0_isNamedWithRegisters_38 rfl (lv_at hl 0 rfl) ?_
    refine lv_if_eq (tgt := 47) hx hb dX0_isNamedWithRegisters_39 (by decide) (fun c4 => ?_) (fun c4 => ?_)
    · refine lv_iconst (v := (1 : Int32)) hx hb dX0_isNamedWithRegisters_47 (by decide) ?_
      refine lv_goto (tgt := 52) hx hb dX0_isNamedWithRegisters_48 (by decide) ?_
      exact W.zret (v := (1 : Int32)) hx hb hr rfl (fun t ht hW => ⟨_, rfl, (by unfold fx_x_isNamedWithRegisters; rw [if_neg c1, if_neg c2, if_pos c3, if_pos c4]), ht⟩) (fun q h => by cases h) dX0_isNamedWithRegisters_52
    · refine lv_iload_n hx hb dX0_isNamedWithRegisters_42 rfl (lv_at hl 0 rfl) ?_
      refine lv_iconst (v := (5 : Int32)) hx hb dX0_isNamedWithRegisters_43 (by decide) ?_
      refine lv_icmp_ne (tgt := 51) hx hb dX0_isNamedWithRegisters_44 (by decide) (fun c5 => ?_) (fun c5 => ?_)
      · refine lv_iconst (v := (0 : Int32)) hx hb dX0_isNamedWithRegisters_51 (by decide) ?_
        exact W.zret (v := (0 : Int32)) hx hb hr rfl (fun t ht hW => ⟨_, rfl, (by unfold fx_x_isNamedWithRegisters; rw [if_neg c1, if_neg c2, if_pos c3, if_neg c4, if_neg c5]), ht⟩) (fun q h => by cases h) dX0_isNamedWithRegisters_52
      · refine lv_iconst (v := (1 : Int32)) hx hb dX0_isNamedWithRegisters_47 (by decide) ?_
        refine lv_goto (tgt := 52) hx hb dX0_isNamedWithRegisters_48 (by decide) ?_
        exact W.zret (v := (1 : Int32)) hx hb hr rfl (fun t ht hW => ⟨_, rfl, (by unfold fx_x_isNamedWithRegisters; rw [if_neg c1, if_neg c2, if_pos c3, if_neg c4, if_pos c5]), ht⟩) (fun q h => by cases h) dX0_isNamedWithRegisters_52
  refine lv_lookup (x := a1) (off := 52) (tgt := 53) hx hb dX0_isNamedWithRegisters_1 (by decide) (by show Op.lookupswitch.offset [(0, 35), (1, 35), (32, 37)] (52) _ = _; rw [lv_osw c1 (by decide), lv_osw c2 (by decide), lv_osw c3 (by decide)]; rfl) (by decide) ?_
  refine lv_iconst (v := (0 : Int32)) hx hb dX0_isNamedWithRegisters_53 (by decide) ?_
  exact W.zret (v := (0 : Int32)) hx hb hr rfl (fun t ht hW => ⟨_, rfl, (by unfold fx_x_isNamedWithRegisters; rw [if_neg c1, if_neg c2, if_neg c3]), ht⟩) (fun q h => by cases h) dX0_isNamedWithRegisters_54
theorem xu_bz3 (x y : Int32) : narrow .boolean (.int (fx_x_isNamedWithRegisters x y)) = .int (fx_x_isNamedWithRegisters x y) := by
  unfold fx_x_isNamedWithRegisters
  (repeat' split) <;> rfl
def fx_x_isNamed (a0 : Int32) : Int32 := (if (fx_x_fieldOp a0) = (3 : Int32) then (if (fx_x_fieldF a0) ≤ (2 : Int32) then (1 : Int32) else (if (fx_x_fieldF a0) = (4 : Int32) then (1 : Int32) else (if (fx_x_fieldF a0) = (5 : Int32) then (1 : Int32) else (0 : Int32)))) else (if (fx_x_fieldOp a0) = (15 : Int32) then (if (1 : Int32) < (fx_x_fieldF a0) then (0 : Int32) else (1 : Int32)) else (if (fx_x_fieldOp a0) = (19 : Int32) then (fx_x_isNamedWithNumber (fx_x_fieldF a0) (fx_x_fieldG a0)) else (if (fx_x_fieldOp a0) = (23 : Int32) then (1 : Int32) else (if (fx_x_fieldOp a0) = (35 : Int32) then (if (2 : Int32) < (fx_x_fieldF a0) then (0 : Int32) else (1 : Int32)) else (if (fx_x_fieldOp a0) = (51 : Int32) then (fx_x_isNamedWithRegisters (fx_x_fieldF a0) (fx_x_fieldG a0)) else (if (fx_x_fieldOp a0) = (55 : Int32) then (1 : Int32) else (if (fx_x_fieldOp a0) = (99 : Int32) then (if (fx_x_fieldF a0) = (2 : Int32) then (0 : Int32) else (if (fx_x_fieldF a0) = (3 : Int32) then (0 : Int32) else (1 : Int32))) else (if (fx_x_fieldOp a0) = (103 : Int32) then (if (fx_x_fieldF a0) = (0 : Int32) then (1 : Int32) else (0 : Int32)) else (if (fx_x_fieldOp a0) = (111 : Int32) then (1 : Int32) else (if (fx_x_fieldOp a0) = (115 : Int32) then (1 : Int32) else (0 : Int32))))))))))))
set_option maxHeartbeats 4000000 in
set_option maxRecDepth 100000 in
theorem ct_x_isNamed (l : Launch)  (a0 : Int32)  : Met l yX0_isNamed wsX0_isNamed ({ frames := 1, cells := 0, slots := 0, locals := 21 }) (va_Pc [.int a0] (fun _ => True)) (vp_Si (fun r => r = fx_x_isNamed a0)) 0 0 (fun _ => False) := by
  refine Met.ofW (cc := cX0_isNamed) (maxL := 2) (ret := (some .boolean)) (by decide) rfl ?_
  intro p e s m args below meth c s₁ B hml hv
  obtain ⟨rfl, -⟩ := hv
  have hx := B.exec
  have hb := B.bytes
  have hr := B.returns
  have htb : ∀ w ∈ lw_g, w.before ([.int a0] : List Value).toArray s = true := fun w h => atoms_spec (ws := wsX0_isNamed) B.pre w (List.mem_cons_of_mem _ h)
  have hown : s.vm.findClass RX0 = some m.cls := findClass_of_methodNamed B.named
  have hlocks := B.notSynchronized
  have hl := lv_entry ([.int a0]) (n := 2) (Nat.le_of_ble_eq_true rfl)
  rw [lg_entry_eq]
  generalize (lg_sl ([.int a0]) ++ List.replicate (2 - (lg_sl ([.int a0])).length) Slot.unset).toArray = ls at hl ⊢
  have hl : lv_has ls 2 [(0, .int a0)] := hl
  refine lv_iload_n hx hb dX0_isNamed_0 rfl (lv_at hl 0 rfl) ?_
  refine vp_callSi (W.runS (As := [.int a0]) (rest := []) ⟨hx, hb, hml, hown, htb⟩ (ct_x_fieldF l a0) (va_cwS 1 htb gw_X0_60 rfl rfl rfl (by decide +kernel) ⟨Nat.le_of_ble_eq_true rfl, Nat.le_of_ble_eq_true rfl⟩) jj_pre rfl rfl hl.1 rfl (lv_room (Nat.le_of_ble_eq_true rfl)) dX0_isNamed_1 ⟨Nat.le_of_ble_eq_true rfl, Nat.le_of_ble_eq_true rfl⟩) (fun r9 e9 => ?_)
  subst e9
  refine lv_istore_n (lv' := [(1, .int (fx_x_fieldF a0)), (0, .int a0)]) hx hb dX0_isNamed_4 rfl hl (by decide) rfl (fun ls hl => ?_)
  refine lv_iload_n hx hb dX0_isNamed_5 rfl (lv_at hl 1 rfl) ?_
  refine vp_callSi (W.runS (As := [.int a0]) (rest := []) ⟨hx, hb, hml, hown, htb⟩ (ct_x_fieldOp l a0) (va_cwS 1 htb gw_X0_54 rfl rfl rfl (by decide +kernel) ⟨Nat.le_of_ble_eq_true rfl, Nat.le_of_ble_eq_true rfl⟩) jj_pre rfl rfl hl.1 rfl (lv_room (Nat.le_of_ble_eq_true rfl)) dX0_isNamed_6 ⟨Nat.le_of_ble_eq_true rfl, Nat.le_of_ble_eq_true rfl⟩) (fun r9 e9 => ?_)
  subst e9
  by_cases c1 : (fx_x_fieldOp a0) = (3 : Int32)
  · refine lv_lookup (x := (fx_x_fieldOp a0)) (off := 127) (tgt := 136) hx hb dX0_isNamed_9 (by decide) (by rw [c1]; decide) (by decide) ?_
    refine lv_iload_n hx hb dX0_isNamed_136 rfl (lv_at hl 0 rfl) ?_
    refine lv_iconst (v := (2 : Int32)) hx hb dX0_isNamed_137 (by decide) ?_
    refine lv_icmp_le (tgt := 151) hx hb dX0_isNamed_138 (by decide) (fun c2 => ?_) (fun c2 => ?_)
    · refine lv_iconst (v := (1 : Int32)) hx hb dX0_isNamed_151 (by decide) ?_
      refine lv_goto (tgt := 156) hx hb dX0_isNamed_152 (by decide) ?_
      exact W.zret (v := (1 : Int32)) hx hb hr rfl (fun t ht hW => ⟨_, rfl, (by unfold fx_x_isNamed; rw [if_pos c1, if_pos c2]), ht⟩) (fun q h => by cases h) dX0_isNamed_156
    · refine lv_iload_n hx hb dX0_isNamed_141 rfl (lv_at hl 0 rfl) ?_
      refine lv_iconst (v := (4 : Int32)) hx hb dX0_isNamed_142 (by decide) ?_
      refine lv_icmp_eq (tgt := 151) hx hb dX0_isNamed_143 (by decide) (fun c3 => ?_) (fun c3 => ?_)
      · refine lv_iconst (v := (1 : Int32)) hx hb dX0_isNamed_151 (by decide) ?_
        refine lv_goto (tgt := 156) hx hb dX0_isNamed_152 (by decide) ?_
        exact W.zret (v := (1 : Int32)) hx hb hr rfl (fun t ht hW => ⟨_, rfl, (by unfold fx_x_isNamed; rw [if_pos c1, if_neg c2, if_pos c3]), ht⟩) (fun q h => by cases h) dX0_isNamed_156
      · refine lv_iload_n hx hb dX0_isNamed_146 rfl (lv_at hl 0 rfl) ?_
        refine lv_iconst (v := (5 : Int32)) hx hb dX0_isNamed_147 (by decide) ?_
        refine lv_icmp_ne (tgt := 155) hx hb dX0_isNamed_148 (by decide) (fun c4 => ?_) (fun c4 => ?_)
        · refine lv_iconst (v := (0 : Int32)) hx hb dX0_isNamed_155 (by decide) ?_
          exact W.zret (v := (0 : Int32)) hx hb hr rfl (fun t ht hW => ⟨_, rfl, (by unfold fx_x_isNamed; rw [if_pos c1, if_neg c2, if_neg c3, if_neg c4]), ht⟩) (fun q h => by cases h) dX0_isNamed_156
        · refine lv_iconst (v := (1 : Int32)) hx hb dX0_isNamed_151 (by decide) ?_
          refine lv_goto (tgt := 156) hx hb dX0_isNamed_152 (by decide) ?_
          exact W.zret (v := (1 : Int32)) hx hb hr rfl (fun t ht hW => ⟨_, rfl, (by unfold fx_x_isNamed; rw [if_pos c1, if_neg c2, if_neg c3, if_pos c4]), ht⟩) (fun q h => by cases h) dX0_isNamed_156
  by_cases c5 : (fx_x_fieldOp a0) = (15 : Int32)
  · refine lv_lookup (x := (fx_x_fieldOp a0)) (off := 159) (tgt := 168) hx hb dX0_isNamed_9 (by decide) (by rw [c5]; decide) (by decide) ?_
    refine lv_iload_n hx hb dX0_isNamed_168 rfl (lv_at hl 0 rfl) ?_
    refine lv_iconst (v := (1 : Int32)) hx hb dX0_isNamed_169 (by decide) ?_
    refine lv_icmp_gt (tgt := 177) hx hb dX0_isNamed_170 (by decide) (fun c6 => ?_) (fun c6 => ?_)
    · refine lv_iconst (v := (0 : Int32)) hx hb dX0_isNamed_177 (by decide) ?_
      exact W.zret (v := (0 : Int32)) hx hb hr rfl (fun t ht hW => ⟨_, rfl, (by unfold fx_x_isNamed; rw [if_neg c1, if_pos c5, if_pos c6]), ht⟩) (fun q h => by cases h) dX0_isNamed_178
    · refine lv_iconst (v := (1 : Int32)) hx hb dX0_isNamed_173 (by decide) ?_
      refine lv_goto (tgt := 178) hx hb dX0_isNamed_174 (by decide) ?_
      exact W.zret (v := (1 : Int32)) hx hb hr rfl (fun t ht hW => ⟨_, rfl, (by unfold fx_x_isNamed; rw [if_neg c1, if_pos c5, if_neg c6]), ht⟩) (fun q h => by cases h) dX0_isNamed_178
  by_cases c7 : (fx_x_fieldOp a0) = (19 : Int32)
  · refine lv_lookup (x := (fx_x_fieldOp a0)) (off := 170) (tgt := 179) hx hb dX0_isNamed_9 (by decide) (by rw [c7]; decide) (by decide) ?_
    refine lv_iload_n hx hb dX0_isNamed_179 rfl (lv_at hl 0 rfl) ?_
    refine lv_iload_n hx hb dX0_isNamed_180 rfl (lv_at hl 1 rfl) ?_
    refine vp_callSi (W.runS (As := [.int a0]) (rest := [.int (fx_x_fieldF a0)]) ⟨hx, hb, hml, hown, htb⟩ (ct_x_fieldG l a0) (va_cwS 1 htb gw_X0_69 rfl rfl rfl (by decide +kernel) ⟨Nat.le_of_ble_eq_true rfl, Nat.le_of_ble_eq_true rfl⟩) jj_pre rfl rfl hl.1 rfl (lv_room (Nat.le_of_ble_eq_true rfl)) dX0_isNamed_181 ⟨Nat.le_of_ble_eq_true rfl, Nat.le_of_ble_eq_true rfl⟩) (fun r9 e9 => ?_)
    subst e9
    refine vp_callSi (W.runS (As := [.int (fx_x_fieldF a0), .int (fx_x_fieldG a0)]) (rest := []) ⟨hx, hb, hml, hown, htb⟩ (ct_x_isNamedWithNumber l (fx_x_fieldF a0) (fx_x_fieldG a0)) (va_cwS 2 htb gw_X0_137 rfl rfl rfl (by decide +kernel) ⟨Nat.le_of_ble_eq_true rfl, Nat.le_of_ble_eq_true rfl⟩) jj_pre rfl rfl hl.1 rfl (lv_room (Nat.le_of_ble_eq_true rfl)) dX0_isNamed_184 ⟨Nat.le_of_ble_eq_true rfl, Nat.le_of_ble_eq_true rfl⟩) (fun r9 e9 => ?_)
    subst e9
    exact W.zret (v := (fx_x_isNamedWithNumber (fx_x_fieldF a0) (fx_x_fieldG a0))) hx hb hr (xu_bz2 _ _) (fun t ht hW => ⟨_, rfl, (by unfold fx_x_isNamed; rw [if_neg c1, if_neg c5, if_pos c7]), ht⟩) (fun q h => by cases h) dX0_isNamed_187
  by_cases c8 : (fx_x_fieldOp a0) = (23 : Int32)
  · refine lv_lookup (x := (fx_x_fieldOp a0)) (off := 99) (tgt := 108) hx hb dX0_isNamed_9 (by decide) (by rw [c8]; decide) (by decide) ?_
    refine lv_iconst (v := (1 : Int32)) hx hb dX0_isNamed_108 (by decide) ?_
    exact W.zret (v := (1 : Int32)) hx hb hr rfl (fun t ht hW => ⟨_, rfl, (by unfold fx_x_isNamed; rw [if_neg c1, if_neg c5, if_neg c7, if_pos c8]), ht⟩) (fun q h => by cases h) dX0_isNamed_109
  by_cases c9 : (fx_x_fieldOp a0) = (35 : Int32)
  · refine lv_lookup (x := (fx_x_fieldOp a0)) (off := 148) (tgt := 157) hx hb dX0_isNamed_9 (by decide) (by rw [c9]; decide) (by decide) ?_
    refine lv_iload_n hx hb dX0_isNamed_157 rfl (lv_at hl 0 rfl) ?_
    refine lv_iconst (v := (2 : Int32)) hx hb dX0_isNamed_158 (by decide) ?_
    refine lv_icmp_gt (tgt := 166) hx hb dX0_isNamed_159 (by decide) (fun c10 => ?_) (fun c10 => ?_)
    · refine lv_iconst (v := (0 : Int32)) hx hb dX0_isNamed_166 (by decide) ?_
      exact W.zret (v := (0 : Int32)) hx hb hr rfl (fun t ht hW => ⟨_, rfl, (by unfold fx_x_isNamed; rw [if_neg c1, if_neg c5, if_neg c7, if_neg c8, if_pos c9, if_pos c10]), ht⟩) (fun q h => by cases h) dX0_isNamed_167
    · refine lv_iconst (v := (1 : Int32)) hx hb dX0_isNamed_162 (by decide) ?_
      refine lv_goto (tgt := 167) hx hb dX0_isNamed_163 (by decide) ?_
      exact W.zret (v := (1 : Int32)) hx hb hr rfl (fun t ht hW => ⟨_, rfl, (by unfold fx_x_isNamed; rw [if_neg c1, if_neg c5, if_neg c7, if_neg c8, if_pos c9, if_neg c10]), ht⟩) (fun q h => by cases h) dX0_isNamed_167
  by_cases c11 : (fx_x_fieldOp a0) = (51 : Int32)
  · refine lv_lookup (x := (fx_x_fieldOp a0)) (off := 179) (tgt := 188) hx hb dX0_isNamed_9 (by decide) (by rw [c11]; decide) (by decide) ?_
    refine lv_iload_n hx hb dX0_isNamed_188 rfl (lv_at hl 0 rfl) ?_
    refine lv_iload_n hx hb dX0_isNamed_189 rfl (lv_at hl 1 rfl) ?_
    refine vp_callSi (W.runS (As := [.int a0]) (rest := [.int (fx_x_fieldF a0)]) ⟨hx, hb, hml, hown, htb⟩ (ct_x_fieldG l a0) (va_cwS 1 htb gw_X0_69 rfl rfl rfl (by decide +kernel) ⟨Nat.le_of_ble_eq_true rfl, Nat.le_of_ble_eq_true rfl⟩) jj_pre rfl rfl hl.1 rfl (lv_room (Nat.le_of_ble_eq_true rfl)) dX0_isNamed_190 ⟨Nat.le_of_ble_eq_true rfl, Nat.le_of_ble_eq_true rfl⟩) (fun r9 e9 => ?_)
    subst e9
    refine vp_callSi (W.runS (As := [.int (fx_x_fieldF a0), .int (fx_x_fieldG a0)]) (rest := []) ⟨hx, hb, hml, hown, htb⟩ (ct_x_isNamedWithRegisters l (fx_x_fieldF a0) (fx_x_fieldG a0)) (va_cwS 2 htb gw_X0_140 rfl rfl rfl (by decide +kernel) ⟨Nat.le_of_ble_eq_true rfl, Nat.le_of_ble_eq_true rfl⟩) jj_pre rfl rfl hl.1 rfl (lv_room (Nat.le_of_ble_eq_true rfl)) dX0_isNamed_193 ⟨Nat.le_of_ble_eq_true rfl, Nat.le_of_ble_eq_true rfl⟩) (fun r9 e9 => ?_)
    subst e9
    exact W.zret (v := (fx_x_isNamedWithRegisters (fx_x_fieldF a0) (fx_x_fieldG a0))) hx hb hr (xu_bz3 _ _) (fun t ht hW => ⟨_, rfl, (by unfold fx_x_isNamed; rw [if_neg c1, if_neg c5, if_neg c7, if_neg c8, if_neg c9, if_pos c11]), ht⟩) (fun q h => by cases h) dX0_isNamed_196
  by_cases c12 : (fx_x_fieldOp a0) = (55 : Int32)
  · refine lv_lookup (x := (fx_x_fieldOp a0)) (off := 99) (tgt := 108) hx hb dX0_isNamed_9 (by decide) (by rw [c12]; decide) (by decide) ?_
    refine lv_iconst (v := (1 : Int32)) hx hb dX0_isNamed_108 (by decide) ?_
    exact W.zret (v := (1 : Int32)) hx hb hr rfl (fun t ht hW => ⟨_, rfl, (by unfold fx_x_isNamed; rw [if_neg c1, if_neg c5, if_neg c7, if_neg c8, if_neg c9, if_neg c11, if_pos c12]), ht⟩) (fun q h => by cases h) dX0_isNamed_109
  by_cases c13 : (fx_x_fieldOp a0) = (99 : Int32)
  · refine lv_lookup (x := (fx_x_fieldOp a0)) (off := 111) (tgt := 120) hx hb dX0_isNamed_9 (by decide) (by rw [c13]; decide) (by decide) ?_
    refine lv_iload_n hx hb dX0_isNamed_120 rfl (lv_at hl 0 rfl) ?_
    refine lv_iconst (v := (2 : Int32)) hx hb dX0_isNamed_121 (by decide) ?_
    refine lv_icmp_eq (tgt := 134) hx hb dX0_isNamed_122 (by decide) (fun c14 => ?_) (fun c14 => ?_)
    · refine lv_iconst (v := (0 : Int32)) hx hb dX0_isNamed_134 (by decide) ?_
      exact W.zret (v := (0 : Int32)) hx hb hr rfl (fun t ht hW => ⟨_, rfl, (by unfold fx_x_isNamed; rw [if_neg c1, if_neg c5, if_neg c7, if_neg c8, if_neg c9, if_neg c11, if_neg c12, if_pos c13, if_pos c14]), ht⟩) (fun q h => by cases h) dX0_isNamed_135
    · refine lv_iload_n hx hb dX0_isNamed_125 rfl (lv_at hl 0 rfl) ?_
      refine lv_iconst (v := (3 : Int32)) hx hb dX0_isNamed_126 (by decide) ?_
      refine lv_icmp_eq (tgt := 134) hx hb dX0_isNamed_127 (by decide) (fun c15 => ?_) (fun c15 => ?_)
      · refine lv_iconst (v := (0 : Int32)) hx hb dX0_isNamed_134 (by decide) ?_
        exact W.zret (v := (0 : Int32)) hx hb hr rfl (fun t ht hW => ⟨_, rfl, (by unfold fx_x_isNamed; rw [if_neg c1, if_neg c5, if_neg c7, if_neg c8, if_neg c9, if_neg c11, if_neg c12, if_pos c13, if_neg c14, if_pos c15]), ht⟩) (fun q h => by cases h) dX0_isNamed_135
      · refine lv_iconst (v := (1 : Int32)) hx hb dX0_isNamed_130 (by decide) ?_
        refine lv_goto (tgt := 135) hx hb dX0_isNamed_131 (by decide) ?_
        exact W.zret (v := (1 : Int32)) hx hb hr rfl (fun t ht hW => ⟨_, rfl, (by unfold fx_x_isNamed; rw [if_neg c1, if_neg c5, if_neg c7, if_neg c8, if_neg c9, if_neg c11, if_neg c12, if_pos c13, if_neg c14, if_neg c15]), ht⟩) (fun q h => by cases h) dX0_isNamed_135
  by_cases c16 : (fx_x_fieldOp a0) = (103 : Int32)
  · refine lv_lookup (x := (fx_x_fieldOp a0)) (off := 101) (tgt := 110) hx hb dX0_isNamed_9 (by decide) (by rw [c16]; decide) (by decide) ?_
    refine lv_iload_n hx hb dX0_isNamed_110 rfl (lv_at hl 0 rfl) ?_
    refine lv_if_ne (tgt := 118) hx hb dX0_isNamed_111 (by decide) (fun c17 => ?_) (fun c17 => ?_)
    · refine lv_iconst (v := (0 : Int32)) hx hb dX0_isNamed_118 (by decide) ?_
      exact W.zret (v := (0 : Int32)) hx hb hr rfl (fun t ht hW => ⟨_, rfl, (by unfold fx_x_isNamed; rw [if_neg c1, if_neg c5, if_neg c7, if_neg c8, if_neg c9, if_neg c11, if_neg c12, if_neg c13, if_pos c16, if_neg c17]), ht⟩) (fun q h => by cases h) dX0_isNamed_119
    · refine lv_iconst (v := (1 : Int32)) hx hb dX0_isNamed_114 (by decide) ?_
      refine lv_goto (tgt := 119) hx hb dX0_isNamed_115 (by decide) ?_
      exact W.zret (v := (1 : Int32)) hx hb hr rfl (fun t ht hW => ⟨_, rfl, (by unfold fx_x_isNamed; rw [if_neg c1, if_neg c5, if_neg c7, if_neg c8, if_neg c9, if_neg c11, if_neg c12, if_neg c13, if_pos c16, if_pos c17]), ht⟩) (fun q h => by cases h) dX0_isNamed_119
  by_cases c18 : (fx_x_fieldOp a0) = (111 : Int32)
  · refine lv_lookup (x := (fx_x_fieldOp a0)) (off := 99) (tgt := 108) hx hb dX0_isNamed_9 (by decide) (by rw [c18]; decide) (by decide) ?_
    refine lv_iconst (v := (1 : Int32)) hx hb dX0_isNamed_108 (by decide) ?_
    exact W.zret (v := (1 : Int32)) hx hb hr rfl (fun t ht hW => ⟨_, rfl, (by unfold fx_x_isNamed; rw [if_neg c1, if_neg c5, if_neg c7, if_neg c8, if_neg c9, if_neg c11, if_neg c12, if_neg c13, if_neg c16, if_pos c18]), ht⟩) (fun q h => by cases h) dX0_isNamed_109
  by_cases c19 : (fx_x_fieldOp a0) = (115 : Int32)
  · refine lv_lookup (x := (fx_x_fieldOp a0)) (off := 99) (tgt := 108) hx hb dX0_isNamed_9 (by decide) (by rw [c19]; decide) (by decide) ?_
    refine lv_iconst (v := (1 : Int32)) hx hb dX0_isNamed_108 (by decide) ?_
    exact W.zret (v := (1 : Int32)) hx hb hr rfl (fun t ht hW => ⟨_, rfl, (by unfold fx_x_isNamed; rw [if_neg c1, if_neg c5, if_neg c7, if_neg c8, if_neg c9, if_neg c11, if_neg c12, if_neg c13, if_neg c16, if_neg c18, if_pos c19]), ht⟩) (fun q h => by cases h) dX0_isNamed_109
  refine lv_lookup (x := (fx_x_fieldOp a0)) (off := 188) (tgt := 197) hx hb dX0_isNamed_9 (by decide) (by show Op.lookupswitch.offset [(3, 127), (15, 159), (19, 170), (23, 99), (35, 148), (51, 179), (55, 99), (99, 111), (103, 101), (111, 99), (115, 99)] (188) _ = _; rw [lv_osw c1 (by decide), lv_osw c5 (by decide), lv_osw c7 (by decide), lv_osw c8 (by decide), lv_osw c9 (by decide), lv_osw c11 (by decide), lv_osw c12 (by decide), lv_osw c13 (by decide), lv_osw c16 (by decide), lv_osw c18 (by decide), lv_osw c19 (by decide)]; rfl) (by decide) ?_
  refine lv_iconst (v := (0 : Int32)) hx hb dX0_isNamed_197 (by decide) ?_
  exact W.zret (v := (0 : Int32)) hx hb hr rfl (fun t ht hW => ⟨_, rfl, (by unfold fx_x_isNamed; rw [if_neg c1, if_neg c5, if_neg c7, if_neg c8, if_neg c9, if_neg c11, if_neg c12, if_neg c13, if_neg c16, if_neg c18, if_neg c19]), ht⟩) (fun q h => by cases h) dX0_isNamed_198
def fx_x_numberJ (a0 : Int32) : Int32 := (((((a0 >>> ((31 : Int32) &&& 31)) <<< ((20 : Int32) &&& 31)) ||| (((jj_ushr a0 (12 : Int32)) &&& (255 : Int32)) <<< ((12 : Int32) &&& 31))) ||| (((jj_ushr a0 (20 : Int32)) &&& (1 : Int32)) <<< ((11 : Int32) &&& 31))) ||| (((jj_ushr a0 (21 : Int32)) &&& (1023 : Int32)) <<< ((1 : Int32) &&& 31)))
set_option maxHeartbeats 4000000 in
set_option maxRecDepth 100000 in
theorem ct_x_numberJ (l : Launch)  (a0 : Int32)  : Met l yX0_numberJ wsX0_numberJ ({ frames := 0, cells := 0, slots := 0, locals := 0 }) (va_Pc [.int a0] (fun _ => True)) (vp_Si (fun r => r = fx_x_numberJ a0)) 0 0 (fun _ => False) := by
  refine Met.ofW (cc := cX0_numberJ) (maxL := 4) (ret := (some .int)) (by decide) rfl ?_
  intro p e s m args below meth c s₁ B hml hv
  obtain ⟨rfl, -⟩ := hv
  have hx := B.exec
  have hb := B.bytes
  have hr := B.returns
  have htb : ∀ w ∈ lw_g, w.before ([.int a0] : List Value).toArray s = true := fun w h => atoms_spec (ws := wsX0_numberJ) B.pre w (List.mem_cons_of_mem _ h)
  have hown : s.vm.findClass RX0 = some m.cls := findClass_of_methodNamed B.named
  have hlocks := B.notSynchronized
  have hl := lv_entry ([.int a0]) (n := 4) (Nat.le_of_ble_eq_true rfl)
  rw [lg_entry_eq]
  generalize (lg_sl ([.int a0]) ++ List.replicate (4 - (lg_sl ([.int a0])).length) Slot.unset).toArray = ls at hl ⊢
  have hl : lv_has ls 4 [(0, .int a0)] := hl
  refine lv_iload_n hx hb dX0_numberJ_0 rfl (lv_at hl 0 rfl) ?_
  refine lv_bipush (v := (12 : Int32)) hx hb dX0_numberJ_1 (by decide) ?_
  refine lv_iushr (v := (jj_ushr a0 (12 : Int32))) hx hb dX0_numberJ_3 rfl ?_
  refine lv_sipush (v := (255 : Int32)) hx hb dX0_numberJ_4 (by decide) ?_
  refine lv_iand hx hb dX0_numberJ_7 ?_
  refine lv_istore_n (lv' := [(1, .int ((jj_ushr a0 (12 : Int32)) &&& (255 : Int32))), (0, .int a0)]) hx hb dX0_numberJ_8 rfl hl (by decide) rfl (fun ls hl => ?_)
  refine lv_iload_n hx hb dX0_numberJ_9 rfl (lv_at hl 1 rfl) ?_
  refine lv_bipush (v := (20 : Int32)) hx hb dX0_numberJ_10 (by decide) ?_
  refine lv_iushr (v := (jj_ushr a0 (20 : Int32))) hx hb dX0_numberJ_12 rfl ?_
  refine lv_iconst (v := (1 : Int32)) hx hb dX0_numberJ_13 (by decide) ?_
  refine lv_iand hx hb dX0_numberJ_14 ?_
  refine lv_istore_n (lv' := [(2, .int ((jj_ushr a0 (20 : Int32)) &&& (1 : Int32))), (1, .int ((jj_ushr a0 (12 : Int32)) &&& (255 : Int32))), (0, .int a0)]) hx hb dX0_numberJ_15 rfl hl (by decide) rfl (fun ls hl => ?_)
  refine lv_iload_n hx hb dX0_numberJ_16 rfl (lv_at hl 2 rfl) ?_
  refine lv_bipush (v := (21 : Int32)) hx hb dX0_numberJ_17 (by decide) ?_
  refine lv_iushr (v := (jj_ushr a0 (21 : Int32))) hx hb dX0_numberJ_19 rfl ?_
  refine lv_sipush (v := (1023 : Int32)) hx hb dX0_numberJ_20 (by decide) ?_
  refine lv_iand hx hb dX0_numberJ_23 ?_
  refine lv_istore_n (lv' := [(3, .int ((jj_ushr a0 (21 : Int32)) &&& (1023 : Int32))), (2, .int ((jj_ushr a0 (20 : Int32)) &&& (1 : Int32))), (1, .int ((jj_ushr a0 (12 : Int32)) &&& (255 : Int32))), (0, .int a0)]) hx hb dX0_numberJ_24 rfl hl (by decide) rfl (fun ls hl => ?_)
  refine lv_iload_n hx hb dX0_numberJ_25 rfl (lv_at hl 3 rfl) ?_
  refine lv_bipush (v := (31 : Int32)) hx hb dX0_numberJ_26 (by decide) ?_
  refine lv_ishr hx hb dX0_numberJ_28 ?_
  refine lv_bipush (v := (20 : Int32)) hx hb dX0_numberJ_29 (by decide) ?_
  refine lv_ishl hx hb dX0_numberJ_31 ?_
  refine lv_iload_n hx hb dX0_numberJ_32 rfl (lv_at hl 2 rfl) ?_
  refine lv_bipush (v := (12 : Int32)) hx hb dX0_numberJ_33 (by decide) ?_
  refine lv_ishl hx hb dX0_numberJ_35 ?_
  refine lv_ior hx hb dX0_numberJ_36 ?_
  refine lv_iload_n hx hb dX0_numberJ_37 rfl (lv_at hl 1 rfl) ?_
  refine lv_bipush (v := (11 : Int32)) hx hb dX0_numberJ_38 (by decide) ?_
  refine lv_ishl hx hb dX0_numberJ_40 ?_
  refine lv_ior hx hb dX0_numberJ_41 ?_
  refine lv_iload_n hx hb dX0_numberJ_42 rfl (lv_at hl 0 rfl) ?_
  refine lv_iconst (v := (1 : Int32)) hx hb dX0_numberJ_43 (by decide) ?_
  refine lv_ishl hx hb dX0_numberJ_44 ?_
  refine lv_ior hx hb dX0_numberJ_45 ?_
  exact W.iret (v := (((((a0 >>> ((31 : Int32) &&& 31)) <<< ((20 : Int32) &&& 31)) ||| (((jj_ushr a0 (12 : Int32)) &&& (255 : Int32)) <<< ((12 : Int32) &&& 31))) ||| (((jj_ushr a0 (20 : Int32)) &&& (1 : Int32)) <<< ((11 : Int32) &&& 31))) ||| (((jj_ushr a0 (21 : Int32)) &&& (1023 : Int32)) <<< ((1 : Int32) &&& 31)))) hx hb hr (fun t ht hW => ⟨_, rfl, rfl, ht⟩) (fun q h => by cases h) dX0_numberJ_46
def fx_x_fieldD (a0 : Int32) : Int32 := ((jj_ushr a0 (7 : Int32)) &&& (31 : Int32))
set_option maxHeartbeats 4000000 in
set_option maxRecDepth 100000 in
theorem ct_x_fieldD (l : Launch)  (a0 : Int32)  : Met l yX0_fieldD wsX0_fieldD ({ frames := 0, cells := 0, slots := 0, locals := 0 }) (va_Pc [.int a0] (fun _ => True)) (vp_Si (fun r => r = fx_x_fieldD a0)) 0 0 (fun _ => False) := by
  refine Met.ofW (cc := cX0_fieldD) (maxL := 1) (ret := (some .int)) (by decide) rfl ?_
  intro p e s m args below meth c s₁ B hml hv
  obtain ⟨rfl, -⟩ := hv
  have hx := B.exec
  have hb := B.bytes
  have hr := B.returns
  have htb : ∀ w ∈ lw_g, w.before ([.int a0] : List Value).toArray s = true := fun w h => atoms_spec (ws := wsX0_fieldD) B.pre w (List.mem_cons_of_mem _ h)
  have hown : s.vm.findClass RX0 = some m.cls := findClass_of_methodNamed B.named
  have hlocks := B.notSynchronized
  have hl := lv_entry ([.int a0]) (n := 1) (Nat.le_of_ble_eq_true rfl)
  rw [lg_entry_eq]
  generalize (lg_sl ([.int a0]) ++ List.replicate (1 - (lg_sl ([.int a0])).length) Slot.unset).toArray = ls at hl ⊢
  have hl : lv_has ls 1 [(0, .int a0)] := hl
  refine lv_iload_n hx hb dX0_fieldD_0 rfl (lv_at hl 0 rfl) ?_
  refine lv_bipush (v := (7 : Int32)) hx hb dX0_fieldD_1 (by decide) ?_
  refine lv_iushr (v := (jj_ushr a0 (7 : Int32))) hx hb dX0_fieldD_3 rfl ?_
  refine lv_bipush (v := (31 : Int32)) hx hb dX0_fieldD_4 (by decide) ?_
  refine lv_iand hx hb dX0_fieldD_6 ?_
  exact W.iret (v := ((jj_ushr a0 (7 : Int32)) &&& (31 : Int32))) hx hb hr (fun t ht hW => ⟨_, rfl, rfl, ht⟩) (fun q h => by cases h) dX0_fieldD_7
def fx_x_fieldA (a0 : Int32) : Int32 := ((jj_ushr a0 (15 : Int32)) &&& (31 : Int32))
set_option maxHeartbeats 4000000 in
set_option maxRecDepth 100000 in
theorem ct_x_fieldA (l : Launch)  (a0 : Int32)  : Met l yX0_fieldA wsX0_fieldA ({ frames := 0, cells := 0, slots := 0, locals := 0 }) (va_Pc [.int a0] (fun _ => True)) (vp_Si (fun r => r = fx_x_fieldA a0)) 0 0 (fun _ => False) := by
  refine Met.ofW (cc := cX0_fieldA) (maxL := 1) (ret := (some .int)) (by decide) rfl ?_
  intro p e s m args below meth c s₁ B hml hv
  obtain ⟨rfl, -⟩ := hv
  have hx := B.exec
  have hb := B.bytes
  have hr := B.returns
  have htb : ∀ w ∈ lw_g, w.before ([.int a0] : List Value).toArray s = true := fun w h => atoms_spec (ws := wsX0_fieldA) B.pre w (List.mem_cons_of_mem _ h)
  have hown : s.vm.findClass RX0 = some m.cls := findClass_of_methodNamed B.named
  have hlocks := B.notSynchronized
  have hl := lv_entry ([.int a0]) (n := 1) (Nat.le_of_ble_eq_true rfl)
  rw [lg_entry_eq]
  generalize (lg_sl ([.int a0]) ++ List.replicate (1 - (lg_sl ([.int a0])).length) Slot.unset).toArray = ls at hl ⊢
  have hl : lv_has ls 1 [(0, .int a0)] := hl
  refine lv_iload_n hx hb dX0_fieldA_0 rfl (lv_at hl 0 rfl) ?_
  refine lv_bipush (v := (15 : Int32)) hx hb dX0_fieldA_1 (by decide) ?_
  refine lv_iushr (v := (jj_ushr a0 (15 : Int32))) hx hb dX0_fieldA_3 rfl ?_
  refine lv_bipush (v := (31 : Int32)) hx hb dX0_fieldA_4 (by decide) ?_
  refine lv_iand hx hb dX0_fieldA_6 ?_
  exact W.iret (v := ((jj_ushr a0 (15 : Int32)) &&& (31 : Int32))) hx hb hr (fun t ht hW => ⟨_, rfl, rfl, ht⟩) (fun q h => by cases h) dX0_fieldA_7
def fx_x_numberI (a0 : Int32) : Int32 := (a0 >>> ((20 : Int32) &&& 31))
set_option maxHeartbeats 4000000 in
set_option maxRecDepth 100000 in
theorem ct_x_numberI (l : Launch)  (a0 : Int32)  : Met l yX0_numberI wsX0_numberI ({ frames := 0, cells := 0, slots := 0, locals := 0 }) (va_Pc [.int a0] (fun _ => True)) (vp_Si (fun r => r = fx_x_numberI a0)) 0 0 (fun _ => False) := by
  refine Met.ofW (cc := cX0_numberI) (maxL := 1) (ret := (some .int)) (by decide) rfl ?_
  intro p e s m args below meth c s₁ B hml hv
  obtain ⟨rfl, -⟩ := hv
  have hx := B.exec
  have hb := B.bytes
  have hr := B.returns
  have htb : ∀ w ∈ lw_g, w.before ([.int a0] : List Value).toArray s = true := fun w h => atoms_spec (ws := wsX0_numberI) B.pre w (List.mem_cons_of_mem _ h)
  have hown : s.vm.findClass RX0 = some m.cls := findClass_of_methodNamed B.named
  have hlocks := B.notSynchronized
  have hl := lv_entry ([.int a0]) (n := 1) (Nat.le_of_ble_eq_true rfl)
  rw [lg_entry_eq]
  generalize (lg_sl ([.int a0]) ++ List.replicate (1 - (lg_sl ([.int a0])).length) Slot.unset).toArray = ls at hl ⊢
  have hl : lv_has ls 1 [(0, .int a0)] := hl
  refine lv_iload_n hx hb dX0_numberI_0 rfl (lv_at hl 0 rfl) ?_
  refine lv_bipush (v := (20 : Int32)) hx hb dX0_numberI_1 (by decide) ?_
  refine lv_ishr hx hb dX0_numberI_3 ?_
  exact W.iret (v := (a0 >>> ((20 : Int32) &&& 31))) hx hb hr (fun t ht hW => ⟨_, rfl, rfl, ht⟩) (fun q h => by cases h) dX0_numberI_4
def fx_x_fieldB (a0 : Int32) : Int32 := ((jj_ushr a0 (20 : Int32)) &&& (31 : Int32))
set_option maxHeartbeats 4000000 in
set_option maxRecDepth 100000 in
theorem ct_x_fieldB (l : Launch)  (a0 : Int32)  : Met l yX0_fieldB wsX0_fieldB ({ frames := 0, cells := 0, slots := 0, locals := 0 }) (va_Pc [.int a0] (fun _ => True)) (vp_Si (fun r => r = fx_x_fieldB a0)) 0 0 (fun _ => False) := by
  refine Met.ofW (cc := cX0_fieldB) (maxL := 1) (ret := (some .int)) (by decide) rfl ?_
  intro p e s m args below meth c s₁ B hml hv
  obtain ⟨rfl, -⟩ := hv
  have hx := B.exec
  have hb := B.bytes
  have hr := B.returns
  have htb : ∀ w ∈ lw_g, w.before ([.int a0] : List Value).toArray s = true := fun w h => atoms_spec (ws := wsX0_fieldB) B.pre w (List.mem_cons_of_mem _ h)
  have hown : s.vm.findClass RX0 = some m.cls := findClass_of_methodNamed B.named
  have hlocks := B.notSynchronized
  have hl := lv_entry ([.int a0]) (n := 1) (Nat.le_of_ble_eq_true rfl)
  rw [lg_entry_eq]
  generalize (lg_sl ([.int a0]) ++ List.replicate (1 - (lg_sl ([.int a0])).length) Slot.unset).toArray = ls at hl ⊢
  have hl : lv_has ls 1 [(0, .int a0)] := hl
  refine lv_iload_n hx hb dX0_fieldB_0 rfl (lv_at hl 0 rfl) ?_
  refine lv_bipush (v := (20 : Int32)) hx hb dX0_fieldB_1 (by decide) ?_
  refine lv_iushr (v := (jj_ushr a0 (20 : Int32))) hx hb dX0_fieldB_3 rfl ?_
  refine lv_bipush (v := (31 : Int32)) hx hb dX0_fieldB_4 (by decide) ?_
  refine lv_iand hx hb dX0_fieldB_6 ?_
  exact W.iret (v := ((jj_ushr a0 (20 : Int32)) &&& (31 : Int32))) hx hb hr (fun t ht hW => ⟨_, rfl, rfl, ht⟩) (fun q h => by cases h) dX0_fieldB_7
def fx_x_isLessU (a0 : Int32) (a1 : Int32) : Int32 := (if (a1 ^^^ (-2147483648 : Int32)) ≤ (a0 ^^^ (-2147483648 : Int32)) then (0 : Int32) else (1 : Int32))
set_option maxHeartbeats 4000000 in
set_option maxRecDepth 100000 in
theorem ct_x_isLessU (l : Launch)  (a0 : Int32) (a1 : Int32)  : Met l yX0_isLessU wsX0_isLessU ({ frames := 0, cells := 0, slots := 0, locals := 0 }) (va_Pc [.int a0, .int a1] (fun _ => True)) (vp_Si (fun r => r = fx_x_isLessU a0 a1)) 0 0 (fun _ => False) := by
  refine Met.ofW (cc := cX0_isLessU) (maxL := 2) (ret := (some .boolean)) (by decide) rfl ?_
  intro p e s m args below meth c s₁ B hml hv
  obtain ⟨rfl, -⟩ := hv
  have hx := B.exec
  have hb := B.bytes
  have hr := B.returns
  have htb : ∀ w ∈ lw_g, w.before ([.int a0, .int a1] : List Value).toArray s = true := fun w h => atoms_spec (ws := wsX0_isLessU) B.pre w (List.mem_cons_of_mem _ h)
  have hown : s.vm.findClass RX0 = some m.cls := findClass_of_methodNamed B.named
  have hlocks := B.notSynchronized
  have hl := lv_entry ([.int a0, .int a1]) (n := 2) (Nat.le_of_ble_eq_true rfl)
  rw [lg_entry_eq]
  generalize (lg_sl ([.int a0, .int a1]) ++ List.replicate (2 - (lg_sl ([.int a0, .int a1])).length) Slot.unset).toArray = ls at hl ⊢
  have hl : lv_has ls 2 [(0, .int a0), (1, .int a1)] := hl
  refine lv_iload_n hx hb dX0_isLessU_0 rfl (lv_at hl 0 rfl) ?_
  refine lv_ldc (v := (-2147483648 : Int32)) hx hb hown (htb _ iw_k_X0_175) dX0_isLessU_1 ?_
  refine lv_ixor hx hb dX0_isLessU_3 ?_
  refine lv_iload_n hx hb dX0_isLessU_4 rfl (lv_at hl 1 rfl) ?_
  refine lv_ldc (v := (-2147483648 : Int32)) hx hb hown (htb _ iw_k_X0_175) dX0_isLessU_5 ?_
  refine lv_ixor hx hb dX0_isLessU_7 ?_
  refine lv_icmp_ge (tgt := 15) hx hb dX0_isLessU_8 (by decide) (fun c1 => ?_) (fun c1 => ?_)
  · refine lv_iconst (v := (0 : Int32)) hx hb dX0_isLessU_15 (by decide) ?_
    exact W.zret (v := (0 : Int32)) hx hb hr rfl (fun t ht hW => ⟨_, rfl, (by unfold fx_x_isLessU; rw [if_pos c1]), ht⟩) (fun q h => by cases h) dX0_isLessU_16
  · refine lv_iconst (v := (1 : Int32)) hx hb dX0_isLessU_11 (by decide) ?_
    refine lv_goto (tgt := 16) hx hb dX0_isLessU_12 (by decide) ?_
    exact W.zret (v := (1 : Int32)) hx hb hr rfl (fun t ht hW => ⟨_, rfl, (by unfold fx_x_isLessU; rw [if_neg c1]), ht⟩) (fun q h => by cases h) dX0_isLessU_16
theorem xu_bz (x y : Int32) : narrow .boolean (.int (fx_x_isLessU x y)) = .int (fx_x_isLessU x y) := by
  unfold fx_x_isLessU
  split <;> rfl
def fx_x_isTaken (a0 : Int32) (a1 : Int32) (a2 : Int32) : Int32 := (if a0 = (0 : Int32) then (if a1 = a2 then (1 : Int32) else (0 : Int32)) else (if a0 = (1 : Int32) then (if a1 = a2 then (0 : Int32) else (1 : Int32)) else (if a0 = (2 : Int32) then (if (fx_x_isLessU a1 a2) = (0 : Int32) then (1 : Int32) else (0 : Int32)) else (if a0 = (3 : Int32) then (if (fx_x_isLessU a1 a2) = (0 : Int32) then (1 : Int32) else (0 : Int32)) else (if a0 = (4 : Int32) then (if a2 ≤ a1 then (0 : Int32) else (1 : Int32)) else (if a0 = (5 : Int32) then (if a1 < a2 then (0 : Int32) else (1 : Int32)) else (if a0 = (6 : Int32) then (fx_x_isLessU a1 a2) else (if (fx_x_isLessU a1 a2) = (0 : Int32) then (1 : Int32) else (0 : Int32)))))))))
set_option maxHeartbeats 4000000 in
set_option maxRecDepth 100000 in
theorem ct_x_isTaken (l : Launch)  (a0 : Int32) (a1 : Int32) (a2 : Int32)  : Met l yX0_isTaken wsX0_isTaken ({ frames := 1, cells := 0, slots := 0, locals := 21 }) (va_Pc [.int a0, .int a1, .int a2] (fun _ => True)) (vp_Si (fun r => r = fx_x_isTaken a0 a1 a2)) 0 0 (fun _ => False) := by
  refine Met.ofW (cc := cX0_isTaken) (maxL := 3) (ret := (some .boolean)) (by decide) rfl ?_
  intro p e s m args below meth c s₁ B hml hv
  obtain ⟨rfl, -⟩ := hv
  have hx := B.exec
  have hb := B.bytes
  have hr := B.returns
  have htb : ∀ w ∈ lw_g, w.before ([.int a0, .int a1, .int a2] : List Value).toArray s = true := fun w h => atoms_spec (ws := wsX0_isTaken) B.pre w (List.mem_cons_of_mem _ h)
  have hown : s.vm.findClass RX0 = some m.cls := findClass_of_methodNamed B.named
  have hlocks := B.notSynchronized
  have hl := lv_entry ([.int a0, .int a1, .int a2]) (n := 3) (Nat.le_of_ble_eq_true rfl)
  rw [lg_entry_eq]
  generalize (lg_sl ([.int a0, .int a1, .int a2]) ++ List.replicate (3 - (lg_sl ([.int a0, .int a1, .int a2])).length) Slot.unset).toArray = ls at hl ⊢
  have hl : lv_has ls 3 [(0, .int a0), (1, .int a1), (2, .int a2)] := hl
  refine lv_iload_n hx hb dX0_isTaken_0 rfl (lv_at hl 0 rfl) ?_
  by_cases c1 : a0 = (0 : Int32)
  · refine lv_tableIn (x := a0) (off := 43) (tgt := 44) hx hb dX0_isTaken_1 (by rw [c1]; decide) (by rw [c1]; decide) (by rw [c1]; decide) (by decide) ?_
    refine lv_iload_n hx hb dX0_isTaken_44 rfl (lv_at hl 1 rfl) ?_
    refine lv_iload_n hx hb dX0_isTaken_45 rfl (lv_at hl 2 rfl) ?_
    refine lv_icmp_ne (tgt := 53) hx hb dX0_isTaken_46 (by decide) (fun c2 => ?_) (fun c2 => ?_)
    · refine lv_iconst (v := (0 : Int32)) hx hb dX0_isTaken_53 (by decide) ?_
      exact W.zret (v := (0 : Int32)) hx hb hr rfl (fun t ht hW => ⟨_, rfl, (by unfold fx_x_isTaken; rw [if_pos c1, if_neg c2]), ht⟩) (fun q h => by cases h) dX0_isTaken_54
    · refine lv_iconst (v := (1 : Int32)) hx hb dX0_isTaken_49 (by decide) ?_
      refine lv_goto (tgt := 54) hx hb dX0_isTaken_50 (by decide) ?_
      exact W.zret (v := (1 : Int32)) hx hb hr rfl (fun t ht hW => ⟨_, rfl, (by unfold fx_x_isTaken; rw [if_pos c1, if_pos c2]), ht⟩) (fun q h => by cases h) dX0_isTaken_54
  by_cases c3 : a0 = (1 : Int32)
  · refine lv_tableIn (x := a0) (off := 54) (tgt := 55) hx hb dX0_isTaken_1 (by rw [c3]; decide) (by rw [c3]; decide) (by rw [c3]; decide) (by decide) ?_
    refine lv_iload_n hx hb dX0_isTaken_55 rfl (lv_at hl 1 rfl) ?_
    refine lv_iload_n hx hb dX0_isTaken_56 rfl (lv_at hl 2 rfl) ?_
    refine lv_icmp_eq (tgt := 64) hx hb dX0_isTaken_57 (by decide) (fun c4 => ?_) (fun c4 => ?_)
    · refine lv_iconst (v := (0 : Int32)) hx hb dX0_isTaken_64 (by decide) ?_
      exact W.zret (v := (0 : Int32)) hx hb hr rfl (fun t ht hW => ⟨_, rfl, (by unfold fx_x_isTaken; rw [if_neg c1, if_pos c3, if_pos c4]), ht⟩) (fun q h => by cases h) dX0_isTaken_65
    · refine lv_iconst (v := (1 : Int32)) hx hb dX0_isTaken_60 (by decide) ?_
      refine lv_goto (tgt := 65) hx hb dX0_isTaken_61 (by decide) ?_
      exact W.zret (v := (1 : Int32)) hx hb hr rfl (fun t ht hW => ⟨_, rfl, (by unfold fx_x_isTaken; rw [if_neg c1, if_pos c3, if_neg c4]), ht⟩) (fun q h => by cases h) dX0_isTaken_65
  by_cases c5 : a0 = (2 : Int32)
  · refine lv_tableIn (x := a0) (off := 93) (tgt := 94) hx hb dX0_isTaken_1 (by rw [c5]; decide) (by rw [c5]; decide) (by rw [c5]; decide) (by decide) ?_
    refine lv_iload_n hx hb dX0_isTaken_94 rfl (lv_at hl 1 rfl) ?_
    refine lv_iload_n hx hb dX0_isTaken_95 rfl (lv_at hl 2 rfl) ?_
    refine vp_callSi (W.runS (As := [.int a1, .int a2]) (rest := []) ⟨hx, hb, hml, hown, htb⟩ (ct_x_isLessU l a1 a2) (va_cwS 2 htb gw_X0_120 rfl rfl rfl (by decide +kernel) ⟨Nat.le_of_ble_eq_true rfl, Nat.le_of_ble_eq_true rfl⟩) jj_pre rfl rfl hl.1 rfl (lv_room (Nat.le_of_ble_eq_true rfl)) dX0_isTaken_96 ⟨Nat.le_of_ble_eq_true rfl, Nat.le_of_ble_eq_true rfl⟩) (fun r9 e9 => ?_)
    subst e9
    refine lv_if_ne (tgt := 106) hx hb dX0_isTaken_99 (by decide) (fun c6 => ?_) (fun c6 => ?_)
    · refine lv_iconst (v := (0 : Int32)) hx hb dX0_isTaken_106 (by decide) ?_
      exact W.zret (v := (0 : Int32)) hx hb hr rfl (fun t ht hW => ⟨_, rfl, (by unfold fx_x_isTaken; rw [if_neg c1, if_neg c3, if_pos c5, if_neg c6]), ht⟩) (fun q h => by cases h) dX0_isTaken_107
    · refine lv_iconst (v := (1 : Int32)) hx hb dX0_isTaken_102 (by decide) ?_
      refine lv_goto (tgt := 107) hx hb dX0_isTaken_103 (by decide) ?_
      exact W.zret (v := (1 : Int32)) hx hb hr rfl (fun t ht hW => ⟨_, rfl, (by unfold fx_x_isTaken; rw [if_neg c1, if_neg c3, if_pos c5, if_pos c6]), ht⟩) (fun q h => by cases h) dX0_isTaken_107
  by_cases c7 : a0 = (3 : Int32)
  · refine lv_tableIn (x := a0) (off := 93) (tgt := 94) hx hb dX0_isTaken_1 (by rw [c7]; decide) (by rw [c7]; decide) (by rw [c7]; decide) (by decide) ?_
    refine lv_iload_n hx hb dX0_isTaken_94 rfl (lv_at hl 1 rfl) ?_
    refine lv_iload_n hx hb dX0_isTaken_95 rfl (lv_at hl 2 rfl) ?_
    refine vp_callSi (W.runS (As := [.int a1, .int a2]) (rest := []) ⟨hx, hb, hml, hown, htb⟩ (ct_x_isLessU l a1 a2) (va_cwS 2 htb gw_X0_120 rfl rfl rfl (by decide +kernel) ⟨Nat.le_of_ble_eq_true rfl, Nat.le_of_ble_eq_true rfl⟩) jj_pre rfl rfl hl.1 rfl (lv_room (Nat.le_of_ble_eq_true rfl)) dX0_isTaken_96 ⟨Nat.le_of_ble_eq_true rfl, Nat.le_of_ble_eq_true rfl⟩) (fun r9 e9 => ?_)
    subst e9
    refine lv_if_ne (tgt := 106) hx hb dX0_isTaken_99 (by decide) (fun c8 => ?_) (fun c8 => ?_)
    · refine lv_iconst (v := (0 : Int32)) hx hb dX0_isTaken_106 (by decide) ?_
      exact W.zret (v := (0 : Int32)) hx hb hr rfl (fun t ht hW => ⟨_, rfl, (by unfold fx_x_isTaken; rw [if_neg c1, if_neg c3, if_neg c5, if_pos c7, if_neg c8]), ht⟩) (fun q h => by cases h) dX0_isTaken_107
    · refine lv_iconst (v := (1 : Int32)) hx hb dX0_isTaken_102 (by decide) ?_
      refine lv_goto (tgt := 107) hx hb dX0_isTaken_103 (by decide) ?_
      exact W.zret (v := (1 : Int32)) hx hb hr rfl (fun t ht hW => ⟨_, rfl, (by unfold fx_x_isTaken; rw [if_neg c1, if_neg c3, if_neg c5, if_pos c7, if_pos c8]), ht⟩) (fun q h => by cases h) dX0_isTaken_107
  by_cases c9 : a0 = (4 : Int32)
  · refine lv_tableIn (x := a0) (off := 65) (tgt := 66) hx hb dX0_isTaken_1 (by rw [c9]; decide) (by rw [c9]; decide) (by rw [c9]; decide) (by decide) ?_
    refine lv_iload_n hx hb dX0_isTaken_66 rfl (lv_at hl 1 rfl) ?_
    refine lv_iload_n hx hb dX0_isTaken_67 rfl (lv_at hl 2 rfl) ?_
    refine lv_icmp_ge (tgt := 75) hx hb dX0_isTaken_68 (by decide) (fun c10 => ?_) (fun c10 => ?_)
    · refine lv_iconst (v := (0 : Int32)) hx hb dX0_isTaken_75 (by decide) ?_
      exact W.zret (v := (0 : Int32)) hx hb hr rfl (fun t ht hW => ⟨_, rfl, (by unfold fx_x_isTaken; rw [if_neg c1, if_neg c3, if_neg c5, if_neg c7, if_pos c9, if_pos c10]), ht⟩) (fun q h => by cases h) dX0_isTaken_76
    · refine lv_iconst (v := (1 : Int32)) hx hb dX0_isTaken_71 (by decide) ?_
      refine lv_goto (tgt := 76) hx hb dX0_isTaken_72 (by decide) ?_
      exact W.zret (v := (1 : Int32)) hx hb hr rfl (fun t ht hW => ⟨_, rfl, (by unfold fx_x_isTaken; rw [if_neg c1, if_neg c3, if_neg c5, if_neg c7, if_pos c9, if_neg c10]), ht⟩) (fun q h => by cases h) dX0_isTaken_76
  by_cases c11 : a0 = (5 : Int32)
  · refine lv_tableIn (x := a0) (off := 76) (tgt := 77) hx hb dX0_isTaken_1 (by rw [c11]; decide) (by rw [c11]; decide) (by rw [c11]; decide) (by decide) ?_
    refine lv_iload_n hx hb dX0_isTaken_77 rfl (lv_at hl 1 rfl) ?_
    refine lv_iload_n hx hb dX0_isTaken_78 rfl (lv_at hl 2 rfl) ?_
    refine lv_icmp_lt (tgt := 86) hx hb dX0_isTaken_79 (by decide) (fun c12 => ?_) (fun c12 => ?_)
    · refine lv_iconst (v := (0 : Int32)) hx hb dX0_isTaken_86 (by decide) ?_
      exact W.zret (v := (0 : Int32)) hx hb hr rfl (fun t ht hW => ⟨_, rfl, (by unfold fx_x_isTaken; rw [if_neg c1, if_neg c3, if_neg c5, if_neg c7, if_neg c9, if_pos c11, if_pos c12]), ht⟩) (fun q h => by cases h) dX0_isTaken_87
    · refine lv_iconst (v := (1 : Int32)) hx hb dX0_isTaken_82 (by decide) ?_
      refine lv_goto (tgt := 87) hx hb dX0_isTaken_83 (by decide) ?_
      exact W.zret (v := (1 : Int32)) hx hb hr rfl (fun t ht hW => ⟨_, rfl, (by unfold fx_x_isTaken; rw [if_neg c1, if_neg c3, if_neg c5, if_neg c7, if_neg c9, if_pos c11, if_neg c12]), ht⟩) (fun q h => by cases h) dX0_isTaken_87
  by_cases c13 : a0 = (6 : Int32)
  · refine lv_tableIn (x := a0) (off := 87) (tgt := 88) hx hb dX0_isTaken_1 (by rw [c13]; decide) (by rw [c13]; decide) (by rw [c13]; decide) (by decide) ?_
    refine lv_iload_n hx hb dX0_isTaken_88 rfl (lv_at hl 1 rfl) ?_
    refine lv_iload_n hx hb dX0_isTaken_89 rfl (lv_at hl 2 rfl) ?_
    refine vp_callSi (W.runS (As := [.int a1, .int a2]) (rest := []) ⟨hx, hb, hml, hown, htb⟩ (ct_x_isLessU l a1 a2) (va_cwS 2 htb gw_X0_120 rfl rfl rfl (by decide +kernel) ⟨Nat.le_of_ble_eq_true rfl, Nat.le_of_ble_eq_true rfl⟩) jj_pre rfl rfl hl.1 rfl (lv_room (Nat.le_of_ble_eq_true rfl)) dX0_isTaken_90 ⟨Nat.le_of_ble_eq_true rfl, Nat.le_of_ble_eq_true rfl⟩) (fun r9 e9 => ?_)
    subst e9
    exact W.zret (v := (fx_x_isLessU a1 a2)) hx hb hr (xu_bz _ _) (fun t ht hW => ⟨_, rfl, (by unfold fx_x_isTaken; rw [if_neg c1, if_neg c3, if_neg c5, if_neg c7, if_neg c9, if_neg c11, if_pos c13]), ht⟩) (fun q h => by cases h) dX0_isTaken_93
  refine lv_tableOut (x := a0) (tgt := 94) hx hb dX0_isTaken_1 (by have hc1 := lv_neT c1 (a := 0) (by decide); have hc3 := lv_neT c3 (a := 1) (by decide); have hc5 := lv_neT c5 (a := 2) (by decide); have hc7 := lv_neT c7 (a := 3) (by decide); have hc9 := lv_neT c9 (a := 4) (by decide); have hc11 := lv_neT c11 (a := 5) (by decide); have hc13 := lv_neT c13 (a := 6) (by decide); omega) (by decide) ?_
  refine lv_iload_n hx hb dX0_isTaken_94 rfl (lv_at hl 1 rfl) ?_
  refine lv_iload_n hx hb dX0_isTaken_95 rfl (lv_at hl 2 rfl) ?_
  refine vp_callSi (W.runS (As := [.int a1, .int a2]) (rest := []) ⟨hx, hb, hml, hown, htb⟩ (ct_x_isLessU l a1 a2) (va_cwS 2 htb gw_X0_120 rfl rfl rfl (by decide +kernel) ⟨Nat.le_of_ble_eq_true rfl, Nat.le_of_ble_eq_true rfl⟩) jj_pre rfl rfl hl.1 rfl (lv_room (Nat.le_of_ble_eq_true rfl)) dX0_isTaken_96 ⟨Nat.le_of_ble_eq_true rfl, Nat.le_of_ble_eq_true rfl⟩) (fun r9 e9 => ?_)
  subst e9
  refine lv_if_ne (tgt := 106) hx hb dX0_isTaken_99 (by decide) (fun c14 => ?_) (fun c14 => ?_)
  · refine lv_iconst (v := (0 : Int32)) hx hb dX0_isTaken_106 (by decide) ?_
    exact W.zret (v := (0 : Int32)) hx hb hr rfl (fun t ht hW => ⟨_, rfl, (by unfold fx_x_isTaken; rw [if_neg c1, if_neg c3, if_neg c5, if_neg c7, if_neg c9, if_neg c11, if_neg c13, if_neg c14]), ht⟩) (fun q h => by cases h) dX0_isTaken_107
  · refine lv_iconst (v := (1 : Int32)) hx hb dX0_isTaken_102 (by decide) ?_
    refine lv_goto (tgt := 107) hx hb dX0_isTaken_103 (by decide) ?_
    exact W.zret (v := (1 : Int32)) hx hb hr rfl (fun t ht hW => ⟨_, rfl, (by unfold fx_x_isTaken; rw [if_neg c1, if_neg c3, if_neg c5, if_neg c7, if_neg c9, if_neg c11, if_neg c13, if_pos c14]), ht⟩) (fun q h => by cases h) dX0_isTaken_107
def fx_x_numberB (a0 : Int32) : Int32 := (((((a0 >>> ((31 : Int32) &&& 31)) <<< ((12 : Int32) &&& 31)) ||| (((jj_ushr a0 (7 : Int32)) &&& (1 : Int32)) <<< ((11 : Int32) &&& 31))) ||| (((jj_ushr a0 (25 : Int32)) &&& (63 : Int32)) <<< ((5 : Int32) &&& 31))) ||| (((jj_ushr a0 (8 : Int32)) &&& (15 : Int32)) <<< ((1 : Int32) &&& 31)))
set_option maxHeartbeats 4000000 in
set_option maxRecDepth 100000 in
theorem ct_x_numberB (l : Launch)  (a0 : Int32)  : Met l yX0_numberB wsX0_numberB ({ frames := 0, cells := 0, slots := 0, locals := 0 }) (va_Pc [.int a0] (fun _ => True)) (vp_Si (fun r => r = fx_x_numberB a0)) 0 0 (fun _ => False) := by
  refine Met.ofW (cc := cX0_numberB) (maxL := 4) (ret := (some .int)) (by decide) rfl ?_
  intro p e s m args below meth c s₁ B hml hv
  obtain ⟨rfl, -⟩ := hv
  have hx := B.exec
  have hb := B.bytes
  have hr := B.returns
  have htb : ∀ w ∈ lw_g, w.before ([.int a0] : List Value).toArray s = true := fun w h => atoms_spec (ws := wsX0_numberB) B.pre w (List.mem_cons_of_mem _ h)
  have hown : s.vm.findClass RX0 = some m.cls := findClass_of_methodNamed B.named
  have hlocks := B.notSynchronized
  have hl := lv_entry ([.int a0]) (n := 4) (Nat.le_of_ble_eq_true rfl)
  rw [lg_entry_eq]
  generalize (lg_sl ([.int a0]) ++ List.replicate (4 - (lg_sl ([.int a0])).length) Slot.unset).toArray = ls at hl ⊢
  have hl : lv_has ls 4 [(0, .int a0)] := hl
  refine lv_iload_n hx hb dX0_numberB_0 rfl (lv_at hl 0 rfl) ?_
  refine lv_bipush (v := (7 : Int32)) hx hb dX0_numberB_1 (by decide) ?_
  refine lv_iushr (v := (jj_ushr a0 (7 : Int32))) hx hb dX0_numberB_3 rfl ?_
  refine lv_iconst (v := (1 : Int32)) hx hb dX0_numberB_4 (by decide) ?_
  refine lv_iand hx hb dX0_numberB_5 ?_
  refine lv_istore_n (lv' := [(1, .int ((jj_ushr a0 (7 : Int32)) &&& (1 : Int32))), (0, .int a0)]) hx hb dX0_numberB_6 rfl hl (by decide) rfl (fun ls hl => ?_)
  refine lv_iload_n hx hb dX0_numberB_7 rfl (lv_at hl 1 rfl) ?_
  refine lv_bipush (v := (25 : Int32)) hx hb dX0_numberB_8 (by decide) ?_
  refine lv_iushr (v := (jj_ushr a0 (25 : Int32))) hx hb dX0_numberB_10 rfl ?_
  refine lv_bipush (v := (63 : Int32)) hx hb dX0_numberB_11 (by decide) ?_
  refine lv_iand hx hb dX0_numberB_13 ?_
  refine lv_istore_n (lv' := [(2, .int ((jj_ushr a0 (25 : Int32)) &&& (63 : Int32))), (1, .int ((jj_ushr a0 (7 : Int32)) &&& (1 : Int32))), (0, .int a0)]) hx hb dX0_numberB_14 rfl hl (by decide) rfl (fun ls hl => ?_)
  refine lv_iload_n hx hb dX0_numberB_15 rfl (lv_at hl 2 rfl) ?_
  refine lv_bipush (v := (8 : Int32)) hx hb dX0_numberB_16 (by decide) ?_
  refine lv_iushr (v := (jj_ushr a0 (8 : Int32))) hx hb dX0_numberB_18 rfl ?_
  refine lv_bipush (v := (15 : Int32)) hx hb dX0_numberB_19 (by decide) ?_
  refine lv_iand hx hb dX0_numberB_21 ?_
  refine lv_istore_n (lv' := [(3, .int ((jj_ushr a0 (8 : Int32)) &&& (15 : Int32))), (2, .int ((jj_ushr a0 (25 : Int32)) &&& (63 : Int32))), (1, .int ((jj_ushr a0 (7 : Int32)) &&& (1 : Int32))), (0, .int a0)]) hx hb dX0_numberB_22 rfl hl (by decide) rfl (fun ls hl => ?_)
  refine lv_iload_n hx hb dX0_numberB_23 rfl (lv_at hl 3 rfl) ?_
  refine lv_bipush (v := (31 : Int32)) hx hb dX0_numberB_24 (by decide) ?_
  refine lv_ishr hx hb dX0_numberB_26 ?_
  refine lv_bipush (v := (12 : Int32)) hx hb dX0_numberB_27 (by decide) ?_
  refine lv_ishl hx hb dX0_numberB_29 ?_
  refine lv_iload_n hx hb dX0_numberB_30 rfl (lv_at hl 2 rfl) ?_
  refine lv_bipush (v := (11 : Int32)) hx hb dX0_numberB_31 (by decide) ?_
  refine lv_ishl hx hb dX0_numberB_33 ?_
  refine lv_ior hx hb dX0_numberB_34 ?_
  refine lv_iload_n hx hb dX0_numberB_35 rfl (lv_at hl 1 rfl) ?_
  refine lv_iconst (v := (5 : Int32)) hx hb dX0_numberB_36 (by decide) ?_
  refine lv_ishl hx hb dX0_numberB_37 ?_
  refine lv_ior hx hb dX0_numberB_38 ?_
  refine lv_iload_n hx hb dX0_numberB_39 rfl (lv_at hl 0 rfl) ?_
  refine lv_iconst (v := (1 : Int32)) hx hb dX0_numberB_40 (by decide) ?_
  refine lv_ishl hx hb dX0_numberB_41 ?_
  refine lv_ior hx hb dX0_numberB_42 ?_
  exact W.iret (v := (((((a0 >>> ((31 : Int32) &&& 31)) <<< ((12 : Int32) &&& 31)) ||| (((jj_ushr a0 (7 : Int32)) &&& (1 : Int32)) <<< ((11 : Int32) &&& 31))) ||| (((jj_ushr a0 (25 : Int32)) &&& (63 : Int32)) <<< ((5 : Int32) &&& 31))) ||| (((jj_ushr a0 (8 : Int32)) &&& (15 : Int32)) <<< ((1 : Int32) &&& 31)))) hx hb hr (fun t ht hW => ⟨_, rfl, rfl, ht⟩) (fun q h => by cases h) dX0_numberB_43
def fx_x_isAligned (a0 : Int32) (a1 : Int32) : Int32 := (if (a0 &&& (((1 : Int32) <<< ((a1 &&& (3 : Int32)) &&& 31)) - (1 : Int32))) = (0 : Int32) then (1 : Int32) else (0 : Int32))
set_option maxHeartbeats 4000000 in
set_option maxRecDepth 100000 in
theorem ct_x_isAligned (l : Launch)  (a0 : Int32) (a1 : Int32)  : Met l yX0_isAligned wsX0_isAligned ({ frames := 0, cells := 0, slots := 0, locals := 0 }) (va_Pc [.int a0, .int a1] (fun _ => True)) (vp_Si (fun r => r = fx_x_isAligned a0 a1)) 0 0 (fun _ => False) := by
  refine Met.ofW (cc := cX0_isAligned) (maxL := 3) (ret := (some .boolean)) (by decide) rfl ?_
  intro p e s m args below meth c s₁ B hml hv
  obtain ⟨rfl, -⟩ := hv
  have hx := B.exec
  have hb := B.bytes
  have hr := B.returns
  have htb : ∀ w ∈ lw_g, w.before ([.int a0, .int a1] : List Value).toArray s = true := fun w h => atoms_spec (ws := wsX0_isAligned) B.pre w (List.mem_cons_of_mem _ h)
  have hown : s.vm.findClass RX0 = some m.cls := findClass_of_methodNamed B.named
  have hlocks := B.notSynchronized
  have hl := lv_entry ([.int a0, .int a1]) (n := 3) (Nat.le_of_ble_eq_true rfl)
  rw [lg_entry_eq]
  generalize (lg_sl ([.int a0, .int a1]) ++ List.replicate (3 - (lg_sl ([.int a0, .int a1])).length) Slot.unset).toArray = ls at hl ⊢
  have hl : lv_has ls 3 [(0, .int a0), (1, .int a1)] := hl
  refine lv_iconst (v := (1 : Int32)) hx hb dX0_isAligned_0 (by decide) ?_
  refine lv_iload_n hx hb dX0_isAligned_1 rfl (lv_at hl 1 rfl) ?_
  refine lv_iconst (v := (3 : Int32)) hx hb dX0_isAligned_2 (by decide) ?_
  refine lv_iand hx hb dX0_isAligned_3 ?_
  refine lv_ishl hx hb dX0_isAligned_4 ?_
  refine lv_istore_n (lv' := [(2, .int ((1 : Int32) <<< ((a1 &&& (3 : Int32)) &&& 31))), (0, .int a0), (1, .int a1)]) hx hb dX0_isAligned_5 rfl hl (by decide) rfl (fun ls hl => ?_)
  refine lv_iload_n hx hb dX0_isAligned_6 rfl (lv_at hl 1 rfl) ?_
  refine lv_iload_n hx hb dX0_isAligned_7 rfl (lv_at hl 0 rfl) ?_
  refine lv_iconst (v := (1 : Int32)) hx hb dX0_isAligned_8 (by decide) ?_
  refine lv_isub hx hb dX0_isAligned_9 ?_
  refine lv_iand hx hb dX0_isAligned_10 ?_
  refine lv_if_ne (tgt := 18) hx hb dX0_isAligned_11 (by decide) (fun c1 => ?_) (fun c1 => ?_)
  · refine lv_iconst (v := (0 : Int32)) hx hb dX0_isAligned_18 (by decide) ?_
    exact W.zret (v := (0 : Int32)) hx hb hr rfl (fun t ht hW => ⟨_, rfl, (by unfold fx_x_isAligned; rw [if_neg c1]), ht⟩) (fun q h => by cases h) dX0_isAligned_19
  · refine lv_iconst (v := (1 : Int32)) hx hb dX0_isAligned_14 (by decide) ?_
    refine lv_goto (tgt := 19) hx hb dX0_isAligned_15 (by decide) ?_
    exact W.zret (v := (1 : Int32)) hx hb hr rfl (fun t ht hW => ⟨_, rfl, (by unfold fx_x_isAligned; rw [if_pos c1]), ht⟩) (fun q h => by cases h) dX0_isAligned_19
def fx_x_bitsBelow (a0 : Int32) : Int32 := ((8 : Int32) * (a0 &&& (3 : Int32)))
set_option maxHeartbeats 4000000 in
set_option maxRecDepth 100000 in
theorem ct_x_bitsBelow (l : Launch)  (a0 : Int32)  : Met l yX0_bitsBelow wsX0_bitsBelow ({ frames := 0, cells := 0, slots := 0, locals := 0 }) (va_Pc [.int a0] (fun _ => True)) (vp_Si (fun r => r = fx_x_bitsBelow a0)) 0 0 (fun _ => False) := by
  refine Met.ofW (cc := cX0_bitsBelow) (maxL := 1) (ret := (some .int)) (by decide) rfl ?_
  intro p e s m args below meth c s₁ B hml hv
  obtain ⟨rfl, -⟩ := hv
  have hx := B.exec
  have hb := B.bytes
  have hr := B.returns
  have htb : ∀ w ∈ lw_g, w.before ([.int a0] : List Value).toArray s = true := fun w h => atoms_spec (ws := wsX0_bitsBelow) B.pre w (List.mem_cons_of_mem _ h)
  have hown : s.vm.findClass RX0 = some m.cls := findClass_of_methodNamed B.named
  have hlocks := B.notSynchronized
  have hl := lv_entry ([.int a0]) (n := 1) (Nat.le_of_ble_eq_true rfl)
  rw [lg_entry_eq]
  generalize (lg_sl ([.int a0]) ++ List.replicate (1 - (lg_sl ([.int a0])).length) Slot.unset).toArray = ls at hl ⊢
  have hl : lv_has ls 1 [(0, .int a0)] := hl
  refine lv_bipush (v := (8 : Int32)) hx hb dX0_bitsBelow_0 (by decide) ?_
  refine lv_iload_n hx hb dX0_bitsBelow_2 rfl (lv_at hl 0 rfl) ?_
  refine lv_iconst (v := (3 : Int32)) hx hb dX0_bitsBelow_3 (by decide) ?_
  refine lv_iand hx hb dX0_bitsBelow_4 ?_
  refine lv_imul hx hb dX0_bitsBelow_5 ?_
  exact W.iret (v := ((8 : Int32) * (a0 &&& (3 : Int32)))) hx hb hr (fun t ht hW => ⟨_, rfl, rfl, ht⟩) (fun q h => by cases h) dX0_bitsBelow_6
def fx_x_loaded (a0 : Int32) (a1 : Int32) : Int32 := (if a0 = (0 : Int32) then ((a1).toInt8.toInt32) else (if a0 = (1 : Int32) then ((a1).toInt16.toInt32) else (if a0 = (2 : Int32) then a1 else (if a0 = (3 : Int32) then a1 else (if a0 = (4 : Int32) then (a1 &&& (255 : Int32)) else (if a0 = (5 : Int32) then (a1 &&& (65535 : Int32)) else a1))))))
set_option maxHeartbeats 4000000 in
set_option maxRecDepth 100000 in
theorem ct_x_loaded (l : Launch)  (a0 : Int32) (a1 : Int32)  : Met l yX0_loaded wsX0_loaded ({ frames := 0, cells := 0, slots := 0, locals := 0 }) (va_Pc [.int a0, .int a1] (fun _ => True)) (vp_Si (fun r => r = fx_x_loaded a0 a1)) 0 0 (fun _ => False) := by
  refine Met.ofW (cc := cX0_loaded) (maxL := 2) (ret := (some .int)) (by decide) rfl ?_
  intro p e s m args below meth c s₁ B hml hv
  obtain ⟨rfl, -⟩ := hv
  have hx := B.exec
  have hb := B.bytes
  have hr := B.returns
  have htb : ∀ w ∈ lw_g, w.before ([.int a0, .int a1] : List Value).toArray s = true := fun w h => atoms_spec (ws := wsX0_loaded) B.pre w (List.mem_cons_of_mem _ h)
  have hown : s.vm.findClass RX0 = some m.cls := findClass_of_methodNamed B.named
  have hlocks := B.notSynchronized
  have hl := lv_entry ([.int a0, .int a1]) (n := 2) (Nat.le_of_ble_eq_true rfl)
  rw [lg_entry_eq]
  generalize (lg_sl ([.int a0, .int a1]) ++ List.replicate (2 - (lg_sl ([.int a0, .int a1])).length) Slot.unset).toArray = ls at hl ⊢
  have hl : lv_has ls 2 [(0, .int a0), (1, .int a1)] := hl
  refine lv_iload_n hx hb dX0_loaded_0 rfl (lv_at hl 0 rfl) ?_
  by_cases c1 : a0 = (0 : Int32)
  · refine lv_tableIn (x := a0) (off := 39) (tgt := 40) hx hb dX0_loaded_1 (by rw [c1]; decide) (by rw [c1]; decide) (by rw [c1]; decide) (by decide) ?_
    refine lv_iload_n hx hb dX0_loaded_40 rfl (lv_at hl 1 rfl) ?_
    refine lv_i2b (v := ((a1).toInt8.toInt32)) hx hb dX0_loaded_41 rfl ?_
    exact W.iret (v := ((a1).toInt8.toInt32)) hx hb hr (fun t ht hW => ⟨_, rfl, (by unfold fx_x_loaded; rw [if_pos c1]), ht⟩) (fun q h => by cases h) dX0_loaded_42
  by_cases c2 : a0 = (1 : Int32)
  · refine lv_tableIn (x := a0) (off := 42) (tgt := 43) hx hb dX0_loaded_1 (by rw [c2]; decide) (by rw [c2]; decide) (by rw [c2]; decide) (by decide) ?_
    refine lv_iload_n hx hb dX0_loaded_43 rfl (lv_at hl 1 rfl) ?_
    refine lv_i2s (v := ((a1).toInt16.toInt32)) hx hb dX0_loaded_44 rfl ?_
    exact W.iret (v := ((a1).toInt16.toInt32)) hx hb hr (fun t ht hW => ⟨_, rfl, (by unfold fx_x_loaded; rw [if_neg c1, if_pos c2]), ht⟩) (fun q h => by cases h) dX0_loaded_45
  by_cases c3 : a0 = (2 : Int32)
  · refine lv_tableIn (x := a0) (off := 56) (tgt := 57) hx hb dX0_loaded_1 (by rw [c3]; decide) (by rw [c3]; decide) (by rw [c3]; decide) (by decide) ?_
    refine lv_iload_n hx hb dX0_loaded_57 rfl (lv_at hl 1 rfl) ?_
    exact W.iret (v := a1) hx hb hr (fun t ht hW => ⟨_, rfl, (by unfold fx_x_loaded; rw [if_neg c1, if_neg c2, if_pos c3]), ht⟩) (fun q h => by cases h) dX0_loaded_58
  by_cases c4 : a0 = (3 : Int32)
  · refine lv_tableIn (x := a0) (off := 56) (tgt := 57) hx hb dX0_loaded_1 (by rw [c4]; decide) (by rw [c4]; decide) (by rw [c4]; decide) (by decide) ?_
    refine lv_iload_n hx hb dX0_loaded_57 rfl (lv_at hl 1 rfl) ?_
    exact W.iret (v := a1) hx hb hr (fun t ht hW => ⟨_, rfl, (by unfold fx_x_loaded; rw [if_neg c1, if_neg c2, if_neg c3, if_pos c4]), ht⟩) (fun q h => by cases h) dX0_loaded_58
  by_cases c5 : a0 = (4 : Int32)
  · refine lv_tableIn (x := a0) (off := 45) (tgt := 46) hx hb dX0_loaded_1 (by rw [c5]; decide) (by rw [c5]; decide) (by rw [c5]; decide) (by decide) ?_
    refine lv_iload_n hx hb dX0_loaded_46 rfl (lv_at hl 1 rfl) ?_
    refine lv_sipush (v := (255 : Int32)) hx hb dX0_loaded_47 (by decide) ?_
    refine lv_iand hx hb dX0_loaded_50 ?_
    exact W.iret (v := (a1 &&& (255 : Int32))) hx hb hr (fun t ht hW => ⟨_, rfl, (by unfold fx_x_loaded; rw [if_neg c1, if_neg c2, if_neg c3, if_neg c4, if_pos c5]), ht⟩) (fun q h => by cases h) dX0_loaded_51
  by_cases c6 : a0 = (5 : Int32)
  · refine lv_tableIn (x := a0) (off := 51) (tgt := 52) hx hb dX0_loaded_1 (by rw [c6]; decide) (by rw [c6]; decide) (by rw [c6]; decide) (by decide) ?_
    refine lv_iload_n hx hb dX0_loaded_52 rfl (lv_at hl 1 rfl) ?_
    refine lv_ldc (v := (65535 : Int32)) hx hb hown (htb _ iw_k_X0_133) dX0_loaded_53 ?_
    refine lv_iand hx hb dX0_loaded_55 ?_
    exact W.iret (v := (a1 &&& (65535 : Int32))) hx hb hr (fun t ht hW => ⟨_, rfl, (by unfold fx_x_loaded; rw [if_neg c1, if_neg c2, if_neg c3, if_neg c4, if_neg c5, if_pos c6]), ht⟩) (fun q h => by cases h) dX0_loaded_56
  refine lv_tableOut (x := a0) (tgt := 57) hx hb dX0_loaded_1 (by have hc1 := lv_neT c1 (a := 0) (by decide); have hc2 := lv_neT c2 (a := 1) (by decide); have hc3 := lv_neT c3 (a := 2) (by decide); have hc4 := lv_neT c4 (a := 3) (by decide); have hc5 := lv_neT c5 (a := 4) (by decide); have hc6 := lv_neT c6 (a := 5) (by decide); omega) (by decide) ?_
  refine lv_iload_n hx hb dX0_loaded_57 rfl (lv_at hl 1 rfl) ?_
  exact W.iret (v := a1) hx hb hr (fun t ht hW => ⟨_, rfl, (by unfold fx_x_loaded; rw [if_neg c1, if_neg c2, if_neg c3, if_neg c4, if_neg c5, if_neg c6]), ht⟩) (fun q h => by cases h) dX0_loaded_58
def fx_x_numberT (a0 : Int32) : Int32 := (((a0 >>> ((25 : Int32) &&& 31)) <<< ((5 : Int32) &&& 31)) ||| (fx_x_fieldD a0))
set_option maxHeartbeats 4000000 in
set_option maxRecDepth 100000 in
theorem ct_x_numberT (l : Launch)  (a0 : Int32)  : Met l yX0_numberT wsX0_numberT ({ frames := 1, cells := 0, slots := 0, locals := 20 }) (va_Pc [.int a0] (fun _ => True)) (vp_Si (fun r => r = fx_x_numberT a0)) 0 0 (fun _ => False) := by
  refine Met.ofW (cc := cX0_numberT) (maxL := 1) (ret := (some .int)) (by decide) rfl ?_
  intro p e s m args below meth c s₁ B hml hv
  obtain ⟨rfl, -⟩ := hv
  have hx := B.exec
  have hb := B.bytes
  have hr := B.returns
  have htb : ∀ w ∈ lw_g, w.before ([.int a0] : List Value).toArray s = true := fun w h => atoms_spec (ws := wsX0_numberT) B.pre w (List.mem_cons_of_mem _ h)
  have hown : s.vm.findClass RX0 = some m.cls := findClass_of_methodNamed B.named
  have hlocks := B.notSynchronized
  have hl := lv_entry ([.int a0]) (n := 1) (Nat.le_of_ble_eq_true rfl)
  rw [lg_entry_eq]
  generalize (lg_sl ([.int a0]) ++ List.replicate (1 - (lg_sl ([.int a0])).length) Slot.unset).toArray = ls at hl ⊢
  have hl : lv_has ls 1 [(0, .int a0)] := hl
  refine lv_iload_n hx hb dX0_numberT_0 rfl (lv_at hl 0 rfl) ?_
  refine lv_bipush (v := (25 : Int32)) hx hb dX0_numberT_1 (by decide) ?_
  refine lv_ishr hx hb dX0_numberT_3 ?_
  refine lv_iconst (v := (5 : Int32)) hx hb dX0_numberT_4 (by decide) ?_
  refine lv_ishl hx hb dX0_numberT_5 ?_
  refine lv_iload_n hx hb dX0_numberT_6 rfl (lv_at hl 0 rfl) ?_
  refine vp_callSi (W.runS (As := [.int a0]) (rest := [.int ((a0 >>> ((25 : Int32) &&& 31)) <<< ((5 : Int32) &&& 31))]) ⟨hx, hb, hml, hown, htb⟩ (ct_x_fieldD l a0) (va_cwS 1 htb gw_X0_57 rfl rfl rfl (by decide +kernel) ⟨Nat.le_of_ble_eq_true rfl, Nat.le_of_ble_eq_true rfl⟩) jj_pre rfl rfl hl.1 rfl (lv_room (Nat.le_of_ble_eq_true rfl)) dX0_numberT_7 ⟨Nat.le_of_ble_eq_true rfl, Nat.le_of_ble_eq_true rfl⟩) (fun r9 e9 => ?_)
  subst e9
  refine lv_ior hx hb dX0_numberT_10 ?_
  exact W.iret (v := (((a0 >>> ((25 : Int32) &&& 31)) <<< ((5 : Int32) &&& 31)) ||| (fx_x_fieldD a0))) hx hb hr (fun t ht hW => ⟨_, rfl, rfl, ht⟩) (fun q h => by cases h) dX0_numberT_11
def fx_x_storedMask (a0 : Int32) : Int32 := (if a0 = (0 : Int32) then (255 : Int32) else (if a0 = (1 : Int32) then (65535 : Int32) else (-1 : Int32)))
set_option maxHeartbeats 4000000 in
set_option maxRecDepth 100000 in
theorem ct_x_storedMask (l : Launch)  (a0 : Int32)  : Met l yX0_storedMask wsX0_storedMask ({ frames := 0, cells := 0, slots := 0, locals := 0 }) (va_Pc [.int a0] (fun _ => True)) (vp_Si (fun r => r = fx_x_storedMask a0)) 0 0 (fun _ => False) := by
  refine Met.ofW (cc := cX0_storedMask) (maxL := 1) (ret := (some .int)) (by decide) rfl ?_
  intro p e s m args below meth c s₁ B hml hv
  obtain ⟨rfl, -⟩ := hv
  have hx := B.exec
  have hb := B.bytes
  have hr := B.returns
  have htb : ∀ w ∈ lw_g, w.before ([.int a0] : List Value).toArray s = true := fun w h => atoms_spec (ws := wsX0_storedMask) B.pre w (List.mem_cons_of_mem _ h)
  have hown : s.vm.findClass RX0 = some m.cls := findClass_of_methodNamed B.named
  have hlocks := B.notSynchronized
  have hl := lv_entry ([.int a0]) (n := 1) (Nat.le_of_ble_eq_true rfl)
  rw [lg_entry_eq]
  generalize (lg_sl ([.int a0]) ++ List.replicate (1 - (lg_sl ([.int a0])).length) Slot.unset).toArray = ls at hl ⊢
  have hl : lv_has ls 1 [(0, .int a0)] := hl
  refine lv_iload_n hx hb dX0_storedMask_0 rfl (lv_at hl 0 rfl) ?_
  by_cases c1 : a0 = (0 : Int32)
  · refine lv_lookup (x := a0) (off := 27) (tgt := 28) hx hb dX0_storedMask_1 (by decide) (by rw [c1]; decide) (by decide) ?_
    refine lv_sipush (v := (255 : Int32)) hx hb dX0_storedMask_28 (by decide) ?_
    exact W.iret (v := (255 : Int32)) hx hb hr (fun t ht hW => ⟨_, rfl, (by unfold fx_x_storedMask; rw [if_pos c1]), ht⟩) (fun q h => by cases h) dX0_storedMask_31
  by_cases c2 : a0 = (1 : Int32)
  · refine lv_lookup (x := a0) (off := 31) (tgt := 32) hx hb dX0_storedMask_1 (by decide) (by rw [c2]; decide) (by decide) ?_
    refine lv_ldc (v := (65535 : Int32)) hx hb hown (htb _ iw_k_X0_133) dX0_storedMask_32 ?_
    exact W.iret (v := (65535 : Int32)) hx hb hr (fun t ht hW => ⟨_, rfl, (by unfold fx_x_storedMask; rw [if_neg c1, if_pos c2]), ht⟩) (fun q h => by cases h) dX0_storedMask_34
  refine lv_lookup (x := a0) (off := 34) (tgt := 35) hx hb dX0_storedMask_1 (by decide) (by show Op.lookupswitch.offset [(0, 27), (1, 31)] (34) _ = _; rw [lv_osw c1 (by decide), lv_osw c2 (by decide)]; rfl) (by decide) ?_
  refine lv_iconst (v := (-1 : Int32)) hx hb dX0_storedMask_35 (by decide) ?_
  exact W.iret (v := (-1 : Int32)) hx hb hr (fun t ht hW => ⟨_, rfl, (by unfold fx_x_storedMask; rw [if_neg c1, if_neg c2]), ht⟩) (fun q h => by cases h) dX0_storedMask_36
def fx_x_numberH (a0 : Int32) : Int32 := (a0 &&& (-4096 : Int32))
set_option maxHeartbeats 4000000 in
set_option maxRecDepth 100000 in
theorem ct_x_numberH (l : Launch)  (a0 : Int32)  : Met l yX0_numberH wsX0_numberH ({ frames := 0, cells := 0, slots := 0, locals := 0 }) (va_Pc [.int a0] (fun _ => True)) (vp_Si (fun r => r = fx_x_numberH a0)) 0 0 (fun _ => False) := by
  refine Met.ofW (cc := cX0_numberH) (maxL := 1) (ret := (some .int)) (by decide) rfl ?_
  intro p e s m args below meth c s₁ B hml hv
  obtain ⟨rfl, -⟩ := hv
  have hx := B.exec
  have hb := B.bytes
  have hr := B.returns
  have htb : ∀ w ∈ lw_g, w.before ([.int a0] : List Value).toArray s = true := fun w h => atoms_spec (ws := wsX0_numberH) B.pre w (List.mem_cons_of_mem _ h)
  have hown : s.vm.findClass RX0 = some m.cls := findClass_of_methodNamed B.named
  have hlocks := B.notSynchronized
  have hl := lv_entry ([.int a0]) (n := 1) (Nat.le_of_ble_eq_true rfl)
  rw [lg_entry_eq]
  generalize (lg_sl ([.int a0]) ++ List.replicate (1 - (lg_sl ([.int a0])).length) Slot.unset).toArray = ls at hl ⊢
  have hl : lv_has ls 1 [(0, .int a0)] := hl
  refine lv_iload_n hx hb dX0_numberH_0 rfl (lv_at hl 0 rfl) ?_
  refine lv_sipush (v := (-4096 : Int32)) hx hb dX0_numberH_1 (by decide) ?_
  refine lv_iand hx hb dX0_numberH_4 ?_
  exact W.iret (v := (a0 &&& (-4096 : Int32))) hx hb hr (fun t ht hW => ⟨_, rfl, rfl, ht⟩) (fun q h => by cases h) dX0_numberH_5
def fx_x_plain (a0 : Int32) (a1 : Int32) (a2 : Int32) : Int32 := (if a0 = (0 : Int32) then (a1 + a2) else (if a0 = (1 : Int32) then (a1 <<< ((a2 &&& (31 : Int32)) &&& 31)) else (if a0 = (2 : Int32) then (if a2 ≤ a1 then (0 : Int32) else (1 : Int32)) else (if a0 = (3 : Int32) then (if (fx_x_isLessU a1 a2) = (0 : Int32) then (0 : Int32) else (1 : Int32)) else (if a0 = (4 : Int32) then (a1 ^^^ a2) else (if a0 = (5 : Int32) then (jj_ushr a1 (a2 &&& (31 : Int32))) else (if a0 = (6 : Int32) then (a1 ||| a2) else (a1 &&& a2))))))))
set_option maxHeartbeats 4000000 in
set_option maxRecDepth 100000 in
theorem ct_x_plain (l : Launch)  (a0 : Int32) (a1 : Int32) (a2 : Int32)  : Met l yX0_plain wsX0_plain ({ frames := 1, cells := 0, slots := 0, locals := 21 }) (va_Pc [.int a0, .int a1, .int a2] (fun _ => True)) (vp_Si (fun r => r = fx_x_plain a0 a1 a2)) 0 0 (fun _ => False) := by
  refine Met.ofW (cc := cX0_plain) (maxL := 3) (ret := (some .int)) (by decide) rfl ?_
  intro p e s m args below meth c s₁ B hml hv
  obtain ⟨rfl, -⟩ := hv
  have hx := B.exec
  have hb := B.bytes
  have hr := B.returns
  have htb : ∀ w ∈ lw_g, w.before ([.int a0, .int a1, .int a2] : List Value).toArray s = true := fun w h => atoms_spec (ws := wsX0_plain) B.pre w (List.mem_cons_of_mem _ h)
  have hown : s.vm.findClass RX0 = some m.cls := findClass_of_methodNamed B.named
  have hlocks := B.notSynchronized
  have hl := lv_entry ([.int a0, .int a1, .int a2]) (n := 3) (Nat.le_of_ble_eq_true rfl)
  rw [lg_entry_eq]
  generalize (lg_sl ([.int a0, .int a1, .int a2]) ++ List.replicate (3 - (lg_sl ([.int a0, .int a1, .int a2])).length) Slot.unset).toArray = ls at hl ⊢
  have hl : lv_has ls 3 [(0, .int a0), (1, .int a1), (2, .int a2)] := hl
  refine lv_iload_n hx hb dX0_plain_0 rfl (lv_at hl 0 rfl) ?_
  by_cases c1 : a0 = (0 : Int32)
  · refine lv_tableIn (x := a0) (off := 43) (tgt := 44) hx hb dX0_plain_1 (by rw [c1]; decide) (by rw [c1]; decide) (by rw [c1]; decide) (by decide) ?_
    refine lv_iload_n hx hb dX0_plain_44 rfl (lv_at hl 1 rfl) ?_
    refine lv_iload_n hx hb dX0_plain_45 rfl (lv_at hl 2 rfl) ?_
    refine lv_iadd hx hb dX0_plain_46 ?_
    exact W.iret (v := (a1 + a2)) hx hb hr (fun t ht hW => ⟨_, rfl, (by unfold fx_x_plain; rw [if_pos c1]), ht⟩) (fun q h => by cases h) dX0_plain_47
  by_cases c2 : a0 = (1 : Int32)
  · refine lv_tableIn (x := a0) (off := 47) (tgt := 48) hx hb dX0_plain_1 (by rw [c2]; decide) (by rw [c2]; decide) (by rw [c2]; decide) (by decide) ?_
    refine lv_iload_n hx hb dX0_plain_48 rfl (lv_at hl 1 rfl) ?_
    refine lv_iload_n hx hb dX0_plain_49 rfl (lv_at hl 2 rfl) ?_
    refine lv_bipush (v := (31 : Int32)) hx hb dX0_plain_50 (by decide) ?_
    refine lv_iand hx hb dX0_plain_52 ?_
    refine lv_ishl hx hb dX0_plain_53 ?_
    exact W.iret (v := (a1 <<< ((a2 &&& (31 : Int32)) &&& 31))) hx hb hr (fun t ht hW => ⟨_, rfl, (by unfold fx_x_plain; rw [if_neg c1, if_pos c2]), ht⟩) (fun q h => by cases h) dX0_plain_54
  by_cases c3 : a0 = (2 : Int32)
  · refine lv_tableIn (x := a0) (off := 54) (tgt := 55) hx hb dX0_plain_1 (by rw [c3]; decide) (by rw [c3]; decide) (by rw [c3]; decide) (by decide) ?_
    refine lv_iload_n hx hb dX0_plain_55 rfl (lv_at hl 1 rfl) ?_
    refine lv_iload_n hx hb dX0_plain_56 rfl (lv_at hl 2 rfl) ?_
    refine lv_icmp_ge (tgt := 64) hx hb dX0_plain_57 (by decide) (fun c4 => ?_) (fun c4 => ?_)
    · refine lv_iconst (v := (0 : Int32)) hx hb dX0_plain_64 (by decide) ?_
      exact W.iret (v := (0 : Int32)) hx hb hr (fun t ht hW => ⟨_, rfl, (by unfold fx_x_plain; rw [if_neg c1, if_neg c2, if_pos c3, if_pos c4]), ht⟩) (fun q h => by cases h) dX0_plain_65
    · refine lv_iconst (v := (1 : Int32)) hx hb dX0_plain_60 (by decide) ?_
      refine lv_goto (tgt := 65) hx hb dX0_plain_61 (by decide) ?_
      exact W.iret (v := (1 : Int32)) hx hb hr (fun t ht hW => ⟨_, rfl, (by unfold fx_x_plain; rw [if_neg c1, if_neg c2, if_pos c3, if_neg c4]), ht⟩) (fun q h => by cases h) dX0_plain_65
  by_cases c5 : a0 = (3 : Int32)
  · refine lv_tableIn (x := a0) (off := 65) (tgt := 66) hx hb dX0_plain_1 (by rw [c5]; decide) (by rw [c5]; decide) (by rw [c5]; decide) (by decide) ?_
    refine lv_iload_n hx hb dX0_plain_66 rfl (lv_at hl 1 rfl) ?_
    refine lv_iload_n hx hb dX0_plain_67 rfl (lv_at hl 2 rfl) ?_
    refine vp_callSi (W.runS (As := [.int a1, .int a2]) (rest := []) ⟨hx, hb, hml, hown, htb⟩ (ct_x_isLessU l a1 a2) (va_cwS 2 htb gw_X0_120 rfl rfl rfl (by decide +kernel) ⟨Nat.le_of_ble_eq_true rfl, Nat.le_of_ble_eq_true rfl⟩) jj_pre rfl rfl hl.1 rfl (lv_room (Nat.le_of_ble_eq_true rfl)) dX0_plain_68 ⟨Nat.le_of_ble_eq_true rfl, Nat.le_of_ble_eq_true rfl⟩) (fun r9 e9 => ?_)
    subst e9
    refine lv_if_eq (tgt := 78) hx hb dX0_plain_71 (by decide) (fun c6 => ?_) (fun c6 => ?_)
    · refine lv_iconst (v := (0 : Int32)) hx hb dX0_plain_78 (by decide) ?_
      exact W.iret (v := (0 : Int32)) hx hb hr (fun t ht hW => ⟨_, rfl, (by unfold fx_x_plain; rw [if_neg c1, if_neg c2, if_neg c3, if_pos c5, if_pos c6]), ht⟩) (fun q h => by cases h) dX0_plain_79
    · refine lv_iconst (v := (1 : Int32)) hx hb dX0_plain_74 (by decide) ?_
      refine lv_goto (tgt := 79) hx hb dX0_plain_75 (by decide) ?_
      exact W.iret (v := (1 : Int32)) hx hb hr (fun t ht hW => ⟨_, rfl, (by unfold fx_x_plain; rw [if_neg c1, if_neg c2, if_neg c3, if_pos c5, if_neg c6]), ht⟩) (fun q h => by cases h) dX0_plain_79
  by_cases c7 : a0 = (4 : Int32)
  · refine lv_tableIn (x := a0) (off := 79) (tgt := 80) hx hb dX0_plain_1 (by rw [c7]; decide) (by rw [c7]; decide) (by rw [c7]; decide) (by decide) ?_
    refine lv_iload_n hx hb dX0_plain_80 rfl (lv_at hl 1 rfl) ?_
    refine lv_iload_n hx hb dX0_plain_81 rfl (lv_at hl 2 rfl) ?_
    refine lv_ixor hx hb dX0_plain_82 ?_
    exact W.iret (v := (a1 ^^^ a2)) hx hb hr (fun t ht hW => ⟨_, rfl, (by unfold fx_x_plain; rw [if_neg c1, if_neg c2, if_neg c3, if_neg c5, if_pos c7]), ht⟩) (fun q h => by cases h) dX0_plain_83
  by_cases c8 : a0 = (5 : Int32)
  · refine lv_tableIn (x := a0) (off := 83) (tgt := 84) hx hb dX0_plain_1 (by rw [c8]; decide) (by rw [c8]; decide) (by rw [c8]; decide) (by decide) ?_
    refine lv_iload_n hx hb dX0_plain_84 rfl (lv_at hl 1 rfl) ?_
    refine lv_iload_n hx hb dX0_plain_85 rfl (lv_at hl 2 rfl) ?_
    refine lv_bipush (v := (31 : Int32)) hx hb dX0_plain_86 (by decide) ?_
    refine lv_iand hx hb dX0_plain_88 ?_
    refine lv_iushr (v := (jj_ushr a1 (a2 &&& (31 : Int32)))) hx hb dX0_plain_89 rfl ?_
    exact W.iret (v := (jj_ushr a1 (a2 &&& (31 : Int32)))) hx hb hr (fun t ht hW => ⟨_, rfl, (by unfold fx_x_plain; rw [if_neg c1, if_neg c2, if_neg c3, if_neg c5, if_neg c7, if_pos c8]), ht⟩) (fun q h => by cases h) dX0_plain_90
  by_cases c9 : a0 = (6 : Int32)
  · refine lv_tableIn (x := a0) (off := 90) (tgt := 91) hx hb dX0_plain_1 (by rw [c9]; decide) (by rw [c9]; decide) (by rw [c9]; decide) (by decide) ?_
    refine lv_iload_n hx hb dX0_plain_91 rfl (lv_at hl 1 rfl) ?_
    refine lv_iload_n hx hb dX0_plain_92 rfl (lv_at hl 2 rfl) ?_
    refine lv_ior hx hb dX0_plain_93 ?_
    exact W.iret (v := (a1 ||| a2)) hx hb hr (fun t ht hW => ⟨_, rfl, (by unfold fx_x_plain; rw [if_neg c1, if_neg c2, if_neg c3, if_neg c5, if_neg c7, if_neg c8, if_pos c9]), ht⟩) (fun q h => by cases h) dX0_plain_94
  refine lv_tableOut (x := a0) (tgt := 95) hx hb dX0_plain_1 (by have hc1 := lv_neT c1 (a := 0) (by decide); have hc2 := lv_neT c2 (a := 1) (by decide); have hc3 := lv_neT c3 (a := 2) (by decide); have hc5 := lv_neT c5 (a := 3) (by decide); have hc7 := lv_neT c7 (a := 4) (by decide); have hc8 := lv_neT c8 (a := 5) (by decide); have hc9 := lv_neT c9 (a := 6) (by decide); omega) (by decide) ?_
  refine lv_iload_n hx hb dX0_plain_95 rfl (lv_at hl 1 rfl) ?_
  refine lv_iload_n hx hb dX0_plain_96 rfl (lv_at hl 2 rfl) ?_
  refine lv_iand hx hb dX0_plain_97 ?_
  exact W.iret (v := (a1 &&& a2)) hx hb hr (fun t ht hW => ⟨_, rfl, (by unfold fx_x_plain; rw [if_neg c1, if_neg c2, if_neg c3, if_neg c5, if_neg c7, if_neg c8, if_neg c9]), ht⟩) (fun q h => by cases h) dX0_plain_98
def fx_x_resultWithNumber (a0 : Int32) (a1 : Int32) : Int32 := (if (fx_x_fieldF a0) = (5 : Int32) then (if (fx_x_fieldG a0) = (32 : Int32) then (a1 >>> (((fx_x_numberI a0) &&& (31 : Int32)) &&& 31)) else (fx_x_plain (fx_x_fieldF a0) a1 (fx_x_numberI a0))) else (fx_x_plain (fx_x_fieldF a0) a1 (fx_x_numberI a0)))
set_option maxHeartbeats 4000000 in
set_option maxRecDepth 100000 in
theorem ct_x_resultWithNumber (l : Launch)  (a0 : Int32) (a1 : Int32)  : Met l yX0_resultWithNumber wsX0_resultWithNumber ({ frames := 2, cells := 0, slots := 0, locals := 43 }) (va_Pc [.int a0, .int a1] (fun _ => True)) (vp_Si (fun r => r = fx_x_resultWithNumber a0 a1)) 0 0 (fun _ => False) := by
  refine Met.ofW (cc := cX0_resultWithNumber) (maxL := 4) (ret := (some .int)) (by decide) rfl ?_
  intro p e s m args below meth c s₁ B hml hv
  obtain ⟨rfl, -⟩ := hv
  have hx := B.exec
  have hb := B.bytes
  have hr := B.returns
  have htb : ∀ w ∈ lw_g, w.before ([.int a0, .int a1] : List Value).toArray s = true := fun w h => atoms_spec (ws := wsX0_resultWithNumber) B.pre w (List.mem_cons_of_mem _ h)
  have hown : s.vm.findClass RX0 = some m.cls := findClass_of_methodNamed B.named
  have hlocks := B.notSynchronized
  have hl := lv_entry ([.int a0, .int a1]) (n := 4) (Nat.le_of_ble_eq_true rfl)
  rw [lg_entry_eq]
  generalize (lg_sl ([.int a0, .int a1]) ++ List.replicate (4 - (lg_sl ([.int a0, .int a1])).length) Slot.unset).toArray = ls at hl ⊢
  have hl : lv_has ls 4 [(0, .int a0), (1, .int a1)] := hl
  refine lv_iload_n hx hb dX0_resultWithNumber_0 rfl (lv_at hl 0 rfl) ?_
  refine vp_callSi (W.runS (As := [.int a0]) (rest := []) ⟨hx, hb, hml, hown, htb⟩ (ct_x_numberI l a0) (va_cwS 1 htb gw_X0_72 rfl rfl rfl (by decide +kernel) ⟨Nat.le_of_ble_eq_true rfl, Nat.le_of_ble_eq_true rfl⟩) jj_pre rfl rfl hl.1 rfl (lv_room (Nat.le_of_ble_eq_true rfl)) dX0_resultWithNumber_1 ⟨Nat.le_of_ble_eq_true rfl, Nat.le_of_ble_eq_true rfl⟩) (fun r9 e9 => ?_)
  subst e9
  refine lv_istore_n (lv' := [(2, .int (fx_x_numberI a0)), (0, .int a0), (1, .int a1)]) hx hb dX0_resultWithNumber_4 rfl hl (by decide) rfl (fun ls hl => ?_)
  refine lv_iload_n hx hb dX0_resultWithNumber_5 rfl (lv_at hl 1 rfl) ?_
  refine vp_callSi (W.runS (As := [.int a0]) (rest := []) ⟨hx, hb, hml, hown, htb⟩ (ct_x_fieldF l a0) (va_cwS 1 htb gw_X0_60 rfl rfl rfl (by decide +kernel) ⟨Nat.le_of_ble_eq_true rfl, Nat.le_of_ble_eq_true rfl⟩) jj_pre rfl rfl hl.1 rfl (lv_room (Nat.le_of_ble_eq_true rfl)) dX0_resultWithNumber_6 ⟨Nat.le_of_ble_eq_true rfl, Nat.le_of_ble_eq_true rfl⟩) (fun r9 e9 => ?_)
  subst e9
  refine lv_iconst (v := (5 : Int32)) hx hb dX0_resultWithNumber_9 (by decide) ?_
  refine lv_icmp_ne (tgt := 26) hx hb dX0_resultWithNumber_10 (by decide) (fun c1 => ?_) (fun c1 => ?_)
  · refine lv_iconst (v := (0 : Int32)) hx hb dX0_resultWithNumber_26 (by decide) ?_
    refine lv_istore_n (lv' := [(3, .int (0 : Int32)), (2, .int (fx_x_numberI a0)), (0, .int a0), (1, .int a1)]) hx hb dX0_resultWithNumber_27 rfl hl (by decide) rfl (fun ls hl => ?_)
    refine lv_iload_n hx hb dX0_resultWithNumber_28 rfl (lv_at hl 0 rfl) ?_
    refine lv_if_eq (tgt := 41) hx hb dX0_resultWithNumber_29 (by decide) (fun c2 => ?_) (fun c2 => ?_)
    · refine lv_iload_n hx hb dX0_resultWithNumber_41 rfl (lv_at hl 2 rfl) ?_
      refine vp_callSi (W.runS (As := [.int a0]) (rest := []) ⟨hx, hb, hml, hown, htb⟩ (ct_x_fieldF l a0) (va_cwS 1 htb gw_X0_60 rfl rfl rfl (by decide +kernel) ⟨Nat.le_of_ble_eq_true rfl, Nat.le_of_ble_eq_true rfl⟩) jj_pre rfl rfl hl.1 rfl (lv_room (Nat.le_of_ble_eq_true rfl)) dX0_resultWithNumber_42 ⟨Nat.le_of_ble_eq_true rfl, Nat.le_of_ble_eq_true rfl⟩) (fun r9 e9 => ?_)
      subst e9
      refine lv_iload_n hx hb dX0_resultWithNumber_45 rfl (lv_at hl 3 rfl) ?_
      refine lv_iload_n hx hb dX0_resultWithNumber_46 rfl (lv_at hl 1 rfl) ?_
      refine vp_callSi (W.runS (As := [.int (fx_x_fieldF a0), .int a1, .int (fx_x_numberI a0)]) (rest := []) ⟨hx, hb, hml, hown, htb⟩ (ct_x_plain l (fx_x_fieldF a0) a1 (fx_x_numberI a0)) (va_cwS 3 htb gw_X0_150 rfl rfl rfl (by decide +kernel) ⟨Nat.le_of_ble_eq_true rfl, Nat.le_of_ble_eq_true rfl⟩) jj_pre rfl rfl hl.1 rfl (lv_room (Nat.le_of_ble_eq_true rfl)) dX0_resultWithNumber_47 ⟨Nat.le_of_ble_eq_true rfl, Nat.le_of_ble_eq_true rfl⟩) (fun r9 e9 => ?_)
      subst e9
      exact W.iret (v := (fx_x_plain (fx_x_fieldF a0) a1 (fx_x_numberI a0))) hx hb hr (fun t ht hW => ⟨_, rfl, (by unfold fx_x_resultWithNumber; rw [if_neg c1]), ht⟩) (fun q h => by cases h) dX0_resultWithNumber_50
    · exact absurd c2 (by decide)
  · refine lv_iload_n hx hb dX0_resultWithNumber_13 rfl (lv_at hl 1 rfl) ?_
    refine vp_callSi (W.runS (As := [.int a0]) (rest := []) ⟨hx, hb, hml, hown, htb⟩ (ct_x_fieldG l a0) (va_cwS 1 htb gw_X0_69 rfl rfl rfl (by decide +kernel) ⟨Nat.le_of_ble_eq_true rfl, Nat.le_of_ble_eq_true rfl⟩) jj_pre rfl rfl hl.1 rfl (lv_room (Nat.le_of_ble_eq_true rfl)) dX0_resultWithNumber_14 ⟨Nat.le_of_ble_eq_true rfl, Nat.le_of_ble_eq_true rfl⟩) (fun r9 e9 => ?_)
    subst e9
    refine lv_bipush (v := (32 : Int32)) hx hb dX0_resultWithNumber_17 (by decide) ?_
    refine lv_icmp_ne (tgt := 26) hx hb dX0_resultWithNumber_19 (by decide) (fun c3 => ?_) (fun c3 => ?_)
    · refine lv_iconst (v := (0 : Int32)) hx hb dX0_resultWithNumber_26 (by decide) ?_
      refine lv_istore_n (lv' := [(3, .int (0 : Int32)), (2, .int (fx_x_numberI a0)), (0, .int a0), (1, .int a1)]) hx hb dX0_resultWithNumber_27 rfl hl (by decide) rfl (fun ls hl => ?_)
      refine lv_iload_n hx hb dX0_resultWithNumber_28 rfl (lv_at hl 0 rfl) ?_
      refine lv_if_eq (tgt := 41) hx hb dX0_resultWithNumber_29 (by decide) (fun c4 => ?_) (fun c4 => ?_)
      · refine lv_iload_n hx hb dX0_resultWithNumber_41 rfl (lv_at hl 2 rfl) ?_
        refine vp_callSi (W.runS (As := [.int a0]) (rest := []) ⟨hx, hb, hml, hown, htb⟩ (ct_x_fieldF l a0) (va_cwS 1 htb gw_X0_60 rfl rfl rfl (by decide +kernel) ⟨Nat.le_of_ble_eq_true rfl, Nat.le_of_ble_eq_true rfl⟩) jj_pre rfl rfl hl.1 rfl (lv_room (Nat.le_of_ble_eq_true rfl)) dX0_resultWithNumber_42 ⟨Nat.le_of_ble_eq_true rfl, Nat.le_of_ble_eq_true rfl⟩) (fun r9 e9 => ?_)
        subst e9
        refine lv_iload_n hx hb dX0_resultWithNumber_45 rfl (lv_at hl 3 rfl) ?_
        refine lv_iload_n hx hb dX0_resultWithNumber_46 rfl (lv_at hl 1 rfl) ?_
        refine vp_callSi (W.runS (As := [.int (fx_x_fieldF a0), .int a1, .int (fx_x_numberI a0)]) (rest := []) ⟨hx, hb, hml, hown, htb⟩ (ct_x_plain l (fx_x_fieldF a0) a1 (fx_x_numberI a0)) (va_cwS 3 htb gw_X0_150 rfl rfl rfl (by decide +kernel) ⟨Nat.le_of_ble_eq_true rfl, Nat.le_of_ble_eq_true rfl⟩) jj_pre rfl rfl hl.1 rfl (lv_room (Nat.le_of_ble_eq_true rfl)) dX0_resultWithNumber_47 ⟨Nat.le_of_ble_eq_true rfl, Nat.le_of_ble_eq_true rfl⟩) (fun r9 e9 => ?_)
        subst e9
        exact W.iret (v := (fx_x_plain (fx_x_fieldF a0) a1 (fx_x_numberI a0))) hx hb hr (fun t ht hW => ⟨_, rfl, (by unfold fx_x_resultWithNumber; rw [if_pos c1, if_neg c3]), ht⟩) (fun q h => by cases h) dX0_resultWithNumber_50
      · exact absurd c4 (by decide)
    · refine lv_iconst (v := (1 : Int32)) hx hb dX0_resultWithNumber_22 (by decide) ?_
      refine lv_goto (tgt := 27) hx hb dX0_resultWithNumber_23 (by decide) ?_
      refine lv_istore_n (lv' := [(3, .int (1 : Int32)), (2, .int (fx_x_numberI a0)), (0, .int a0), (1, .int a1)]) hx hb dX0_resultWithNumber_27 rfl hl (by decide) rfl (fun ls hl => ?_)
      refine lv_iload_n hx hb dX0_resultWithNumber_28 rfl (lv_at hl 0 rfl) ?_
      refine lv_if_eq (tgt := 41) hx hb dX0_resultWithNumber_29 (by decide) (fun c5 => ?_) (fun c5 => ?_)
      · exact absurd c5 (by decide)
      · refine lv_iload_n hx hb dX0_resultWithNumber_32 rfl (lv_at hl 3 rfl) ?_
        refine lv_iload_n hx hb dX0_resultWithNumber_33 rfl (lv_at hl 1 rfl) ?_
        refine lv_bipush (v := (31 : Int32)) hx hb dX0_resultWithNumber_34 (by decide) ?_
        refine lv_iand hx hb dX0_resultWithNumber_36 ?_
        refine lv_ishr hx hb dX0_resultWithNumber_37 ?_
        refine lv_goto (tgt := 50) hx hb dX0_resultWithNumber_38 (by decide) ?_
        exact W.iret (v := (a1 >>> (((fx_x_numberI a0) &&& (31 : Int32)) &&& 31))) hx hb hr (fun t ht hW => ⟨_, rfl, (by unfold fx_x_resultWithNumber; rw [if_pos c1, if_pos c3]), ht⟩) (fun q h => by cases h) dX0_resultWithNumber_50
def fx_x_upper (a0 : Int64) : Int32 := (((jj_lushr a0 (32 : Int32))).toInt32)
set_option maxHeartbeats 4000000 in
set_option maxRecDepth 100000 in
theorem ct_x_upper (l : Launch)  (a0 : Int64)  : Met l yX0_upper wsX0_upper ({ frames := 0, cells := 0, slots := 0, locals := 0 }) (va_Pc [.long a0] (fun _ => True)) (vp_Si (fun r => r = fx_x_upper a0)) 0 0 (fun _ => False) := by
  refine Met.ofW (cc := cX0_upper) (maxL := 2) (ret := (some .int)) (by decide) rfl ?_
  intro p e s m args below meth c s₁ B hml hv
  obtain ⟨rfl, -⟩ := hv
  have hx := B.exec
  have hb := B.bytes
  have hr := B.returns
  have htb : ∀ w ∈ lw_g, w.before ([.long a0] : List Value).toArray s = true := fun w h => atoms_spec (ws := wsX0_upper) B.pre w (List.mem_cons_of_mem _ h)
  have hown : s.vm.findClass RX0 = some m.cls := findClass_of_methodNamed B.named
  have hlocks := B.notSynchronized
  have hl := lv_entry ([.long a0]) (n := 2) (Nat.le_of_ble_eq_true rfl)
  rw [lg_entry_eq]
  generalize (lg_sl ([.long a0]) ++ List.replicate (2 - (lg_sl ([.long a0])).length) Slot.unset).toArray = ls at hl ⊢
  have hl : lv_has ls 2 [(0, .long a0)] := hl
  refine lv_lload_n hx hb dX0_upper_0 rfl (lv_at hl 0 rfl) ?_
  refine lv_bipush (v := (32 : Int32)) hx hb dX0_upper_1 (by decide) ?_
  refine lv_lushr (v := (jj_lushr a0 (32 : Int32))) hx hb dX0_upper_3 rfl ?_
  refine lv_l2i (v := (((jj_lushr a0 (32 : Int32))).toInt32)) hx hb dX0_upper_4 rfl ?_
  exact W.iret (v := (((jj_lushr a0 (32 : Int32))).toInt32)) hx hb hr (fun t ht hW => ⟨_, rfl, rfl, ht⟩) (fun q h => by cases h) dX0_upper_5
def fx_x_unsigned (a0 : Int32) : Int64 := (((a0).toInt64) &&& (4294967295 : Int64))
set_option maxHeartbeats 4000000 in
set_option maxRecDepth 100000 in
theorem ct_x_unsigned (l : Launch)  (a0 : Int32)  : Met l yX0_unsigned wsX0_unsigned ({ frames := 0, cells := 0, slots := 0, locals := 0 }) (va_Pc [.int a0] (fun _ => True)) (vp_Sl (fun r => r = fx_x_unsigned a0)) 0 0 (fun _ => False) := by
  refine Met.ofW (cc := cX0_unsigned) (maxL := 1) (ret := (some .long)) (by decide) rfl ?_
  intro p e s m args below meth c s₁ B hml hv
  obtain ⟨rfl, -⟩ := hv
  have hx := B.exec
  have hb := B.bytes
  have hr := B.returns
  have htb : ∀ w ∈ lw_g, w.before ([.int a0] : List Value).toArray s = true := fun w h => atoms_spec (ws := wsX0_unsigned) B.pre w (List.mem_cons_of_mem _ h)
  have hown : s.vm.findClass RX0 = some m.cls := findClass_of_methodNamed B.named
  have hlocks := B.notSynchronized
  have hl := lv_entry ([.int a0]) (n := 1) (Nat.le_of_ble_eq_true rfl)
  rw [lg_entry_eq]
  generalize (lg_sl ([.int a0]) ++ List.replicate (1 - (lg_sl ([.int a0])).length) Slot.unset).toArray = ls at hl ⊢
  have hl : lv_has ls 1 [(0, .int a0)] := hl
  refine lv_iload_n hx hb dX0_unsigned_0 rfl (lv_at hl 0 rfl) ?_
  refine lv_i2l (v := ((a0).toInt64)) hx hb dX0_unsigned_1 rfl ?_
  refine lv_ldc2 (v := (4294967295 : Int64)) hx hb hown (htb _ iw_k_X0_173) dX0_unsigned_2 ?_
  refine lv_land hx hb dX0_unsigned_5 ?_
  exact W.lret (v := (((a0).toInt64) &&& (4294967295 : Int64))) hx hb hr (fun t ht hW => ⟨_, rfl, rfl, ht⟩) (fun q h => by cases h) dX0_unsigned_6
def fx_x_quotient (a0 : Int64) (a1 : Int64) : Int64 := (if (lg_cmp a1 (0 : Int64)) = (0 : Int32) then (-1 : Int64) else (a0 / a1))
set_option maxHeartbeats 4000000 in
set_option maxRecDepth 100000 in
theorem ct_x_quotient (l : Launch)  (a0 : Int64) (a1 : Int64)  : Met l yX0_quotient wsX0_quotient ({ frames := 0, cells := 0, slots := 0, locals := 0 }) (va_Pc [.long a0, .long a1] (fun _ => True)) (vp_Sl (fun r => r = fx_x_quotient a0 a1)) 0 0 (fun _ => False) := by
  refine Met.ofW (cc := cX0_quotient) (maxL := 4) (ret := (some .long)) (by decide) rfl ?_
  intro p e s m args below meth c s₁ B hml hv
  obtain ⟨rfl, -⟩ := hv
  have hx := B.exec
  have hb := B.bytes
  have hr := B.returns
  have htb : ∀ w ∈ lw_g, w.before ([.long a0, .long a1] : List Value).toArray s = true := fun w h => atoms_spec (ws := wsX0_quotient) B.pre w (List.mem_cons_of_mem _ h)
  have hown : s.vm.findClass RX0 = some m.cls := findClass_of_methodNamed B.named
  have hlocks := B.notSynchronized
  have hl := lv_entry ([.long a0, .long a1]) (n := 4) (Nat.le_of_ble_eq_true rfl)
  rw [lg_entry_eq]
  generalize (lg_sl ([.long a0, .long a1]) ++ List.replicate (4 - (lg_sl ([.long a0, .long a1])).length) Slot.unset).toArray = ls at hl ⊢
  have hl : lv_has ls 4 [(0, .long a0), (2, .long a1)] := hl
  refine lv_lload_n hx hb dX0_quotient_0 rfl (lv_at hl 1 rfl) ?_
  refine lv_lconst (v := (0 : Int64)) hx hb dX0_quotient_1 (by decide) ?_
  refine W.lcmp hx hb dX0_quotient_2 ?_
  refine lv_if_ne (tgt := 12) hx hb dX0_quotient_3 (by decide) (fun c1 => ?_) (fun c1 => ?_)
  · refine lv_lload_n hx hb dX0_quotient_12 rfl (lv_at hl 0 rfl) ?_
    refine lv_lload_n hx hb dX0_quotient_13 rfl (lv_at hl 1 rfl) ?_
    refine lv_ldiv hx hb dX0_quotient_14 (jj_cmp0 c1) ?_
    exact W.lret (v := (a0 / a1)) hx hb hr (fun t ht hW => ⟨_, rfl, (by unfold fx_x_quotient; rw [if_neg c1]), ht⟩) (fun q h => by cases h) dX0_quotient_15
  · refine lv_ldc2 (v := (-1 : Int64)) hx hb hown (htb _ iw_k_X0_171) dX0_quotient_6 ?_
    refine lv_goto (tgt := 15) hx hb dX0_quotient_9 (by decide) ?_
    exact W.lret (v := (-1 : Int64)) hx hb hr (fun t ht hW => ⟨_, rfl, (by unfold fx_x_quotient; rw [if_pos c1]), ht⟩) (fun q h => by cases h) dX0_quotient_15
def fx_x_rest (a0 : Int64) (a1 : Int64) : Int64 := (if (lg_cmp a1 (0 : Int64)) = (0 : Int32) then a0 else (a0 - a0 / a1 * a1))
set_option maxHeartbeats 4000000 in
set_option maxRecDepth 100000 in
theorem ct_x_rest (l : Launch)  (a0 : Int64) (a1 : Int64)  : Met l yX0_rest wsX0_rest ({ frames := 0, cells := 0, slots := 0, locals := 0 }) (va_Pc [.long a0, .long a1] (fun _ => True)) (vp_Sl (fun r => r = fx_x_rest a0 a1)) 0 0 (fun _ => False) := by
  refine Met.ofW (cc := cX0_rest) (maxL := 4) (ret := (some .long)) (by decide) rfl ?_
  intro p e s m args below meth c s₁ B hml hv
  obtain ⟨rfl, -⟩ := hv
  have hx := B.exec
  have hb := B.bytes
  have hr := B.returns
  have htb : ∀ w ∈ lw_g, w.before ([.long a0, .long a1] : List Value).toArray s = true := fun w h => atoms_spec (ws := wsX0_rest) B.pre w (List.mem_cons_of_mem _ h)
  have hown : s.vm.findClass RX0 = some m.cls := findClass_of_methodNamed B.named
  have hlocks := B.notSynchronized
  have hl := lv_entry ([.long a0, .long a1]) (n := 4) (Nat.le_of_ble_eq_true rfl)
  rw [lg_entry_eq]
  generalize (lg_sl ([.long a0, .long a1]) ++ List.replicate (4 - (lg_sl ([.long a0, .long a1])).length) Slot.unset).toArray = ls at hl ⊢
  have hl : lv_has ls 4 [(0, .long a0), (2, .long a1)] := hl
  refine lv_lload_n hx hb dX0_rest_0 rfl (lv_at hl 1 rfl) ?_
  refine lv_lconst (v := (0 : Int64)) hx hb dX0_rest_1 (by decide) ?_
  refine W.lcmp hx hb dX0_rest_2 ?_
  refine lv_if_ne (tgt := 10) hx hb dX0_rest_3 (by decide) (fun c1 => ?_) (fun c1 => ?_)
  · refine lv_lload_n hx hb dX0_rest_10 rfl (lv_at hl 0 rfl) ?_
    refine lv_lload_n hx hb dX0_rest_11 rfl (lv_at hl 1 rfl) ?_
    refine lv_lrem hx hb dX0_rest_12 (jj_cmp0 c1) ?_
    exact W.lret (v := (a0 - a0 / a1 * a1)) hx hb hr (fun t ht hW => ⟨_, rfl, (by unfold fx_x_rest; rw [if_neg c1]), ht⟩) (fun q h => by cases h) dX0_rest_13
  · refine lv_lload_n hx hb dX0_rest_6 rfl (lv_at hl 0 rfl) ?_
    refine lv_goto (tgt := 13) hx hb dX0_rest_7 (by decide) ?_
    exact W.lret (v := a0) hx hb hr (fun t ht hW => ⟨_, rfl, (by unfold fx_x_rest; rw [if_pos c1]), ht⟩) (fun q h => by cases h) dX0_rest_13
def fx_x_productOrQuotient (a0 : Int32) (a1 : Int32) (a2 : Int32) : Int32 := (if a0 = (0 : Int32) then (a1 * a2) else (if a0 = (1 : Int32) then (fx_x_upper (((a1).toInt64) * ((a2).toInt64))) else (if a0 = (2 : Int32) then (fx_x_upper (((a1).toInt64) * (fx_x_unsigned a2))) else (if a0 = (3 : Int32) then (fx_x_upper ((fx_x_unsigned a1) * (fx_x_unsigned a2))) else (if a0 = (4 : Int32) then (((fx_x_quotient ((a1).toInt64) ((a2).toInt64))).toInt32) else (if a0 = (5 : Int32) then (((fx_x_quotient (fx_x_unsigned a1) (fx_x_unsigned a2))).toInt32) else (if a0 = (6 : Int32) then (((fx_x_rest ((a1).toInt64) ((a2).toInt64))).toInt32) else (((fx_x_rest (fx_x_unsigned a1) (fx_x_unsigned a2))).toInt32))))))))
set_option maxHeartbeats 4000000 in
set_option maxRecDepth 100000 in
theorem ct_x_productOrQuotient (l : Launch)  (a0 : Int32) (a1 : Int32) (a2 : Int32)  : Met l yX0_productOrQuotient wsX0_productOrQuotient ({ frames := 1, cells := 0, slots := 0, locals := 23 }) (va_Pc [.int a0, .int a1, .int a2] (fun _ => True)) (vp_Si (fun r => r = fx_x_productOrQuotient a0 a1 a2)) 0 0 (fun _ => False) := by
  refine Met.ofW (cc := cX0_productOrQuotient) (maxL := 3) (ret := (some .int)) (by decide) rfl ?_
  intro p e s m args below meth c s₁ B hml hv
  obtain ⟨rfl, -⟩ := hv
  have hx := B.exec
  have hb := B.bytes
  have hr := B.returns
  have htb : ∀ w ∈ lw_g, w.before ([.int a0, .int a1, .int a2] : List Value).toArray s = true := fun w h => atoms_spec (ws := wsX0_productOrQuotient) B.pre w (List.mem_cons_of_mem _ h)
  have hown : s.vm.findClass RX0 = some m.cls := findClass_of_methodNamed B.named
  have hlocks := B.notSynchronized
  have hl := lv_entry ([.int a0, .int a1, .int a2]) (n := 3) (Nat.le_of_ble_eq_true rfl)
  rw [lg_entry_eq]
  generalize (lg_sl ([.int a0, .int a1, .int a2]) ++ List.replicate (3 - (lg_sl ([.int a0, .int a1, .int a2])).length) Slot.unset).toArray = ls at hl ⊢
  have hl : lv_has ls 3 [(0, .int a0), (1, .int a1), (2, .int a2)] := hl
  refine lv_iload_n hx hb dX0_productOrQuotient_0 rfl (lv_at hl 0 rfl) ?_
  by_cases c1 : a0 = (0 : Int32)
  · refine lv_tableIn (x := a0) (off := 43) (tgt := 44) hx hb dX0_productOrQuotient_1 (by rw [c1]; decide) (by rw [c1]; decide) (by rw [c1]; decide) (by decide) ?_
    refine lv_iload_n hx hb dX0_productOrQuotient_44 rfl (lv_at hl 1 rfl) ?_
    refine lv_iload_n hx hb dX0_productOrQuotient_45 rfl (lv_at hl 2 rfl) ?_
    refine lv_imul hx hb dX0_productOrQuotient_46 ?_
    exact W.iret (v := (a1 * a2)) hx hb hr (fun t ht hW => ⟨_, rfl, (by unfold fx_x_productOrQuotient; rw [if_pos c1]), ht⟩) (fun q h => by cases h) dX0_productOrQuotient_47
  by_cases c2 : a0 = (1 : Int32)
  · refine lv_tableIn (x := a0) (off := 47) (tgt := 48) hx hb dX0_productOrQuotient_1 (by rw [c2]; decide) (by rw [c2]; decide) (by rw [c2]; decide) (by decide) ?_
    refine lv_iload_n hx hb dX0_productOrQuotient_48 rfl (lv_at hl 1 rfl) ?_
    refine lv_i2l (v := ((a1).toInt64)) hx hb dX0_productOrQuotient_49 rfl ?_
    refine lv_iload_n hx hb dX0_productOrQuotient_50 rfl (lv_at hl 2 rfl) ?_
    refine lv_i2l (v := ((a2).toInt64)) hx hb dX0_productOrQuotient_51 rfl ?_
    refine lv_lmul hx hb dX0_productOrQuotient_52 ?_
    refine vp_callSi (W.runS (As := [.long (((a1).toInt64) * ((a2).toInt64))]) (rest := []) ⟨hx, hb, hml, hown, htb⟩ (ct_x_upper l (((a1).toInt64) * ((a2).toInt64))) (va_cwS 1 htb gw_X0_156 rfl rfl rfl (by decide +kernel) ⟨Nat.le_of_ble_eq_true rfl, Nat.le_of_ble_eq_true rfl⟩) jj_pre rfl rfl hl.1 rfl (lv_room (Nat.le_of_ble_eq_true rfl)) dX0_productOrQuotient_53 ⟨Nat.le_of_ble_eq_true rfl, Nat.le_of_ble_eq_true rfl⟩) (fun r9 e9 => ?_)
    subst e9
    exact W.iret (v := (fx_x_upper (((a1).toInt64) * ((a2).toInt64)))) hx hb hr (fun t ht hW => ⟨_, rfl, (by unfold fx_x_productOrQuotient; rw [if_neg c1, if_pos c2]), ht⟩) (fun q h => by cases h) dX0_productOrQuotient_56
  by_cases c3 : a0 = (2 : Int32)
  · refine lv_tableIn (x := a0) (off := 56) (tgt := 57) hx hb dX0_productOrQuotient_1 (by rw [c3]; decide) (by rw [c3]; decide) (by rw [c3]; decide) (by decide) ?_
    refine lv_iload_n hx hb dX0_productOrQuotient_57 rfl (lv_at hl 1 rfl) ?_
    refine lv_i2l (v := ((a1).toInt64)) hx hb dX0_productOrQuotient_58 rfl ?_
    refine lv_iload_n hx hb dX0_productOrQuotient_59 rfl (lv_at hl 2 rfl) ?_
    refine vp_callSl (W.runS (As := [.int a2]) (rest := [.long ((a1).toInt64)]) ⟨hx, hb, hml, hown, htb⟩ (ct_x_unsigned l a2) (va_cwS 1 htb gw_X0_160 rfl rfl rfl (by decide +kernel) ⟨Nat.le_of_ble_eq_true rfl, Nat.le_of_ble_eq_true rfl⟩) jj_pre rfl rfl hl.1 rfl (lv_room (Nat.le_of_ble_eq_true rfl)) dX0_productOrQuotient_60 ⟨Nat.le_of_ble_eq_true rfl, Nat.le_of_ble_eq_true rfl⟩) (fun r9 e9 => ?_)
    subst e9
    refine lv_lmul hx hb dX0_productOrQuotient_63 ?_
    refine vp_callSi (W.runS (As := [.long (((a1).toInt64) * (fx_x_unsigned a2))]) (rest := []) ⟨hx, hb, hml, hown, htb⟩ (ct_x_upper l (((a1).toInt64) * (fx_x_unsigned a2))) (va_cwS 1 htb gw_X0_156 rfl rfl rfl (by decide +kernel) ⟨Nat.le_of_ble_eq_true rfl, Nat.le_of_ble_eq_true rfl⟩) jj_pre rfl rfl hl.1 rfl (lv_room (Nat.le_of_ble_eq_true rfl)) dX0_productOrQuotient_64 ⟨Nat.le_of_ble_eq_true rfl, Nat.le_of_ble_eq_true rfl⟩) (fun r9 e9 => ?_)
    subst e9
    exact W.iret (v := (fx_x_upper (((a1).toInt64) * (fx_x_unsigned a2)))) hx hb hr (fun t ht hW => ⟨_, rfl, (by unfold fx_x_productOrQuotient; rw [if_neg c1, if_neg c2, if_pos c3]), ht⟩) (fun q h => by cases h) dX0_productOrQuotient_67
  by_cases c4 : a0 = (3 : Int32)
  · refine lv_tableIn (x := a0) (off := 67) (tgt := 68) hx hb dX0_productOrQuotient_1 (by rw [c4]; decide) (by rw [c4]; decide) (by rw [c4]; decide) (by decide) ?_
    refine lv_iload_n hx hb dX0_productOrQuotient_68 rfl (lv_at hl 1 rfl) ?_
    refine vp_callSl (W.runS (As := [.int a1]) (rest := []) ⟨hx, hb, hml, hown, htb⟩ (ct_x_unsigned l a1) (va_cwS 1 htb gw_X0_160 rfl rfl rfl (by decide +kernel) ⟨Nat.le_of_ble_eq_true rfl, Nat.le_of_ble_eq_true rfl⟩) jj_pre rfl rfl hl.1 rfl (lv_room (Nat.le_of_ble_eq_true rfl)) dX0_productOrQuotient_69 ⟨Nat.le_of_ble_eq_true rfl, Nat.le_of_ble_eq_true rfl⟩) (fun r9 e9 => ?_)
    subst e9
    refine lv_iload_n hx hb dX0_productOrQuotient_72 rfl (lv_at hl 2 rfl) ?_
    refine vp_callSl (W.runS (As := [.int a2]) (rest := [.long (fx_x_unsigned a1)]) ⟨hx, hb, hml, hown, htb⟩ (ct_x_unsigned l a2) (va_cwS 1 htb gw_X0_160 rfl rfl rfl (by decide +kernel) ⟨Nat.le_of_ble_eq_true rfl, Nat.le_of_ble_eq_true rfl⟩) jj_pre rfl rfl hl.1 rfl (lv_room (Nat.le_of_ble_eq_true rfl)) dX0_productOrQuotient_73 ⟨Nat.le_of_ble_eq_true rfl, Nat.le_of_ble_eq_true rfl⟩) (fun r9 e9 => ?_)
    subst e9
    refine lv_lmul hx hb dX0_productOrQuotient_76 ?_
    refine vp_callSi (W.runS (As := [.long ((fx_x_unsigned a1) * (fx_x_unsigned a2))]) (rest := []) ⟨hx, hb, hml, hown, htb⟩ (ct_x_upper l ((fx_x_unsigned a1) * (fx_x_unsigned a2))) (va_cwS 1 htb gw_X0_156 rfl rfl rfl (by decide +kernel) ⟨Nat.le_of_ble_eq_true rfl, Nat.le_of_ble_eq_true rfl⟩) jj_pre rfl rfl hl.1 rfl (lv_room (Nat.le_of_ble_eq_true rfl)) dX0_productOrQuotient_77 ⟨Nat.le_of_ble_eq_true rfl, Nat.le_of_ble_eq_true rfl⟩) (fun r9 e9 => ?_)
    subst e9
    exact W.iret (v := (fx_x_upper ((fx_x_unsigned a1) * (fx_x_unsigned a2)))) hx hb hr (fun t ht hW => ⟨_, rfl, (by unfold fx_x_productOrQuotient; rw [if_neg c1, if_neg c2, if_neg c3, if_pos c4]), ht⟩) (fun q h => by cases h) dX0_productOrQuotient_80
  by_cases c5 : a0 = (4 : Int32)
  · refine lv_tableIn (x := a0) (off := 80) (tgt := 81) hx hb dX0_productOrQuotient_1 (by rw [c5]; decide) (by rw [c5]; decide) (by rw [c5]; decide) (by decide) ?_
    refine lv_iload_n hx hb dX0_productOrQuotient_81 rfl (lv_at hl 1 rfl) ?_
    refine lv_i2l (v := ((a1).toInt64)) hx hb dX0_productOrQuotient_82 rfl ?_
    refine lv_iload_n hx hb dX0_productOrQuotient_83 rfl (lv_at hl 2 rfl) ?_
    refine lv_i2l (v := ((a2).toInt64)) hx hb dX0_productOrQuotient_84 rfl ?_
    refine vp_callSl (W.runS (As := [.long ((a1).toInt64), .long ((a2).toInt64)]) (rest := []) ⟨hx, hb, hml, hown, htb⟩ (ct_x_quotient l ((a1).toInt64) ((a2).toInt64)) (va_cwS 2 htb gw_X0_164 rfl rfl rfl (by decide +kernel) ⟨Nat.le_of_ble_eq_true rfl, Nat.le_of_ble_eq_true rfl⟩) jj_pre rfl rfl hl.1 rfl (lv_room (Nat.le_of_ble_eq_true rfl)) dX0_productOrQuotient_85 ⟨Nat.le_of_ble_eq_true rfl, Nat.le_of_ble_eq_true rfl⟩) (fun r9 e9 => ?_)
    subst e9
    refine lv_l2i (v := (((fx_x_quotient ((a1).toInt64) ((a2).toInt64))).toInt32)) hx hb dX0_productOrQuotient_88 rfl ?_
    exact W.iret (v := (((fx_x_quotient ((a1).toInt64) ((a2).toInt64))).toInt32)) hx hb hr (fun t ht hW => ⟨_, rfl, (by unfold fx_x_productOrQuotient; rw [if_neg c1, if_neg c2, if_neg c3, if_neg c4, if_pos c5]), ht⟩) (fun q h => by cases h) dX0_productOrQuotient_89
  by_cases c6 : a0 = (5 : Int32)
  · refine lv_tableIn (x := a0) (off := 89) (tgt := 90) hx hb dX0_productOrQuotient_1 (by rw [c6]; decide) (by rw [c6]; decide) (by rw [c6]; decide) (by decide) ?_
    refine lv_iload_n hx hb dX0_productOrQuotient_90 rfl (lv_at hl 1 rfl) ?_
    refine vp_callSl (W.runS (As := [.int a1]) (rest := []) ⟨hx, hb, hml, hown, htb⟩ (ct_x_unsigned l a1) (va_cwS 1 htb gw_X0_160 rfl rfl rfl (by decide +kernel) ⟨Nat.le_of_ble_eq_true rfl, Nat.le_of_ble_eq_true rfl⟩) jj_pre rfl rfl hl.1 rfl (lv_room (Nat.le_of_ble_eq_true rfl)) dX0_productOrQuotient_91 ⟨Nat.le_of_ble_eq_true rfl, Nat.le_of_ble_eq_true rfl⟩) (fun r9 e9 => ?_)
    subst e9
    refine lv_iload_n hx hb dX0_productOrQuotient_94 rfl (lv_at hl 2 rfl) ?_
    refine vp_callSl (W.runS (As := [.int a2]) (rest := [.long (fx_x_unsigned a1)]) ⟨hx, hb, hml, hown, htb⟩ (ct_x_unsigned l a2) (va_cwS 1 htb gw_X0_160 rfl rfl rfl (by decide +kernel) ⟨Nat.le_of_ble_eq_true rfl, Nat.le_of_ble_eq_true rfl⟩) jj_pre rfl rfl hl.1 rfl (lv_room (Nat.le_of_ble_eq_true rfl)) dX0_productOrQuotient_95 ⟨Nat.le_of_ble_eq_true rfl, Nat.le_of_ble_eq_true rfl⟩) (fun r9 e9 => ?_)
    subst e9
    refine vp_callSl (W.runS (As := [.long (fx_x_unsigned a1), .long (fx_x_unsigned a2)]) (rest := []) ⟨hx, hb, hml, hown, htb⟩ (ct_x_quotient l (fx_x_unsigned a1) (fx_x_unsigned a2)) (va_cwS 2 htb gw_X0_164 rfl rfl rfl (by decide +kernel) ⟨Nat.le_of_ble_eq_true rfl, Nat.le_of_ble_eq_true rfl⟩) jj_pre rfl rfl hl.1 rfl (lv_room (Nat.le_of_ble_eq_true rfl)) dX0_productOrQuotient_98 ⟨Nat.le_of_ble_eq_true rfl, Nat.le_of_ble_eq_true rfl⟩) (fun r9 e9 => ?_)
    subst e9
    refine lv_l2i (v := (((fx_x_quotient (fx_x_unsigned a1) (fx_x_unsigned a2))).toInt32)) hx hb dX0_productOrQuotient_101 rfl ?_
    exact W.iret (v := (((fx_x_quotient (fx_x_unsigned a1) (fx_x_unsigned a2))).toInt32)) hx hb hr (fun t ht hW => ⟨_, rfl, (by unfold fx_x_productOrQuotient; rw [if_neg c1, if_neg c2, if_neg c3, if_neg c4, if_neg c5, if_pos c6]), ht⟩) (fun q h => by cases h) dX0_productOrQuotient_102
  by_cases c7 : a0 = (6 : Int32)
  · refine lv_tableIn (x := a0) (off := 102) (tgt := 103) hx hb dX0_productOrQuotient_1 (by rw [c7]; decide) (by rw [c7]; decide) (by rw [c7]; decide) (by decide) ?_
    refine lv_iload_n hx hb dX0_productOrQuotient_103 rfl (lv_at hl 1 rfl) ?_
    refine lv_i2l (v := ((a1).toInt64)) hx hb dX0_productOrQuotient_104 rfl ?_
    refine lv_iload_n hx hb dX0_productOrQuotient_105 rfl (lv_at hl 2 rfl) ?_
    refine lv_i2l (v := ((a2).toInt64)) hx hb dX0_productOrQuotient_106 rfl ?_
    refine vp_callSl (W.runS (As := [.long ((a1).toInt64), .long ((a2).toInt64)]) (rest := []) ⟨hx, hb, hml, hown, htb⟩ (ct_x_rest l ((a1).toInt64) ((a2).toInt64)) (va_cwS 2 htb gw_X0_168 rfl rfl rfl (by decide +kernel) ⟨Nat.le_of_ble_eq_true rfl, Nat.le_of_ble_eq_true rfl⟩) jj_pre rfl rfl hl.1 rfl (lv_room (Nat.le_of_ble_eq_true rfl)) dX0_productOrQuotient_107 ⟨Nat.le_of_ble_eq_true rfl, Nat.le_of_ble_eq_true rfl⟩) (fun r9 e9 => ?_)
    subst e9
    refine lv_l2i (v := (((fx_x_rest ((a1).toInt64) ((a2).toInt64))).toInt32)) hx hb dX0_productOrQuotient_110 rfl ?_
    exact W.iret (v := (((fx_x_rest ((a1).toInt64) ((a2).toInt64))).toInt32)) hx hb hr (fun t ht hW => ⟨_, rfl, (by unfold fx_x_productOrQuotient; rw [if_neg c1, if_neg c2, if_neg c3, if_neg c4, if_neg c5, if_neg c6, if_pos c7]), ht⟩) (fun q h => by cases h) dX0_productOrQuotient_111
  refine lv_tableOut (x := a0) (tgt := 112) hx hb dX0_productOrQuotient_1 (by have hc1 := lv_neT c1 (a := 0) (by decide); have hc2 := lv_neT c2 (a := 1) (by decide); have hc3 := lv_neT c3 (a := 2) (by decide); have hc4 := lv_neT c4 (a := 3) (by decide); have hc5 := lv_neT c5 (a := 4) (by decide); have hc6 := lv_neT c6 (a := 5) (by decide); have hc7 := lv_neT c7 (a := 6) (by decide); omega) (by decide) ?_
  refine lv_iload_n hx hb dX0_productOrQuotient_112 rfl (lv_at hl 1 rfl) ?_
  refine vp_callSl (W.runS (As := [.int a1]) (rest := []) ⟨hx, hb, hml, hown, htb⟩ (ct_x_unsigned l a1) (va_cwS 1 htb gw_X0_160 rfl rfl rfl (by decide +kernel) ⟨Nat.le_of_ble_eq_true rfl, Nat.le_of_ble_eq_true rfl⟩) jj_pre rfl rfl hl.1 rfl (lv_room (Nat.le_of_ble_eq_true rfl)) dX0_productOrQuotient_113 ⟨Nat.le_of_ble_eq_true rfl, Nat.le_of_ble_eq_true rfl⟩) (fun r9 e9 => ?_)
  subst e9
  refine lv_iload_n hx hb dX0_productOrQuotient_116 rfl (lv_at hl 2 rfl) ?_
  refine vp_callSl (W.runS (As := [.int a2]) (rest := [.long (fx_x_unsigned a1)]) ⟨hx, hb, hml, hown, htb⟩ (ct_x_unsigned l a2) (va_cwS 1 htb gw_X0_160 rfl rfl rfl (by decide +kernel) ⟨Nat.le_of_ble_eq_true rfl, Nat.le_of_ble_eq_true rfl⟩) jj_pre rfl rfl hl.1 rfl (lv_room (Nat.le_of_ble_eq_true rfl)) dX0_productOrQuotient_117 ⟨Nat.le_of_ble_eq_true rfl, Nat.le_of_ble_eq_true rfl⟩) (fun r9 e9 => ?_)
  subst e9
  refine vp_callSl (W.runS (As := [.long (fx_x_unsigned a1), .long (fx_x_unsigned a2)]) (rest := []) ⟨hx, hb, hml, hown, htb⟩ (ct_x_rest l (fx_x_unsigned a1) (fx_x_unsigned a2)) (va_cwS 2 htb gw_X0_168 rfl rfl rfl (by decide +kernel) ⟨Nat.le_of_ble_eq_true rfl, Nat.le_of_ble_eq_true rfl⟩) jj_pre rfl rfl hl.1 rfl (lv_room (Nat.le_of_ble_eq_true rfl)) dX0_productOrQuotient_120 ⟨Nat.le_of_ble_eq_true rfl, Nat.le_of_ble_eq_true rfl⟩) (fun r9 e9 => ?_)
  subst e9
  refine lv_l2i (v := (((fx_x_rest (fx_x_unsigned a1) (fx_x_unsigned a2))).toInt32)) hx hb dX0_productOrQuotient_123 rfl ?_
  exact W.iret (v := (((fx_x_rest (fx_x_unsigned a1) (fx_x_unsigned a2))).toInt32)) hx hb hr (fun t ht hW => ⟨_, rfl, (by unfold fx_x_productOrQuotient; rw [if_neg c1, if_neg c2, if_neg c3, if_neg c4, if_neg c5, if_neg c6, if_neg c7]), ht⟩) (fun q h => by cases h) dX0_productOrQuotient_124
def fx_x_resultWithRegisters (a0 : Int32) (a1 : Int32) (a2 : Int32) : Int32 := (if (fx_x_fieldG a0) = (1 : Int32) then (fx_x_productOrQuotient (fx_x_fieldF a0) a1 a2) else (if (fx_x_fieldG a0) = (32 : Int32) then (if (fx_x_fieldF a0) = (0 : Int32) then (a1 - a2) else (a1 >>> ((a2 &&& (31 : Int32)) &&& 31))) else (fx_x_plain (fx_x_fieldF a0) a1 a2)))
set_option maxHeartbeats 4000000 in
set_option maxRecDepth 100000 in
theorem ct_x_resultWithRegisters (l : Launch)  (a0 : Int32) (a1 : Int32) (a2 : Int32)  : Met l yX0_resultWithRegisters wsX0_resultWithRegisters ({ frames := 2, cells := 0, slots := 0, locals := 45 }) (va_Pc [.int a0, .int a1, .int a2] (fun _ => True)) (vp_Si (fun r => r = fx_x_resultWithRegisters a0 a1 a2)) 0 0 (fun _ => False) := by
  refine Met.ofW (cc := cX0_resultWithRegisters) (maxL := 3) (ret := (some .int)) (by decide) rfl ?_
  intro p e s m args below meth c s₁ B hml hv
  obtain ⟨rfl, -⟩ := hv
  have hx := B.exec
  have hb := B.bytes
  have hr := B.returns
  have htb : ∀ w ∈ lw_g, w.before ([.int a0, .int a1, .int a2] : List Value).toArray s = true := fun w h => atoms_spec (ws := wsX0_resultWithRegisters) B.pre w (List.mem_cons_of_mem _ h)
  have hown : s.vm.findClass RX0 = some m.cls := findClass_of_methodNamed B.named
  have hlocks := B.notSynchronized
  have hl := lv_entry ([.int a0, .int a1, .int a2]) (n := 3) (Nat.le_of_ble_eq_true rfl)
  rw [lg_entry_eq]
  generalize (lg_sl ([.int a0, .int a1, .int a2]) ++ List.replicate (3 - (lg_sl ([.int a0, .int a1, .int a2])).length) Slot.unset).toArray = ls at hl ⊢
  have hl : lv_has ls 3 [(0, .int a0), (1, .int a1), (2, .int a2)] := hl
  refine lv_iload_n hx hb dX0_resultWithRegisters_0 rfl (lv_at hl 0 rfl) ?_
  refine vp_callSi (W.runS (As := [.int a0]) (rest := []) ⟨hx, hb, hml, hown, htb⟩ (ct_x_fieldG l a0) (va_cwS 1 htb gw_X0_69 rfl rfl rfl (by decide +kernel) ⟨Nat.le_of_ble_eq_true rfl, Nat.le_of_ble_eq_true rfl⟩) jj_pre rfl rfl hl.1 rfl (lv_room (Nat.le_of_ble_eq_true rfl)) dX0_resultWithRegisters_1 ⟨Nat.le_of_ble_eq_true rfl, Nat.le_of_ble_eq_true rfl⟩) (fun r9 e9 => ?_)
  subst e9
  by_cases c1 : (fx_x_fieldG a0) = (1 : Int32)
  · refine lv_lookup (x := (fx_x_fieldG a0)) (off := 28) (tgt := 32) hx hb dX0_resultWithRegisters_4 (by decide) (by rw [c1]; decide) (by decide) ?_
    refine lv_iload_n hx hb dX0_resultWithRegisters_32 rfl (lv_at hl 0 rfl) ?_
    refine vp_callSi (W.runS (As := [.int a0]) (rest := []) ⟨hx, hb, hml, hown, htb⟩ (ct_x_fieldF l a0) (va_cwS 1 htb gw_X0_60 rfl rfl rfl (by decide +kernel) ⟨Nat.le_of_ble_eq_true rfl, Nat.le_of_ble_eq_true rfl⟩) jj_pre rfl rfl hl.1 rfl (lv_room (Nat.le_of_ble_eq_true rfl)) dX0_resultWithRegisters_33 ⟨Nat.le_of_ble_eq_true rfl, Nat.le_of_ble_eq_true rfl⟩) (fun r9 e9 => ?_)
    subst e9
    refine lv_iload_n hx hb dX0_resultWithRegisters_36 rfl (lv_at hl 1 rfl) ?_
    refine lv_iload_n hx hb dX0_resultWithRegisters_37 rfl (lv_at hl 2 rfl) ?_
    refine vp_callSi (W.runS (As := [.int (fx_x_fieldF a0), .int a1, .int a2]) (rest := []) ⟨hx, hb, hml, hown, htb⟩ (ct_x_productOrQuotient l (fx_x_fieldF a0) a1 a2) (va_cwS 3 htb gw_X0_153 rfl rfl rfl (by decide +kernel) ⟨Nat.le_of_ble_eq_true rfl, Nat.le_of_ble_eq_true rfl⟩) jj_pre rfl rfl hl.1 rfl (lv_room (Nat.le_of_ble_eq_true rfl)) dX0_resultWithRegisters_38 ⟨Nat.le_of_ble_eq_true rfl, Nat.le_of_ble_eq_true rfl⟩) (fun r9 e9 => ?_)
    subst e9
    exact W.iret (v := (fx_x_productOrQuotient (fx_x_fieldF a0) a1 a2)) hx hb hr (fun t ht hW => ⟨_, rfl, (by unfold fx_x_resultWithRegisters; rw [if_pos c1]), ht⟩) (fun q h => by cases h) dX0_resultWithRegisters_41
  by_cases c2 : (fx_x_fieldG a0) = (32 : Int32)
  · refine lv_lookup (x := (fx_x_fieldG a0)) (off := 38) (tgt := 42) hx hb dX0_resultWithRegisters_4 (by decide) (by rw [c2]; decide) (by decide) ?_
    refine lv_iload_n hx hb dX0_resultWithRegisters_42 rfl (lv_at hl 0 rfl) ?_
    refine vp_callSi (W.runS (As := [.int a0]) (rest := []) ⟨hx, hb, hml, hown, htb⟩ (ct_x_fieldF l a0) (va_cwS 1 htb gw_X0_60 rfl rfl rfl (by decide +kernel) ⟨Nat.le_of_ble_eq_true rfl, Nat.le_of_ble_eq_true rfl⟩) jj_pre rfl rfl hl.1 rfl (lv_room (Nat.le_of_ble_eq_true rfl)) dX0_resultWithRegisters_43 ⟨Nat.le_of_ble_eq_true rfl, Nat.le_of_ble_eq_true rfl⟩) (fun r9 e9 => ?_)
    subst e9
    refine lv_if_ne (tgt := 55) hx hb dX0_resultWithRegisters_46 (by decide) (fun c3 => ?_) (fun c3 => ?_)
    · refine lv_iload_n hx hb dX0_resultWithRegisters_55 rfl (lv_at hl 1 rfl) ?_
      refine lv_iload_n hx hb dX0_resultWithRegisters_56 rfl (lv_at hl 2 rfl) ?_
      refine lv_bipush (v := (31 : Int32)) hx hb dX0_resultWithRegisters_57 (by decide) ?_
      refine lv_iand hx hb dX0_resultWithRegisters_59 ?_
      refine lv_ishr hx hb dX0_resultWithRegisters_60 ?_
      exact W.iret (v := (a1 >>> ((a2 &&& (31 : Int32)) &&& 31))) hx hb hr (fun t ht hW => ⟨_, rfl, (by unfold fx_x_resultWithRegisters; rw [if_neg c1, if_pos c2, if_neg c3]), ht⟩) (fun q h => by cases h) dX0_resultWithRegisters_61
    · refine lv_iload_n hx hb dX0_resultWithRegisters_49 rfl (lv_at hl 1 rfl) ?_
      refine lv_iload_n hx hb dX0_resultWithRegisters_50 rfl (lv_at hl 2 rfl) ?_
      refine lv_isub hx hb dX0_resultWithRegisters_51 ?_
      refine lv_goto (tgt := 61) hx hb dX0_resultWithRegisters_52 (by decide) ?_
      exact W.iret (v := (a1 - a2)) hx hb hr (fun t ht hW => ⟨_, rfl, (by unfold fx_x_resultWithRegisters; rw [if_neg c1, if_pos c2, if_pos c3]), ht⟩) (fun q h => by cases h) dX0_resultWithRegisters_61
  refine lv_lookup (x := (fx_x_fieldG a0)) (off := 58) (tgt := 62) hx hb dX0_resultWithRegisters_4 (by decide) (by show Op.lookupswitch.offset [(1, 28), (32, 38)] (58) _ = _; rw [lv_osw c1 (by decide), lv_osw c2 (by decide)]; rfl) (by decide) ?_
  refine lv_iload_n hx hb dX0_resultWithRegisters_62 rfl (lv_at hl 0 rfl) ?_
  refine vp_callSi (W.runS (As := [.int a0]) (rest := []) ⟨hx, hb, hml, hown, htb⟩ (ct_x_fieldF l a0) (va_cwS 1 htb gw_X0_60 rfl rfl rfl (by decide +kernel) ⟨Nat.le_of_ble_eq_true rfl, Nat.le_of_ble_eq_true rfl⟩) jj_pre rfl rfl hl.1 rfl (lv_room (Nat.le_of_ble_eq_true rfl)) dX0_resultWithRegisters_63 ⟨Nat.le_of_ble_eq_true rfl, Nat.le_of_ble_eq_true rfl⟩) (fun r9 e9 => ?_)
  subst e9
  refine lv_iload_n hx hb dX0_resultWithRegisters_66 rfl (lv_at hl 1 rfl) ?_
  refine lv_iload_n hx hb dX0_resultWithRegisters_67 rfl (lv_at hl 2 rfl) ?_
  refine vp_callSi (W.runS (As := [.int (fx_x_fieldF a0), .int a1, .int a2]) (rest := []) ⟨hx, hb, hml, hown, htb⟩ (ct_x_plain l (fx_x_fieldF a0) a1 a2) (va_cwS 3 htb gw_X0_150 rfl rfl rfl (by decide +kernel) ⟨Nat.le_of_ble_eq_true rfl, Nat.le_of_ble_eq_true rfl⟩) jj_pre rfl rfl hl.1 rfl (lv_room (Nat.le_of_ble_eq_true rfl)) dX0_resultWithRegisters_68 ⟨Nat.le_of_ble_eq_true rfl, Nat.le_of_ble_eq_true rfl⟩) (fun r9 e9 => ?_)
  subst e9
  exact W.iret (v := (fx_x_plain (fx_x_fieldF a0) a1 a2)) hx hb hr (fun t ht hW => ⟨_, rfl, (by unfold fx_x_resultWithRegisters; rw [if_neg c1, if_neg c2]), ht⟩) (fun q h => by cases h) dX0_resultWithRegisters_71
def fx_x_result (a0 : Int32) (a1 : Int32) (a2 : Int32) (a3 : Int32) : Int32 := (if (fx_x_fieldOp a0) = (19 : Int32) then (fx_x_resultWithNumber a0 a1) else (if (fx_x_fieldOp a0) = (23 : Int32) then (a3 + (fx_x_numberH a0)) else (if (fx_x_fieldOp a0) = (51 : Int32) then (fx_x_resultWithRegisters a0 a1 a2) else (if (fx_x_fieldOp a0) = (55 : Int32) then (fx_x_numberH a0) else (0 : Int32)))))
set_option maxHeartbeats 4000000 in
set_option maxRecDepth 100000 in
theorem ct_x_result (l : Launch)  (a0 : Int32) (a1 : Int32) (a2 : Int32) (a3 : Int32)  : Met l yX0_result wsX0_result ({ frames := 3, cells := 0, slots := 0, locals := 67 }) (va_Pc [.int a0, .int a1, .int a2, .int a3] (fun _ => True)) (vp_Si (fun r => r = fx_x_result a0 a1 a2 a3)) 0 0 (fun _ => False) := by
  refine Met.ofW (cc := cX0_result) (maxL := 4) (ret := (some .int)) (by decide) rfl ?_
  intro p e s m args below meth c s₁ B hml hv
  obtain ⟨rfl, -⟩ := hv
  have hx := B.exec
  have hb := B.bytes
  have hr := B.returns
  have htb : ∀ w ∈ lw_g, w.before ([.int a0, .int a1, .int a2, .int a3] : List Value).toArray s = true := fun w h => atoms_spec (ws := wsX0_result) B.pre w (List.mem_cons_of_mem _ h)
  have hown : s.vm.findClass RX0 = some m.cls := findClass_of_methodNamed B.named
  have hlocks := B.notSynchronized
  have hl := lv_entry ([.int a0, .int a1, .int a2, .int a3]) (n := 4) (Nat.le_of_ble_eq_true rfl)
  rw [lg_entry_eq]
  generalize (lg_sl ([.int a0, .int a1, .int a2, .int a3]) ++ List.replicate (4 - (lg_sl ([.int a0, .int a1, .int a2, .int a3])).length) Slot.unset).toArray = ls at hl ⊢
  have hl : lv_has ls 4 [(0, .int a0), (1, .int a1), (2, .int a2), (3, .int a3)] := hl
  refine lv_iload_n hx hb dX0_result_0 rfl (lv_at hl 0 rfl) ?_
  refine vp_callSi (W.runS (As := [.int a0]) (rest := []) ⟨hx, hb, hml, hown, htb⟩ (ct_x_fieldOp l a0) (va_cwS 1 htb gw_X0_54 rfl rfl rfl (by decide +kernel) ⟨Nat.le_of_ble_eq_true rfl, Nat.le_of_ble_eq_true rfl⟩) jj_pre rfl rfl hl.1 rfl (lv_room (Nat.le_of_ble_eq_true rfl)) dX0_result_1 ⟨Nat.le_of_ble_eq_true rfl, Nat.le_of_ble_eq_true rfl⟩) (fun r9 e9 => ?_)
  subst e9
  by_cases c1 : (fx_x_fieldOp a0) = (19 : Int32)
  · refine lv_lookup (x := (fx_x_fieldOp a0)) (off := 56) (tgt := 60) hx hb dX0_result_4 (by decide) (by rw [c1]; decide) (by decide) ?_
    refine lv_iload_n hx hb dX0_result_60 rfl (lv_at hl 0 rfl) ?_
    refine lv_iload_n hx hb dX0_result_61 rfl (lv_at hl 1 rfl) ?_
    refine vp_callSi (W.runS (As := [.int a0, .int a1]) (rest := []) ⟨hx, hb, hml, hown, htb⟩ (ct_x_resultWithNumber l a0 a1) (va_cwS 2 htb gw_X0_143 rfl rfl rfl (by decide +kernel) ⟨Nat.le_of_ble_eq_true rfl, Nat.le_of_ble_eq_true rfl⟩) jj_pre rfl rfl hl.1 rfl (lv_room (Nat.le_of_ble_eq_true rfl)) dX0_result_62 ⟨Nat.le_of_ble_eq_true rfl, Nat.le_of_ble_eq_true rfl⟩) (fun r9 e9 => ?_)
    subst e9
    exact W.iret (v := (fx_x_resultWithNumber a0 a1)) hx hb hr (fun t ht hW => ⟨_, rfl, (by unfold fx_x_result; rw [if_pos c1]), ht⟩) (fun q h => by cases h) dX0_result_65
  by_cases c2 : (fx_x_fieldOp a0) = (23 : Int32)
  · refine lv_lookup (x := (fx_x_fieldOp a0)) (off := 49) (tgt := 53) hx hb dX0_result_4 (by decide) (by rw [c2]; decide) (by decide) ?_
    refine lv_iload_n hx hb dX0_result_53 rfl (lv_at hl 3 rfl) ?_
    refine lv_iload_n hx hb dX0_result_54 rfl (lv_at hl 0 rfl) ?_
    refine vp_callSi (W.runS (As := [.int a0]) (rest := [.int a3]) ⟨hx, hb, hml, hown, htb⟩ (ct_x_numberH l a0) (va_cwS 1 htb gw_X0_81 rfl rfl rfl (by decide +kernel) ⟨Nat.le_of_ble_eq_true rfl, Nat.le_of_ble_eq_true rfl⟩) jj_pre rfl rfl hl.1 rfl (lv_room (Nat.le_of_ble_eq_true rfl)) dX0_result_55 ⟨Nat.le_of_ble_eq_true rfl, Nat.le_of_ble_eq_true rfl⟩) (fun r9 e9 => ?_)
    subst e9
    refine lv_iadd hx hb dX0_result_58 ?_
    exact W.iret (v := (a3 + (fx_x_numberH a0))) hx hb hr (fun t ht hW => ⟨_, rfl, (by unfold fx_x_result; rw [if_neg c1, if_pos c2]), ht⟩) (fun q h => by cases h) dX0_result_59
  by_cases c3 : (fx_x_fieldOp a0) = (51 : Int32)
  · refine lv_lookup (x := (fx_x_fieldOp a0)) (off := 62) (tgt := 66) hx hb dX0_result_4 (by decide) (by rw [c3]; decide) (by decide) ?_
    refine lv_iload_n hx hb dX0_result_66 rfl (lv_at hl 0 rfl) ?_
    refine lv_iload_n hx hb dX0_result_67 rfl (lv_at hl 1 rfl) ?_
    refine lv_iload_n hx hb dX0_result_68 rfl (lv_at hl 2 rfl) ?_
    refine vp_callSi (W.runS (As := [.int a0, .int a1, .int a2]) (rest := []) ⟨hx, hb, hml, hown, htb⟩ (ct_x_resultWithRegisters l a0 a1 a2) (va_cwS 3 htb gw_X0_146 rfl rfl rfl (by decide +kernel) ⟨Nat.le_of_ble_eq_true rfl, Nat.le_of_ble_eq_true rfl⟩) jj_pre rfl rfl hl.1 rfl (lv_room (Nat.le_of_ble_eq_true rfl)) dX0_result_69 ⟨Nat.le_of_ble_eq_true rfl, Nat.le_of_ble_eq_true rfl⟩) (fun r9 e9 => ?_)
    subst e9
    exact W.iret (v := (fx_x_resultWithRegisters a0 a1 a2)) hx hb hr (fun t ht hW => ⟨_, rfl, (by unfold fx_x_result; rw [if_neg c1, if_neg c2, if_pos c3]), ht⟩) (fun q h => by cases h) dX0_result_72
  by_cases c4 : (fx_x_fieldOp a0) = (55 : Int32)
  · refine lv_lookup (x := (fx_x_fieldOp a0)) (off := 44) (tgt := 48) hx hb dX0_result_4 (by decide) (by rw [c4]; decide) (by decide) ?_
    refine lv_iload_n hx hb dX0_result_48 rfl (lv_at hl 0 rfl) ?_
    refine vp_callSi (W.runS (As := [.int a0]) (rest := []) ⟨hx, hb, hml, hown, htb⟩ (ct_x_numberH l a0) (va_cwS 1 htb gw_X0_81 rfl rfl rfl (by decide +kernel) ⟨Nat.le_of_ble_eq_true rfl, Nat.le_of_ble_eq_true rfl⟩) jj_pre rfl rfl hl.1 rfl (lv_room (Nat.le_of_ble_eq_true rfl)) dX0_result_49 ⟨Nat.le_of_ble_eq_true rfl, Nat.le_of_ble_eq_true rfl⟩) (fun r9 e9 => ?_)
    subst e9
    exact W.iret (v := (fx_x_numberH a0)) hx hb hr (fun t ht hW => ⟨_, rfl, (by unfold fx_x_result; rw [if_neg c1, if_neg c2, if_neg c3, if_pos c4]), ht⟩) (fun q h => by cases h) dX0_result_52
  refine lv_lookup (x := (fx_x_fieldOp a0)) (off := 69) (tgt := 73) hx hb dX0_result_4 (by decide) (by show Op.lookupswitch.offset [(19, 56), (23, 49), (51, 62), (55, 44)] (69) _ = _; rw [lv_osw c1 (by decide), lv_osw c2 (by decide), lv_osw c3 (by decide), lv_osw c4 (by decide)]; rfl) (by decide) ?_
  refine lv_iconst (v := (0 : Int32)) hx hb dX0_result_73 (by decide) ?_
  exact W.iret (v := (0 : Int32)) hx hb hr (fun t ht hW => ⟨_, rfl, (by unfold fx_x_result; rw [if_neg c1, if_neg c2, if_neg c3, if_neg c4]), ht⟩) (fun q h => by cases h) dX0_result_74
