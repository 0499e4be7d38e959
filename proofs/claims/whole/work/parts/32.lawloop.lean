set_option maxHeartbeats 4000000 in
set_option maxRecDepth 100000 in
theorem law_loop {p : Program} {e : Env} {s : State} {m : MethodId} {below : List Frame} {meth : Method} {c : Code} (l : Launch) {b L : Nat} {xs : Nat → Int32} (hL : L ≤ 3584) (C0 : lw_At p s m meth c b L xs) {dC : Nat → ClassId} {dI : Nat → Nat → Nat} {ax am : XA} (hG : lw_G s ax am) (hKx : va_K (dC, dI) vwCl (xu_t ax) s) (hKm : va_K (dC, dI) vwCl (xu_t am) s) : ∀ (k n : Nat) (u v : XS) (H : Heap) (locs : List Loc) (ls : Array Slot), n ≤ L + 7 → L < n + k → Rel u v → va_P (dC, dI) vwCl (xu_w ax u) H → va_P (dC, dI) vwCl (mu_w am v) H → va_S (fun q : Nat => s.heap.size ≤ q) s.heap H locs → lv_has ls 4 [(0, .ref b), (1, .ref ax.1), (2, .ref am.1), (3, .int (nI n))] → W p l e room_1 s m #[Value.ref b] below meth c H locs 600000 7302250 (lw_Z below #[Value.ref b] s) (F0 m 18 ls []) := by
  obtain ⟨hx, hb, hr, hml, hown, hts, hX, hbl, hlocks, hgv⟩ := id C0
  have htb : ∀ w ∈ lw_g, w.before #[Value.ref b] s = true := fun w h => hts w (lw_gin w h)
  have hbA : ¬ (fun q : Nat => s.heap.size ≤ q) b := Nat.not_le.mpr hbl
  obtain ⟨hdx, hdm, hAx, hAm, hdis⟩ := id hG
  intro k
  induction k with
  | zero =>
    intro n u v H locs ls h1 h2 hRel hPx hPm hS hl
    refine lv_iload_n hx hb dL_law_18 rfl (lv_at hl 3 rfl) ?_
    refine lv_aload_n hx hb dL_law_19 rfl (lv_at hl 0 rfl) ?_
    refine va_slen hx hb hX hbl hbA hS dL_law_20 ?_
    refine lv_bipush (v := (7 : Int32)) hx hb dL_law_21 (by decide) ?_
    refine lv_isub hx hb dL_law_23 ?_
    refine lv_icmp_gt (tgt := 433) hx hb dL_law_24 (by decide) (fun c9 => ?_) (fun c9 => ?_)
    · refine lv_iconst (v := (1 : Int32)) hx hb dL_law_433 (by decide) ?_
      refine va_forget (fun q hq => hS.2.2 q hq) ?_
      exact lw_ret hx hb hr hlocks dL_law_434
    · exact absurd (lw_go hL (by omega) c9) (by omega)
  | succ k ih =>
    intro n u v H locs ls h1 h2 hRel hPx hPm hS hl
    refine lv_iload_n hx hb dL_law_18 rfl (lv_at hl 3 rfl) ?_
    refine lv_aload_n hx hb dL_law_19 rfl (lv_at hl 0 rfl) ?_
    refine va_slen hx hb hX hbl hbA hS dL_law_20 ?_
    refine lv_bipush (v := (7 : Int32)) hx hb dL_law_21 (by decide) ?_
    refine lv_isub hx hb dL_law_23 ?_
    refine lv_icmp_gt (tgt := 433) hx hb dL_law_24 (by decide) (fun c9 => ?_) (fun c9 => ?_)
    · refine lv_iconst (v := (1 : Int32)) hx hb dL_law_433 (by decide) ?_
      refine va_forget (fun q hq => hS.2.2 q hq) ?_
      exact lw_ret hx hb hr hlocks dL_law_434
    · have hn : n + 7 ≤ L := lw_go hL (by omega) c9
      have inc : ∀ (u1 v1 : XS) (H1 : Heap) (locs1 : List Loc), Rel u1 v1 → va_P (dC, dI) vwCl (xu_w ax u1) H1 → va_P (dC, dI) vwCl (mu_w am v1) H1 → va_S (fun q : Nat => s.heap.size ≤ q) s.heap H1 locs1 → W p l e room_1 s m #[Value.ref b] below meth c H1 locs1 600000 7302250 (lw_Z below #[Value.ref b] s) (F0 m 427 ls []) := by
        intro u1 v1 H1 locs1 hRel1 hPx1 hPm1 hS1
        refine lv_iinc (v := nI (n + 7)) (lv' := [(3, .int (nI (n + 7))), (0, .ref b), (1, .ref ax.1), (2, .ref am.1)]) hx hb dL_law_427 hl (k := 3) rfl (nI_add n 7) (by decide) rfl (fun ls hl => ?_)
        refine lv_goto (tgt := 18) hx hb dL_law_430 (by decide) ?_
        exact ih (n + 7) u1 v1 H1 locs1 ls (by omega) (by omega) hRel1 hPx1 hPm1 hS1 (lv_sub hl [1, 2, 3, 0] rfl)
      refine lv_aload_n hx hb dL_law_27 rfl (lv_at hl 0 rfl) ?_
      refine lv_iload_n hx hb dL_law_28 rfl (lv_at hl 3 rfl) ?_
      refine va_sld hx hb hX hbl hbA hS (vp_in_nI (by omega) (by omega)) dL_law_29 ?_
      refine lv_bipush (v := (15 : Int32)) hx hb dL_law_30 (by decide) ?_
      refine lv_iand hx hb dL_law_32 ?_
      by_cases k0 : (xs (nI n).toNatClampNeg &&& (15 : Int32)) = (0 : Int32)
      · refine lv_tableIn (x := (xs (nI n).toNatClampNeg &&& (15 : Int32))) (off := 59) (tgt := 92) hx hb dL_law_33 (by rw [k0]; decide) (by rw [k0]; decide) (by rw [k0]; decide) (by decide) ?_
        exact law_case0 l hL C0 hG hKx hKm hn hRel hPx hPm hS hl inc
      by_cases k1 : (xs (nI n).toNatClampNeg &&& (15 : Int32)) = (1 : Int32)
      · refine lv_tableIn (x := (xs (nI n).toNatClampNeg &&& (15 : Int32))) (off := 134) (tgt := 167) hx hb dL_law_33 (by rw [k1]; decide) (by rw [k1]; decide) (by rw [k1]; decide) (by decide) ?_
        exact law_case1 l hL C0 hG hKx hKm hn hRel hPx hPm hS hl inc
      by_cases k2 : (xs (nI n).toNatClampNeg &&& (15 : Int32)) = (2 : Int32)
      · refine lv_tableIn (x := (xs (nI n).toNatClampNeg &&& (15 : Int32))) (off := 157) (tgt := 190) hx hb dL_law_33 (by rw [k2]; decide) (by rw [k2]; decide) (by rw [k2]; decide) (by decide) ?_
        exact law_case2 l hL C0 hG hKx hKm hn hRel hPx hPm hS hl inc
      by_cases k3 : (xs (nI n).toNatClampNeg &&& (15 : Int32)) = (3 : Int32)
      · refine lv_tableIn (x := (xs (nI n).toNatClampNeg &&& (15 : Int32))) (off := 190) (tgt := 223) hx hb dL_law_33 (by rw [k3]; decide) (by rw [k3]; decide) (by rw [k3]; decide) (by decide) ?_
        exact law_case3 l hL C0 hG hKx hKm hn hRel hPx hPm hS hl inc
      by_cases k4 : (xs (nI n).toNatClampNeg &&& (15 : Int32)) = (4 : Int32)
      · refine lv_tableIn (x := (xs (nI n).toNatClampNeg &&& (15 : Int32))) (off := 213) (tgt := 246) hx hb dL_law_33 (by rw [k4]; decide) (by rw [k4]; decide) (by rw [k4]; decide) (by decide) ?_
        exact law_case4 l hL C0 hG hKx hKm hn hRel hPx hPm hS hl inc
      by_cases k5 : (xs (nI n).toNatClampNeg &&& (15 : Int32)) = (5 : Int32)
      · refine lv_tableIn (x := (xs (nI n).toNatClampNeg &&& (15 : Int32))) (off := 236) (tgt := 269) hx hb dL_law_33 (by rw [k5]; decide) (by rw [k5]; decide) (by rw [k5]; decide) (by decide) ?_
        exact law_case5 l hL C0 hG hKx hKm hn hRel hPx hPm hS hl inc
      by_cases k6 : (xs (nI n).toNatClampNeg &&& (15 : Int32)) = (6 : Int32)
      · refine lv_tableIn (x := (xs (nI n).toNatClampNeg &&& (15 : Int32))) (off := 249) (tgt := 282) hx hb dL_law_33 (by rw [k6]; decide) (by rw [k6]; decide) (by rw [k6]; decide) (by decide) ?_
        exact law_case6 l hL C0 hG hKx hKm hn hRel hPx hPm hS hl inc
      by_cases k7 : (xs (nI n).toNatClampNeg &&& (15 : Int32)) = (7 : Int32)
      · refine lv_tableIn (x := (xs (nI n).toNatClampNeg &&& (15 : Int32))) (off := 272) (tgt := 305) hx hb dL_law_33 (by rw [k7]; decide) (by rw [k7]; decide) (by rw [k7]; decide) (by decide) ?_
        exact law_case7 l hL C0 hG hKx hKm hn hRel hPx hPm hS hl inc
      by_cases k8 : (xs (nI n).toNatClampNeg &&& (15 : Int32)) = (8 : Int32)
      · refine lv_tableIn (x := (xs (nI n).toNatClampNeg &&& (15 : Int32))) (off := 295) (tgt := 328) hx hb dL_law_33 (by rw [k8]; decide) (by rw [k8]; decide) (by rw [k8]; decide) (by decide) ?_
        exact law_case8 l hL C0 hG hKx hKm hn hRel hPx hPm hS hl inc
      by_cases k9 : (xs (nI n).toNatClampNeg &&& (15 : Int32)) = (9 : Int32)
      · refine lv_tableIn (x := (xs (nI n).toNatClampNeg &&& (15 : Int32))) (off := 318) (tgt := 351) hx hb dL_law_33 (by rw [k9]; decide) (by rw [k9]; decide) (by rw [k9]; decide) (by decide) ?_
        exact law_case9 l hL C0 hG hKx hKm hn hRel hPx hPm hS hl inc
      by_cases k10 : (xs (nI n).toNatClampNeg &&& (15 : Int32)) = (10 : Int32)
      · refine lv_tableIn (x := (xs (nI n).toNatClampNeg &&& (15 : Int32))) (off := 351) (tgt := 384) hx hb dL_law_33 (by rw [k10]; decide) (by rw [k10]; decide) (by rw [k10]; decide) (by decide) ?_
        exact law_case10 l hL C0 hG hKx hKm hn hRel hPx hPm hS hl inc
      refine lv_tableOut (x := (xs (nI n).toNatClampNeg &&& (15 : Int32))) (tgt := 427) hx hb dL_law_33 (by have z0 := lv_neT k0 (a := 0) (by decide); have z1 := lv_neT k1 (a := 1) (by decide); have z2 := lv_neT k2 (a := 2) (by decide); have z3 := lv_neT k3 (a := 3) (by decide); have z4 := lv_neT k4 (a := 4) (by decide); have z5 := lv_neT k5 (a := 5) (by decide); have z6 := lv_neT k6 (a := 6) (by decide); have z7 := lv_neT k7 (a := 7) (by decide); have z8 := lv_neT k8 (a := 8) (by decide); have z9 := lv_neT k9 (a := 9) (by decide); have z10 := lv_neT k10 (a := 10) (by decide); omega) (by decide) ?_
      exact inc u v H locs hRel hPx hPm hS
