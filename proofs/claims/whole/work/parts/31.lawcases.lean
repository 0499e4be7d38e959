set_option maxHeartbeats 4000000 in
set_option maxRecDepth 100000 in
theorem law_case0 {p : Program} {e : Env} {s : State} {m : MethodId} {below : List Frame} {meth : Method} {c : Code} (l : Launch) {b L : Nat} {xs : Nat → Int32} (hL : L ≤ 3584) (C0 : lw_At p s m meth c b L xs) {dC : Nat → ClassId} {dI : Nat → Nat → Nat} {ax am : XA} (hG : lw_G s ax am) (hKx : va_K (dC, dI) vwCl (xu_t ax) s) (hKm : va_K (dC, dI) vwCl (xu_t am) s) {n : Nat} (hn : n + 7 ≤ L) {u v : XS} (hRel : Rel u v) {H : Heap} {locs : List Loc} (hPx : va_P (dC, dI) vwCl (xu_w ax u) H) (hPm : va_P (dC, dI) vwCl (mu_w am v) H) (hS : va_S (fun q : Nat => s.heap.size ≤ q) s.heap H locs) {ls : Array Slot} (hl : lv_has ls 4 [(0, .ref b), (1, .ref ax.1), (2, .ref am.1), (3, .int (nI n))]) (kk : ∀ (u1 v1 : XS) (H1 : Heap) (locs1 : List Loc), Rel u1 v1 → va_P (dC, dI) vwCl (xu_w ax u1) H1 → va_P (dC, dI) vwCl (mu_w am v1) H1 → va_S (fun q : Nat => s.heap.size ≤ q) s.heap H1 locs1 → W p l e room_1 s m #[Value.ref b] below meth c H1 locs1 600000 7302250 (lw_Z below #[Value.ref b] s) (F0 m 427 ls [])) : W p l e room_1 s m #[Value.ref b] below meth c H locs 600000 7302250 (lw_Z below #[Value.ref b] s) (F0 m 92 ls []) := by
  obtain ⟨hx, hb, hr, hml, hown, hts, hX, hbl, hlocks, hgv⟩ := id C0
  have htb : ∀ w ∈ lw_g, w.before #[Value.ref b] s = true := fun w h => hts w (lw_gin w h)
  have hbA : ¬ (fun q : Nat => s.heap.size ≤ q) b := Nat.not_le.mpr hbl
  obtain ⟨hdx, hdm, hAx, hAm, hdis⟩ := id hG
  refine lv_aload_n hx hb dL_law_92 rfl (lv_at hl 1 rfl) ?_
  refine lv_aload_n hx hb dL_law_93 rfl (lv_at hl 0 rfl) ?_
  refine lv_iload_n hx hb dL_law_94 rfl (lv_at hl 3 rfl) ?_
  refine lv_iconst (v := (1 : Int32)) hx hb dL_law_95 (by decide) ?_
  refine lv_iadd hx hb dL_law_96 ?_
  refine va_sld hx hb hX hbl hbA hS (lw_in hn hL (by decide)) dL_law_97 ?_
  refine lv_aload_n hx hb dL_law_98 rfl (lv_at hl 0 rfl) ?_
  refine lv_iload_n hx hb dL_law_99 rfl (lv_at hl 3 rfl) ?_
  refine lv_iconst (v := (2 : Int32)) hx hb dL_law_100 (by decide) ?_
  refine lv_iadd hx hb dL_law_101 ?_
  refine va_sld hx hb hX hbl hbA hS (lw_in hn hL (by decide)) dL_law_102 ?_
  refine lv_aload_n hx hb dL_law_103 rfl (lv_at hl 0 rfl) ?_
  refine lv_iload_n hx hb dL_law_104 rfl (lv_at hl 3 rfl) ?_
  refine lv_iconst (v := (3 : Int32)) hx hb dL_law_105 (by decide) ?_
  refine lv_iadd hx hb dL_law_106 ?_
  refine va_sld hx hb hX hbl hbA hS (lw_in hn hL (by decide)) dL_law_107 ?_
  refine lv_aload_n hx hb dL_law_108 rfl (lv_at hl 0 rfl) ?_
  refine lv_iload_n hx hb dL_law_109 rfl (lv_at hl 3 rfl) ?_
  refine lv_iconst (v := (4 : Int32)) hx hb dL_law_110 (by decide) ?_
  refine lv_iadd hx hb dL_law_111 ?_
  refine va_sld hx hb hX hbl hbA hS (lw_in hn hL (by decide)) dL_law_112 ?_
  refine lv_aload_n hx hb dL_law_113 rfl (lv_at hl 0 rfl) ?_
  refine lv_iload_n hx hb dL_law_114 rfl (lv_at hl 3 rfl) ?_
  refine lv_iconst (v := (5 : Int32)) hx hb dL_law_115 (by decide) ?_
  refine lv_iadd hx hb dL_law_116 ?_
  refine va_sld hx hb hX hbl hbA hS (lw_in hn hL (by decide)) dL_law_117 ?_
  refine lv_aload_n hx hb dL_law_118 rfl (lv_at hl 0 rfl) ?_
  refine lv_iload_n hx hb dL_law_119 rfl (lv_at hl 3 rfl) ?_
  refine lv_bipush (v := (6 : Int32)) hx hb dL_law_120 (by decide) ?_
  refine lv_iadd hx hb dL_law_122 ?_
  refine va_sld hx hb hX hbl hbA hS (lw_in hn hL (by decide)) dL_law_123 ?_
  refine lw_callx (va_runV (As := [.int (xs ((nI n) + (1 : Int32)).toNatClampNeg), .int (xs ((nI n) + (2 : Int32)).toNatClampNeg), .int (xs ((nI n) + (3 : Int32)).toNatClampNeg), .int (xs ((nI n) + (4 : Int32)).toNatClampNeg), .int (xs ((nI n) + (5 : Int32)).toNatClampNeg), .int (xs ((nI n) + (6 : Int32)).toNatClampNeg)]) (rest := []) ⟨hx, hb, hml, hown, htb⟩ (ct_x_poke l dC dI ax u (xs ((nI n) + (1 : Int32)).toNatClampNeg) (xs ((nI n) + (2 : Int32)).toNatClampNeg) (xs ((nI n) + (3 : Int32)).toNatClampNeg) (xs ((nI n) + (4 : Int32)).toNatClampNeg) (xs ((nI n) + (5 : Int32)).toNatClampNeg) (xs ((nI n) + (6 : Int32)).toNatClampNeg)) (cwV 6 htb gw_L_13 rfl rfl rfl (by decide +kernel) ⟨(by show 2 + 1 ≤ 2048; omega), (by show 8 + (7 + 11) + 42 ≤ 84000; omega)⟩) (xu_preW hKx hPx hdx) rfl rfl hl.1 rfl (lv_room (Nat.le_of_ble_eq_true rfl)) dL_law_124 lw_room0) hS hAx hPm hdis (fun H locs hPx hPm hS => ?_)
  refine lv_aload_n hx hb dL_law_127 rfl (lv_at hl 2 rfl) ?_
  refine lv_aload_n hx hb dL_law_128 rfl (lv_at hl 0 rfl) ?_
  refine lv_iload_n hx hb dL_law_129 rfl (lv_at hl 3 rfl) ?_
  refine lv_iconst (v := (1 : Int32)) hx hb dL_law_130 (by decide) ?_
  refine lv_iadd hx hb dL_law_131 ?_
  refine va_sld hx hb hX hbl hbA hS (lw_in hn hL (by decide)) dL_law_132 ?_
  refine lv_aload_n hx hb dL_law_133 rfl (lv_at hl 0 rfl) ?_
  refine lv_iload_n hx hb dL_law_134 rfl (lv_at hl 3 rfl) ?_
  refine lv_iconst (v := (2 : Int32)) hx hb dL_law_135 (by decide) ?_
  refine lv_iadd hx hb dL_law_136 ?_
  refine va_sld hx hb hX hbl hbA hS (lw_in hn hL (by decide)) dL_law_137 ?_
  refine lv_aload_n hx hb dL_law_138 rfl (lv_at hl 0 rfl) ?_
  refine lv_iload_n hx hb dL_law_139 rfl (lv_at hl 3 rfl) ?_
  refine lv_iconst (v := (3 : Int32)) hx hb dL_law_140 (by decide) ?_
  refine lv_iadd hx hb dL_law_141 ?_
  refine va_sld hx hb hX hbl hbA hS (lw_in hn hL (by decide)) dL_law_142 ?_
  refine lv_aload_n hx hb dL_law_143 rfl (lv_at hl 0 rfl) ?_
  refine lv_iload_n hx hb dL_law_144 rfl (lv_at hl 3 rfl) ?_
  refine lv_iconst (v := (4 : Int32)) hx hb dL_law_145 (by decide) ?_
  refine lv_iadd hx hb dL_law_146 ?_
  refine va_sld hx hb hX hbl hbA hS (lw_in hn hL (by decide)) dL_law_147 ?_
  refine lv_aload_n hx hb dL_law_148 rfl (lv_at hl 0 rfl) ?_
  refine lv_iload_n hx hb dL_law_149 rfl (lv_at hl 3 rfl) ?_
  refine lv_iconst (v := (5 : Int32)) hx hb dL_law_150 (by decide) ?_
  refine lv_iadd hx hb dL_law_151 ?_
  refine va_sld hx hb hX hbl hbA hS (lw_in hn hL (by decide)) dL_law_152 ?_
  refine lv_aload_n hx hb dL_law_153 rfl (lv_at hl 0 rfl) ?_
  refine lv_iload_n hx hb dL_law_154 rfl (lv_at hl 3 rfl) ?_
  refine lv_bipush (v := (6 : Int32)) hx hb dL_law_155 (by decide) ?_
  refine lv_iadd hx hb dL_law_157 ?_
  refine va_sld hx hb hX hbl hbA hS (lw_in hn hL (by decide)) dL_law_158 ?_
  refine lw_callm (va_runV (As := [.int (xs ((nI n) + (1 : Int32)).toNatClampNeg), .int (xs ((nI n) + (2 : Int32)).toNatClampNeg), .int (xs ((nI n) + (3 : Int32)).toNatClampNeg), .int (xs ((nI n) + (4 : Int32)).toNatClampNeg), .int (xs ((nI n) + (5 : Int32)).toNatClampNeg), .int (xs ((nI n) + (6 : Int32)).toNatClampNeg)]) (rest := [.int (fx_x_poke u (xs ((nI n) + (1 : Int32)).toNatClampNeg) (xs ((nI n) + (2 : Int32)).toNatClampNeg) (xs ((nI n) + (3 : Int32)).toNatClampNeg) (xs ((nI n) + (4 : Int32)).toNatClampNeg) (xs ((nI n) + (5 : Int32)).toNatClampNeg) (xs ((nI n) + (6 : Int32)).toNatClampNeg)).1]) ⟨hx, hb, hml, hown, htb⟩ (ct_m_poke l dC dI am v (xs ((nI n) + (1 : Int32)).toNatClampNeg) (xs ((nI n) + (2 : Int32)).toNatClampNeg) (xs ((nI n) + (3 : Int32)).toNatClampNeg) (xs ((nI n) + (4 : Int32)).toNatClampNeg) (xs ((nI n) + (5 : Int32)).toNatClampNeg) (xs ((nI n) + (6 : Int32)).toNatClampNeg)) (cwV 6 htb gw_L_17 rfl rfl rfl (by decide +kernel) ⟨(by show 2 + 1 ≤ 2048; omega), (by show 8 + (7 + 11) + 51 ≤ 84000; omega)⟩) (mu_preW hKm hPm hdm) rfl rfl hl.1 rfl (lv_room (Nat.le_of_ble_eq_true rfl)) dL_law_159 lw_room0) hS hAm hPx hdis (fun H locs hPm hPx hS => ?_)
  refine lv_icmp_eq (tgt := 427) hx hb dL_law_162 (by decide) (fun _ => ?_) (fun c9 => absurd (r_poke hRel (xs ((nI n) + (1 : Int32)).toNatClampNeg) (xs ((nI n) + (2 : Int32)).toNatClampNeg) (xs ((nI n) + (3 : Int32)).toNatClampNeg) (xs ((nI n) + (4 : Int32)).toNatClampNeg) (xs ((nI n) + (5 : Int32)).toNatClampNeg) (xs ((nI n) + (6 : Int32)).toNatClampNeg)).1 c9)
  exact kk (fx_x_poke u (xs ((nI n) + (1 : Int32)).toNatClampNeg) (xs ((nI n) + (2 : Int32)).toNatClampNeg) (xs ((nI n) + (3 : Int32)).toNatClampNeg) (xs ((nI n) + (4 : Int32)).toNatClampNeg) (xs ((nI n) + (5 : Int32)).toNatClampNeg) (xs ((nI n) + (6 : Int32)).toNatClampNeg)).2 (fx_m_poke v (xs ((nI n) + (1 : Int32)).toNatClampNeg) (xs ((nI n) + (2 : Int32)).toNatClampNeg) (xs ((nI n) + (3 : Int32)).toNatClampNeg) (xs ((nI n) + (4 : Int32)).toNatClampNeg) (xs ((nI n) + (5 : Int32)).toNatClampNeg) (xs ((nI n) + (6 : Int32)).toNatClampNeg)).2 H locs (r_poke hRel (xs ((nI n) + (1 : Int32)).toNatClampNeg) (xs ((nI n) + (2 : Int32)).toNatClampNeg) (xs ((nI n) + (3 : Int32)).toNatClampNeg) (xs ((nI n) + (4 : Int32)).toNatClampNeg) (xs ((nI n) + (5 : Int32)).toNatClampNeg) (xs ((nI n) + (6 : Int32)).toNatClampNeg)).2 hPx hPm hS
set_option maxHeartbeats 4000000 in
set_option maxRecDepth 100000 in
theorem law_case1 {p : Program} {e : Env} {s : State} {m : MethodId} {below : List Frame} {meth : Method} {c : Code} (l : Launch) {b L : Nat} {xs : Nat → Int32} (hL : L ≤ 3584) (C0 : lw_At p s m meth c b L xs) {dC : Nat → ClassId} {dI : Nat → Nat → Nat} {ax am : XA} (hG : lw_G s ax am) (hKx : va_K (dC, dI) vwCl (xu_t ax) s) (hKm : va_K (dC, dI) vwCl (xu_t am) s) {n : Nat} (hn : n + 7 ≤ L) {u v : XS} (hRel : Rel u v) {H : Heap} {locs : List Loc} (hPx : va_P (dC, dI) vwCl (xu_w ax u) H) (hPm : va_P (dC, dI) vwCl (mu_w am v) H) (hS : va_S (fun q : Nat => s.heap.size ≤ q) s.heap H locs) {ls : Array Slot} (hl : lv_has ls 4 [(0, .ref b), (1, .ref ax.1), (2, .ref am.1), (3, .int (nI n))]) (kk : ∀ (u1 v1 : XS) (H1 : Heap) (locs1 : List Loc), Rel u1 v1 → va_P (dC, dI) vwCl (xu_w ax u1) H1 → va_P (dC, dI) vwCl (mu_w am v1) H1 → va_S (fun q : Nat => s.heap.size ≤ q) s.heap H1 locs1 → W p l e room_1 s m #[Value.ref b] below meth c H1 locs1 600000 7302250 (lw_Z below #[Value.ref b] s) (F0 m 427 ls [])) : W p l e room_1 s m #[Value.ref b] below meth c H locs 600000 7302250 (lw_Z below #[Value.ref b] s) (F0 m 167 ls []) := by
  obtain ⟨hx, hb, hr, hml, hown, hts, hX, hbl, hlocks, hgv⟩ := id C0
  have htb : ∀ w ∈ lw_g, w.before #[Value.ref b] s = true := fun w h => hts w (lw_gin w h)
  have hbA : ¬ (fun q : Nat => s.heap.size ≤ q) b := Nat.not_le.mpr hbl
  obtain ⟨hdx, hdm, hAx, hAm, hdis⟩ := id hG
  refine lv_aload_n hx hb dL_law_167 rfl (lv_at hl 1 rfl) ?_
  refine lv_aload_n hx hb dL_law_168 rfl (lv_at hl 0 rfl) ?_
  refine lv_iload_n hx hb dL_law_169 rfl (lv_at hl 3 rfl) ?_
  refine lv_iconst (v := (1 : Int32)) hx hb dL_law_170 (by decide) ?_
  refine lv_iadd hx hb dL_law_171 ?_
  refine va_sld hx hb hX hbl hbA hS (lw_in hn hL (by decide)) dL_law_172 ?_
  refine vp_callSi (W.runV (As := [.int (xs ((nI n) + (1 : Int32)).toNatClampNeg)]) (rest := []) ⟨hx, hb, hml, hown, htb⟩ (ct_x_word l dC dI ax u (xs ((nI n) + (1 : Int32)).toNatClampNeg)) (cwV 1 htb gw_L_18 rfl rfl rfl (by decide +kernel) ⟨(by show 2 + 1 ≤ 2048; omega), (by show 8 + (2 + 11) + 41 ≤ 84000; omega)⟩) (xu_preR hKx hPx) rfl rfl hl.1 rfl (lv_room (Nat.le_of_ble_eq_true rfl)) dL_law_173 lw_room0) (fun r9 e9 => ?_)
  subst e9
  refine lv_aload_n hx hb dL_law_176 rfl (lv_at hl 2 rfl) ?_
  refine lv_aload_n hx hb dL_law_177 rfl (lv_at hl 0 rfl) ?_
  refine lv_iload_n hx hb dL_law_178 rfl (lv_at hl 3 rfl) ?_
  refine lv_iconst (v := (1 : Int32)) hx hb dL_law_179 (by decide) ?_
  refine lv_iadd hx hb dL_law_180 ?_
  refine va_sld hx hb hX hbl hbA hS (lw_in hn hL (by decide)) dL_law_181 ?_
  refine vp_callSi (W.runV (As := [.int (xs ((nI n) + (1 : Int32)).toNatClampNeg)]) (rest := [.int (fx_x_word u (xs ((nI n) + (1 : Int32)).toNatClampNeg))]) ⟨hx, hb, hml, hown, htb⟩ (ct_m_word l dC dI am v (xs ((nI n) + (1 : Int32)).toNatClampNeg)) (cwV 1 htb gw_L_22 rfl rfl rfl (by decide +kernel) ⟨(by show 1 + 1 ≤ 2048; omega), (by show 8 + (2 + 11) + 25 ≤ 84000; omega)⟩) (mu_preR hKm hPm) rfl rfl hl.1 rfl (lv_room (Nat.le_of_ble_eq_true rfl)) dL_law_182 lw_room0) (fun r9 e9 => ?_)
  subst e9
  refine lv_icmp_eq (tgt := 427) hx hb dL_law_185 (by decide) (fun _ => ?_) (fun c9 => absurd (r_word hRel (xs ((nI n) + (1 : Int32)).toNatClampNeg)) c9)
  exact kk u v H locs hRel hPx hPm hS
set_option maxHeartbeats 4000000 in
set_option maxRecDepth 100000 in
theorem law_case2 {p : Program} {e : Env} {s : State} {m : MethodId} {below : List Frame} {meth : Method} {c : Code} (l : Launch) {b L : Nat} {xs : Nat → Int32} (hL : L ≤ 3584) (C0 : lw_At p s m meth c b L xs) {dC : Nat → ClassId} {dI : Nat → Nat → Nat} {ax am : XA} (hG : lw_G s ax am) (hKx : va_K (dC, dI) vwCl (xu_t ax) s) (hKm : va_K (dC, dI) vwCl (xu_t am) s) {n : Nat} (hn : n + 7 ≤ L) {u v : XS} (hRel : Rel u v) {H : Heap} {locs : List Loc} (hPx : va_P (dC, dI) vwCl (xu_w ax u) H) (hPm : va_P (dC, dI) vwCl (mu_w am v) H) (hS : va_S (fun q : Nat => s.heap.size ≤ q) s.heap H locs) {ls : Array Slot} (hl : lv_has ls 4 [(0, .ref b), (1, .ref ax.1), (2, .ref am.1), (3, .int (nI n))]) (kk : ∀ (u1 v1 : XS) (H1 : Heap) (locs1 : List Loc), Rel u1 v1 → va_P (dC, dI) vwCl (xu_w ax u1) H1 → va_P (dC, dI) vwCl (mu_w am v1) H1 → va_S (fun q : Nat => s.heap.size ≤ q) s.heap H1 locs1 → W p l e room_1 s m #[Value.ref b] below meth c H1 locs1 600000 7302250 (lw_Z below #[Value.ref b] s) (F0 m 427 ls [])) : W p l e room_1 s m #[Value.ref b] below meth c H locs 600000 7302250 (lw_Z below #[Value.ref b] s) (F0 m 190 ls []) := by
  obtain ⟨hx, hb, hr, hml, hown, hts, hX, hbl, hlocks, hgv⟩ := id C0
  have htb : ∀ w ∈ lw_g, w.before #[Value.ref b] s = true := fun w h => hts w (lw_gin w h)
  have hbA : ¬ (fun q : Nat => s.heap.size ≤ q) b := Nat.not_le.mpr hbl
  obtain ⟨hdx, hdm, hAx, hAm, hdis⟩ := id hG
  refine lv_aload_n hx hb dL_law_190 rfl (lv_at hl 1 rfl) ?_
  refine lv_aload_n hx hb dL_law_191 rfl (lv_at hl 0 rfl) ?_
  refine lv_iload_n hx hb dL_law_192 rfl (lv_at hl 3 rfl) ?_
  refine lv_iconst (v := (1 : Int32)) hx hb dL_law_193 (by decide) ?_
  refine lv_iadd hx hb dL_law_194 ?_
  refine va_sld hx hb hX hbl hbA hS (lw_in hn hL (by decide)) dL_law_195 ?_
  refine lv_aload_n hx hb dL_law_196 rfl (lv_at hl 0 rfl) ?_
  refine lv_iload_n hx hb dL_law_197 rfl (lv_at hl 3 rfl) ?_
  refine lv_iconst (v := (2 : Int32)) hx hb dL_law_198 (by decide) ?_
  refine lv_iadd hx hb dL_law_199 ?_
  refine va_sld hx hb hX hbl hbA hS (lw_in hn hL (by decide)) dL_law_200 ?_
  refine lw_callx (va_runV (As := [.int (xs ((nI n) + (1 : Int32)).toNatClampNeg), .int (xs ((nI n) + (2 : Int32)).toNatClampNeg)]) (rest := []) ⟨hx, hb, hml, hown, htb⟩ (ct_x_put l dC dI ax u (xs ((nI n) + (1 : Int32)).toNatClampNeg) (xs ((nI n) + (2 : Int32)).toNatClampNeg)) (cwV 2 htb gw_L_23 rfl rfl rfl (by decide +kernel) ⟨(by show 1 + 1 ≤ 2048; omega), (by show 8 + (4 + 11) + 22 ≤ 84000; omega)⟩) (xu_preW hKx hPx hdx) rfl rfl hl.1 rfl (lv_room (Nat.le_of_ble_eq_true rfl)) dL_law_201 lw_room0) hS hAx hPm hdis (fun H locs hPx hPm hS => ?_)
  refine lv_aload_n hx hb dL_law_204 rfl (lv_at hl 2 rfl) ?_
  refine lv_aload_n hx hb dL_law_205 rfl (lv_at hl 0 rfl) ?_
  refine lv_iload_n hx hb dL_law_206 rfl (lv_at hl 3 rfl) ?_
  refine lv_iconst (v := (1 : Int32)) hx hb dL_law_207 (by decide) ?_
  refine lv_iadd hx hb dL_law_208 ?_
  refine va_sld hx hb hX hbl hbA hS (lw_in hn hL (by decide)) dL_law_209 ?_
  refine lv_aload_n hx hb dL_law_210 rfl (lv_at hl 0 rfl) ?_
  refine lv_iload_n hx hb dL_law_211 rfl (lv_at hl 3 rfl) ?_
  refine lv_iconst (v := (2 : Int32)) hx hb dL_law_212 (by decide) ?_
  refine lv_iadd hx hb dL_law_213 ?_
  refine va_sld hx hb hX hbl hbA hS (lw_in hn hL (by decide)) dL_law_214 ?_
  refine lw_callm (va_runV (As := [.int (xs ((nI n) + (1 : Int32)).toNatClampNeg), .int (xs ((nI n) + (2 : Int32)).toNatClampNeg)]) (rest := [.int (fx_x_put u (xs ((nI n) + (1 : Int32)).toNatClampNeg) (xs ((nI n) + (2 : Int32)).toNatClampNeg)).1]) ⟨hx, hb, hml, hown, htb⟩ (ct_m_put l dC dI am v (xs ((nI n) + (1 : Int32)).toNatClampNeg) (xs ((nI n) + (2 : Int32)).toNatClampNeg)) (cwV 2 htb gw_L_27 rfl rfl rfl (by decide +kernel) ⟨(by show 1 + 1 ≤ 2048; omega), (by show 8 + (4 + 11) + 22 ≤ 84000; omega)⟩) (mu_preW hKm hPm hdm) rfl rfl hl.1 rfl (lv_room (Nat.le_of_ble_eq_true rfl)) dL_law_215 lw_room0) hS hAm hPx hdis (fun H locs hPm hPx hS => ?_)
  refine lv_icmp_eq (tgt := 427) hx hb dL_law_218 (by decide) (fun _ => ?_) (fun c9 => absurd (r_put hRel (xs ((nI n) + (1 : Int32)).toNatClampNeg) (xs ((nI n) + (2 : Int32)).toNatClampNeg)).1 c9)
  exact kk (fx_x_put u (xs ((nI n) + (1 : Int32)).toNatClampNeg) (xs ((nI n) + (2 : Int32)).toNatClampNeg)).2 (fx_m_put v (xs ((nI n) + (1 : Int32)).toNatClampNeg) (xs ((nI n) + (2 : Int32)).toNatClampNeg)).2 H locs (r_put hRel (xs ((nI n) + (1 : Int32)).toNatClampNeg) (xs ((nI n) + (2 : Int32)).toNatClampNeg)).2 hPx hPm hS
set_option maxHeartbeats 4000000 in
set_option maxRecDepth 100000 in
theorem law_case3 {p : Program} {e : Env} {s : State} {m : MethodId} {below : List Frame} {meth : Method} {c : Code} (l : Launch) {b L : Nat} {xs : Nat → Int32} (hL : L ≤ 3584) (C0 : lw_At p s m meth c b L xs) {dC : Nat → ClassId} {dI : Nat → Nat → Nat} {ax am : XA} (hG : lw_G s ax am) (hKx : va_K (dC, dI) vwCl (xu_t ax) s) (hKm : va_K (dC, dI) vwCl (xu_t am) s) {n : Nat} (hn : n + 7 ≤ L) {u v : XS} (hRel : Rel u v) {H : Heap} {locs : List Loc} (hPx : va_P (dC, dI) vwCl (xu_w ax u) H) (hPm : va_P (dC, dI) vwCl (mu_w am v) H) (hS : va_S (fun q : Nat => s.heap.size ≤ q) s.heap H locs) {ls : Array Slot} (hl : lv_has ls 4 [(0, .ref b), (1, .ref ax.1), (2, .ref am.1), (3, .int (nI n))]) (kk : ∀ (u1 v1 : XS) (H1 : Heap) (locs1 : List Loc), Rel u1 v1 → va_P (dC, dI) vwCl (xu_w ax u1) H1 → va_P (dC, dI) vwCl (mu_w am v1) H1 → va_S (fun q : Nat => s.heap.size ≤ q) s.heap H1 locs1 → W p l e room_1 s m #[Value.ref b] below meth c H1 locs1 600000 7302250 (lw_Z below #[Value.ref b] s) (F0 m 427 ls [])) : W p l e room_1 s m #[Value.ref b] below meth c H locs 600000 7302250 (lw_Z below #[Value.ref b] s) (F0 m 223 ls []) := by
  obtain ⟨hx, hb, hr, hml, hown, hts, hX, hbl, hlocks, hgv⟩ := id C0
  have htb : ∀ w ∈ lw_g, w.before #[Value.ref b] s = true := fun w h => hts w (lw_gin w h)
  have hbA : ¬ (fun q : Nat => s.heap.size ≤ q) b := Nat.not_le.mpr hbl
  obtain ⟨hdx, hdm, hAx, hAm, hdis⟩ := id hG
  refine lv_aload_n hx hb dL_law_223 rfl (lv_at hl 1 rfl) ?_
  refine lv_aload_n hx hb dL_law_224 rfl (lv_at hl 0 rfl) ?_
  refine lv_iload_n hx hb dL_law_225 rfl (lv_at hl 3 rfl) ?_
  refine lv_iconst (v := (1 : Int32)) hx hb dL_law_226 (by decide) ?_
  refine lv_iadd hx hb dL_law_227 ?_
  refine va_sld hx hb hX hbl hbA hS (lw_in hn hL (by decide)) dL_law_228 ?_
  refine vp_callSi (W.runV (As := [.int (xs ((nI n) + (1 : Int32)).toNatClampNeg)]) (rest := []) ⟨hx, hb, hml, hown, htb⟩ (ct_x_get l dC dI ax u (xs ((nI n) + (1 : Int32)).toNatClampNeg)) (cwV 1 htb gw_L_28 rfl rfl rfl (by decide +kernel) ⟨(by show 1 + 1 ≤ 2048; omega), (by show 8 + (2 + 11) + 21 ≤ 84000; omega)⟩) (xu_preR hKx hPx) rfl rfl hl.1 rfl (lv_room (Nat.le_of_ble_eq_true rfl)) dL_law_229 lw_room0) (fun r9 e9 => ?_)
  subst e9
  refine lv_aload_n hx hb dL_law_232 rfl (lv_at hl 2 rfl) ?_
  refine lv_aload_n hx hb dL_law_233 rfl (lv_at hl 0 rfl) ?_
  refine lv_iload_n hx hb dL_law_234 rfl (lv_at hl 3 rfl) ?_
  refine lv_iconst (v := (1 : Int32)) hx hb dL_law_235 (by decide) ?_
  refine lv_iadd hx hb dL_law_236 ?_
  refine va_sld hx hb hX hbl hbA hS (lw_in hn hL (by decide)) dL_law_237 ?_
  refine vp_callSi (W.runV (As := [.int (xs ((nI n) + (1 : Int32)).toNatClampNeg)]) (rest := [.int (fx_x_get u (xs ((nI n) + (1 : Int32)).toNatClampNeg))]) ⟨hx, hb, hml, hown, htb⟩ (ct_m_get l dC dI am v (xs ((nI n) + (1 : Int32)).toNatClampNeg)) (cwV 1 htb gw_L_31 rfl rfl rfl (by decide +kernel) ⟨(by show 0 + 1 ≤ 2048; omega), (by show 8 + (2 + 11) + 0 ≤ 84000; omega)⟩) (mu_preR hKm hPm) rfl rfl hl.1 rfl (lv_room (Nat.le_of_ble_eq_true rfl)) dL_law_238 lw_room0) (fun r9 e9 => ?_)
  subst e9
  refine lv_icmp_eq (tgt := 427) hx hb dL_law_241 (by decide) (fun _ => ?_) (fun c9 => absurd (r_get hRel (xs ((nI n) + (1 : Int32)).toNatClampNeg)) c9)
  exact kk u v H locs hRel hPx hPm hS
set_option maxHeartbeats 4000000 in
set_option maxRecDepth 100000 in
theorem law_case4 {p : Program} {e : Env} {s : State} {m : MethodId} {below : List Frame} {meth : Method} {c : Code} (l : Launch) {b L : Nat} {xs : Nat → Int32} (hL : L ≤ 3584) (C0 : lw_At p s m meth c b L xs) {dC : Nat → ClassId} {dI : Nat → Nat → Nat} {ax am : XA} (hG : lw_G s ax am) (hKx : va_K (dC, dI) vwCl (xu_t ax) s) (hKm : va_K (dC, dI) vwCl (xu_t am) s) {n : Nat} (hn : n + 7 ≤ L) {u v : XS} (hRel : Rel u v) {H : Heap} {locs : List Loc} (hPx : va_P (dC, dI) vwCl (xu_w ax u) H) (hPm : va_P (dC, dI) vwCl (mu_w am v) H) (hS : va_S (fun q : Nat => s.heap.size ≤ q) s.heap H locs) {ls : Array Slot} (hl : lv_has ls 4 [(0, .ref b), (1, .ref ax.1), (2, .ref am.1), (3, .int (nI n))]) (kk : ∀ (u1 v1 : XS) (H1 : Heap) (locs1 : List Loc), Rel u1 v1 → va_P (dC, dI) vwCl (xu_w ax u1) H1 → va_P (dC, dI) vwCl (mu_w am v1) H1 → va_S (fun q : Nat => s.heap.size ≤ q) s.heap H1 locs1 → W p l e room_1 s m #[Value.ref b] below meth c H1 locs1 600000 7302250 (lw_Z below #[Value.ref b] s) (F0 m 427 ls [])) : W p l e room_1 s m #[Value.ref b] below meth c H locs 600000 7302250 (lw_Z below #[Value.ref b] s) (F0 m 246 ls []) := by
  obtain ⟨hx, hb, hr, hml, hown, hts, hX, hbl, hlocks, hgv⟩ := id C0
  have htb : ∀ w ∈ lw_g, w.before #[Value.ref b] s = true := fun w h => hts w (lw_gin w h)
  have hbA : ¬ (fun q : Nat => s.heap.size ≤ q) b := Nat.not_le.mpr hbl
  obtain ⟨hdx, hdm, hAx, hAm, hdis⟩ := id hG
  refine lv_aload_n hx hb dL_law_246 rfl (lv_at hl 1 rfl) ?_
  refine lv_aload_n hx hb dL_law_247 rfl (lv_at hl 0 rfl) ?_
  refine lv_iload_n hx hb dL_law_248 rfl (lv_at hl 3 rfl) ?_
  refine lv_iconst (v := (1 : Int32)) hx hb dL_law_249 (by decide) ?_
  refine lv_iadd hx hb dL_law_250 ?_
  refine va_sld hx hb hX hbl hbA hS (lw_in hn hL (by decide)) dL_law_251 ?_
  refine lw_callx (va_runV (As := [.int (xs ((nI n) + (1 : Int32)).toNatClampNeg)]) (rest := []) ⟨hx, hb, hml, hown, htb⟩ (ct_x_go l dC dI ax u (xs ((nI n) + (1 : Int32)).toNatClampNeg)) (cwV 1 htb gw_L_32 rfl rfl rfl (by decide +kernel) ⟨(by show 1 + 1 ≤ 2048; omega), (by show 8 + (2 + 11) + 20 ≤ 84000; omega)⟩) (xu_preW hKx hPx hdx) rfl rfl hl.1 rfl (lv_room (Nat.le_of_ble_eq_true rfl)) dL_law_252 lw_room0) hS hAx hPm hdis (fun H locs hPx hPm hS => ?_)
  refine lv_aload_n hx hb dL_law_255 rfl (lv_at hl 2 rfl) ?_
  refine lv_aload_n hx hb dL_law_256 rfl (lv_at hl 0 rfl) ?_
  refine lv_iload_n hx hb dL_law_257 rfl (lv_at hl 3 rfl) ?_
  refine lv_iconst (v := (1 : Int32)) hx hb dL_law_258 (by decide) ?_
  refine lv_iadd hx hb dL_law_259 ?_
  refine va_sld hx hb hX hbl hbA hS (lw_in hn hL (by decide)) dL_law_260 ?_
  refine lw_callm (va_runV (As := [.int (xs ((nI n) + (1 : Int32)).toNatClampNeg)]) (rest := [.int (fx_x_go u (xs ((nI n) + (1 : Int32)).toNatClampNeg)).1]) ⟨hx, hb, hml, hown, htb⟩ (ct_m_go l dC dI am v (xs ((nI n) + (1 : Int32)).toNatClampNeg)) (cwV 1 htb gw_L_35 rfl rfl rfl (by decide +kernel) ⟨(by show 0 + 1 ≤ 2048; omega), (by show 8 + (2 + 11) + 0 ≤ 84000; omega)⟩) (mu_preW hKm hPm hdm) rfl rfl hl.1 rfl (lv_room (Nat.le_of_ble_eq_true rfl)) dL_law_261 lw_room0) hS hAm hPx hdis (fun H locs hPm hPx hS => ?_)
  refine lv_icmp_eq (tgt := 427) hx hb dL_law_264 (by decide) (fun _ => ?_) (fun c9 => absurd (r_go hRel (xs ((nI n) + (1 : Int32)).toNatClampNeg)).1 c9)
  exact kk (fx_x_go u (xs ((nI n) + (1 : Int32)).toNatClampNeg)).2 (fx_m_go v (xs ((nI n) + (1 : Int32)).toNatClampNeg)).2 H locs (r_go hRel (xs ((nI n) + (1 : Int32)).toNatClampNeg)).2 hPx hPm hS
set_option maxHeartbeats 4000000 in
set_option maxRecDepth 100000 in
theorem law_case5 {p : Program} {e : Env} {s : State} {m : MethodId} {below : List Frame} {meth : Method} {c : Code} (l : Launch) {b L : Nat} {xs : Nat → Int32} (hL : L ≤ 3584) (C0 : lw_At p s m meth c b L xs) {dC : Nat → ClassId} {dI : Nat → Nat → Nat} {ax am : XA} (hG : lw_G s ax am) (hKx : va_K (dC, dI) vwCl (xu_t ax) s) (hKm : va_K (dC, dI) vwCl (xu_t am) s) {n : Nat} (hn : n + 7 ≤ L) {u v : XS} (hRel : Rel u v) {H : Heap} {locs : List Loc} (hPx : va_P (dC, dI) vwCl (xu_w ax u) H) (hPm : va_P (dC, dI) vwCl (mu_w am v) H) (hS : va_S (fun q : Nat => s.heap.size ≤ q) s.heap H locs) {ls : Array Slot} (hl : lv_has ls 4 [(0, .ref b), (1, .ref ax.1), (2, .ref am.1), (3, .int (nI n))]) (kk : ∀ (u1 v1 : XS) (H1 : Heap) (locs1 : List Loc), Rel u1 v1 → va_P (dC, dI) vwCl (xu_w ax u1) H1 → va_P (dC, dI) vwCl (mu_w am v1) H1 → va_S (fun q : Nat => s.heap.size ≤ q) s.heap H1 locs1 → W p l e room_1 s m #[Value.ref b] below meth c H1 locs1 600000 7302250 (lw_Z below #[Value.ref b] s) (F0 m 427 ls [])) : W p l e room_1 s m #[Value.ref b] below meth c H locs 600000 7302250 (lw_Z below #[Value.ref b] s) (F0 m 269 ls []) := by
  obtain ⟨hx, hb, hr, hml, hown, hts, hX, hbl, hlocks, hgv⟩ := id C0
  have htb : ∀ w ∈ lw_g, w.before #[Value.ref b] s = true := fun w h => hts w (lw_gin w h)
  have hbA : ¬ (fun q : Nat => s.heap.size ≤ q) b := Nat.not_le.mpr hbl
  obtain ⟨hdx, hdm, hAx, hAm, hdis⟩ := id hG
  refine lv_aload_n hx hb dL_law_269 rfl (lv_at hl 1 rfl) ?_
  refine lw_callx (va_runV (As := []) (rest := []) ⟨hx, hb, hml, hown, htb⟩ (ct_x_step l dC dI ax u ) (cwV 0 htb gw_L_36 rfl rfl rfl (by decide +kernel) ⟨(by show 6 + 1 ≤ 2048; omega), (by show 8 + (1 + 11) + 131 ≤ 84000; omega)⟩) (xu_preW hKx hPx hdx) rfl rfl hl.1 rfl (lv_room (Nat.le_of_ble_eq_true rfl)) dL_law_270 lw_room0) hS hAx hPm hdis (fun H locs hPx hPm hS => ?_)
  refine lv_aload_n hx hb dL_law_273 rfl (lv_at hl 2 rfl) ?_
  refine lw_callm (va_runV (As := []) (rest := [.int (fx_x_step u).1]) ⟨hx, hb, hml, hown, htb⟩ (ct_m_step l dC dI am v ) (cwV 0 htb gw_L_40 rfl rfl rfl (by decide +kernel) ⟨(by show 4 + 1 ≤ 2048; omega), (by show 8 + (1 + 11) + 104 ≤ 84000; omega)⟩) (mu_preW hKm hPm hdm) rfl rfl hl.1 rfl (lv_room (Nat.le_of_ble_eq_true rfl)) dL_law_274 lw_room0) hS hAm hPx hdis (fun H locs hPm hPx hS => ?_)
  refine lv_icmp_eq (tgt := 427) hx hb dL_law_277 (by decide) (fun _ => ?_) (fun c9 => absurd (r_pstep hRel).1 c9)
  exact kk (fx_x_step u).2 (fx_m_step v).2 H locs (r_pstep hRel).2 hPx hPm hS
set_option maxHeartbeats 4000000 in
set_option maxRecDepth 100000 in
theorem law_case6 {p : Program} {e : Env} {s : State} {m : MethodId} {below : List Frame} {meth : Method} {c : Code} (l : Launch) {b L : Nat} {xs : Nat → Int32} (hL : L ≤ 3584) (C0 : lw_At p s m meth c b L xs) {dC : Nat → ClassId} {dI : Nat → Nat → Nat} {ax am : XA} (hG : lw_G s ax am) (hKx : va_K (dC, dI) vwCl (xu_t ax) s) (hKm : va_K (dC, dI) vwCl (xu_t am) s) {n : Nat} (hn : n + 7 ≤ L) {u v : XS} (hRel : Rel u v) {H : Heap} {locs : List Loc} (hPx : va_P (dC, dI) vwCl (xu_w ax u) H) (hPm : va_P (dC, dI) vwCl (mu_w am v) H) (hS : va_S (fun q : Nat => s.heap.size ≤ q) s.heap H locs) {ls : Array Slot} (hl : lv_has ls 4 [(0, .ref b), (1, .ref ax.1), (2, .ref am.1), (3, .int (nI n))]) (kk : ∀ (u1 v1 : XS) (H1 : Heap) (locs1 : List Loc), Rel u1 v1 → va_P (dC, dI) vwCl (xu_w ax u1) H1 → va_P (dC, dI) vwCl (mu_w am v1) H1 → va_S (fun q : Nat => s.heap.size ≤ q) s.heap H1 locs1 → W p l e room_1 s m #[Value.ref b] below meth c H1 locs1 600000 7302250 (lw_Z below #[Value.ref b] s) (F0 m 427 ls [])) : W p l e room_1 s m #[Value.ref b] below meth c H locs 600000 7302250 (lw_Z below #[Value.ref b] s) (F0 m 282 ls []) := by
  obtain ⟨hx, hb, hr, hml, hown, hts, hX, hbl, hlocks, hgv⟩ := id C0
  have htb : ∀ w ∈ lw_g, w.before #[Value.ref b] s = true := fun w h => hts w (lw_gin w h)
  have hbA : ¬ (fun q : Nat => s.heap.size ≤ q) b := Nat.not_le.mpr hbl
  obtain ⟨hdx, hdm, hAx, hAm, hdis⟩ := id hG
  refine lv_aload_n hx hb dL_law_282 rfl (lv_at hl 1 rfl) ?_
  refine lv_aload_n hx hb dL_law_283 rfl (lv_at hl 0 rfl) ?_
  refine lv_iload_n hx hb dL_law_284 rfl (lv_at hl 3 rfl) ?_
  refine lv_iconst (v := (1 : Int32)) hx hb dL_law_285 (by decide) ?_
  refine lv_iadd hx hb dL_law_286 ?_
  refine va_sld hx hb hX hbl hbA hS (lw_in hn hL (by decide)) dL_law_287 ?_
  refine lw_callx (va_runV (As := [.int (xs ((nI n) + (1 : Int32)).toNatClampNeg)]) (rest := []) ⟨hx, hb, hml, hown, htb⟩ (ct_x_run l dC dI ax u (xs ((nI n) + (1 : Int32)).toNatClampNeg)) (cwV 1 htb gw_L_41 rfl rfl rfl (by decide +kernel) ⟨(by show 6 + 1 ≤ 2048; omega), (by show 8 + (3 + 11) + 131 ≤ 84000; omega)⟩) (xu_preW hKx hPx hdx) rfl rfl hl.1 rfl (lv_room (Nat.le_of_ble_eq_true rfl)) dL_law_288 lw_room0) hS hAx hPm hdis (fun H locs hPx hPm hS => ?_)
  refine lv_aload_n hx hb dL_law_291 rfl (lv_at hl 2 rfl) ?_
  refine lv_aload_n hx hb dL_law_292 rfl (lv_at hl 0 rfl) ?_
  refine lv_iload_n hx hb dL_law_293 rfl (lv_at hl 3 rfl) ?_
  refine lv_iconst (v := (1 : Int32)) hx hb dL_law_294 (by decide) ?_
  refine lv_iadd hx hb dL_law_295 ?_
  refine va_sld hx hb hX hbl hbA hS (lw_in hn hL (by decide)) dL_law_296 ?_
  refine lw_callm (va_runV (As := [.int (xs ((nI n) + (1 : Int32)).toNatClampNeg)]) (rest := [.int (fx_x_run u (xs ((nI n) + (1 : Int32)).toNatClampNeg)).1]) ⟨hx, hb, hml, hown, htb⟩ (ct_m_run l dC dI am v (xs ((nI n) + (1 : Int32)).toNatClampNeg)) (cwV 1 htb gw_L_44 rfl rfl rfl (by decide +kernel) ⟨(by show 5 + 1 ≤ 2048; omega), (by show 8 + (3 + 11) + 124 ≤ 84000; omega)⟩) (mu_preW hKm hPm hdm) rfl rfl hl.1 rfl (lv_room (Nat.le_of_ble_eq_true rfl)) dL_law_297 lw_room0) hS hAm hPx hdis (fun H locs hPm hPx hS => ?_)
  refine lv_icmp_eq (tgt := 427) hx hb dL_law_300 (by decide) (fun _ => ?_) (fun c9 => absurd (r_run hRel (xs ((nI n) + (1 : Int32)).toNatClampNeg)).1 c9)
  exact kk (fx_x_run u (xs ((nI n) + (1 : Int32)).toNatClampNeg)).2 (fx_m_run v (xs ((nI n) + (1 : Int32)).toNatClampNeg)).2 H locs (r_run hRel (xs ((nI n) + (1 : Int32)).toNatClampNeg)).2 hPx hPm hS
set_option maxHeartbeats 4000000 in
set_option maxRecDepth 100000 in
theorem law_case7 {p : Program} {e : Env} {s : State} {m : MethodId} {below : List Frame} {meth : Method} {c : Code} (l : Launch) {b L : Nat} {xs : Nat → Int32} (hL : L ≤ 3584) (C0 : lw_At p s m meth c b L xs) {dC : Nat → ClassId} {dI : Nat → Nat → Nat} {ax am : XA} (hG : lw_G s ax am) (hKx : va_K (dC, dI) vwCl (xu_t ax) s) (hKm : va_K (dC, dI) vwCl (xu_t am) s) {n : Nat} (hn : n + 7 ≤ L) {u v : XS} (hRel : Rel u v) {H : Heap} {locs : List Loc} (hPx : va_P (dC, dI) vwCl (xu_w ax u) H) (hPm : va_P (dC, dI) vwCl (mu_w am v) H) (hS : va_S (fun q : Nat => s.heap.size ≤ q) s.heap H locs) {ls : Array Slot} (hl : lv_has ls 4 [(0, .ref b), (1, .ref ax.1), (2, .ref am.1), (3, .int (nI n))]) (kk : ∀ (u1 v1 : XS) (H1 : Heap) (locs1 : List Loc), Rel u1 v1 → va_P (dC, dI) vwCl (xu_w ax u1) H1 → va_P (dC, dI) vwCl (mu_w am v1) H1 → va_S (fun q : Nat => s.heap.size ≤ q) s.heap H1 locs1 → W p l e room_1 s m #[Value.ref b] below meth c H1 locs1 600000 7302250 (lw_Z below #[Value.ref b] s) (F0 m 427 ls [])) : W p l e room_1 s m #[Value.ref b] below meth c H locs 600000 7302250 (lw_Z below #[Value.ref b] s) (F0 m 305 ls []) := by
  obtain ⟨hx, hb, hr, hml, hown, hts, hX, hbl, hlocks, hgv⟩ := id C0
  have htb : ∀ w ∈ lw_g, w.before #[Value.ref b] s = true := fun w h => hts w (lw_gin w h)
  have hbA : ¬ (fun q : Nat => s.heap.size ≤ q) b := Nat.not_le.mpr hbl
  obtain ⟨hdx, hdm, hAx, hAm, hdis⟩ := id hG
  refine lv_aload_n hx hb dL_law_305 rfl (lv_at hl 1 rfl) ?_
  refine lv_aload_n hx hb dL_law_306 rfl (lv_at hl 0 rfl) ?_
  refine lv_iload_n hx hb dL_law_307 rfl (lv_at hl 3 rfl) ?_
  refine lv_iconst (v := (1 : Int32)) hx hb dL_law_308 (by decide) ?_
  refine lv_iadd hx hb dL_law_309 ?_
  refine va_sld hx hb hX hbl hbA hS (lw_in hn hL (by decide)) dL_law_310 ?_
  refine lw_callx (va_runV (As := [.int (xs ((nI n) + (1 : Int32)).toNatClampNeg)]) (rest := []) ⟨hx, hb, hml, hown, htb⟩ (ct_x_doWord l dC dI ax u (xs ((nI n) + (1 : Int32)).toNatClampNeg)) (cwV 1 htb gw_L_45 rfl rfl rfl (by decide +kernel) ⟨(by show 5 + 1 ≤ 2048; omega), (by show 8 + (2 + 11) + 111 ≤ 84000; omega)⟩) (xu_preW hKx hPx hdx) rfl rfl hl.1 rfl (lv_room (Nat.le_of_ble_eq_true rfl)) dL_law_311 lw_room0) hS hAx hPm hdis (fun H locs hPx hPm hS => ?_)
  refine lv_aload_n hx hb dL_law_314 rfl (lv_at hl 2 rfl) ?_
  refine lv_aload_n hx hb dL_law_315 rfl (lv_at hl 0 rfl) ?_
  refine lv_iload_n hx hb dL_law_316 rfl (lv_at hl 3 rfl) ?_
  refine lv_iconst (v := (1 : Int32)) hx hb dL_law_317 (by decide) ?_
  refine lv_iadd hx hb dL_law_318 ?_
  refine va_sld hx hb hX hbl hbA hS (lw_in hn hL (by decide)) dL_law_319 ?_
  refine lw_callm (va_runV (As := [.int (xs ((nI n) + (1 : Int32)).toNatClampNeg)]) (rest := [.int (fx_x_doWord u (xs ((nI n) + (1 : Int32)).toNatClampNeg)).1]) ⟨hx, hb, hml, hown, htb⟩ (ct_m_doWord l dC dI am v (xs ((nI n) + (1 : Int32)).toNatClampNeg)) (cwV 1 htb gw_L_48 rfl rfl rfl (by decide +kernel) ⟨(by show 4 + 1 ≤ 2048; omega), (by show 8 + (2 + 11) + 104 ≤ 84000; omega)⟩) (mu_preW hKm hPm hdm) rfl rfl hl.1 rfl (lv_room (Nat.le_of_ble_eq_true rfl)) dL_law_320 lw_room0) hS hAm hPx hdis (fun H locs hPm hPx hS => ?_)
  refine lv_icmp_eq (tgt := 427) hx hb dL_law_323 (by decide) (fun _ => ?_) (fun c9 => absurd (r_doWord hRel (xs ((nI n) + (1 : Int32)).toNatClampNeg)).1 c9)
  exact kk (fx_x_doWord u (xs ((nI n) + (1 : Int32)).toNatClampNeg)).2 (fx_m_doWord v (xs ((nI n) + (1 : Int32)).toNatClampNeg)).2 H locs (r_doWord hRel (xs ((nI n) + (1 : Int32)).toNatClampNeg)).2 hPx hPm hS
set_option maxHeartbeats 4000000 in
set_option maxRecDepth 100000 in
theorem law_case8 {p : Program} {e : Env} {s : State} {m : MethodId} {below : List Frame} {meth : Method} {c : Code} (l : Launch) {b L : Nat} {xs : Nat → Int32} (hL : L ≤ 3584) (C0 : lw_At p s m meth c b L xs) {dC : Nat → ClassId} {dI : Nat → Nat → Nat} {ax am : XA} (hG : lw_G s ax am) (hKx : va_K (dC, dI) vwCl (xu_t ax) s) (hKm : va_K (dC, dI) vwCl (xu_t am) s) {n : Nat} (hn : n + 7 ≤ L) {u v : XS} (hRel : Rel u v) {H : Heap} {locs : List Loc} (hPx : va_P (dC, dI) vwCl (xu_w ax u) H) (hPm : va_P (dC, dI) vwCl (mu_w am v) H) (hS : va_S (fun q : Nat => s.heap.size ≤ q) s.heap H locs) {ls : Array Slot} (hl : lv_has ls 4 [(0, .ref b), (1, .ref ax.1), (2, .ref am.1), (3, .int (nI n))]) (kk : ∀ (u1 v1 : XS) (H1 : Heap) (locs1 : List Loc), Rel u1 v1 → va_P (dC, dI) vwCl (xu_w ax u1) H1 → va_P (dC, dI) vwCl (mu_w am v1) H1 → va_S (fun q : Nat => s.heap.size ≤ q) s.heap H1 locs1 → W p l e room_1 s m #[Value.ref b] below meth c H1 locs1 600000 7302250 (lw_Z below #[Value.ref b] s) (F0 m 427 ls [])) : W p l e room_1 s m #[Value.ref b] below meth c H locs 600000 7302250 (lw_Z below #[Value.ref b] s) (F0 m 328 ls []) := by
  obtain ⟨hx, hb, hr, hml, hown, hts, hX, hbl, hlocks, hgv⟩ := id C0
  have htb : ∀ w ∈ lw_g, w.before #[Value.ref b] s = true := fun w h => hts w (lw_gin w h)
  have hbA : ¬ (fun q : Nat => s.heap.size ≤ q) b := Nat.not_le.mpr hbl
  obtain ⟨hdx, hdm, hAx, hAm, hdis⟩ := id hG
  refine lv_aload_n hx hb dL_law_328 rfl (lv_at hl 1 rfl) ?_
  refine lv_aload_n hx hb dL_law_329 rfl (lv_at hl 0 rfl) ?_
  refine lv_iload_n hx hb dL_law_330 rfl (lv_at hl 3 rfl) ?_
  refine lv_iconst (v := (1 : Int32)) hx hb dL_law_331 (by decide) ?_
  refine lv_iadd hx hb dL_law_332 ?_
  refine va_sld hx hb hX hbl hbA hS (lw_in hn hL (by decide)) dL_law_333 ?_
  refine vp_callSi (W.runV (As := [.int (xs ((nI n) + (1 : Int32)).toNatClampNeg)]) (rest := []) ⟨hx, hb, hml, hown, htb⟩ (ct_x_told l dC dI ax u (xs ((nI n) + (1 : Int32)).toNatClampNeg)) (cwV 1 htb gw_L_49 rfl rfl rfl (by decide +kernel) ⟨(by show 0 + 1 ≤ 2048; omega), (by show 8 + (2 + 11) + 0 ≤ 84000; omega)⟩) (xu_preR hKx hPx) rfl rfl hl.1 rfl (lv_room (Nat.le_of_ble_eq_true rfl)) dL_law_334 lw_room0) (fun r9 e9 => ?_)
  subst e9
  refine lv_aload_n hx hb dL_law_337 rfl (lv_at hl 2 rfl) ?_
  refine lv_aload_n hx hb dL_law_338 rfl (lv_at hl 0 rfl) ?_
  refine lv_iload_n hx hb dL_law_339 rfl (lv_at hl 3 rfl) ?_
  refine lv_iconst (v := (1 : Int32)) hx hb dL_law_340 (by decide) ?_
  refine lv_iadd hx hb dL_law_341 ?_
  refine va_sld hx hb hX hbl hbA hS (lw_in hn hL (by decide)) dL_law_342 ?_
  refine vp_callSi (W.runV (As := [.int (xs ((nI n) + (1 : Int32)).toNatClampNeg)]) (rest := [.int (fx_x_told u (xs ((nI n) + (1 : Int32)).toNatClampNeg))]) ⟨hx, hb, hml, hown, htb⟩ (ct_m_told l dC dI am v (xs ((nI n) + (1 : Int32)).toNatClampNeg)) (cwV 1 htb gw_L_52 rfl rfl rfl (by decide +kernel) ⟨(by show 0 + 1 ≤ 2048; omega), (by show 8 + (2 + 11) + 0 ≤ 84000; omega)⟩) (mu_preR hKm hPm) rfl rfl hl.1 rfl (lv_room (Nat.le_of_ble_eq_true rfl)) dL_law_343 lw_room0) (fun r9 e9 => ?_)
  subst e9
  refine lv_icmp_eq (tgt := 427) hx hb dL_law_346 (by decide) (fun _ => ?_) (fun c9 => absurd (r_told hRel (xs ((nI n) + (1 : Int32)).toNatClampNeg)) c9)
  exact kk u v H locs hRel hPx hPm hS
set_option maxHeartbeats 4000000 in
set_option maxRecDepth 100000 in
theorem law_case9 {p : Program} {e : Env} {s : State} {m : MethodId} {below : List Frame} {meth : Method} {c : Code} (l : Launch) {b L : Nat} {xs : Nat → Int32} (hL : L ≤ 3584) (C0 : lw_At p s m meth c b L xs) {dC : Nat → ClassId} {dI : Nat → Nat → Nat} {ax am : XA} (hG : lw_G s ax am) (hKx : va_K (dC, dI) vwCl (xu_t ax) s) (hKm : va_K (dC, dI) vwCl (xu_t am) s) {n : Nat} (hn : n + 7 ≤ L) {u v : XS} (hRel : Rel u v) {H : Heap} {locs : List Loc} (hPx : va_P (dC, dI) vwCl (xu_w ax u) H) (hPm : va_P (dC, dI) vwCl (mu_w am v) H) (hS : va_S (fun q : Nat => s.heap.size ≤ q) s.heap H locs) {ls : Array Slot} (hl : lv_has ls 4 [(0, .ref b), (1, .ref ax.1), (2, .ref am.1), (3, .int (nI n))]) (kk : ∀ (u1 v1 : XS) (H1 : Heap) (locs1 : List Loc), Rel u1 v1 → va_P (dC, dI) vwCl (xu_w ax u1) H1 → va_P (dC, dI) vwCl (mu_w am v1) H1 → va_S (fun q : Nat => s.heap.size ≤ q) s.heap H1 locs1 → W p l e room_1 s m #[Value.ref b] below meth c H1 locs1 600000 7302250 (lw_Z below #[Value.ref b] s) (F0 m 427 ls [])) : W p l e room_1 s m #[Value.ref b] below meth c H locs 600000 7302250 (lw_Z below #[Value.ref b] s) (F0 m 351 ls []) := by
  obtain ⟨hx, hb, hr, hml, hown, hts, hX, hbl, hlocks, hgv⟩ := id C0
  have htb : ∀ w ∈ lw_g, w.before #[Value.ref b] s = true := fun w h => hts w (lw_gin w h)
  have hbA : ¬ (fun q : Nat => s.heap.size ≤ q) b := Nat.not_le.mpr hbl
  obtain ⟨hdx, hdm, hAx, hAm, hdis⟩ := id hG
  refine lv_aload_n hx hb dL_law_351 rfl (lv_at hl 1 rfl) ?_
  refine lv_aload_n hx hb dL_law_352 rfl (lv_at hl 0 rfl) ?_
  refine lv_iload_n hx hb dL_law_353 rfl (lv_at hl 3 rfl) ?_
  refine lv_iconst (v := (1 : Int32)) hx hb dL_law_354 (by decide) ?_
  refine lv_iadd hx hb dL_law_355 ?_
  refine va_sld hx hb hX hbl hbA hS (lw_in hn hL (by decide)) dL_law_356 ?_
  refine lv_aload_n hx hb dL_law_357 rfl (lv_at hl 0 rfl) ?_
  refine lv_iload_n hx hb dL_law_358 rfl (lv_at hl 3 rfl) ?_
  refine lv_iconst (v := (2 : Int32)) hx hb dL_law_359 (by decide) ?_
  refine lv_iadd hx hb dL_law_360 ?_
  refine va_sld hx hb hX hbl hbA hS (lw_in hn hL (by decide)) dL_law_361 ?_
  refine vp_callSi (W.runV (As := [.int (xs ((nI n) + (1 : Int32)).toNatClampNeg), .int (xs ((nI n) + (2 : Int32)).toNatClampNeg)]) (rest := []) ⟨hx, hb, hml, hown, htb⟩ (ct_x_field l dC dI ax u (xs ((nI n) + (1 : Int32)).toNatClampNeg) (xs ((nI n) + (2 : Int32)).toNatClampNeg)) (cwV 2 htb gw_L_53 rfl rfl rfl (by decide +kernel) ⟨(by show 2 + 1 ≤ 2048; omega), (by show 8 + (3 + 11) + 42 ≤ 84000; omega)⟩) (xu_preR hKx hPx) rfl rfl hl.1 rfl (lv_room (Nat.le_of_ble_eq_true rfl)) dL_law_362 lw_room0) (fun r9 e9 => ?_)
  subst e9
  refine lv_aload_n hx hb dL_law_365 rfl (lv_at hl 2 rfl) ?_
  refine lv_aload_n hx hb dL_law_366 rfl (lv_at hl 0 rfl) ?_
  refine lv_iload_n hx hb dL_law_367 rfl (lv_at hl 3 rfl) ?_
  refine lv_iconst (v := (1 : Int32)) hx hb dL_law_368 (by decide) ?_
  refine lv_iadd hx hb dL_law_369 ?_
  refine va_sld hx hb hX hbl hbA hS (lw_in hn hL (by decide)) dL_law_370 ?_
  refine lv_aload_n hx hb dL_law_371 rfl (lv_at hl 0 rfl) ?_
  refine lv_iload_n hx hb dL_law_372 rfl (lv_at hl 3 rfl) ?_
  refine lv_iconst (v := (2 : Int32)) hx hb dL_law_373 (by decide) ?_
  refine lv_iadd hx hb dL_law_374 ?_
  refine va_sld hx hb hX hbl hbA hS (lw_in hn hL (by decide)) dL_law_375 ?_
  refine vp_callSi (W.runV (As := [.int (xs ((nI n) + (1 : Int32)).toNatClampNeg), .int (xs ((nI n) + (2 : Int32)).toNatClampNeg)]) (rest := [.int (fx_x_field u (xs ((nI n) + (1 : Int32)).toNatClampNeg) (xs ((nI n) + (2 : Int32)).toNatClampNeg))]) ⟨hx, hb, hml, hown, htb⟩ (ct_m_field l dC dI am v (xs ((nI n) + (1 : Int32)).toNatClampNeg) (xs ((nI n) + (2 : Int32)).toNatClampNeg)) (cwV 2 htb gw_L_56 rfl rfl rfl (by decide +kernel) ⟨(by show 3 + 1 ≤ 2048; omega), (by show 8 + (3 + 11) + 72 ≤ 84000; omega)⟩) (mu_preR hKm hPm) rfl rfl hl.1 rfl (lv_room (Nat.le_of_ble_eq_true rfl)) dL_law_376 lw_room0) (fun r9 e9 => ?_)
  subst e9
  refine lv_icmp_eq (tgt := 427) hx hb dL_law_379 (by decide) (fun _ => ?_) (fun c9 => absurd (r_field u v (xs ((nI n) + (1 : Int32)).toNatClampNeg) (xs ((nI n) + (2 : Int32)).toNatClampNeg)) c9)
  exact kk u v H locs hRel hPx hPm hS
set_option maxHeartbeats 4000000 in
set_option maxRecDepth 100000 in
theorem law_case10 {p : Program} {e : Env} {s : State} {m : MethodId} {below : List Frame} {meth : Method} {c : Code} (l : Launch) {b L : Nat} {xs : Nat → Int32} (hL : L ≤ 3584) (C0 : lw_At p s m meth c b L xs) {dC : Nat → ClassId} {dI : Nat → Nat → Nat} {ax am : XA} (hG : lw_G s ax am) (hKx : va_K (dC, dI) vwCl (xu_t ax) s) (hKm : va_K (dC, dI) vwCl (xu_t am) s) {n : Nat} (hn : n + 7 ≤ L) {u v : XS} (hRel : Rel u v) {H : Heap} {locs : List Loc} (hPx : va_P (dC, dI) vwCl (xu_w ax u) H) (hPm : va_P (dC, dI) vwCl (mu_w am v) H) (hS : va_S (fun q : Nat => s.heap.size ≤ q) s.heap H locs) {ls : Array Slot} (hl : lv_has ls 4 [(0, .ref b), (1, .ref ax.1), (2, .ref am.1), (3, .int (nI n))]) (kk : ∀ (u1 v1 : XS) (H1 : Heap) (locs1 : List Loc), Rel u1 v1 → va_P (dC, dI) vwCl (xu_w ax u1) H1 → va_P (dC, dI) vwCl (mu_w am v1) H1 → va_S (fun q : Nat => s.heap.size ≤ q) s.heap H1 locs1 → W p l e room_1 s m #[Value.ref b] below meth c H1 locs1 600000 7302250 (lw_Z below #[Value.ref b] s) (F0 m 427 ls [])) : W p l e room_1 s m #[Value.ref b] below meth c H locs 600000 7302250 (lw_Z below #[Value.ref b] s) (F0 m 384 ls []) := by
  obtain ⟨hx, hb, hr, hml, hown, hts, hX, hbl, hlocks, hgv⟩ := id C0
  have htb : ∀ w ∈ lw_g, w.before #[Value.ref b] s = true := fun w h => hts w (lw_gin w h)
  have hbA : ¬ (fun q : Nat => s.heap.size ≤ q) b := Nat.not_le.mpr hbl
  obtain ⟨hdx, hdm, hAx, hAm, hdis⟩ := id hG
  refine lv_aload_n hx hb dL_law_384 rfl (lv_at hl 1 rfl) ?_
  refine lv_aload_n hx hb dL_law_385 rfl (lv_at hl 0 rfl) ?_
  refine lv_iload_n hx hb dL_law_386 rfl (lv_at hl 3 rfl) ?_
  refine lv_iconst (v := (1 : Int32)) hx hb dL_law_387 (by decide) ?_
  refine lv_iadd hx hb dL_law_388 ?_
  refine va_sld hx hb hX hbl hbA hS (lw_in hn hL (by decide)) dL_law_389 ?_
  refine lv_aload_n hx hb dL_law_390 rfl (lv_at hl 0 rfl) ?_
  refine lv_iload_n hx hb dL_law_391 rfl (lv_at hl 3 rfl) ?_
  refine lv_iconst (v := (2 : Int32)) hx hb dL_law_392 (by decide) ?_
  refine lv_iadd hx hb dL_law_393 ?_
  refine va_sld hx hb hX hbl hbA hS (lw_in hn hL (by decide)) dL_law_394 ?_
  refine lv_aload_n hx hb dL_law_395 rfl (lv_at hl 0 rfl) ?_
  refine lv_iload_n hx hb dL_law_396 rfl (lv_at hl 3 rfl) ?_
  refine lv_iconst (v := (3 : Int32)) hx hb dL_law_397 (by decide) ?_
  refine lv_iadd hx hb dL_law_398 ?_
  refine va_sld hx hb hX hbl hbA hS (lw_in hn hL (by decide)) dL_law_399 ?_
  refine vp_callSi (W.runV (As := [.int (xs ((nI n) + (1 : Int32)).toNatClampNeg), .int (xs ((nI n) + (2 : Int32)).toNatClampNeg), .int (xs ((nI n) + (3 : Int32)).toNatClampNeg)]) (rest := []) ⟨hx, hb, hml, hown, htb⟩ (ct_x_reckon l dC dI ax u (xs ((nI n) + (1 : Int32)).toNatClampNeg) (xs ((nI n) + (2 : Int32)).toNatClampNeg) (xs ((nI n) + (3 : Int32)).toNatClampNeg)) (cwV 3 htb gw_L_57 rfl rfl rfl (by decide +kernel) ⟨(by show 4 + 1 ≤ 2048; omega), (by show 8 + (4 + 11) + 90 ≤ 84000; omega)⟩) (xu_preR hKx hPx) rfl rfl hl.1 rfl (lv_room (Nat.le_of_ble_eq_true rfl)) dL_law_400 lw_room0) (fun r9 e9 => ?_)
  subst e9
  refine lv_aload_n hx hb dL_law_403 rfl (lv_at hl 2 rfl) ?_
  refine lv_aload_n hx hb dL_law_404 rfl (lv_at hl 0 rfl) ?_
  refine lv_iload_n hx hb dL_law_405 rfl (lv_at hl 3 rfl) ?_
  refine lv_iconst (v := (1 : Int32)) hx hb dL_law_406 (by decide) ?_
  refine lv_iadd hx hb dL_law_407 ?_
  refine va_sld hx hb hX hbl hbA hS (lw_in hn hL (by decide)) dL_law_408 ?_
  refine lv_aload_n hx hb dL_law_409 rfl (lv_at hl 0 rfl) ?_
  refine lv_iload_n hx hb dL_law_410 rfl (lv_at hl 3 rfl) ?_
  refine lv_iconst (v := (2 : Int32)) hx hb dL_law_411 (by decide) ?_
  refine lv_iadd hx hb dL_law_412 ?_
  refine va_sld hx hb hX hbl hbA hS (lw_in hn hL (by decide)) dL_law_413 ?_
  refine lv_aload_n hx hb dL_law_414 rfl (lv_at hl 0 rfl) ?_
  refine lv_iload_n hx hb dL_law_415 rfl (lv_at hl 3 rfl) ?_
  refine lv_iconst (v := (3 : Int32)) hx hb dL_law_416 (by decide) ?_
  refine lv_iadd hx hb dL_law_417 ?_
  refine va_sld hx hb hX hbl hbA hS (lw_in hn hL (by decide)) dL_law_418 ?_
  refine vp_callSi (W.runV (As := [.int (xs ((nI n) + (1 : Int32)).toNatClampNeg), .int (xs ((nI n) + (2 : Int32)).toNatClampNeg), .int (xs ((nI n) + (3 : Int32)).toNatClampNeg)]) (rest := [.int (fx_x_reckon u (xs ((nI n) + (1 : Int32)).toNatClampNeg) (xs ((nI n) + (2 : Int32)).toNatClampNeg) (xs ((nI n) + (3 : Int32)).toNatClampNeg))]) ⟨hx, hb, hml, hown, htb⟩ (ct_m_reckon l dC dI am v (xs ((nI n) + (1 : Int32)).toNatClampNeg) (xs ((nI n) + (2 : Int32)).toNatClampNeg) (xs ((nI n) + (3 : Int32)).toNatClampNeg)) (cwV 3 htb gw_L_61 rfl rfl rfl (by decide +kernel) ⟨(by show 3 + 1 ≤ 2048; omega), (by show 8 + (4 + 11) + 81 ≤ 84000; omega)⟩) (mu_preR hKm hPm) rfl rfl hl.1 rfl (lv_room (Nat.le_of_ble_eq_true rfl)) dL_law_419 lw_room0) (fun r9 e9 => ?_)
  subst e9
  refine lv_icmp_eq (tgt := 427) hx hb dL_law_422 (by decide) (fun _ => ?_) (fun c9 => absurd (r_reckon u v (xs ((nI n) + (1 : Int32)).toNatClampNeg) (xs ((nI n) + (2 : Int32)).toNatClampNeg) (xs ((nI n) + (3 : Int32)).toNatClampNeg)) c9)
  exact kk u v H locs hRel hPx hPm hS
