theorem lw_geo {s : State} {ax am : XA} (hD : va_D (fun q : Nat => s.heap.size ≤ q) (xu_w ax xu_0 ++ mu_w am xu_0)) : lw_G s ax am := by
  have d : ∀ (i j : Nat) (p q : Nat × va_E), (xu_w ax xu_0 ++ mu_w am xu_0)[i]? = some p → (xu_w ax xu_0 ++ mu_w am xu_0)[j]? = some q → p.1 = q.1 → i = j := hD.1
  refine ⟨⟨fun e => ?_, fun e => ?_, fun e => ?_⟩, ⟨fun e => ?_, fun e => ?_, fun e => ?_⟩, fun q h => ?_, fun q h => ?_, fun q h1 h2 => ?_⟩
  · exact absurd (d 0 1 _ _ rfl rfl e) (by decide)
  · exact absurd (d 0 2 _ _ rfl rfl e) (by decide)
  · exact absurd (d 1 2 _ _ rfl rfl e) (by decide)
  · exact absurd (d 3 4 _ _ rfl rfl e) (by decide)
  · exact absurd (d 3 5 _ _ rfl rfl e) (by decide)
  · exact absurd (d 4 5 _ _ rfl rfl e) (by decide)
  · rcases h with rfl | rfl | rfl
    · exact hD.2 0 _ rfl
    · exact hD.2 1 _ rfl
    · exact hD.2 2 _ rfl
  · rcases h with rfl | rfl | rfl
    · exact hD.2 3 _ rfl
    · exact hD.2 4 _ rfl
    · exact hD.2 5 _ rfl
  · rcases h1 with rfl | rfl | rfl
    · rcases h2 with h2 | h2 | h2
      · exact absurd (d 0 3 _ _ rfl rfl h2) (by decide)
      · exact absurd (d 0 4 _ _ rfl rfl h2) (by decide)
      · exact absurd (d 0 5 _ _ rfl rfl h2) (by decide)
    · rcases h2 with h2 | h2 | h2
      · exact absurd (d 1 3 _ _ rfl rfl h2) (by decide)
      · exact absurd (d 1 4 _ _ rfl rfl h2) (by decide)
      · exact absurd (d 1 5 _ _ rfl rfl h2) (by decide)
    · rcases h2 with h2 | h2 | h2
      · exact absurd (d 2 3 _ _ rfl rfl h2) (by decide)
      · exact absurd (d 2 4 _ _ rfl rfl h2) (by decide)
      · exact absurd (d 2 5 _ _ rfl rfl h2) (by decide)
set_option maxHeartbeats 4000000 in
set_option maxRecDepth 100000 in
theorem whole_start {p : Program} {e : Env} {s : State} {m : MethodId} {below : List Frame} {meth : Method} {c : Code} (l : Launch) {b L : Nat} {xs : Nat → Int32} (hL : L ≤ 3584) (C0 : lw_At p s m meth c b L xs) : W p l e room_1 s m #[Value.ref b] below meth c s.heap [] 0 0 (lw_Z below #[Value.ref b] s) (entryFrame m ([Value.ref b] : List Value).toArray 4) := by
  obtain ⟨hx, hb, hr, hml, hown, hts, hX, hbl, hlocks, hgv⟩ := id C0
  have htb : ∀ w ∈ lw_g, w.before #[Value.ref b] s = true := fun w h => hts w (lw_gin w h)
  have hA : ∀ q : Nat, s.heap.size ≤ q → (fun q : Nat => s.heap.size ≤ q) q := fun _ h => h
  obtain ⟨c0, iS0, hKn0⟩ := u_known (C := RX0) (T := TX0) (N := 6) (n := 6) htb inX0 (hts _ iw_ins_X0)
  obtain ⟨c1, iS1, hKn1⟩ := u_known (C := RX1) (T := TX1) (N := 7) (n := 7) htb inX1 (hts _ iw_ins_X1)
  obtain ⟨dC, dI, hKc⟩ : ∃ (dC : Nat → ClassId) (dI : Nat → Nat → Nat), ∀ (k : Nat) (q : vw_C), vwCl[k]? = some q → u_Kn s q.1 q.2.1 q.2.2 (dC k) (dI k) := by
    refine ⟨fun k => if k = 0 then c0 else c1, fun k => if k = 0 then iS0 else iS1, ?_⟩
    intro k q hq
    match k, hq with
    | 0, hq => cases hq; exact hKn0
    | 1, hq => cases hq; exact hKn1
    | k + 2, hq => simp [vwCl] at hq
  have hS : va_S (fun q : Nat => s.heap.size ≤ q) s.heap s.heap [] := va_S.rf
  have hK : va_K (dC, dI) vwCl [] s := ⟨hKc, fun k q h => by simp at h⟩
  have hP : va_P (dC, dI) vwCl [] s.heap := fun k q h => by simp at h
  have hD : va_D (fun q : Nat => s.heap.size ≤ q) [] := ⟨fun i j p q h => by simp at h, fun k q h => by simp at h⟩
  have hl := lv_entry ([.ref b]) (n := 4) (Nat.le_of_ble_eq_true rfl)
  rw [lg_entry_eq]
  generalize (lg_sl ([.ref b]) ++ List.replicate (4 - (lg_sl ([.ref b])).length) Slot.unset).toArray = ls at hl ⊢
  have hl : lv_has ls 4 [(0, .ref b)] := hl
  refine va_new (ci := 0) (fs := [.null, .null, .int 0, .int 0, .int 0, .int 0]) (C := RX0) (T := TX0) (N := 6) hx hb htb inX0 tyX0 tyX0_ok hown (hts _ iw_n_L_7) (hts _ iw_ins_X0) (htb _ iw_ini_X0) hK hP hD hS hA rfl (fun j hj => by rcases (show j = 0 ∨ j = 1 ∨ j = 2 ∨ j = 3 ∨ j = 4 ∨ j = 5 by omega) with rfl | rfl | rfl | rfl | rfl | rfl <;> rfl) (by show 0 + 1 ≤ 600000; omega) (by show 0 + 6 ≤ 7302250; omega) dL_law_0 (fun q0 H hP hD hS => ?_)
  have hP : va_P (dC, dI) vwCl [(q0, .inr (0, [.null, .null, .int 0, .int 0, .int 0, .int 0]))] H := hP
  have hD : va_D (fun q : Nat => s.heap.size ≤ q) [(q0, .inr (0, [.null, .null, .int 0, .int 0, .int 0, .int 0]))] := hD
  refine W.widen (k := 1) (n := 6) (by omega) (by omega) ?_
  refine lv_dup hx hb dL_law_3 rfl ?_
  have hKc0 := hK.sub (tys' := []) [] rfl
  have hFc := va_free (wc := [(q0, .inr (0, [.null, .null, .int 0, .int 0, .int 0, .int 0]))]) hD hS hA [0] rfl
  refine va_callv (va_runI (As := []) (rest := [.ref q0]) ⟨hx, hb, hml, hown, htb⟩ (ct_x_init l dC dI q0 H.size) (cwI 0 htb gw_L_9 rfl rfl rfl (htb _ iw_ini_X0) (htb _ iw_m_L_9) (htb _ iw_i_yX0_init) rfl (by decide +kernel) ⟨(by show 1 + 1 ≤ 2048; omega), (by show 8 + (1 + 11) + 12 ≤ 84000; omega)⟩) ⟨fun a U g mk q => by obtain ⟨q0, q1, qP, qK, qD⟩ := q; exact ⟨q0, q1, qP, va_K.moved (u := U) (U := U.calling g mk a) (Vm.Alike.refl U.vm) qK, qD⟩, fun U hU hW => ⟨rfl, by rw [hU], by rw [hU]; exact hP, va_K.moved hW.alike hKc0, hD.weaken (fun _ _ _ _ => trivial)⟩⟩ rfl rfl hl.1 rfl (lv_room (Nat.le_of_ble_eq_true rfl)) dL_law_4 ⟨(by show 1 + 2 ≤ 600000; omega), (by show 6 + 1056 ≤ 7302250; omega)⟩) hS (fun q _ h => hFc q h) hFc (fun ax t H1 locs ht hvm hw hB hz1 hk1 hS => ?_)
  obtain ⟨hP1, hK1, hD1⟩ := hB
  rw [ht] at hP1
  have hKx := va_K.moved hvm.symm hK1
  have hDx : va_D (fun q : Nat => s.heap.size ≤ q) (xu_w ax xu_0) := hD1.weaken (fun k q _ h => hFc q.1 h)
  subst hw
  generalize H1 = H at hP1 hS ⊢
  have hP : va_P (dC, dI) vwCl (xu_w ax xu_0) H := hP1
  refine W.widen (k := 3) (n := 1062) (by omega) (by omega) ?_
  refine lv_astore_n (lv' := [(1, .ref ax.1), (0, .ref b)]) hx hb dL_law_7 rfl hl (by decide) rfl (fun ls hl => ?_)
  refine va_new (ci := 1) (fs := [.null, .null, .int 0, .int 0, .int 0, .int 0, .int 0]) (C := RX1) (T := TX1) (N := 7) hx hb htb inX1 tyX1 tyX1_ok hown (hts _ iw_n_L_10) (hts _ iw_ins_X1) (htb _ iw_ini_X1) hKx hP hDx hS hA rfl (fun j hj => by rcases (show j = 0 ∨ j = 1 ∨ j = 2 ∨ j = 3 ∨ j = 4 ∨ j = 5 ∨ j = 6 by omega) with rfl | rfl | rfl | rfl | rfl | rfl | rfl <;> rfl) (by show 3 + 1 ≤ 600000; omega) (by show 1062 + 7 ≤ 7302250; omega) dL_law_8 (fun q1 H hP hDy hS => ?_)
  refine W.widen (k := 4) (n := 1069) (by omega) (by omega) ?_
  refine lv_dup hx hb dL_law_11 rfl ?_
  have hPc := hP.sub (ws' := [(q1, .inr (1, [.null, .null, .int 0, .int 0, .int 0, .int 0, .int 0]))]) [3] rfl
  have hDc := hDy.sub (ws' := [(q1, .inr (1, [.null, .null, .int 0, .int 0, .int 0, .int 0, .int 0]))]) [3] (by decide) rfl
  have hKc1 := hKx.sub (tys' := []) [] rfl
  have hFc := va_free (wc := [(q1, .inr (1, [.null, .null, .int 0, .int 0, .int 0, .int 0, .int 0]))]) hDy hS hA [3] rfl
  refine va_callv (va_runI (As := []) (rest := [.ref q1]) ⟨hx, hb, hml, hown, htb⟩ (ct_m_init l dC dI q1 H.size) (cwI 0 htb gw_L_12 rfl rfl rfl (htb _ iw_ini_X1) (htb _ iw_m_L_12) (htb _ iw_i_yX1_init) rfl (by decide +kernel) ⟨(by show 1 + 1 ≤ 2048; omega), (by show 8 + (1 + 11) + 12 ≤ 84000; omega)⟩) ⟨fun a U g mk q => by obtain ⟨q0, q1, qP, qK, qD⟩ := q; exact ⟨q0, q1, qP, va_K.moved (u := U) (U := U.calling g mk a) (Vm.Alike.refl U.vm) qK, qD⟩, fun U hU hW => ⟨rfl, by rw [hU], by rw [hU]; exact hPc, va_K.moved hW.alike hKc1, hDc.weaken (fun _ _ _ _ => trivial)⟩⟩ rfl rfl hl.1 rfl (lv_room (Nat.le_of_ble_eq_true rfl)) dL_law_12 ⟨(by show 4 + 2 ≤ 600000; omega), (by show 1069 + 4128 ≤ 7302250; omega)⟩) hS (fun q _ h => hFc q h) hFc (fun am t H1 locs ht hvm hw hB hz1 hk1 hS => ?_)
  obtain ⟨hP1, hK1, hD1⟩ := hB
  rw [ht] at hP1
  have hKm := va_K.moved hvm.symm hK1
  obtain ⟨hPz, hDz⟩ := va_join (wr := xu_w ax xu_0) (w1 := mu_w am xu_0) hP hDy [3] [0, 1, 2] rfl rfl (by decide) (by decide) hk1 hFc hP1 hD1
  subst hw
  generalize H1 = H at hPz hS ⊢
  refine W.widen (k := 600000) (n := 7302250) (by omega) (by omega) ?_
  refine lv_astore_n (lv' := [(2, .ref am.1), (1, .ref ax.1), (0, .ref b)]) hx hb dL_law_15 rfl hl (by decide) rfl (fun ls hl => ?_)
  refine lv_iconst (v := (0 : Int32)) hx hb dL_law_16 (by decide) ?_
  refine lv_istore_n (lv' := [(3, .int (0 : Int32)), (2, .ref am.1), (1, .ref ax.1), (0, .ref b)]) hx hb dL_law_17 rfl hl (by decide) rfl (fun ls hl => ?_)
  exact law_loop l hL C0 (lw_geo hDz) hKx hKm (L + 1) 0 xu_0 xu_0 H locs ls (by omega) (by omega) r_init (hPz.sub [0, 1, 2] rfl) (hPz.sub [3, 4, 5] rfl) hS (lv_sub hl [3, 2, 1, 0] rfl)
