set_option maxHeartbeats 4000000 in
set_option maxRecDepth 100000 in
theorem t_RC_needCalendar (l : Launch) (hlt : l.stackTraces = false) (D : va_G) (k : Nat → ClassId) (h0 t0 sh al rd pa sp : Nat) (ln : Int) (cz : Int) (g_cz : rg cz) (hbc : cz < 0 ∨ 3 ≤ cz) : MetT l y_RC_needCalendar wd_RC_needCalendar rt_RC_needCalendar (va_Pc [.ref h0, .int (iI (cz))] (PTX D k [(h0, .inr (0, [.ref t0, .int (iI (ln)), .ref sh, .ref al, .ref rd, .ref pa, .ref sp]))])) xIO := by
  refine r_t hlt (by decide) rfl (Nat.le_of_ble_eq_true rfl) ?_
  intro p e s m args below meth c ls hx hb hml hown hts hpre hl htr hout hlocks
  obtain ⟨⟨hP, hK, hX⟩, hTX⟩ := hpre
  have hS : va_S nA s.heap s.heap [] := va_S.rf
  have hl : lv_has ls 2 [(0, .ref h0), (1, .int (iI (cz)))] := hl
  obtain ⟨cz_1, cz_2⟩ := g_cz
  refine lv_iload_n hx hb d_RC_needCalendar_0 rfl (lv_at hl 1 rfl) ?_
  refine z_if_lt (tgt := 9) hx hb d_RC_needCalendar_1 (by decide) ⟨by omega, by omega⟩ (fun h1 => ?_) (fun h1 => ?_)
  · obtain ⟨q9, hq9⟩ := hTX.s169
    exact th_new (own := R_RC) (X := xIO) (names := upX) (iN := 111) (iC := 115) (iS := 169) hx hb htr hown (by decide +kernel) (by decide +kernel) (own_IO_at hts hTX) (hts _ kn_IO) (hts _ km_IO) (hts _ ki_IO) hq9 hlocks (by rw [hml]; exact hl.1) hout (Nat.le_of_ble_eq_true rfl) (Nat.le_of_ble_eq_true rfl) (Nat.le_of_ble_eq_true rfl) (Nat.le_of_ble_eq_true rfl) d_RC_needCalendar_9 d_RC_needCalendar_12 d_RC_needCalendar_13 d_RC_needCalendar_15 d_RC_needCalendar_18
  · refine lv_iload_n hx hb d_RC_needCalendar_4 rfl (lv_at hl 1 rfl) ?_
    refine z_iconst hx hb d_RC_needCalendar_5 ?_
    refine z_icmp_lt (tgt := 19) hx hb d_RC_needCalendar_6 (by decide) ⟨by omega, by omega⟩ ⟨by omega, by omega⟩ (fun h6 => ?_) (fun h6 => ?_)
    · exact absurd hbc (by omega)
    · obtain ⟨q9, hq9⟩ := hTX.s169
      exact th_new (own := R_RC) (X := xIO) (names := upX) (iN := 111) (iC := 115) (iS := 169) hx hb htr hown (by decide +kernel) (by decide +kernel) (own_IO_at hts hTX) (hts _ kn_IO) (hts _ km_IO) (hts _ ki_IO) hq9 hlocks (by rw [hml]; exact hl.1) hout (Nat.le_of_ble_eq_true rfl) (Nat.le_of_ble_eq_true rfl) (Nat.le_of_ble_eq_true rfl) (Nat.le_of_ble_eq_true rfl) d_RC_needCalendar_9 d_RC_needCalendar_12 d_RC_needCalendar_13 d_RC_needCalendar_15 d_RC_needCalendar_18

set_option maxHeartbeats 4000000 in
set_option maxRecDepth 100000 in
theorem t_RC_needCell (l : Launch) (hlt : l.stackTraces = false) (D : va_G) (k : Nat → ClassId) (h0 t0 sh al rd pa sp : Nat) (ln : Int) (z : Int) (q : Int) (g_z : rg z) (g_q : rg q) (hbq : z < 0 ∨ 1461 ≤ z ∨ q < 0 ∨ 48 ≤ q) : MetT l y_RC_needCell wd_RC_needCell rt_RC_needCell (va_Pc [.ref h0, .int (iI (z)), .int (iI (q))] (PTX D k [(h0, .inr (0, [.ref t0, .int (iI (ln)), .ref sh, .ref al, .ref rd, .ref pa, .ref sp]))])) xIO := by
  refine r_t hlt (by decide) rfl (Nat.le_of_ble_eq_true rfl) ?_
  intro p e s m args below meth c ls hx hb hml hown hts hpre hl htr hout hlocks
  obtain ⟨⟨hP, hK, hX⟩, hTX⟩ := hpre
  have hS : va_S nA s.heap s.heap [] := va_S.rf
  have hl : lv_has ls 3 [(0, .ref h0), (1, .int (iI (z))), (2, .int (iI (q)))] := hl
  obtain ⟨z_1, z_2⟩ := g_z
  obtain ⟨q_1, q_2⟩ := g_q
  refine lv_iload_n hx hb d_RC_needCell_0 rfl (lv_at hl 1 rfl) ?_
  refine z_if_lt (tgt := 21) hx hb d_RC_needCell_1 (by decide) ⟨by omega, by omega⟩ (fun h1 => ?_) (fun h1 => ?_)
  · obtain ⟨q9, hq9⟩ := hTX.s171
    exact th_new (own := R_RC) (X := xIO) (names := upX) (iN := 111) (iC := 115) (iS := 171) hx hb htr hown (by decide +kernel) (by decide +kernel) (own_IO_at hts hTX) (hts _ kn_IO) (hts _ km_IO) (hts _ ki_IO) hq9 hlocks (by rw [hml]; exact hl.1) hout (Nat.le_of_ble_eq_true rfl) (Nat.le_of_ble_eq_true rfl) (Nat.le_of_ble_eq_true rfl) (Nat.le_of_ble_eq_true rfl) d_RC_needCell_21 d_RC_needCell_24 d_RC_needCell_25 d_RC_needCell_27 d_RC_needCell_30
  · refine lv_iload_n hx hb d_RC_needCell_4 rfl (lv_at hl 1 rfl) ?_
    refine z_sipush hx hb d_RC_needCell_5 (by decide) ?_
    refine z_icmp_ge (tgt := 21) hx hb d_RC_needCell_8 (by decide) ⟨by omega, by omega⟩ ⟨by omega, by omega⟩ (fun h8 => ?_) (fun h8 => ?_)
    · obtain ⟨q9, hq9⟩ := hTX.s171
      exact th_new (own := R_RC) (X := xIO) (names := upX) (iN := 111) (iC := 115) (iS := 171) hx hb htr hown (by decide +kernel) (by decide +kernel) (own_IO_at hts hTX) (hts _ kn_IO) (hts _ km_IO) (hts _ ki_IO) hq9 hlocks (by rw [hml]; exact hl.1) hout (Nat.le_of_ble_eq_true rfl) (Nat.le_of_ble_eq_true rfl) (Nat.le_of_ble_eq_true rfl) (Nat.le_of_ble_eq_true rfl) d_RC_needCell_21 d_RC_needCell_24 d_RC_needCell_25 d_RC_needCell_27 d_RC_needCell_30
    · refine lv_iload_n hx hb d_RC_needCell_11 rfl (lv_at hl 2 rfl) ?_
      refine z_if_lt (tgt := 21) hx hb d_RC_needCell_12 (by decide) ⟨by omega, by omega⟩ (fun h12 => ?_) (fun h12 => ?_)
      · obtain ⟨q9, hq9⟩ := hTX.s171
        exact th_new (own := R_RC) (X := xIO) (names := upX) (iN := 111) (iC := 115) (iS := 171) hx hb htr hown (by decide +kernel) (by decide +kernel) (own_IO_at hts hTX) (hts _ kn_IO) (hts _ km_IO) (hts _ ki_IO) hq9 hlocks (by rw [hml]; exact hl.1) hout (Nat.le_of_ble_eq_true rfl) (Nat.le_of_ble_eq_true rfl) (Nat.le_of_ble_eq_true rfl) (Nat.le_of_ble_eq_true rfl) d_RC_needCell_21 d_RC_needCell_24 d_RC_needCell_25 d_RC_needCell_27 d_RC_needCell_30
      · refine lv_iload_n hx hb d_RC_needCell_15 rfl (lv_at hl 2 rfl) ?_
        refine z_bipush hx hb d_RC_needCell_16 (by decide) ?_
        refine z_icmp_lt (tgt := 31) hx hb d_RC_needCell_18 (by decide) ⟨by omega, by omega⟩ ⟨by omega, by omega⟩ (fun h18 => ?_) (fun h18 => ?_)
        · exact absurd hbq (by omega)
        · obtain ⟨q9, hq9⟩ := hTX.s171
          exact th_new (own := R_RC) (X := xIO) (names := upX) (iN := 111) (iC := 115) (iS := 171) hx hb htr hown (by decide +kernel) (by decide +kernel) (own_IO_at hts hTX) (hts _ kn_IO) (hts _ km_IO) (hts _ ki_IO) hq9 hlocks (by rw [hml]; exact hl.1) hout (Nat.le_of_ble_eq_true rfl) (Nat.le_of_ble_eq_true rfl) (Nat.le_of_ble_eq_true rfl) (Nat.le_of_ble_eq_true rfl) d_RC_needCell_21 d_RC_needCell_24 d_RC_needCell_25 d_RC_needCell_27 d_RC_needCell_30

set_option maxHeartbeats 4000000 in
set_option maxRecDepth 100000 in
theorem t_RC_compiledPlan (l : Launch) (hlt : l.stackTraces = false) (D : va_G) (k : Nat → ClassId) (h0 t0 sh al rd pa sp u0 w0 : Nat) (ln : Int) (po : Nat → Nat) (cc : Nat) (hc : cc < 3) : MetT l y_RC_compiledPlan wd_RC_compiledPlan rt_RC_compiledPlan (va_Pc [.ref h0, .int (iI ((cc : Int)))] (PTX D k [(h0, .inr (0, [.ref t0, .int (iI (ln)), .ref sh, .ref al, .ref rd, .ref pa, .ref sp])), (pa, .inl (k 6, 3, .inr (.inr (.inr (.inr (q3 po)))))), (po cc, .inr (5, [.ref u0, .ref w0, .int (iI (0))]))])) xIS := by
  refine r_t hlt (by decide) rfl (Nat.le_of_ble_eq_true rfl) ?_
  intro p e s m args below meth c ls hx hb hml hown hts hpre hl htr hout hlocks
  obtain ⟨⟨hP, hK, hX⟩, hTX⟩ := hpre
  have hS : va_S nA s.heap s.heap [] := va_S.rf
  have hl : lv_has ls 2 [(0, .ref h0), (1, .int (iI ((cc : Int))))] := hl
  refine lv_aload_n hx hb d_RC_compiledPlan_0 rfl (lv_at hl 0 rfl) ?_
  refine va_get (D := D) (ci := 0) (v := .ref pa) (C := R_RC) (T := F_RC) (N := 7) hx hb hts in_RC hown hK hP 0 rfl rfl 5 (by decide) (hts _ k_242) (fun _ h9 => h9) rfl d_RC_compiledPlan_1 ?_
  refine lv_iload_n hx hb d_RC_compiledPlan_4 rfl (lv_at hl 1 rfl) ?_
  refine x_aald hx hb hK hP 1 6 rfl rfl rfl (cc) rfl hc (by decide) (v := po cc) (q3_at hc) d_RC_compiledPlan_5 ?_
  refine va_getN (D := D) (ci := 5) (v := .int (iI (0))) (C := R_PL) (T := F_PL) (N := 3) hx hb hts in_PL hown hK hP 2 rfl rfl 2 (by decide) (va_Nw.use rfl (hX.2 _ n_229)) (fun _ h9 => h9) rfl d_RC_compiledPlan_6 ?_
  refine z_if_ne (tgt := 22) hx hb d_RC_compiledPlan_9 (by decide) ⟨by omega, by omega⟩ (fun h9 => absurd h9 (by decide)) (fun h9 => ?_)
  obtain ⟨q9, hq9⟩ := hTX.s175
  exact th_new (own := R_RC) (X := xIS) (names := upX) (iN := 173) (iC := 177) (iS := 175) hx hb htr hown (by decide +kernel) (by decide +kernel) (own_IS_at hts hTX) (hts _ kn_IS) (hts _ km_IS) (hts _ ki_IS) hq9 hlocks (by rw [hml]; exact hl.1) hout (Nat.le_of_ble_eq_true rfl) (Nat.le_of_ble_eq_true rfl) (Nat.le_of_ble_eq_true rfl) (Nat.le_of_ble_eq_true rfl) d_RC_compiledPlan_12 d_RC_compiledPlan_15 d_RC_compiledPlan_16 d_RC_compiledPlan_18 d_RC_compiledPlan_21

set_option maxHeartbeats 4000000 in
set_option maxRecDepth 100000 in
theorem t_RC_planWithCell_c (l : Launch) (hlt : l.stackTraces = false) (D : va_G) (k : Nat → ClassId) (h0 t0 sh al rd pa sp : Nat) (ln : Int) (cz : Int) (z : Int) (q : Int) (g_cz : rg cz) (hbc : cz < 0 ∨ 3 ≤ cz) : MetT l y_RC_planWithCell wd_RC_planWithCell rt_RC_planWithCell (va_Pc [.ref h0, .int (iI (cz)), .int (iI (z)), .int (iI (q))] (PTX D k [(h0, .inr (0, [.ref t0, .int (iI (ln)), .ref sh, .ref al, .ref rd, .ref pa, .ref sp]))])) xIO := by
  refine r_t hlt (by decide) rfl (Nat.le_of_ble_eq_true rfl) ?_
  intro p e s m args below meth c ls hx hb hml hown hts hpre hl htr hout hlocks
  obtain ⟨⟨hP, hK, hX⟩, hTX⟩ := hpre
  have hS : va_S nA s.heap s.heap [] := va_S.rf
  have hl : lv_has ls 4 [(0, .ref h0), (1, .int (iI (cz))), (2, .int (iI (z))), (3, .int (iI (q)))] := hl
  obtain ⟨cz_1, cz_2⟩ := g_cz
  refine lv_aload_n hx hb d_RC_planWithCell_0 rfl (lv_at hl 0 rfl) ?_
  refine lv_iload_n hx hb d_RC_planWithCell_1 rfl (lv_at hl 1 rfl) ?_
  exact th_leave (th_runV (As := [.int (iI (cz))]) (rest := []) (b := h0) ⟨hx, hb, hml, hown, hts⟩ (t_RC_needCalendar l hlt D k (h0) (t0) (sh) (al) (rd) (pa) (sp) (ln) (cz) (⟨by omega, by omega⟩) (hbc)) ⟨callB_of 1 hts (good_RC_needCalendar) rfl rfl rfl (hts _ k_59) (hts _ k_330) (by decide +kernel) ⟨Nat.le_of_ble_eq_true rfl, Nat.le_of_ble_eq_true rfl⟩, (hts _ k_332), (hts _ k_0)⟩ ⟨fun a U g mk q => ⟨q.1, ⟨q.2.1.1, va_K.moved (u := U) (U := U.calling g mk a) (Vm.Alike.refl U.vm) q.2.1.2.1, q.2.1.2.2.calling⟩, q.2.2.calling⟩, (va_recv (q0 := 0) hK hP rfl rfl), fun U hU hW => ⟨rfl, ⟨by rw [hU]; exact hP, va_K.moved hW.alike hK, by rw [hU]; exact hX.warm hW⟩, by rw [hU]; exact hTX.warm hW⟩⟩ rfl rfl hl.1 rfl (lv_room (Nat.le_of_ble_eq_true rfl)) d_RC_planWithCell_2 ⟨Nat.le_of_ble_eq_true rfl, Nat.le_of_ble_eq_true rfl⟩) rfl rfl rfl hlocks hout

set_option maxHeartbeats 4000000 in
set_option maxRecDepth 100000 in
theorem t_RC_planWithCell_q (l : Launch) (hlt : l.stackTraces = false) (D : va_G) (k : Nat → ClassId) (h0 t0 sh al rd pa sp : Nat) (ln : Int) (cc : Nat) (z : Int) (q : Int) (hc : cc < 3) (g_z : rg z) (g_q : rg q) (hbq : z < 0 ∨ 1461 ≤ z ∨ q < 0 ∨ 48 ≤ q) : MetT l y_RC_planWithCell wd_RC_planWithCell rt_RC_planWithCell (va_Pc [.ref h0, .int (iI ((cc : Int))), .int (iI (z)), .int (iI (q))] (PTX D k [(h0, .inr (0, [.ref t0, .int (iI (ln)), .ref sh, .ref al, .ref rd, .ref pa, .ref sp]))])) xIO := by
  refine r_t hlt (by decide) rfl (Nat.le_of_ble_eq_true rfl) ?_
  intro p e s m args below meth c ls hx hb hml hown hts hpre hl htr hout hlocks
  obtain ⟨⟨hP, hK, hX⟩, hTX⟩ := hpre
  have hS : va_S nA s.heap s.heap [] := va_S.rf
  have hl : lv_has ls 4 [(0, .ref h0), (1, .int (iI ((cc : Int)))), (2, .int (iI (z))), (3, .int (iI (q)))] := hl
  obtain ⟨z_1, z_2⟩ := g_z
  obtain ⟨q_1, q_2⟩ := g_q
  refine lv_aload_n hx hb d_RC_planWithCell_0 rfl (lv_at hl 0 rfl) ?_
  refine lv_iload_n hx hb d_RC_planWithCell_1 rfl (lv_at hl 1 rfl) ?_
  refine rc_v (va_runV (As := [.int (iI ((cc : Int)))]) (rest := []) (b := h0) ⟨hx, hb, hml, hown, hts⟩ (c_RC_needCalendar l D k (h0) (t0) (sh) (al) (rd) (pa) (sp) (ln) ((cc : Int)) ((by omega))) ⟨callB_of 1 hts (good_RC_needCalendar) rfl rfl rfl (hts _ k_59) (hts _ k_330) (by decide +kernel) ⟨Nat.le_of_ble_eq_true rfl, Nat.le_of_ble_eq_true rfl⟩, (hts _ k_332), (hts _ k_0)⟩ ⟨fun a U g mk q => ⟨q.1, q.2.1, va_K.moved (u := U) (U := U.calling g mk a) (Vm.Alike.refl U.vm) q.2.2.1, q.2.2.2.calling⟩, (va_recv (q0 := 0) hK hP rfl rfl), fun U hU hW => ⟨rfl, by rw [hU]; exact hP, va_K.moved hW.alike hK, by rw [hU]; exact hX.warm hW⟩⟩ rfl rfl hl.1 rfl (lv_room (Nat.le_of_ble_eq_true rfl)) d_RC_planWithCell_2 ⟨Nat.le_of_ble_eq_true rfl, Nat.le_of_ble_eq_true rfl⟩) ?_
  refine lv_aload_n hx hb d_RC_planWithCell_5 rfl (lv_at hl 0 rfl) ?_
  refine lv_iload_n hx hb d_RC_planWithCell_6 rfl (lv_at hl 2 rfl) ?_
  refine lv_iload_n hx hb d_RC_planWithCell_7 rfl (lv_at hl 3 rfl) ?_
  exact th_leave (th_runV (As := [.int (iI (z)), .int (iI (q))]) (rest := []) (b := h0) ⟨hx, hb, hml, hown, hts⟩ (t_RC_needCell l hlt D k (h0) (t0) (sh) (al) (rd) (pa) (sp) (ln) (z) (q) (⟨by omega, by omega⟩) (⟨by omega, by omega⟩) (hbq)) ⟨callB_of 2 hts (good_RC_needCell) rfl rfl rfl (hts _ k_59) (hts _ k_573) (by decide +kernel) ⟨Nat.le_of_ble_eq_true rfl, Nat.le_of_ble_eq_true rfl⟩, (hts _ k_575), (hts _ k_23)⟩ ⟨fun a U g mk q => ⟨q.1, ⟨q.2.1.1, va_K.moved (u := U) (U := U.calling g mk a) (Vm.Alike.refl U.vm) q.2.1.2.1, q.2.1.2.2.calling⟩, q.2.2.calling⟩, (va_recv (q0 := 0) hK hP rfl rfl), fun U hU hW => ⟨rfl, ⟨by rw [hU]; exact hP, va_K.moved hW.alike hK, by rw [hU]; exact hX.warm hW⟩, by rw [hU]; exact hTX.warm hW⟩⟩ rfl rfl hl.1 rfl (lv_room (Nat.le_of_ble_eq_true rfl)) d_RC_planWithCell_8 ⟨Nat.le_of_ble_eq_true rfl, Nat.le_of_ble_eq_true rfl⟩) rfl rfl rfl hlocks hout

set_option maxHeartbeats 4000000 in
set_option maxRecDepth 100000 in
theorem t_RC_planWithCell_p (l : Launch) (hlt : l.stackTraces = false) (D : va_G) (k : Nat → ClassId) (h0 t0 sh al rd pa sp u0 w0 : Nat) (ln : Int) (po : Nat → Nat) (cc : Nat) (d : Nat) (q : Int) (hc : cc < 3) (hd : d < 1461) (hq : 0 ≤ q ∧ q < 48) : MetT l y_RC_planWithCell wd_RC_planWithCell rt_RC_planWithCell (va_Pc [.ref h0, .int (iI ((cc : Int))), .int (iI ((d : Int))), .int (iI (q))] (PTX D k [(h0, .inr (0, [.ref t0, .int (iI (ln)), .ref sh, .ref al, .ref rd, .ref pa, .ref sp])), (pa, .inl (k 6, 3, .inr (.inr (.inr (.inr (q3 po)))))), (po cc, .inr (5, [.ref u0, .ref w0, .int (iI (0))]))])) xIS := by
  refine r_t hlt (by decide) rfl (Nat.le_of_ble_eq_true rfl) ?_
  intro p e s m args below meth c ls hx hb hml hown hts hpre hl htr hout hlocks
  obtain ⟨⟨hP, hK, hX⟩, hTX⟩ := hpre
  have hS : va_S nA s.heap s.heap [] := va_S.rf
  have hl : lv_has ls 4 [(0, .ref h0), (1, .int (iI ((cc : Int)))), (2, .int (iI ((d : Int)))), (3, .int (iI (q)))] := hl
  refine lv_aload_n hx hb d_RC_planWithCell_0 rfl (lv_at hl 0 rfl) ?_
  refine lv_iload_n hx hb d_RC_planWithCell_1 rfl (lv_at hl 1 rfl) ?_
  refine rc_v (va_runV (As := [.int (iI ((cc : Int)))]) (rest := []) (b := h0) ⟨hx, hb, hml, hown, hts⟩ (c_RC_needCalendar l D k (h0) (t0) (sh) (al) (rd) (pa) (sp) (ln) ((cc : Int)) ((by omega))) ⟨callB_of 1 hts (good_RC_needCalendar) rfl rfl rfl (hts _ k_59) (hts _ k_330) (by decide +kernel) ⟨Nat.le_of_ble_eq_true rfl, Nat.le_of_ble_eq_true rfl⟩, (hts _ k_332), (hts _ k_0)⟩ ⟨fun a U g mk q => ⟨q.1, q.2.1, va_K.moved (u := U) (U := U.calling g mk a) (Vm.Alike.refl U.vm) q.2.2.1, q.2.2.2.calling⟩, (va_recv (q0 := 0) hK hP rfl rfl), fun U hU hW => ⟨rfl, by rw [hU]; exact (hP.sub (ws' := [(h0, .inr (0, [.ref t0, .int (iI (ln)), .ref sh, .ref al, .ref rd, .ref pa, .ref sp]))]) [0] rfl), va_K.moved hW.alike hK, by rw [hU]; exact hX.warm hW⟩⟩ rfl rfl hl.1 rfl (lv_room (Nat.le_of_ble_eq_true rfl)) d_RC_planWithCell_2 ⟨Nat.le_of_ble_eq_true rfl, Nat.le_of_ble_eq_true rfl⟩) ?_
  refine lv_aload_n hx hb d_RC_planWithCell_5 rfl (lv_at hl 0 rfl) ?_
  refine lv_iload_n hx hb d_RC_planWithCell_6 rfl (lv_at hl 2 rfl) ?_
  refine lv_iload_n hx hb d_RC_planWithCell_7 rfl (lv_at hl 3 rfl) ?_
  refine rc_v (va_runV (As := [.int (iI ((d : Int))), .int (iI (q))]) (rest := []) (b := h0) ⟨hx, hb, hml, hown, hts⟩ (c_RC_needCell l D k (h0) (t0) (sh) (al) (rd) (pa) (sp) (ln) ((d : Int)) (q) ((by omega)) ((by omega))) ⟨callB_of 2 hts (good_RC_needCell) rfl rfl rfl (hts _ k_59) (hts _ k_573) (by decide +kernel) ⟨Nat.le_of_ble_eq_true rfl, Nat.le_of_ble_eq_true rfl⟩, (hts _ k_575), (hts _ k_23)⟩ ⟨fun a U g mk q => ⟨q.1, q.2.1, va_K.moved (u := U) (U := U.calling g mk a) (Vm.Alike.refl U.vm) q.2.2.1, q.2.2.2.calling⟩, (va_recv (q0 := 0) hK hP rfl rfl), fun U hU hW => ⟨rfl, by rw [hU]; exact (hP.sub (ws' := [(h0, .inr (0, [.ref t0, .int (iI (ln)), .ref sh, .ref al, .ref rd, .ref pa, .ref sp]))]) [0] rfl), va_K.moved hW.alike hK, by rw [hU]; exact hX.warm hW⟩⟩ rfl rfl hl.1 rfl (lv_room (Nat.le_of_ble_eq_true rfl)) d_RC_planWithCell_8 ⟨Nat.le_of_ble_eq_true rfl, Nat.le_of_ble_eq_true rfl⟩) ?_
  refine lv_aload_n hx hb d_RC_planWithCell_11 rfl (lv_at hl 0 rfl) ?_
  refine lv_iload_n hx hb d_RC_planWithCell_12 rfl (lv_at hl 1 rfl) ?_
  exact th_leave (th_runV (As := [.int (iI ((cc : Int)))]) (rest := []) (b := h0) ⟨hx, hb, hml, hown, hts⟩ (t_RC_compiledPlan l hlt D k (h0) (t0) (sh) (al) (rd) (pa) (sp) (u0) (w0) (ln) (po) (cc) (hc)) ⟨callB_of 1 hts (good_RC_compiledPlan) rfl rfl rfl (hts _ k_59) (hts _ k_578) (by decide +kernel) ⟨Nat.le_of_ble_eq_true rfl, Nat.le_of_ble_eq_true rfl⟩, (hts _ k_580), (hts _ k_24)⟩ ⟨fun a U g mk q => ⟨q.1, ⟨q.2.1.1, va_K.moved (u := U) (U := U.calling g mk a) (Vm.Alike.refl U.vm) q.2.1.2.1, q.2.1.2.2.calling⟩, q.2.2.calling⟩, (va_recv (q0 := 0) hK hP rfl rfl), fun U hU hW => ⟨rfl, ⟨by rw [hU]; exact hP, va_K.moved hW.alike hK, by rw [hU]; exact hX.warm hW⟩, by rw [hU]; exact hTX.warm hW⟩⟩ rfl rfl hl.1 rfl (lv_room (Nat.le_of_ble_eq_true rfl)) d_RC_planWithCell_13 ⟨Nat.le_of_ble_eq_true rfl, Nat.le_of_ble_eq_true rfl⟩) rfl rfl rfl hlocks hout

set_option maxHeartbeats 4000000 in
set_option maxRecDepth 100000 in
theorem t_RC_at_c (l : Launch) (hlt : l.stackTraces = false) (D : va_G) (k : Nat → ClassId) (h0 t0 sh al rd pa sp : Nat) (ln : Int) (cz : Int) (z : Int) (q : Int) (g_cz : rg cz) (hbc : cz < 0 ∨ 3 ≤ cz) : MetT l y_RC_at wd_RC_at rt_RC_at (va_Pc [.ref h0, .int (iI (cz)), .int (iI (z)), .int (iI (q))] (PTX D k [(h0, .inr (0, [.ref t0, .int (iI (ln)), .ref sh, .ref al, .ref rd, .ref pa, .ref sp]))])) xIO := by
  refine r_t hlt (by decide) rfl (Nat.le_of_ble_eq_true rfl) ?_
  intro p e s m args below meth c ls hx hb hml hown hts hpre hl htr hout hlocks
  obtain ⟨⟨hP, hK, hX⟩, hTX⟩ := hpre
  have hS : va_S nA s.heap s.heap [] := va_S.rf
  have hl : lv_has ls 5 [(0, .ref h0), (1, .int (iI (cz))), (2, .int (iI (z))), (3, .int (iI (q)))] := hl
  refine lv_aload_n hx hb d_RC_at_0 rfl (lv_at hl 0 rfl) ?_
  refine lv_iload_n hx hb d_RC_at_1 rfl (lv_at hl 1 rfl) ?_
  refine lv_iload_n hx hb d_RC_at_2 rfl (lv_at hl 2 rfl) ?_
  refine lv_iload_n hx hb d_RC_at_3 rfl (lv_at hl 3 rfl) ?_
  exact th_leave (th_runV (As := [.int (iI (cz)), .int (iI (z)), .int (iI (q))]) (rest := []) (b := h0) ⟨hx, hb, hml, hown, hts⟩ (t_RC_planWithCell_c l hlt D k (h0) (t0) (sh) (al) (rd) (pa) (sp) (ln) (cz) (z) (q) (g_cz) (hbc)) ⟨callB_of 3 hts (good_RC_planWithCell) rfl rfl rfl (hts _ k_59) (hts _ k_569) (by decide +kernel) ⟨Nat.le_of_ble_eq_true rfl, Nat.le_of_ble_eq_true rfl⟩, (hts _ k_571), (hts _ k_22)⟩ ⟨fun a U g mk q => ⟨q.1, ⟨q.2.1.1, va_K.moved (u := U) (U := U.calling g mk a) (Vm.Alike.refl U.vm) q.2.1.2.1, q.2.1.2.2.calling⟩, q.2.2.calling⟩, (va_recv (q0 := 0) hK hP rfl rfl), fun U hU hW => ⟨rfl, ⟨by rw [hU]; exact hP, va_K.moved hW.alike hK, by rw [hU]; exact hX.warm hW⟩, by rw [hU]; exact hTX.warm hW⟩⟩ rfl rfl hl.1 rfl (lv_room (Nat.le_of_ble_eq_true rfl)) d_RC_at_4 ⟨Nat.le_of_ble_eq_true rfl, Nat.le_of_ble_eq_true rfl⟩) rfl rfl rfl hlocks hout

set_option maxHeartbeats 4000000 in
set_option maxRecDepth 100000 in
theorem t_RC_at_q (l : Launch) (hlt : l.stackTraces = false) (D : va_G) (k : Nat → ClassId) (h0 t0 sh al rd pa sp : Nat) (ln : Int) (cc : Nat) (z : Int) (q : Int) (hc : cc < 3) (g_z : rg z) (g_q : rg q) (hbq : z < 0 ∨ 1461 ≤ z ∨ q < 0 ∨ 48 ≤ q) : MetT l y_RC_at wd_RC_at rt_RC_at (va_Pc [.ref h0, .int (iI ((cc : Int))), .int (iI (z)), .int (iI (q))] (PTX D k [(h0, .inr (0, [.ref t0, .int (iI (ln)), .ref sh, .ref al, .ref rd, .ref pa, .ref sp]))])) xIO := by
  refine r_t hlt (by decide) rfl (Nat.le_of_ble_eq_true rfl) ?_
  intro p e s m args below meth c ls hx hb hml hown hts hpre hl htr hout hlocks
  obtain ⟨⟨hP, hK, hX⟩, hTX⟩ := hpre
  have hS : va_S nA s.heap s.heap [] := va_S.rf
  have hl : lv_has ls 5 [(0, .ref h0), (1, .int (iI ((cc : Int)))), (2, .int (iI (z))), (3, .int (iI (q)))] := hl
  refine lv_aload_n hx hb d_RC_at_0 rfl (lv_at hl 0 rfl) ?_
  refine lv_iload_n hx hb d_RC_at_1 rfl (lv_at hl 1 rfl) ?_
  refine lv_iload_n hx hb d_RC_at_2 rfl (lv_at hl 2 rfl) ?_
  refine lv_iload_n hx hb d_RC_at_3 rfl (lv_at hl 3 rfl) ?_
  exact th_leave (th_runV (As := [.int (iI ((cc : Int))), .int (iI (z)), .int (iI (q))]) (rest := []) (b := h0) ⟨hx, hb, hml, hown, hts⟩ (t_RC_planWithCell_q l hlt D k (h0) (t0) (sh) (al) (rd) (pa) (sp) (ln) (cc) (z) (q) (hc) (g_z) (g_q) (hbq)) ⟨callB_of 3 hts (good_RC_planWithCell) rfl rfl rfl (hts _ k_59) (hts _ k_569) (by decide +kernel) ⟨Nat.le_of_ble_eq_true rfl, Nat.le_of_ble_eq_true rfl⟩, (hts _ k_571), (hts _ k_22)⟩ ⟨fun a U g mk q => ⟨q.1, ⟨q.2.1.1, va_K.moved (u := U) (U := U.calling g mk a) (Vm.Alike.refl U.vm) q.2.1.2.1, q.2.1.2.2.calling⟩, q.2.2.calling⟩, (va_recv (q0 := 0) hK hP rfl rfl), fun U hU hW => ⟨rfl, ⟨by rw [hU]; exact hP, va_K.moved hW.alike hK, by rw [hU]; exact hX.warm hW⟩, by rw [hU]; exact hTX.warm hW⟩⟩ rfl rfl hl.1 rfl (lv_room (Nat.le_of_ble_eq_true rfl)) d_RC_at_4 ⟨Nat.le_of_ble_eq_true rfl, Nat.le_of_ble_eq_true rfl⟩) rfl rfl rfl hlocks hout

set_option maxHeartbeats 4000000 in
set_option maxRecDepth 100000 in
theorem t_RC_at_p (l : Launch) (hlt : l.stackTraces = false) (D : va_G) (k : Nat → ClassId) (h0 t0 sh al rd pa sp u0 w0 : Nat) (ln : Int) (po : Nat → Nat) (cc : Nat) (d : Nat) (q : Int) (hc : cc < 3) (hd : d < 1461) (hq : 0 ≤ q ∧ q < 48) : MetT l y_RC_at wd_RC_at rt_RC_at (va_Pc [.ref h0, .int (iI ((cc : Int))), .int (iI ((d : Int))), .int (iI (q))] (PTX D k [(h0, .inr (0, [.ref t0, .int (iI (ln)), .ref sh, .ref al, .ref rd, .ref pa, .ref sp])), (pa, .inl (k 6, 3, .inr (.inr (.inr (.inr (q3 po)))))), (po cc, .inr (5, [.ref u0, .ref w0, .int (iI (0))]))])) xIS := by
  refine r_t hlt (by decide) rfl (Nat.le_of_ble_eq_true rfl) ?_
  intro p e s m args below meth c ls hx hb hml hown hts hpre hl htr hout hlocks
  obtain ⟨⟨hP, hK, hX⟩, hTX⟩ := hpre
  have hS : va_S nA s.heap s.heap [] := va_S.rf
  have hl : lv_has ls 5 [(0, .ref h0), (1, .int (iI ((cc : Int)))), (2, .int (iI ((d : Int)))), (3, .int (iI (q)))] := hl
  refine lv_aload_n hx hb d_RC_at_0 rfl (lv_at hl 0 rfl) ?_
  refine lv_iload_n hx hb d_RC_at_1 rfl (lv_at hl 1 rfl) ?_
  refine lv_iload_n hx hb d_RC_at_2 rfl (lv_at hl 2 rfl) ?_
  refine lv_iload_n hx hb d_RC_at_3 rfl (lv_at hl 3 rfl) ?_
  exact th_leave (th_runV (As := [.int (iI ((cc : Int))), .int (iI ((d : Int))), .int (iI (q))]) (rest := []) (b := h0) ⟨hx, hb, hml, hown, hts⟩ (t_RC_planWithCell_p l hlt D k (h0) (t0) (sh) (al) (rd) (pa) (sp) (u0) (w0) (ln) (po) (cc) (d) (q) (hc) (hd) (hq)) ⟨callB_of 3 hts (good_RC_planWithCell) rfl rfl rfl (hts _ k_59) (hts _ k_569) (by decide +kernel) ⟨Nat.le_of_ble_eq_true rfl, Nat.le_of_ble_eq_true rfl⟩, (hts _ k_571), (hts _ k_22)⟩ ⟨fun a U g mk q => ⟨q.1, ⟨q.2.1.1, va_K.moved (u := U) (U := U.calling g mk a) (Vm.Alike.refl U.vm) q.2.1.2.1, q.2.1.2.2.calling⟩, q.2.2.calling⟩, (va_recv (q0 := 0) hK hP rfl rfl), fun U hU hW => ⟨rfl, ⟨by rw [hU]; exact hP, va_K.moved hW.alike hK, by rw [hU]; exact hX.warm hW⟩, by rw [hU]; exact hTX.warm hW⟩⟩ rfl rfl hl.1 rfl (lv_room (Nat.le_of_ble_eq_true rfl)) d_RC_at_4 ⟨Nat.le_of_ble_eq_true rfl, Nat.le_of_ble_eq_true rfl⟩) rfl rfl rfl hlocks hout

set_option maxHeartbeats 4000000 in
set_option maxRecDepth 100000 in
theorem t_RC_which_c (l : Launch) (hlt : l.stackTraces = false) (D : va_G) (k : Nat → ClassId) (h0 t0 sh al rd pa sp : Nat) (ln : Int) (cz : Int) (z : Int) (q : Int) (g_cz : rg cz) (hbc : cz < 0 ∨ 3 ≤ cz) : MetT l y_RC_which wd_RC_which rt_RC_which (va_Pc [.ref h0, .int (iI (cz)), .int (iI (z)), .int (iI (q))] (PTX D k [(h0, .inr (0, [.ref t0, .int (iI (ln)), .ref sh, .ref al, .ref rd, .ref pa, .ref sp]))])) xIO := by
  refine r_t hlt (by decide) rfl (Nat.le_of_ble_eq_true rfl) ?_
  intro p e s m args below meth c ls hx hb hml hown hts hpre hl htr hout hlocks
  obtain ⟨⟨hP, hK, hX⟩, hTX⟩ := hpre
  have hS : va_S nA s.heap s.heap [] := va_S.rf
  have hl : lv_has ls 5 [(0, .ref h0), (1, .int (iI (cz))), (2, .int (iI (z))), (3, .int (iI (q)))] := hl
  refine lv_aload_n hx hb d_RC_which_0 rfl (lv_at hl 0 rfl) ?_
  refine lv_iload_n hx hb d_RC_which_1 rfl (lv_at hl 1 rfl) ?_
  refine lv_iload_n hx hb d_RC_which_2 rfl (lv_at hl 2 rfl) ?_
  refine lv_iload_n hx hb d_RC_which_3 rfl (lv_at hl 3 rfl) ?_
  exact th_leave (th_runV (As := [.int (iI (cz)), .int (iI (z)), .int (iI (q))]) (rest := []) (b := h0) ⟨hx, hb, hml, hown, hts⟩ (t_RC_planWithCell_c l hlt D k (h0) (t0) (sh) (al) (rd) (pa) (sp) (ln) (cz) (z) (q) (g_cz) (hbc)) ⟨callB_of 3 hts (good_RC_planWithCell) rfl rfl rfl (hts _ k_59) (hts _ k_569) (by decide +kernel) ⟨Nat.le_of_ble_eq_true rfl, Nat.le_of_ble_eq_true rfl⟩, (hts _ k_571), (hts _ k_22)⟩ ⟨fun a U g mk q => ⟨q.1, ⟨q.2.1.1, va_K.moved (u := U) (U := U.calling g mk a) (Vm.Alike.refl U.vm) q.2.1.2.1, q.2.1.2.2.calling⟩, q.2.2.calling⟩, (va_recv (q0 := 0) hK hP rfl rfl), fun U hU hW => ⟨rfl, ⟨by rw [hU]; exact hP, va_K.moved hW.alike hK, by rw [hU]; exact hX.warm hW⟩, by rw [hU]; exact hTX.warm hW⟩⟩ rfl rfl hl.1 rfl (lv_room (Nat.le_of_ble_eq_true rfl)) d_RC_which_4 ⟨Nat.le_of_ble_eq_true rfl, Nat.le_of_ble_eq_true rfl⟩) rfl rfl rfl hlocks hout

set_option maxHeartbeats 4000000 in
set_option maxRecDepth 100000 in
theorem t_RC_which_q (l : Launch) (hlt : l.stackTraces = false) (D : va_G) (k : Nat → ClassId) (h0 t0 sh al rd pa sp : Nat) (ln : Int) (cc : Nat) (z : Int) (q : Int) (hc : cc < 3) (g_z : rg z) (g_q : rg q) (hbq : z < 0 ∨ 1461 ≤ z ∨ q < 0 ∨ 48 ≤ q) : MetT l y_RC_which wd_RC_which rt_RC_which (va_Pc [.ref h0, .int (iI ((cc : Int))), .int (iI (z)), .int (iI (q))] (PTX D k [(h0, .inr (0, [.ref t0, .int (iI (ln)), .ref sh, .ref al, .ref rd, .ref pa, .ref sp]))])) xIO := by
  refine r_t hlt (by decide) rfl (Nat.le_of_ble_eq_true rfl) ?_
  intro p e s m args below meth c ls hx hb hml hown hts hpre hl htr hout hlocks
  obtain ⟨⟨hP, hK, hX⟩, hTX⟩ := hpre
  have hS : va_S nA s.heap s.heap [] := va_S.rf
  have hl : lv_has ls 5 [(0, .ref h0), (1, .int (iI ((cc : Int)))), (2, .int (iI (z))), (3, .int (iI (q)))] := hl
  refine lv_aload_n hx hb d_RC_which_0 rfl (lv_at hl 0 rfl) ?_
  refine lv_iload_n hx hb d_RC_which_1 rfl (lv_at hl 1 rfl) ?_
  refine lv_iload_n hx hb d_RC_which_2 rfl (lv_at hl 2 rfl) ?_
  refine lv_iload_n hx hb d_RC_which_3 rfl (lv_at hl 3 rfl) ?_
  exact th_leave (th_runV (As := [.int (iI ((cc : Int))), .int (iI (z)), .int (iI (q))]) (rest := []) (b := h0) ⟨hx, hb, hml, hown, hts⟩ (t_RC_planWithCell_q l hlt D k (h0) (t0) (sh) (al) (rd) (pa) (sp) (ln) (cc) (z) (q) (hc) (g_z) (g_q) (hbq)) ⟨callB_of 3 hts (good_RC_planWithCell) rfl rfl rfl (hts _ k_59) (hts _ k_569) (by decide +kernel) ⟨Nat.le_of_ble_eq_true rfl, Nat.le_of_ble_eq_true rfl⟩, (hts _ k_571), (hts _ k_22)⟩ ⟨fun a U g mk q => ⟨q.1, ⟨q.2.1.1, va_K.moved (u := U) (U := U.calling g mk a) (Vm.Alike.refl U.vm) q.2.1.2.1, q.2.1.2.2.calling⟩, q.2.2.calling⟩, (va_recv (q0 := 0) hK hP rfl rfl), fun U hU hW => ⟨rfl, ⟨by rw [hU]; exact hP, va_K.moved hW.alike hK, by rw [hU]; exact hX.warm hW⟩, by rw [hU]; exact hTX.warm hW⟩⟩ rfl rfl hl.1 rfl (lv_room (Nat.le_of_ble_eq_true rfl)) d_RC_which_4 ⟨Nat.le_of_ble_eq_true rfl, Nat.le_of_ble_eq_true rfl⟩) rfl rfl rfl hlocks hout

set_option maxHeartbeats 4000000 in
set_option maxRecDepth 100000 in
theorem t_RC_which_p (l : Launch) (hlt : l.stackTraces = false) (D : va_G) (k : Nat → ClassId) (h0 t0 sh al rd pa sp u0 w0 : Nat) (ln : Int) (po : Nat → Nat) (cc : Nat) (d : Nat) (q : Int) (hc : cc < 3) (hd : d < 1461) (hq : 0 ≤ q ∧ q < 48) : MetT l y_RC_which wd_RC_which rt_RC_which (va_Pc [.ref h0, .int (iI ((cc : Int))), .int (iI ((d : Int))), .int (iI (q))] (PTX D k [(h0, .inr (0, [.ref t0, .int (iI (ln)), .ref sh, .ref al, .ref rd, .ref pa, .ref sp])), (pa, .inl (k 6, 3, .inr (.inr (.inr (.inr (q3 po)))))), (po cc, .inr (5, [.ref u0, .ref w0, .int (iI (0))]))])) xIS := by
  refine r_t hlt (by decide) rfl (Nat.le_of_ble_eq_true rfl) ?_
  intro p e s m args below meth c ls hx hb hml hown hts hpre hl htr hout hlocks
  obtain ⟨⟨hP, hK, hX⟩, hTX⟩ := hpre
  have hS : va_S nA s.heap s.heap [] := va_S.rf
  have hl : lv_has ls 5 [(0, .ref h0), (1, .int (iI ((cc : Int)))), (2, .int (iI ((d : Int)))), (3, .int (iI (q)))] := hl
  refine lv_aload_n hx hb d_RC_which_0 rfl (lv_at hl 0 rfl) ?_
  refine lv_iload_n hx hb d_RC_which_1 rfl (lv_at hl 1 rfl) ?_
  refine lv_iload_n hx hb d_RC_which_2 rfl (lv_at hl 2 rfl) ?_
  refine lv_iload_n hx hb d_RC_which_3 rfl (lv_at hl 3 rfl) ?_
  exact th_leave (th_runV (As := [.int (iI ((cc : Int))), .int (iI ((d : Int))), .int (iI (q))]) (rest := []) (b := h0) ⟨hx, hb, hml, hown, hts⟩ (t_RC_planWithCell_p l hlt D k (h0) (t0) (sh) (al) (rd) (pa) (sp) (u0) (w0) (ln) (po) (cc) (d) (q) (hc) (hd) (hq)) ⟨callB_of 3 hts (good_RC_planWithCell) rfl rfl rfl (hts _ k_59) (hts _ k_569) (by decide +kernel) ⟨Nat.le_of_ble_eq_true rfl, Nat.le_of_ble_eq_true rfl⟩, (hts _ k_571), (hts _ k_22)⟩ ⟨fun a U g mk q => ⟨q.1, ⟨q.2.1.1, va_K.moved (u := U) (U := U.calling g mk a) (Vm.Alike.refl U.vm) q.2.1.2.1, q.2.1.2.2.calling⟩, q.2.2.calling⟩, (va_recv (q0 := 0) hK hP rfl rfl), fun U hU hW => ⟨rfl, ⟨by rw [hU]; exact hP, va_K.moved hW.alike hK, by rw [hU]; exact hX.warm hW⟩, by rw [hU]; exact hTX.warm hW⟩⟩ rfl rfl hl.1 rfl (lv_room (Nat.le_of_ble_eq_true rfl)) d_RC_which_4 ⟨Nat.le_of_ble_eq_true rfl, Nat.le_of_ble_eq_true rfl⟩) rfl rfl rfl hlocks hout

set_option maxHeartbeats 4000000 in
set_option maxRecDepth 100000 in
theorem t_RC_next_c (l : Launch) (hlt : l.stackTraces = false) (D : va_G) (k : Nat → ClassId) (h0 t0 sh al rd pa sp : Nat) (ln : Int) (cz : Int) (z : Int) (q : Int) (g_cz : rg cz) (hbc : cz < 0 ∨ 3 ≤ cz) : MetT l y_RC_next wd_RC_next rt_RC_next (va_Pc [.ref h0, .int (iI (cz)), .int (iI (z)), .int (iI (q))] (PTX D k [(h0, .inr (0, [.ref t0, .int (iI (ln)), .ref sh, .ref al, .ref rd, .ref pa, .ref sp]))])) xIO := by
  refine r_t hlt (by decide) rfl (Nat.le_of_ble_eq_true rfl) ?_
  intro p e s m args below meth c ls hx hb hml hown hts hpre hl htr hout hlocks
  obtain ⟨⟨hP, hK, hX⟩, hTX⟩ := hpre
  have hS : va_S nA s.heap s.heap [] := va_S.rf
  have hl : lv_has ls 11 [(0, .ref h0), (1, .int (iI (cz))), (2, .int (iI (z))), (3, .int (iI (q)))] := hl
  refine lv_aload_n hx hb d_RC_next_0 rfl (lv_at hl 0 rfl) ?_
  refine lv_iload_n hx hb d_RC_next_1 rfl (lv_at hl 1 rfl) ?_
  refine lv_iload_n hx hb d_RC_next_2 rfl (lv_at hl 2 rfl) ?_
  refine lv_iload_n hx hb d_RC_next_3 rfl (lv_at hl 3 rfl) ?_
  exact th_leave (th_runV (As := [.int (iI (cz)), .int (iI (z)), .int (iI (q))]) (rest := []) (b := h0) ⟨hx, hb, hml, hown, hts⟩ (t_RC_planWithCell_c l hlt D k (h0) (t0) (sh) (al) (rd) (pa) (sp) (ln) (cz) (z) (q) (g_cz) (hbc)) ⟨callB_of 3 hts (good_RC_planWithCell) rfl rfl rfl (hts _ k_59) (hts _ k_569) (by decide +kernel) ⟨Nat.le_of_ble_eq_true rfl, Nat.le_of_ble_eq_true rfl⟩, (hts _ k_571), (hts _ k_22)⟩ ⟨fun a U g mk q => ⟨q.1, ⟨q.2.1.1, va_K.moved (u := U) (U := U.calling g mk a) (Vm.Alike.refl U.vm) q.2.1.2.1, q.2.1.2.2.calling⟩, q.2.2.calling⟩, (va_recv (q0 := 0) hK hP rfl rfl), fun U hU hW => ⟨rfl, ⟨by rw [hU]; exact hP, va_K.moved hW.alike hK, by rw [hU]; exact hX.warm hW⟩, by rw [hU]; exact hTX.warm hW⟩⟩ rfl rfl hl.1 rfl (lv_room (Nat.le_of_ble_eq_true rfl)) d_RC_next_4 ⟨Nat.le_of_ble_eq_true rfl, Nat.le_of_ble_eq_true rfl⟩) rfl rfl rfl hlocks hout

set_option maxHeartbeats 4000000 in
set_option maxRecDepth 100000 in
theorem t_RC_next_q (l : Launch) (hlt : l.stackTraces = false) (D : va_G) (k : Nat → ClassId) (h0 t0 sh al rd pa sp : Nat) (ln : Int) (cc : Nat) (z : Int) (q : Int) (hc : cc < 3) (g_z : rg z) (g_q : rg q) (hbq : z < 0 ∨ 1461 ≤ z ∨ q < 0 ∨ 48 ≤ q) : MetT l y_RC_next wd_RC_next rt_RC_next (va_Pc [.ref h0, .int (iI ((cc : Int))), .int (iI (z)), .int (iI (q))] (PTX D k [(h0, .inr (0, [.ref t0, .int (iI (ln)), .ref sh, .ref al, .ref rd, .ref pa, .ref sp]))])) xIO := by
  refine r_t hlt (by decide) rfl (Nat.le_of_ble_eq_true rfl) ?_
  intro p e s m args below meth c ls hx hb hml hown hts hpre hl htr hout hlocks
  obtain ⟨⟨hP, hK, hX⟩, hTX⟩ := hpre
  have hS : va_S nA s.heap s.heap [] := va_S.rf
  have hl : lv_has ls 11 [(0, .ref h0), (1, .int (iI ((cc : Int)))), (2, .int (iI (z))), (3, .int (iI (q)))] := hl
  refine lv_aload_n hx hb d_RC_next_0 rfl (lv_at hl 0 rfl) ?_
  refine lv_iload_n hx hb d_RC_next_1 rfl (lv_at hl 1 rfl) ?_
  refine lv_iload_n hx hb d_RC_next_2 rfl (lv_at hl 2 rfl) ?_
  refine lv_iload_n hx hb d_RC_next_3 rfl (lv_at hl 3 rfl) ?_
  exact th_leave (th_runV (As := [.int (iI ((cc : Int))), .int (iI (z)), .int (iI (q))]) (rest := []) (b := h0) ⟨hx, hb, hml, hown, hts⟩ (t_RC_planWithCell_q l hlt D k (h0) (t0) (sh) (al) (rd) (pa) (sp) (ln) (cc) (z) (q) (hc) (g_z) (g_q) (hbq)) ⟨callB_of 3 hts (good_RC_planWithCell) rfl rfl rfl (hts _ k_59) (hts _ k_569) (by decide +kernel) ⟨Nat.le_of_ble_eq_true rfl, Nat.le_of_ble_eq_true rfl⟩, (hts _ k_571), (hts _ k_22)⟩ ⟨fun a U g mk q => ⟨q.1, ⟨q.2.1.1, va_K.moved (u := U) (U := U.calling g mk a) (Vm.Alike.refl U.vm) q.2.1.2.1, q.2.1.2.2.calling⟩, q.2.2.calling⟩, (va_recv (q0 := 0) hK hP rfl rfl), fun U hU hW => ⟨rfl, ⟨by rw [hU]; exact hP, va_K.moved hW.alike hK, by rw [hU]; exact hX.warm hW⟩, by rw [hU]; exact hTX.warm hW⟩⟩ rfl rfl hl.1 rfl (lv_room (Nat.le_of_ble_eq_true rfl)) d_RC_next_4 ⟨Nat.le_of_ble_eq_true rfl, Nat.le_of_ble_eq_true rfl⟩) rfl rfl rfl hlocks hout

set_option maxHeartbeats 4000000 in
set_option maxRecDepth 100000 in
theorem t_RC_next_p (l : Launch) (hlt : l.stackTraces = false) (D : va_G) (k : Nat → ClassId) (h0 t0 sh al rd pa sp u0 w0 : Nat) (ln : Int) (po : Nat → Nat) (cc : Nat) (d : Nat) (q : Int) (hc : cc < 3) (hd : d < 1461) (hq : 0 ≤ q ∧ q < 48) : MetT l y_RC_next wd_RC_next rt_RC_next (va_Pc [.ref h0, .int (iI ((cc : Int))), .int (iI ((d : Int))), .int (iI (q))] (PTX D k [(h0, .inr (0, [.ref t0, .int (iI (ln)), .ref sh, .ref al, .ref rd, .ref pa, .ref sp])), (pa, .inl (k 6, 3, .inr (.inr (.inr (.inr (q3 po)))))), (po cc, .inr (5, [.ref u0, .ref w0, .int (iI (0))]))])) xIS := by
  refine r_t hlt (by decide) rfl (Nat.le_of_ble_eq_true rfl) ?_
  intro p e s m args below meth c ls hx hb hml hown hts hpre hl htr hout hlocks
  obtain ⟨⟨hP, hK, hX⟩, hTX⟩ := hpre
  have hS : va_S nA s.heap s.heap [] := va_S.rf
  have hl : lv_has ls 11 [(0, .ref h0), (1, .int (iI ((cc : Int)))), (2, .int (iI ((d : Int)))), (3, .int (iI (q)))] := hl
  refine lv_aload_n hx hb d_RC_next_0 rfl (lv_at hl 0 rfl) ?_
  refine lv_iload_n hx hb d_RC_next_1 rfl (lv_at hl 1 rfl) ?_
  refine lv_iload_n hx hb d_RC_next_2 rfl (lv_at hl 2 rfl) ?_
  refine lv_iload_n hx hb d_RC_next_3 rfl (lv_at hl 3 rfl) ?_
  exact th_leave (th_runV (As := [.int (iI ((cc : Int))), .int (iI ((d : Int))), .int (iI (q))]) (rest := []) (b := h0) ⟨hx, hb, hml, hown, hts⟩ (t_RC_planWithCell_p l hlt D k (h0) (t0) (sh) (al) (rd) (pa) (sp) (u0) (w0) (ln) (po) (cc) (d) (q) (hc) (hd) (hq)) ⟨callB_of 3 hts (good_RC_planWithCell) rfl rfl rfl (hts _ k_59) (hts _ k_569) (by decide +kernel) ⟨Nat.le_of_ble_eq_true rfl, Nat.le_of_ble_eq_true rfl⟩, (hts _ k_571), (hts _ k_22)⟩ ⟨fun a U g mk q => ⟨q.1, ⟨q.2.1.1, va_K.moved (u := U) (U := U.calling g mk a) (Vm.Alike.refl U.vm) q.2.1.2.1, q.2.1.2.2.calling⟩, q.2.2.calling⟩, (va_recv (q0 := 0) hK hP rfl rfl), fun U hU hW => ⟨rfl, ⟨by rw [hU]; exact hP, va_K.moved hW.alike hK, by rw [hU]; exact hX.warm hW⟩, by rw [hU]; exact hTX.warm hW⟩⟩ rfl rfl hl.1 rfl (lv_room (Nat.le_of_ble_eq_true rfl)) d_RC_next_4 ⟨Nat.le_of_ble_eq_true rfl, Nat.le_of_ble_eq_true rfl⟩) rfl rfl rfl hlocks hout

set_option maxHeartbeats 4000000 in
set_option maxRecDepth 100000 in
theorem t_RC_run_c (l : Launch) (hlt : l.stackTraces = false) (D : va_G) (k : Nat → ClassId) (h0 t0 sh al rd pa sp : Nat) (ln : Int) (cz : Int) (z : Int) (i0 : Int) (wh : Int) (g_cz : rg cz) (hbc : cz < 0 ∨ 3 ≤ cz) : MetT l y_RC_run wd_RC_run rt_RC_run (va_Pc [.ref h0, .int (iI (cz)), .int (iI (z)), .int (iI (i0)), .int (iI (wh))] (PTX D k [(h0, .inr (0, [.ref t0, .int (iI (ln)), .ref sh, .ref al, .ref rd, .ref pa, .ref sp]))])) xIO := by
  refine r_t hlt (by decide) rfl (Nat.le_of_ble_eq_true rfl) ?_
  intro p e s m args below meth c ls hx hb hml hown hts hpre hl htr hout hlocks
  obtain ⟨⟨hP, hK, hX⟩, hTX⟩ := hpre
  have hS : va_S nA s.heap s.heap [] := va_S.rf
  have hl : lv_has ls 7 [(0, .ref h0), (1, .int (iI (cz))), (2, .int (iI (z))), (3, .int (iI (i0))), (4, .int (iI (wh)))] := hl
  refine lv_aload_n hx hb d_RC_run_0 rfl (lv_at hl 0 rfl) ?_
  refine lv_iload_n hx hb d_RC_run_1 rfl (lv_at hl 1 rfl) ?_
  refine lv_iload_n hx hb d_RC_run_2 rfl (lv_at hl 2 rfl) ?_
  refine z_iconst hx hb d_RC_run_3 ?_
  exact th_leave (th_runV (As := [.int (iI (cz)), .int (iI (z)), .int (iI (0))]) (rest := []) (b := h0) ⟨hx, hb, hml, hown, hts⟩ (t_RC_planWithCell_c l hlt D k (h0) (t0) (sh) (al) (rd) (pa) (sp) (ln) (cz) (z) (0) (g_cz) (hbc)) ⟨callB_of 3 hts (good_RC_planWithCell) rfl rfl rfl (hts _ k_59) (hts _ k_569) (by decide +kernel) ⟨Nat.le_of_ble_eq_true rfl, Nat.le_of_ble_eq_true rfl⟩, (hts _ k_571), (hts _ k_22)⟩ ⟨fun a U g mk q => ⟨q.1, ⟨q.2.1.1, va_K.moved (u := U) (U := U.calling g mk a) (Vm.Alike.refl U.vm) q.2.1.2.1, q.2.1.2.2.calling⟩, q.2.2.calling⟩, (va_recv (q0 := 0) hK hP rfl rfl), fun U hU hW => ⟨rfl, ⟨by rw [hU]; exact hP, va_K.moved hW.alike hK, by rw [hU]; exact hX.warm hW⟩, by rw [hU]; exact hTX.warm hW⟩⟩ rfl rfl hl.1 rfl (lv_room (Nat.le_of_ble_eq_true rfl)) d_RC_run_4 ⟨Nat.le_of_ble_eq_true rfl, Nat.le_of_ble_eq_true rfl⟩) rfl rfl rfl hlocks hout

set_option maxHeartbeats 4000000 in
set_option maxRecDepth 100000 in
theorem t_RC_run_q (l : Launch) (hlt : l.stackTraces = false) (D : va_G) (k : Nat → ClassId) (h0 t0 sh al rd pa sp : Nat) (ln : Int) (cc : Nat) (z : Int) (i0 : Int) (wh : Int) (hc : cc < 3) (g_z : rg z) (hbq : z < 0 ∨ 1461 ≤ z) : MetT l y_RC_run wd_RC_run rt_RC_run (va_Pc [.ref h0, .int (iI ((cc : Int))), .int (iI (z)), .int (iI (i0)), .int (iI (wh))] (PTX D k [(h0, .inr (0, [.ref t0, .int (iI (ln)), .ref sh, .ref al, .ref rd, .ref pa, .ref sp]))])) xIO := by
  refine r_t hlt (by decide) rfl (Nat.le_of_ble_eq_true rfl) ?_
  intro p e s m args below meth c ls hx hb hml hown hts hpre hl htr hout hlocks
  obtain ⟨⟨hP, hK, hX⟩, hTX⟩ := hpre
  have hS : va_S nA s.heap s.heap [] := va_S.rf
  have hl : lv_has ls 7 [(0, .ref h0), (1, .int (iI ((cc : Int)))), (2, .int (iI (z))), (3, .int (iI (i0))), (4, .int (iI (wh)))] := hl
  refine lv_aload_n hx hb d_RC_run_0 rfl (lv_at hl 0 rfl) ?_
  refine lv_iload_n hx hb d_RC_run_1 rfl (lv_at hl 1 rfl) ?_
  refine lv_iload_n hx hb d_RC_run_2 rfl (lv_at hl 2 rfl) ?_
  refine z_iconst hx hb d_RC_run_3 ?_
  exact th_leave (th_runV (As := [.int (iI ((cc : Int))), .int (iI (z)), .int (iI (0))]) (rest := []) (b := h0) ⟨hx, hb, hml, hown, hts⟩ (t_RC_planWithCell_q l hlt D k (h0) (t0) (sh) (al) (rd) (pa) (sp) (ln) (cc) (z) (0) (hc) (g_z) (⟨by omega, by omega⟩) ((by omega))) ⟨callB_of 3 hts (good_RC_planWithCell) rfl rfl rfl (hts _ k_59) (hts _ k_569) (by decide +kernel) ⟨Nat.le_of_ble_eq_true rfl, Nat.le_of_ble_eq_true rfl⟩, (hts _ k_571), (hts _ k_22)⟩ ⟨fun a U g mk q => ⟨q.1, ⟨q.2.1.1, va_K.moved (u := U) (U := U.calling g mk a) (Vm.Alike.refl U.vm) q.2.1.2.1, q.2.1.2.2.calling⟩, q.2.2.calling⟩, (va_recv (q0 := 0) hK hP rfl rfl), fun U hU hW => ⟨rfl, ⟨by rw [hU]; exact hP, va_K.moved hW.alike hK, by rw [hU]; exact hX.warm hW⟩, by rw [hU]; exact hTX.warm hW⟩⟩ rfl rfl hl.1 rfl (lv_room (Nat.le_of_ble_eq_true rfl)) d_RC_run_4 ⟨Nat.le_of_ble_eq_true rfl, Nat.le_of_ble_eq_true rfl⟩) rfl rfl rfl hlocks hout

set_option maxHeartbeats 4000000 in
set_option maxRecDepth 100000 in
theorem t_RC_run_p (l : Launch) (hlt : l.stackTraces = false) (D : va_G) (k : Nat → ClassId) (h0 t0 sh al rd pa sp u0 w0 : Nat) (ln : Int) (po : Nat → Nat) (cc : Nat) (d : Nat) (i0 : Int) (wh : Int) (hc : cc < 3) (hd : d < 1461) : MetT l y_RC_run wd_RC_run rt_RC_run (va_Pc [.ref h0, .int (iI ((cc : Int))), .int (iI ((d : Int))), .int (iI (i0)), .int (iI (wh))] (PTX D k [(h0, .inr (0, [.ref t0, .int (iI (ln)), .ref sh, .ref al, .ref rd, .ref pa, .ref sp])), (pa, .inl (k 6, 3, .inr (.inr (.inr (.inr (q3 po)))))), (po cc, .inr (5, [.ref u0, .ref w0, .int (iI (0))]))])) xIS := by
  refine r_t hlt (by decide) rfl (Nat.le_of_ble_eq_true rfl) ?_
  intro p e s m args below meth c ls hx hb hml hown hts hpre hl htr hout hlocks
  obtain ⟨⟨hP, hK, hX⟩, hTX⟩ := hpre
  have hS : va_S nA s.heap s.heap [] := va_S.rf
  have hl : lv_has ls 7 [(0, .ref h0), (1, .int (iI ((cc : Int)))), (2, .int (iI ((d : Int)))), (3, .int (iI (i0))), (4, .int (iI (wh)))] := hl
  refine lv_aload_n hx hb d_RC_run_0 rfl (lv_at hl 0 rfl) ?_
  refine lv_iload_n hx hb d_RC_run_1 rfl (lv_at hl 1 rfl) ?_
  refine lv_iload_n hx hb d_RC_run_2 rfl (lv_at hl 2 rfl) ?_
  refine z_iconst hx hb d_RC_run_3 ?_
  exact th_leave (th_runV (As := [.int (iI ((cc : Int))), .int (iI ((d : Int))), .int (iI (0))]) (rest := []) (b := h0) ⟨hx, hb, hml, hown, hts⟩ (t_RC_planWithCell_p l hlt D k (h0) (t0) (sh) (al) (rd) (pa) (sp) (u0) (w0) (ln) (po) (cc) (d) (0) (hc) (hd) ((by omega))) ⟨callB_of 3 hts (good_RC_planWithCell) rfl rfl rfl (hts _ k_59) (hts _ k_569) (by decide +kernel) ⟨Nat.le_of_ble_eq_true rfl, Nat.le_of_ble_eq_true rfl⟩, (hts _ k_571), (hts _ k_22)⟩ ⟨fun a U g mk q => ⟨q.1, ⟨q.2.1.1, va_K.moved (u := U) (U := U.calling g mk a) (Vm.Alike.refl U.vm) q.2.1.2.1, q.2.1.2.2.calling⟩, q.2.2.calling⟩, (va_recv (q0 := 0) hK hP rfl rfl), fun U hU hW => ⟨rfl, ⟨by rw [hU]; exact hP, va_K.moved hW.alike hK, by rw [hU]; exact hX.warm hW⟩, by rw [hU]; exact hTX.warm hW⟩⟩ rfl rfl hl.1 rfl (lv_room (Nat.le_of_ble_eq_true rfl)) d_RC_run_4 ⟨Nat.le_of_ble_eq_true rfl, Nat.le_of_ble_eq_true rfl⟩) rfl rfl rfl hlocks hout

set_option maxHeartbeats 4000000 in
set_option maxRecDepth 100000 in
theorem t_RC_compile_c (l : Launch) (hlt : l.stackTraces = false) (D : va_G) (k : Nat → ClassId) (h0 t0 sh al rd pa sp : Nat) (ln : Int) (cz : Int) (g_cz : rg cz) (hbc : cz < 0 ∨ 3 ≤ cz) : MetT l y_RC_compile wd_RC_compile rt_RC_compile (va_Pc [.ref h0, .int (iI (cz))] (PTX D k [(h0, .inr (0, [.ref t0, .int (iI (ln)), .ref sh, .ref al, .ref rd, .ref pa, .ref sp]))])) xIO := by
  refine r_t hlt (by decide) rfl (Nat.le_of_ble_eq_true rfl) ?_
  intro p e s m args below meth c ls hx hb hml hown hts hpre hl htr hout hlocks
  obtain ⟨⟨hP, hK, hX⟩, hTX⟩ := hpre
  have hS : va_S nA s.heap s.heap [] := va_S.rf
  have hl : lv_has ls 4 [(0, .ref h0), (1, .int (iI (cz)))] := hl
  obtain ⟨cz_1, cz_2⟩ := g_cz
  refine lv_aload_n hx hb d_RC_compile_0 rfl (lv_at hl 0 rfl) ?_
  refine lv_iload_n hx hb d_RC_compile_1 rfl (lv_at hl 1 rfl) ?_
  exact th_leave (th_runV (As := [.int (iI (cz))]) (rest := []) (b := h0) ⟨hx, hb, hml, hown, hts⟩ (t_RC_needCalendar l hlt D k (h0) (t0) (sh) (al) (rd) (pa) (sp) (ln) (cz) (⟨by omega, by omega⟩) (hbc)) ⟨callB_of 1 hts (good_RC_needCalendar) rfl rfl rfl (hts _ k_59) (hts _ k_330) (by decide +kernel) ⟨Nat.le_of_ble_eq_true rfl, Nat.le_of_ble_eq_true rfl⟩, (hts _ k_332), (hts _ k_0)⟩ ⟨fun a U g mk q => ⟨q.1, ⟨q.2.1.1, va_K.moved (u := U) (U := U.calling g mk a) (Vm.Alike.refl U.vm) q.2.1.2.1, q.2.1.2.2.calling⟩, q.2.2.calling⟩, (va_recv (q0 := 0) hK hP rfl rfl), fun U hU hW => ⟨rfl, ⟨by rw [hU]; exact hP, va_K.moved hW.alike hK, by rw [hU]; exact hX.warm hW⟩, by rw [hU]; exact hTX.warm hW⟩⟩ rfl rfl hl.1 rfl (lv_room (Nat.le_of_ble_eq_true rfl)) d_RC_compile_2 ⟨Nat.le_of_ble_eq_true rfl, Nat.le_of_ble_eq_true rfl⟩) rfl rfl rfl hlocks hout

set_option maxHeartbeats 4000000 in
set_option maxRecDepth 100000 in
theorem t_RC_elapsed_q (l : Launch) (hlt : l.stackTraces = false) (D : va_G) (k : Nat → ClassId) (h0 t0 sh al rd pa sp : Nat) (ln : Int) (z : Int) (q : Int) (sec : Bool) (g_z : rg z) (g_q : rg q) (hbq : z < 0 ∨ 1461 ≤ z ∨ q < 0 ∨ 48 ≤ q) : MetT l y_RC_elapsed wd_RC_elapsed rt_RC_elapsed (va_Pc [.ref h0, .int (iI (z)), .int (iI (q)), .int (bI (sec))] (PTX D k [(h0, .inr (0, [.ref t0, .int (iI (ln)), .ref sh, .ref al, .ref rd, .ref pa, .ref sp]))])) xIO := by
  refine r_t hlt (by decide) rfl (Nat.le_of_ble_eq_true rfl) ?_
  intro p e s m args below meth c ls hx hb hml hown hts hpre hl htr hout hlocks
  obtain ⟨⟨hP, hK, hX⟩, hTX⟩ := hpre
  have hS : va_S nA s.heap s.heap [] := va_S.rf
  have hl : lv_has ls 4 [(0, .ref h0), (1, .int (iI (z))), (2, .int (iI (q))), (3, .int (bI (sec)))] := hl
  obtain ⟨z_1, z_2⟩ := g_z
  obtain ⟨q_1, q_2⟩ := g_q
  refine lv_aload_n hx hb d_RC_elapsed_0 rfl (lv_at hl 0 rfl) ?_
  refine lv_iload_n hx hb d_RC_elapsed_1 rfl (lv_at hl 1 rfl) ?_
  refine lv_iload_n hx hb d_RC_elapsed_2 rfl (lv_at hl 2 rfl) ?_
  exact th_leave (th_runV (As := [.int (iI (z)), .int (iI (q))]) (rest := []) (b := h0) ⟨hx, hb, hml, hown, hts⟩ (t_RC_needCell l hlt D k (h0) (t0) (sh) (al) (rd) (pa) (sp) (ln) (z) (q) (⟨by omega, by omega⟩) (⟨by omega, by omega⟩) (hbq)) ⟨callB_of 2 hts (good_RC_needCell) rfl rfl rfl (hts _ k_59) (hts _ k_573) (by decide +kernel) ⟨Nat.le_of_ble_eq_true rfl, Nat.le_of_ble_eq_true rfl⟩, (hts _ k_575), (hts _ k_23)⟩ ⟨fun a U g mk q => ⟨q.1, ⟨q.2.1.1, va_K.moved (u := U) (U := U.calling g mk a) (Vm.Alike.refl U.vm) q.2.1.2.1, q.2.1.2.2.calling⟩, q.2.2.calling⟩, (va_recv (q0 := 0) hK hP rfl rfl), fun U hU hW => ⟨rfl, ⟨by rw [hU]; exact hP, va_K.moved hW.alike hK, by rw [hU]; exact hX.warm hW⟩, by rw [hU]; exact hTX.warm hW⟩⟩ rfl rfl hl.1 rfl (lv_room (Nat.le_of_ble_eq_true rfl)) d_RC_elapsed_3 ⟨Nat.le_of_ble_eq_true rfl, Nat.le_of_ble_eq_true rfl⟩) rfl rfl rfl hlocks hout

set_option maxHeartbeats 4000000 in
set_option maxRecDepth 100000 in
theorem t_RC_total_c (l : Launch) (hlt : l.stackTraces = false) (D : va_G) (k : Nat → ClassId) (h0 t0 sh al rd pa sp : Nat) (ln : Int) (cz : Int) (fz : Int) (tz : Int) (w0z : Int) (g_cz : rg cz) (hbc : cz < 0 ∨ 3 ≤ cz) : MetT l y_RC_total wd_RC_total rt_RC_total (va_Pc [.ref h0, .int (iI (cz)), .int (iI (fz)), .int (iI (tz)), .int (iI (w0z))] (PTX D k [(h0, .inr (0, [.ref t0, .int (iI (ln)), .ref sh, .ref al, .ref rd, .ref pa, .ref sp]))])) xIO := by
  refine r_t hlt (by decide) rfl (Nat.le_of_ble_eq_true rfl) ?_
  intro p e s m args below meth c ls hx hb hml hown hts hpre hl htr hout hlocks
  obtain ⟨⟨hP, hK, hX⟩, hTX⟩ := hpre
  have hS : va_S nA s.heap s.heap [] := va_S.rf
  have hl : lv_has ls 8 [(0, .ref h0), (1, .int (iI (cz))), (2, .int (iI (fz))), (3, .int (iI (tz))), (4, .int (iI (w0z)))] := hl
  obtain ⟨cz_1, cz_2⟩ := g_cz
  refine lv_aload_n hx hb d_RC_total_0 rfl (lv_at hl 0 rfl) ?_
  refine lv_iload_n hx hb d_RC_total_1 rfl (lv_at hl 1 rfl) ?_
  exact th_leave (th_runV (As := [.int (iI (cz))]) (rest := []) (b := h0) ⟨hx, hb, hml, hown, hts⟩ (t_RC_needCalendar l hlt D k (h0) (t0) (sh) (al) (rd) (pa) (sp) (ln) (cz) (⟨by omega, by omega⟩) (hbc)) ⟨callB_of 1 hts (good_RC_needCalendar) rfl rfl rfl (hts _ k_59) (hts _ k_330) (by decide +kernel) ⟨Nat.le_of_ble_eq_true rfl, Nat.le_of_ble_eq_true rfl⟩, (hts _ k_332), (hts _ k_0)⟩ ⟨fun a U g mk q => ⟨q.1, ⟨q.2.1.1, va_K.moved (u := U) (U := U.calling g mk a) (Vm.Alike.refl U.vm) q.2.1.2.1, q.2.1.2.2.calling⟩, q.2.2.calling⟩, (va_recv (q0 := 0) hK hP rfl rfl), fun U hU hW => ⟨rfl, ⟨by rw [hU]; exact hP, va_K.moved hW.alike hK, by rw [hU]; exact hX.warm hW⟩, by rw [hU]; exact hTX.warm hW⟩⟩ rfl rfl hl.1 rfl (lv_room (Nat.le_of_ble_eq_true rfl)) d_RC_total_2 ⟨Nat.le_of_ble_eq_true rfl, Nat.le_of_ble_eq_true rfl⟩) rfl rfl rfl hlocks hout

set_option maxHeartbeats 4000000 in
set_option maxRecDepth 100000 in
theorem t_RC_total_f (l : Launch) (hlt : l.stackTraces = false) (D : va_G) (k : Nat → ClassId) (h0 t0 sh al rd pa sp : Nat) (ln : Int) (cc : Nat) (fz : Int) (tz : Int) (w0z : Int) (hc : cc < 3) (g_fz : rg fz) (g_tz : rg tz) (hbf : fz < 0 ∨ tz < fz ∨ 1461 < tz) : MetT l y_RC_total wd_RC_total rt_RC_total (va_Pc [.ref h0, .int (iI ((cc : Int))), .int (iI (fz)), .int (iI (tz)), .int (iI (w0z))] (PTX D k [(h0, .inr (0, [.ref t0, .int (iI (ln)), .ref sh, .ref al, .ref rd, .ref pa, .ref sp]))])) xIO := by
  refine r_t hlt (by decide) rfl (Nat.le_of_ble_eq_true rfl) ?_
  intro p e s m args below meth c ls hx hb hml hown hts hpre hl htr hout hlocks
  obtain ⟨⟨hP, hK, hX⟩, hTX⟩ := hpre
  have hS : va_S nA s.heap s.heap [] := va_S.rf
  have hl : lv_has ls 8 [(0, .ref h0), (1, .int (iI ((cc : Int)))), (2, .int (iI (fz))), (3, .int (iI (tz))), (4, .int (iI (w0z)))] := hl
  obtain ⟨fz_1, fz_2⟩ := g_fz
  obtain ⟨tz_1, tz_2⟩ := g_tz
  refine lv_aload_n hx hb d_RC_total_0 rfl (lv_at hl 0 rfl) ?_
  refine lv_iload_n hx hb d_RC_total_1 rfl (lv_at hl 1 rfl) ?_
  refine rc_v (va_runV (As := [.int (iI ((cc : Int)))]) (rest := []) (b := h0) ⟨hx, hb, hml, hown, hts⟩ (c_RC_needCalendar l D k (h0) (t0) (sh) (al) (rd) (pa) (sp) (ln) ((cc : Int)) ((by omega))) ⟨callB_of 1 hts (good_RC_needCalendar) rfl rfl rfl (hts _ k_59) (hts _ k_330) (by decide +kernel) ⟨Nat.le_of_ble_eq_true rfl, Nat.le_of_ble_eq_true rfl⟩, (hts _ k_332), (hts _ k_0)⟩ ⟨fun a U g mk q => ⟨q.1, q.2.1, va_K.moved (u := U) (U := U.calling g mk a) (Vm.Alike.refl U.vm) q.2.2.1, q.2.2.2.calling⟩, (va_recv (q0 := 0) hK hP rfl rfl), fun U hU hW => ⟨rfl, by rw [hU]; exact hP, va_K.moved hW.alike hK, by rw [hU]; exact hX.warm hW⟩⟩ rfl rfl hl.1 rfl (lv_room (Nat.le_of_ble_eq_true rfl)) d_RC_total_2 ⟨Nat.le_of_ble_eq_true rfl, Nat.le_of_ble_eq_true rfl⟩) ?_
  refine lv_iload_n hx hb d_RC_total_5 rfl (lv_at hl 2 rfl) ?_
  refine z_if_lt (tgt := 21) hx hb d_RC_total_6 (by decide) ⟨by omega, by omega⟩ (fun h6 => ?_) (fun h6 => ?_)
  · obtain ⟨q9, hq9⟩ := hTX.s113
    exact th_new (own := R_RC) (X := xIO) (names := upX) (iN := 111) (iC := 115) (iS := 113) hx hb htr hown (by decide +kernel) (by decide +kernel) (own_IO_at hts hTX) (hts _ kn_IO) (hts _ km_IO) (hts _ ki_IO) hq9 hlocks (by rw [hml]; exact hl.1) hout (Nat.le_of_ble_eq_true rfl) (Nat.le_of_ble_eq_true rfl) (Nat.le_of_ble_eq_true rfl) (Nat.le_of_ble_eq_true rfl) d_RC_total_21 d_RC_total_24 d_RC_total_25 d_RC_total_27 d_RC_total_30
  · refine lv_iload_n hx hb d_RC_total_9 rfl (lv_at hl 3 rfl) ?_
    refine lv_iload_n hx hb d_RC_total_10 rfl (lv_at hl 2 rfl) ?_
    refine z_icmp_lt (tgt := 21) hx hb d_RC_total_11 (by decide) ⟨by omega, by omega⟩ ⟨by omega, by omega⟩ (fun h11 => ?_) (fun h11 => ?_)
    · obtain ⟨q9, hq9⟩ := hTX.s113
      exact th_new (own := R_RC) (X := xIO) (names := upX) (iN := 111) (iC := 115) (iS := 113) hx hb htr hown (by decide +kernel) (by decide +kernel) (own_IO_at hts hTX) (hts _ kn_IO) (hts _ km_IO) (hts _ ki_IO) hq9 hlocks (by rw [hml]; exact hl.1) hout (Nat.le_of_ble_eq_true rfl) (Nat.le_of_ble_eq_true rfl) (Nat.le_of_ble_eq_true rfl) (Nat.le_of_ble_eq_true rfl) d_RC_total_21 d_RC_total_24 d_RC_total_25 d_RC_total_27 d_RC_total_30
    · refine lv_iload_n hx hb d_RC_total_14 rfl (lv_at hl 3 rfl) ?_
      refine z_sipush hx hb d_RC_total_15 (by decide) ?_
      refine z_icmp_le (tgt := 31) hx hb d_RC_total_18 (by decide) ⟨by omega, by omega⟩ ⟨by omega, by omega⟩ (fun h18 => ?_) (fun h18 => ?_)
      · exact absurd hbf (by omega)
      · obtain ⟨q9, hq9⟩ := hTX.s113
        exact th_new (own := R_RC) (X := xIO) (names := upX) (iN := 111) (iC := 115) (iS := 113) hx hb htr hown (by decide +kernel) (by decide +kernel) (own_IO_at hts hTX) (hts _ kn_IO) (hts _ km_IO) (hts _ ki_IO) hq9 hlocks (by rw [hml]; exact hl.1) hout (Nat.le_of_ble_eq_true rfl) (Nat.le_of_ble_eq_true rfl) (Nat.le_of_ble_eq_true rfl) (Nat.le_of_ble_eq_true rfl) d_RC_total_21 d_RC_total_24 d_RC_total_25 d_RC_total_27 d_RC_total_30

set_option maxHeartbeats 4000000 in
set_option maxRecDepth 100000 in
theorem t_RC_total_p (l : Launch) (hlt : l.stackTraces = false) (D : va_G) (k : Nat → ClassId) (h0 t0 sh al rd pa sp u0 w0 : Nat) (ln : Int) (po : Nat → Nat) (cc : Nat) (fz : Int) (tz : Int) (w0z : Int) (hc : cc < 3) (hbf : 0 ≤ fz ∧ fz ≤ tz ∧ tz ≤ 1461) : MetT l y_RC_total wd_RC_total rt_RC_total (va_Pc [.ref h0, .int (iI ((cc : Int))), .int (iI (fz)), .int (iI (tz)), .int (iI (w0z))] (PTX D k [(h0, .inr (0, [.ref t0, .int (iI (ln)), .ref sh, .ref al, .ref rd, .ref pa, .ref sp])), (pa, .inl (k 6, 3, .inr (.inr (.inr (.inr (q3 po)))))), (po cc, .inr (5, [.ref u0, .ref w0, .int (iI (0))]))])) xIS := by
  refine r_t hlt (by decide) rfl (Nat.le_of_ble_eq_true rfl) ?_
  intro p e s m args below meth c ls hx hb hml hown hts hpre hl htr hout hlocks
  obtain ⟨⟨hP, hK, hX⟩, hTX⟩ := hpre
  have hS : va_S nA s.heap s.heap [] := va_S.rf
  have hl : lv_has ls 8 [(0, .ref h0), (1, .int (iI ((cc : Int)))), (2, .int (iI (fz))), (3, .int (iI (tz))), (4, .int (iI (w0z)))] := hl
  refine lv_aload_n hx hb d_RC_total_0 rfl (lv_at hl 0 rfl) ?_
  refine lv_iload_n hx hb d_RC_total_1 rfl (lv_at hl 1 rfl) ?_
  refine rc_v (va_runV (As := [.int (iI ((cc : Int)))]) (rest := []) (b := h0) ⟨hx, hb, hml, hown, hts⟩ (c_RC_needCalendar l D k (h0) (t0) (sh) (al) (rd) (pa) (sp) (ln) ((cc : Int)) ((by omega))) ⟨callB_of 1 hts (good_RC_needCalendar) rfl rfl rfl (hts _ k_59) (hts _ k_330) (by decide +kernel) ⟨Nat.le_of_ble_eq_true rfl, Nat.le_of_ble_eq_true rfl⟩, (hts _ k_332), (hts _ k_0)⟩ ⟨fun a U g mk q => ⟨q.1, q.2.1, va_K.moved (u := U) (U := U.calling g mk a) (Vm.Alike.refl U.vm) q.2.2.1, q.2.2.2.calling⟩, (va_recv (q0 := 0) hK hP rfl rfl), fun U hU hW => ⟨rfl, by rw [hU]; exact (hP.sub (ws' := [(h0, .inr (0, [.ref t0, .int (iI (ln)), .ref sh, .ref al, .ref rd, .ref pa, .ref sp]))]) [0] rfl), va_K.moved hW.alike hK, by rw [hU]; exact hX.warm hW⟩⟩ rfl rfl hl.1 rfl (lv_room (Nat.le_of_ble_eq_true rfl)) d_RC_total_2 ⟨Nat.le_of_ble_eq_true rfl, Nat.le_of_ble_eq_true rfl⟩) ?_
  refine lv_iload_n hx hb d_RC_total_5 rfl (lv_at hl 2 rfl) ?_
  refine z_if_lt (tgt := 21) hx hb d_RC_total_6 (by decide) ⟨by omega, by omega⟩ (fun h6 => absurd h6 (by omega)) (fun h6 => ?_)
  refine lv_iload_n hx hb d_RC_total_9 rfl (lv_at hl 3 rfl) ?_
  refine lv_iload_n hx hb d_RC_total_10 rfl (lv_at hl 2 rfl) ?_
  refine z_icmp_lt (tgt := 21) hx hb d_RC_total_11 (by decide) ⟨by omega, by omega⟩ ⟨by omega, by omega⟩ (fun h11 => absurd h11 (by omega)) (fun h11 => ?_)
  refine lv_iload_n hx hb d_RC_total_14 rfl (lv_at hl 3 rfl) ?_
  refine z_sipush hx hb d_RC_total_15 (by decide) ?_
  refine z_icmp_le (tgt := 31) hx hb d_RC_total_18 (by decide) ⟨by omega, by omega⟩ ⟨by omega, by omega⟩ (fun h18 => ?_) (fun h18 => absurd h18 (by omega))
  refine lv_aload_n hx hb d_RC_total_31 rfl (lv_at hl 0 rfl) ?_
  refine lv_iload_n hx hb d_RC_total_32 rfl (lv_at hl 1 rfl) ?_
  exact th_leave (th_runV (As := [.int (iI ((cc : Int)))]) (rest := []) (b := h0) ⟨hx, hb, hml, hown, hts⟩ (t_RC_compiledPlan l hlt D k (h0) (t0) (sh) (al) (rd) (pa) (sp) (u0) (w0) (ln) (po) (cc) (hc)) ⟨callB_of 1 hts (good_RC_compiledPlan) rfl rfl rfl (hts _ k_59) (hts _ k_578) (by decide +kernel) ⟨Nat.le_of_ble_eq_true rfl, Nat.le_of_ble_eq_true rfl⟩, (hts _ k_580), (hts _ k_24)⟩ ⟨fun a U g mk q => ⟨q.1, ⟨q.2.1.1, va_K.moved (u := U) (U := U.calling g mk a) (Vm.Alike.refl U.vm) q.2.1.2.1, q.2.1.2.2.calling⟩, q.2.2.calling⟩, (va_recv (q0 := 0) hK hP rfl rfl), fun U hU hW => ⟨rfl, ⟨by rw [hU]; exact hP, va_K.moved hW.alike hK, by rw [hU]; exact hX.warm hW⟩, by rw [hU]; exact hTX.warm hW⟩⟩ rfl rfl hl.1 rfl (lv_room (Nat.le_of_ble_eq_true rfl)) d_RC_total_33 ⟨Nat.le_of_ble_eq_true rfl, Nat.le_of_ble_eq_true rfl⟩) rfl rfl rfl hlocks hout

set_option maxHeartbeats 4000000 in
set_option maxRecDepth 100000 in
theorem t_RC_dead_c (l : Launch) (hlt : l.stackTraces = false) (D : va_G) (k : Nat → ClassId) (h0 t0 sh al rd pa sp : Nat) (ln : Int) (cz : Int) (i0 : Int) (g_cz : rg cz) (hbc : cz < 0 ∨ 3 ≤ cz) : MetT l y_RC_dead wd_RC_dead rt_RC_dead (va_Pc [.ref h0, .int (iI (cz)), .int (iI (i0))] (PTX D k [(h0, .inr (0, [.ref t0, .int (iI (ln)), .ref sh, .ref al, .ref rd, .ref pa, .ref sp]))])) xIO := by
  refine r_t hlt (by decide) rfl (Nat.le_of_ble_eq_true rfl) ?_
  intro p e s m args below meth c ls hx hb hml hown hts hpre hl htr hout hlocks
  obtain ⟨⟨hP, hK, hX⟩, hTX⟩ := hpre
  have hS : va_S nA s.heap s.heap [] := va_S.rf
  have hl : lv_has ls 6 [(0, .ref h0), (1, .int (iI (cz))), (2, .int (iI (i0)))] := hl
  obtain ⟨cz_1, cz_2⟩ := g_cz
  refine lv_aload_n hx hb d_RC_dead_0 rfl (lv_at hl 0 rfl) ?_
  refine lv_iload_n hx hb d_RC_dead_1 rfl (lv_at hl 1 rfl) ?_
  exact th_leave (th_runV (As := [.int (iI (cz))]) (rest := []) (b := h0) ⟨hx, hb, hml, hown, hts⟩ (t_RC_needCalendar l hlt D k (h0) (t0) (sh) (al) (rd) (pa) (sp) (ln) (cz) (⟨by omega, by omega⟩) (hbc)) ⟨callB_of 1 hts (good_RC_needCalendar) rfl rfl rfl (hts _ k_59) (hts _ k_330) (by decide +kernel) ⟨Nat.le_of_ble_eq_true rfl, Nat.le_of_ble_eq_true rfl⟩, (hts _ k_332), (hts _ k_0)⟩ ⟨fun a U g mk q => ⟨q.1, ⟨q.2.1.1, va_K.moved (u := U) (U := U.calling g mk a) (Vm.Alike.refl U.vm) q.2.1.2.1, q.2.1.2.2.calling⟩, q.2.2.calling⟩, (va_recv (q0 := 0) hK hP rfl rfl), fun U hU hW => ⟨rfl, ⟨by rw [hU]; exact hP, va_K.moved hW.alike hK, by rw [hU]; exact hX.warm hW⟩, by rw [hU]; exact hTX.warm hW⟩⟩ rfl rfl hl.1 rfl (lv_room (Nat.le_of_ble_eq_true rfl)) d_RC_dead_2 ⟨Nat.le_of_ble_eq_true rfl, Nat.le_of_ble_eq_true rfl⟩) rfl rfl rfl hlocks hout

set_option maxHeartbeats 4000000 in
set_option maxRecDepth 100000 in
theorem t_RC_dead_p (l : Launch) (hlt : l.stackTraces = false) (D : va_G) (k : Nat → ClassId) (h0 t0 sh al rd pa sp u0 w0 : Nat) (ln : Int) (po : Nat → Nat) (cc : Nat) (i0 : Int) (hc : cc < 3) : MetT l y_RC_dead wd_RC_dead rt_RC_dead (va_Pc [.ref h0, .int (iI ((cc : Int))), .int (iI (i0))] (PTX D k [(h0, .inr (0, [.ref t0, .int (iI (ln)), .ref sh, .ref al, .ref rd, .ref pa, .ref sp])), (pa, .inl (k 6, 3, .inr (.inr (.inr (.inr (q3 po)))))), (po cc, .inr (5, [.ref u0, .ref w0, .int (iI (0))]))])) xIS := by
  refine r_t hlt (by decide) rfl (Nat.le_of_ble_eq_true rfl) ?_
  intro p e s m args below meth c ls hx hb hml hown hts hpre hl htr hout hlocks
  obtain ⟨⟨hP, hK, hX⟩, hTX⟩ := hpre
  have hS : va_S nA s.heap s.heap [] := va_S.rf
  have hl : lv_has ls 6 [(0, .ref h0), (1, .int (iI ((cc : Int)))), (2, .int (iI (i0)))] := hl
  refine lv_aload_n hx hb d_RC_dead_0 rfl (lv_at hl 0 rfl) ?_
  refine lv_iload_n hx hb d_RC_dead_1 rfl (lv_at hl 1 rfl) ?_
  refine rc_v (va_runV (As := [.int (iI ((cc : Int)))]) (rest := []) (b := h0) ⟨hx, hb, hml, hown, hts⟩ (c_RC_needCalendar l D k (h0) (t0) (sh) (al) (rd) (pa) (sp) (ln) ((cc : Int)) ((by omega))) ⟨callB_of 1 hts (good_RC_needCalendar) rfl rfl rfl (hts _ k_59) (hts _ k_330) (by decide +kernel) ⟨Nat.le_of_ble_eq_true rfl, Nat.le_of_ble_eq_true rfl⟩, (hts _ k_332), (hts _ k_0)⟩ ⟨fun a U g mk q => ⟨q.1, q.2.1, va_K.moved (u := U) (U := U.calling g mk a) (Vm.Alike.refl U.vm) q.2.2.1, q.2.2.2.calling⟩, (va_recv (q0 := 0) hK hP rfl rfl), fun U hU hW => ⟨rfl, by rw [hU]; exact (hP.sub (ws' := [(h0, .inr (0, [.ref t0, .int (iI (ln)), .ref sh, .ref al, .ref rd, .ref pa, .ref sp]))]) [0] rfl), va_K.moved hW.alike hK, by rw [hU]; exact hX.warm hW⟩⟩ rfl rfl hl.1 rfl (lv_room (Nat.le_of_ble_eq_true rfl)) d_RC_dead_2 ⟨Nat.le_of_ble_eq_true rfl, Nat.le_of_ble_eq_true rfl⟩) ?_
  refine lv_aload_n hx hb d_RC_dead_5 rfl (lv_at hl 0 rfl) ?_
  refine lv_iload_n hx hb d_RC_dead_6 rfl (lv_at hl 1 rfl) ?_
  exact th_leave (th_runV (As := [.int (iI ((cc : Int)))]) (rest := []) (b := h0) ⟨hx, hb, hml, hown, hts⟩ (t_RC_compiledPlan l hlt D k (h0) (t0) (sh) (al) (rd) (pa) (sp) (u0) (w0) (ln) (po) (cc) (hc)) ⟨callB_of 1 hts (good_RC_compiledPlan) rfl rfl rfl (hts _ k_59) (hts _ k_578) (by decide +kernel) ⟨Nat.le_of_ble_eq_true rfl, Nat.le_of_ble_eq_true rfl⟩, (hts _ k_580), (hts _ k_24)⟩ ⟨fun a U g mk q => ⟨q.1, ⟨q.2.1.1, va_K.moved (u := U) (U := U.calling g mk a) (Vm.Alike.refl U.vm) q.2.1.2.1, q.2.1.2.2.calling⟩, q.2.2.calling⟩, (va_recv (q0 := 0) hK hP rfl rfl), fun U hU hW => ⟨rfl, ⟨by rw [hU]; exact hP, va_K.moved hW.alike hK, by rw [hU]; exact hX.warm hW⟩, by rw [hU]; exact hTX.warm hW⟩⟩ rfl rfl hl.1 rfl (lv_room (Nat.le_of_ble_eq_true rfl)) d_RC_dead_7 ⟨Nat.le_of_ble_eq_true rfl, Nat.le_of_ble_eq_true rfl⟩) rfl rfl rfl hlocks hout

set_option maxHeartbeats 4000000 in
set_option maxRecDepth 100000 in
theorem t_RC_compare_c (l : Launch) (hlt : l.stackTraces = false) (D : va_G) (k : Nat → ClassId) (h0 t0 sh al rd pa sp : Nat) (ln : Int) (cz : Int) (z : Int) (g_cz : rg cz) (hbc : cz < 0 ∨ 3 ≤ cz) : MetT l y_RC_compare wd_RC_compare rt_RC_compare (va_Pc [.ref h0, .int (iI (cz)), .int (iI (z))] (PTX D k [(h0, .inr (0, [.ref t0, .int (iI (ln)), .ref sh, .ref al, .ref rd, .ref pa, .ref sp]))])) xIO := by
  refine r_t hlt (by decide) rfl (Nat.le_of_ble_eq_true rfl) ?_
  intro p e s m args below meth c ls hx hb hml hown hts hpre hl htr hout hlocks
  obtain ⟨⟨hP, hK, hX⟩, hTX⟩ := hpre
  have hS : va_S nA s.heap s.heap [] := va_S.rf
  have hl : lv_has ls 8 [(0, .ref h0), (1, .int (iI (cz))), (2, .int (iI (z)))] := hl
  obtain ⟨cz_1, cz_2⟩ := g_cz
  refine lv_aload_n hx hb d_RC_compare_0 rfl (lv_at hl 0 rfl) ?_
  refine lv_iload_n hx hb d_RC_compare_1 rfl (lv_at hl 1 rfl) ?_
  exact th_leave (th_runV (As := [.int (iI (cz))]) (rest := []) (b := h0) ⟨hx, hb, hml, hown, hts⟩ (t_RC_needCalendar l hlt D k (h0) (t0) (sh) (al) (rd) (pa) (sp) (ln) (cz) (⟨by omega, by omega⟩) (hbc)) ⟨callB_of 1 hts (good_RC_needCalendar) rfl rfl rfl (hts _ k_59) (hts _ k_330) (by decide +kernel) ⟨Nat.le_of_ble_eq_true rfl, Nat.le_of_ble_eq_true rfl⟩, (hts _ k_332), (hts _ k_0)⟩ ⟨fun a U g mk q => ⟨q.1, ⟨q.2.1.1, va_K.moved (u := U) (U := U.calling g mk a) (Vm.Alike.refl U.vm) q.2.1.2.1, q.2.1.2.2.calling⟩, q.2.2.calling⟩, (va_recv (q0 := 0) hK hP rfl rfl), fun U hU hW => ⟨rfl, ⟨by rw [hU]; exact hP, va_K.moved hW.alike hK, by rw [hU]; exact hX.warm hW⟩, by rw [hU]; exact hTX.warm hW⟩⟩ rfl rfl hl.1 rfl (lv_room (Nat.le_of_ble_eq_true rfl)) d_RC_compare_2 ⟨Nat.le_of_ble_eq_true rfl, Nat.le_of_ble_eq_true rfl⟩) rfl rfl rfl hlocks hout

set_option maxHeartbeats 4000000 in
set_option maxRecDepth 100000 in
theorem t_RC_compare_d (l : Launch) (hlt : l.stackTraces = false) (D : va_G) (k : Nat → ClassId) (h0 t0 sh al rd pa sp : Nat) (ln : Int) (cc : Nat) (cz : Int) (hc : cc < 3) (g_cz : rg cz) (hbc : cz < 0 ∨ 3 ≤ cz) : MetT l y_RC_compare wd_RC_compare rt_RC_compare (va_Pc [.ref h0, .int (iI ((cc : Int))), .int (iI (cz))] (PTX D k [(h0, .inr (0, [.ref t0, .int (iI (ln)), .ref sh, .ref al, .ref rd, .ref pa, .ref sp]))])) xIO := by
  refine r_t hlt (by decide) rfl (Nat.le_of_ble_eq_true rfl) ?_
  intro p e s m args below meth c ls hx hb hml hown hts hpre hl htr hout hlocks
  obtain ⟨⟨hP, hK, hX⟩, hTX⟩ := hpre
  have hS : va_S nA s.heap s.heap [] := va_S.rf
  have hl : lv_has ls 8 [(0, .ref h0), (1, .int (iI ((cc : Int)))), (2, .int (iI (cz)))] := hl
  obtain ⟨cz_1, cz_2⟩ := g_cz
  refine lv_aload_n hx hb d_RC_compare_0 rfl (lv_at hl 0 rfl) ?_
  refine lv_iload_n hx hb d_RC_compare_1 rfl (lv_at hl 1 rfl) ?_
  refine rc_v (va_runV (As := [.int (iI ((cc : Int)))]) (rest := []) (b := h0) ⟨hx, hb, hml, hown, hts⟩ (c_RC_needCalendar l D k (h0) (t0) (sh) (al) (rd) (pa) (sp) (ln) ((cc : Int)) ((by omega))) ⟨callB_of 1 hts (good_RC_needCalendar) rfl rfl rfl (hts _ k_59) (hts _ k_330) (by decide +kernel) ⟨Nat.le_of_ble_eq_true rfl, Nat.le_of_ble_eq_true rfl⟩, (hts _ k_332), (hts _ k_0)⟩ ⟨fun a U g mk q => ⟨q.1, q.2.1, va_K.moved (u := U) (U := U.calling g mk a) (Vm.Alike.refl U.vm) q.2.2.1, q.2.2.2.calling⟩, (va_recv (q0 := 0) hK hP rfl rfl), fun U hU hW => ⟨rfl, by rw [hU]; exact hP, va_K.moved hW.alike hK, by rw [hU]; exact hX.warm hW⟩⟩ rfl rfl hl.1 rfl (lv_room (Nat.le_of_ble_eq_true rfl)) d_RC_compare_2 ⟨Nat.le_of_ble_eq_true rfl, Nat.le_of_ble_eq_true rfl⟩) ?_
  refine lv_aload_n hx hb d_RC_compare_5 rfl (lv_at hl 0 rfl) ?_
  refine lv_iload_n hx hb d_RC_compare_6 rfl (lv_at hl 2 rfl) ?_
  exact th_leave (th_runV (As := [.int (iI (cz))]) (rest := []) (b := h0) ⟨hx, hb, hml, hown, hts⟩ (t_RC_needCalendar l hlt D k (h0) (t0) (sh) (al) (rd) (pa) (sp) (ln) (cz) (⟨by omega, by omega⟩) (hbc)) ⟨callB_of 1 hts (good_RC_needCalendar) rfl rfl rfl (hts _ k_59) (hts _ k_330) (by decide +kernel) ⟨Nat.le_of_ble_eq_true rfl, Nat.le_of_ble_eq_true rfl⟩, (hts _ k_332), (hts _ k_0)⟩ ⟨fun a U g mk q => ⟨q.1, ⟨q.2.1.1, va_K.moved (u := U) (U := U.calling g mk a) (Vm.Alike.refl U.vm) q.2.1.2.1, q.2.1.2.2.calling⟩, q.2.2.calling⟩, (va_recv (q0 := 0) hK hP rfl rfl), fun U hU hW => ⟨rfl, ⟨by rw [hU]; exact hP, va_K.moved hW.alike hK, by rw [hU]; exact hX.warm hW⟩, by rw [hU]; exact hTX.warm hW⟩⟩ rfl rfl hl.1 rfl (lv_room (Nat.le_of_ble_eq_true rfl)) d_RC_compare_7 ⟨Nat.le_of_ble_eq_true rfl, Nat.le_of_ble_eq_true rfl⟩) rfl rfl rfl hlocks hout

set_option maxHeartbeats 4000000 in
set_option maxRecDepth 100000 in
theorem t_RC_compare_p (l : Launch) (hlt : l.stackTraces = false) (D : va_G) (k : Nat → ClassId) (h0 t0 sh al rd pa sp u0 w0 : Nat) (ln : Int) (po : Nat → Nat) (cc : Nat) (c2 : Nat) (hc : cc < 3) (hc2 : c2 < 3) : MetT l y_RC_compare wd_RC_compare rt_RC_compare (va_Pc [.ref h0, .int (iI ((cc : Int))), .int (iI ((c2 : Int)))] (PTX D k [(h0, .inr (0, [.ref t0, .int (iI (ln)), .ref sh, .ref al, .ref rd, .ref pa, .ref sp])), (pa, .inl (k 6, 3, .inr (.inr (.inr (.inr (q3 po)))))), (po cc, .inr (5, [.ref u0, .ref w0, .int (iI (0))]))])) xIS := by
  refine r_t hlt (by decide) rfl (Nat.le_of_ble_eq_true rfl) ?_
  intro p e s m args below meth c ls hx hb hml hown hts hpre hl htr hout hlocks
  obtain ⟨⟨hP, hK, hX⟩, hTX⟩ := hpre
  have hS : va_S nA s.heap s.heap [] := va_S.rf
  have hl : lv_has ls 8 [(0, .ref h0), (1, .int (iI ((cc : Int)))), (2, .int (iI ((c2 : Int))))] := hl
  refine lv_aload_n hx hb d_RC_compare_0 rfl (lv_at hl 0 rfl) ?_
  refine lv_iload_n hx hb d_RC_compare_1 rfl (lv_at hl 1 rfl) ?_
  refine rc_v (va_runV (As := [.int (iI ((cc : Int)))]) (rest := []) (b := h0) ⟨hx, hb, hml, hown, hts⟩ (c_RC_needCalendar l D k (h0) (t0) (sh) (al) (rd) (pa) (sp) (ln) ((cc : Int)) ((by omega))) ⟨callB_of 1 hts (good_RC_needCalendar) rfl rfl rfl (hts _ k_59) (hts _ k_330) (by decide +kernel) ⟨Nat.le_of_ble_eq_true rfl, Nat.le_of_ble_eq_true rfl⟩, (hts _ k_332), (hts _ k_0)⟩ ⟨fun a U g mk q => ⟨q.1, q.2.1, va_K.moved (u := U) (U := U.calling g mk a) (Vm.Alike.refl U.vm) q.2.2.1, q.2.2.2.calling⟩, (va_recv (q0 := 0) hK hP rfl rfl), fun U hU hW => ⟨rfl, by rw [hU]; exact (hP.sub (ws' := [(h0, .inr (0, [.ref t0, .int (iI (ln)), .ref sh, .ref al, .ref rd, .ref pa, .ref sp]))]) [0] rfl), va_K.moved hW.alike hK, by rw [hU]; exact hX.warm hW⟩⟩ rfl rfl hl.1 rfl (lv_room (Nat.le_of_ble_eq_true rfl)) d_RC_compare_2 ⟨Nat.le_of_ble_eq_true rfl, Nat.le_of_ble_eq_true rfl⟩) ?_
  refine lv_aload_n hx hb d_RC_compare_5 rfl (lv_at hl 0 rfl) ?_
  refine lv_iload_n hx hb d_RC_compare_6 rfl (lv_at hl 2 rfl) ?_
  refine rc_v (va_runV (As := [.int (iI ((c2 : Int)))]) (rest := []) (b := h0) ⟨hx, hb, hml, hown, hts⟩ (c_RC_needCalendar l D k (h0) (t0) (sh) (al) (rd) (pa) (sp) (ln) ((c2 : Int)) ((by omega))) ⟨callB_of 1 hts (good_RC_needCalendar) rfl rfl rfl (hts _ k_59) (hts _ k_330) (by decide +kernel) ⟨Nat.le_of_ble_eq_true rfl, Nat.le_of_ble_eq_true rfl⟩, (hts _ k_332), (hts _ k_0)⟩ ⟨fun a U g mk q => ⟨q.1, q.2.1, va_K.moved (u := U) (U := U.calling g mk a) (Vm.Alike.refl U.vm) q.2.2.1, q.2.2.2.calling⟩, (va_recv (q0 := 0) hK hP rfl rfl), fun U hU hW => ⟨rfl, by rw [hU]; exact (hP.sub (ws' := [(h0, .inr (0, [.ref t0, .int (iI (ln)), .ref sh, .ref al, .ref rd, .ref pa, .ref sp]))]) [0] rfl), va_K.moved hW.alike hK, by rw [hU]; exact hX.warm hW⟩⟩ rfl rfl hl.1 rfl (lv_room (Nat.le_of_ble_eq_true rfl)) d_RC_compare_7 ⟨Nat.le_of_ble_eq_true rfl, Nat.le_of_ble_eq_true rfl⟩) ?_
  refine lv_aload_n hx hb d_RC_compare_10 rfl (lv_at hl 0 rfl) ?_
  refine lv_iload_n hx hb d_RC_compare_11 rfl (lv_at hl 1 rfl) ?_
  exact th_leave (th_runV (As := [.int (iI ((cc : Int)))]) (rest := []) (b := h0) ⟨hx, hb, hml, hown, hts⟩ (t_RC_compiledPlan l hlt D k (h0) (t0) (sh) (al) (rd) (pa) (sp) (u0) (w0) (ln) (po) (cc) (hc)) ⟨callB_of 1 hts (good_RC_compiledPlan) rfl rfl rfl (hts _ k_59) (hts _ k_578) (by decide +kernel) ⟨Nat.le_of_ble_eq_true rfl, Nat.le_of_ble_eq_true rfl⟩, (hts _ k_580), (hts _ k_24)⟩ ⟨fun a U g mk q => ⟨q.1, ⟨q.2.1.1, va_K.moved (u := U) (U := U.calling g mk a) (Vm.Alike.refl U.vm) q.2.1.2.1, q.2.1.2.2.calling⟩, q.2.2.calling⟩, (va_recv (q0 := 0) hK hP rfl rfl), fun U hU hW => ⟨rfl, ⟨by rw [hU]; exact hP, va_K.moved hW.alike hK, by rw [hU]; exact hX.warm hW⟩, by rw [hU]; exact hTX.warm hW⟩⟩ rfl rfl hl.1 rfl (lv_room (Nat.le_of_ble_eq_true rfl)) d_RC_compare_12 ⟨Nat.le_of_ble_eq_true rfl, Nat.le_of_ble_eq_true rfl⟩) rfl rfl rfl hlocks hout

set_option maxHeartbeats 4000000 in
set_option maxRecDepth 100000 in
theorem t_RC_compare_r (l : Launch) (hlt : l.stackTraces = false) (D : va_G) (k : Nat → ClassId) (h0 t0 sh al rd pa sp u0 w0 u1 w1 : Nat) (ln : Int) (po : Nat → Nat) (cc : Nat) (c2 : Nat) (rl : Nat) (hc : cc < 3) (hc2 : c2 < 3) (hr : 0 < rl) (hr2 : rl < 1000) : MetT l y_RC_compare wd_RC_compare rt_RC_compare (va_Pc [.ref h0, .int (iI ((cc : Int))), .int (iI ((c2 : Int)))] (PTX D k [(h0, .inr (0, [.ref t0, .int (iI (ln)), .ref sh, .ref al, .ref rd, .ref pa, .ref sp])), (pa, .inl (k 6, 3, .inr (.inr (.inr (.inr (q3 po)))))), (po cc, .inr (5, [.ref u0, .ref w0, .int (iI ((rl : Int)))])), (po c2, .inr (5, [.ref u1, .ref w1, .int (iI (0))]))])) xIS := by
  refine r_t hlt (by decide) rfl (Nat.le_of_ble_eq_true rfl) ?_
  intro p e s m args below meth c ls hx hb hml hown hts hpre hl htr hout hlocks
  obtain ⟨⟨hP, hK, hX⟩, hTX⟩ := hpre
  have hS : va_S nA s.heap s.heap [] := va_S.rf
  have hl : lv_has ls 8 [(0, .ref h0), (1, .int (iI ((cc : Int)))), (2, .int (iI ((c2 : Int))))] := hl
  refine lv_aload_n hx hb d_RC_compare_0 rfl (lv_at hl 0 rfl) ?_
  refine lv_iload_n hx hb d_RC_compare_1 rfl (lv_at hl 1 rfl) ?_
  refine rc_v (va_runV (As := [.int (iI ((cc : Int)))]) (rest := []) (b := h0) ⟨hx, hb, hml, hown, hts⟩ (c_RC_needCalendar l D k (h0) (t0) (sh) (al) (rd) (pa) (sp) (ln) ((cc : Int)) ((by omega))) ⟨callB_of 1 hts (good_RC_needCalendar) rfl rfl rfl (hts _ k_59) (hts _ k_330) (by decide +kernel) ⟨Nat.le_of_ble_eq_true rfl, Nat.le_of_ble_eq_true rfl⟩, (hts _ k_332), (hts _ k_0)⟩ ⟨fun a U g mk q => ⟨q.1, q.2.1, va_K.moved (u := U) (U := U.calling g mk a) (Vm.Alike.refl U.vm) q.2.2.1, q.2.2.2.calling⟩, (va_recv (q0 := 0) hK hP rfl rfl), fun U hU hW => ⟨rfl, by rw [hU]; exact (hP.sub (ws' := [(h0, .inr (0, [.ref t0, .int (iI (ln)), .ref sh, .ref al, .ref rd, .ref pa, .ref sp]))]) [0] rfl), va_K.moved hW.alike hK, by rw [hU]; exact hX.warm hW⟩⟩ rfl rfl hl.1 rfl (lv_room (Nat.le_of_ble_eq_true rfl)) d_RC_compare_2 ⟨Nat.le_of_ble_eq_true rfl, Nat.le_of_ble_eq_true rfl⟩) ?_
  refine lv_aload_n hx hb d_RC_compare_5 rfl (lv_at hl 0 rfl) ?_
  refine lv_iload_n hx hb d_RC_compare_6 rfl (lv_at hl 2 rfl) ?_
  refine rc_v (va_runV (As := [.int (iI ((c2 : Int)))]) (rest := []) (b := h0) ⟨hx, hb, hml, hown, hts⟩ (c_RC_needCalendar l D k (h0) (t0) (sh) (al) (rd) (pa) (sp) (ln) ((c2 : Int)) ((by omega))) ⟨callB_of 1 hts (good_RC_needCalendar) rfl rfl rfl (hts _ k_59) (hts _ k_330) (by decide +kernel) ⟨Nat.le_of_ble_eq_true rfl, Nat.le_of_ble_eq_true rfl⟩, (hts _ k_332), (hts _ k_0)⟩ ⟨fun a U g mk q => ⟨q.1, q.2.1, va_K.moved (u := U) (U := U.calling g mk a) (Vm.Alike.refl U.vm) q.2.2.1, q.2.2.2.calling⟩, (va_recv (q0 := 0) hK hP rfl rfl), fun U hU hW => ⟨rfl, by rw [hU]; exact (hP.sub (ws' := [(h0, .inr (0, [.ref t0, .int (iI (ln)), .ref sh, .ref al, .ref rd, .ref pa, .ref sp]))]) [0] rfl), va_K.moved hW.alike hK, by rw [hU]; exact hX.warm hW⟩⟩ rfl rfl hl.1 rfl (lv_room (Nat.le_of_ble_eq_true rfl)) d_RC_compare_7 ⟨Nat.le_of_ble_eq_true rfl, Nat.le_of_ble_eq_true rfl⟩) ?_
  refine lv_aload_n hx hb d_RC_compare_10 rfl (lv_at hl 0 rfl) ?_
  refine lv_iload_n hx hb d_RC_compare_11 rfl (lv_at hl 1 rfl) ?_
  refine rc_r (va_runV (As := [.int (iI ((cc : Int)))]) (rest := []) (b := h0) ⟨hx, hb, hml, hown, hts⟩ (c_RC_compiledPlan l D k (h0) (t0) (sh) (al) (rd) (pa) (sp) (u0) (w0) (ln) (po) (cc) (rl) (hc) (hr) (hr2)) ⟨callB_of 1 hts (good_RC_compiledPlan) rfl rfl rfl (hts _ k_59) (hts _ k_578) (by decide +kernel) ⟨Nat.le_of_ble_eq_true rfl, Nat.le_of_ble_eq_true rfl⟩, (hts _ k_580), (hts _ k_24)⟩ ⟨fun a U g mk q => ⟨q.1, q.2.1, va_K.moved (u := U) (U := U.calling g mk a) (Vm.Alike.refl U.vm) q.2.2.1, q.2.2.2.calling⟩, (va_recv (q0 := 0) hK hP rfl rfl), fun U hU hW => ⟨rfl, by rw [hU]; exact (hP.sub (ws' := [(h0, .inr (0, [.ref t0, .int (iI (ln)), .ref sh, .ref al, .ref rd, .ref pa, .ref sp])), (pa, .inl (k 6, 3, .inr (.inr (.inr (.inr (q3 po)))))), (po cc, .inr (5, [.ref u0, .ref w0, .int (iI ((rl : Int)))]))]) [0, 1, 2] rfl), va_K.moved hW.alike hK, by rw [hU]; exact hX.warm hW⟩⟩ rfl rfl hl.1 rfl (lv_room (Nat.le_of_ble_eq_true rfl)) d_RC_compare_12 ⟨Nat.le_of_ble_eq_true rfl, Nat.le_of_ble_eq_true rfl⟩) (fun xr_1 h_xr_1 => ?_)
  subst h_xr_1
  refine va_getN (D := D) (ci := 5) (v := .ref u0) (C := R_PL) (T := F_PL) (N := 3) hx hb hts in_PL hown hK hP 2 rfl rfl 0 (by decide) (va_Nw.use rfl (hX.2 _ n_225)) (fun _ h9 => h9) rfl d_RC_compare_15 ?_
  refine lv_astore_n (lv' := [(3, .ref u0), (0, .ref h0), (1, .int (iI ((cc : Int)))), (2, .int (iI ((c2 : Int))))]) hx hb d_RC_compare_18 rfl hl (by decide) rfl (fun ls hl => ?_)
  refine lv_aload_n hx hb d_RC_compare_19 rfl (lv_at hl 1 rfl) ?_
  refine lv_iload_n hx hb d_RC_compare_20 rfl (lv_at hl 3 rfl) ?_
  exact th_leave (th_runV (As := [.int (iI ((c2 : Int)))]) (rest := []) (b := h0) ⟨hx, hb, hml, hown, hts⟩ (t_RC_compiledPlan l hlt D k (h0) (t0) (sh) (al) (rd) (pa) (sp) (u1) (w1) (ln) (po) (c2) (hc2)) ⟨callB_of 1 hts (good_RC_compiledPlan) rfl rfl rfl (hts _ k_59) (hts _ k_578) (by decide +kernel) ⟨Nat.le_of_ble_eq_true rfl, Nat.le_of_ble_eq_true rfl⟩, (hts _ k_580), (hts _ k_24)⟩ ⟨fun a U g mk q => ⟨q.1, ⟨q.2.1.1, va_K.moved (u := U) (U := U.calling g mk a) (Vm.Alike.refl U.vm) q.2.1.2.1, q.2.1.2.2.calling⟩, q.2.2.calling⟩, (va_recv (q0 := 0) hK hP rfl rfl), fun U hU hW => ⟨rfl, ⟨by rw [hU]; exact (hP.sub (ws' := [(h0, .inr (0, [.ref t0, .int (iI (ln)), .ref sh, .ref al, .ref rd, .ref pa, .ref sp])), (pa, .inl (k 6, 3, .inr (.inr (.inr (.inr (q3 po)))))), (po c2, .inr (5, [.ref u1, .ref w1, .int (iI (0))]))]) [0, 1, 3] rfl), va_K.moved hW.alike hK, by rw [hU]; exact hX.warm hW⟩, by rw [hU]; exact hTX.warm hW⟩⟩ rfl rfl hl.1 rfl (lv_room (Nat.le_of_ble_eq_true rfl)) d_RC_compare_21 ⟨Nat.le_of_ble_eq_true rfl, Nat.le_of_ble_eq_true rfl⟩) rfl rfl rfl hlocks hout

set_option maxHeartbeats 4000000 in
set_option maxRecDepth 100000 in
theorem t_RC_inside_c (l : Launch) (hlt : l.stackTraces = false) (D : va_G) (k : Nat → ClassId) (h0 t0 sh al rd pa sp : Nat) (ln : Int) (cz : Int) (z : Int) (g_cz : rg cz) (hbc : cz < 0 ∨ 3 ≤ cz) : MetT l y_RC_inside wd_RC_inside rt_RC_inside (va_Pc [.ref h0, .int (iI (cz)), .int (iI (z))] (PTX D k [(h0, .inr (0, [.ref t0, .int (iI (ln)), .ref sh, .ref al, .ref rd, .ref pa, .ref sp]))])) xIO := by
  refine r_t hlt (by decide) rfl (Nat.le_of_ble_eq_true rfl) ?_
  intro p e s m args below meth c ls hx hb hml hown hts hpre hl htr hout hlocks
  obtain ⟨⟨hP, hK, hX⟩, hTX⟩ := hpre
  have hS : va_S nA s.heap s.heap [] := va_S.rf
  have hl : lv_has ls 8 [(0, .ref h0), (1, .int (iI (cz))), (2, .int (iI (z)))] := hl
  obtain ⟨cz_1, cz_2⟩ := g_cz
  refine lv_aload_n hx hb d_RC_inside_0 rfl (lv_at hl 0 rfl) ?_
  refine lv_iload_n hx hb d_RC_inside_1 rfl (lv_at hl 1 rfl) ?_
  exact th_leave (th_runV (As := [.int (iI (cz))]) (rest := []) (b := h0) ⟨hx, hb, hml, hown, hts⟩ (t_RC_needCalendar l hlt D k (h0) (t0) (sh) (al) (rd) (pa) (sp) (ln) (cz) (⟨by omega, by omega⟩) (hbc)) ⟨callB_of 1 hts (good_RC_needCalendar) rfl rfl rfl (hts _ k_59) (hts _ k_330) (by decide +kernel) ⟨Nat.le_of_ble_eq_true rfl, Nat.le_of_ble_eq_true rfl⟩, (hts _ k_332), (hts _ k_0)⟩ ⟨fun a U g mk q => ⟨q.1, ⟨q.2.1.1, va_K.moved (u := U) (U := U.calling g mk a) (Vm.Alike.refl U.vm) q.2.1.2.1, q.2.1.2.2.calling⟩, q.2.2.calling⟩, (va_recv (q0 := 0) hK hP rfl rfl), fun U hU hW => ⟨rfl, ⟨by rw [hU]; exact hP, va_K.moved hW.alike hK, by rw [hU]; exact hX.warm hW⟩, by rw [hU]; exact hTX.warm hW⟩⟩ rfl rfl hl.1 rfl (lv_room (Nat.le_of_ble_eq_true rfl)) d_RC_inside_2 ⟨Nat.le_of_ble_eq_true rfl, Nat.le_of_ble_eq_true rfl⟩) rfl rfl rfl hlocks hout

set_option maxHeartbeats 4000000 in
set_option maxRecDepth 100000 in
theorem t_RC_inside_d (l : Launch) (hlt : l.stackTraces = false) (D : va_G) (k : Nat → ClassId) (h0 t0 sh al rd pa sp : Nat) (ln : Int) (cc : Nat) (cz : Int) (hc : cc < 3) (g_cz : rg cz) (hbc : cz < 0 ∨ 3 ≤ cz) : MetT l y_RC_inside wd_RC_inside rt_RC_inside (va_Pc [.ref h0, .int (iI ((cc : Int))), .int (iI (cz))] (PTX D k [(h0, .inr (0, [.ref t0, .int (iI (ln)), .ref sh, .ref al, .ref rd, .ref pa, .ref sp]))])) xIO := by
  refine r_t hlt (by decide) rfl (Nat.le_of_ble_eq_true rfl) ?_
  intro p e s m args below meth c ls hx hb hml hown hts hpre hl htr hout hlocks
  obtain ⟨⟨hP, hK, hX⟩, hTX⟩ := hpre
  have hS : va_S nA s.heap s.heap [] := va_S.rf
  have hl : lv_has ls 8 [(0, .ref h0), (1, .int (iI ((cc : Int)))), (2, .int (iI (cz)))] := hl
  obtain ⟨cz_1, cz_2⟩ := g_cz
  refine lv_aload_n hx hb d_RC_inside_0 rfl (lv_at hl 0 rfl) ?_
  refine lv_iload_n hx hb d_RC_inside_1 rfl (lv_at hl 1 rfl) ?_
  refine rc_v (va_runV (As := [.int (iI ((cc : Int)))]) (rest := []) (b := h0) ⟨hx, hb, hml, hown, hts⟩ (c_RC_needCalendar l D k (h0) (t0) (sh) (al) (rd) (pa) (sp) (ln) ((cc : Int)) ((by omega))) ⟨callB_of 1 hts (good_RC_needCalendar) rfl rfl rfl (hts _ k_59) (hts _ k_330) (by decide +kernel) ⟨Nat.le_of_ble_eq_true rfl, Nat.le_of_ble_eq_true rfl⟩, (hts _ k_332), (hts _ k_0)⟩ ⟨fun a U g mk q => ⟨q.1, q.2.1, va_K.moved (u := U) (U := U.calling g mk a) (Vm.Alike.refl U.vm) q.2.2.1, q.2.2.2.calling⟩, (va_recv (q0 := 0) hK hP rfl rfl), fun U hU hW => ⟨rfl, by rw [hU]; exact hP, va_K.moved hW.alike hK, by rw [hU]; exact hX.warm hW⟩⟩ rfl rfl hl.1 rfl (lv_room (Nat.le_of_ble_eq_true rfl)) d_RC_inside_2 ⟨Nat.le_of_ble_eq_true rfl, Nat.le_of_ble_eq_true rfl⟩) ?_
  refine lv_aload_n hx hb d_RC_inside_5 rfl (lv_at hl 0 rfl) ?_
  refine lv_iload_n hx hb d_RC_inside_6 rfl (lv_at hl 2 rfl) ?_
  exact th_leave (th_runV (As := [.int (iI (cz))]) (rest := []) (b := h0) ⟨hx, hb, hml, hown, hts⟩ (t_RC_needCalendar l hlt D k (h0) (t0) (sh) (al) (rd) (pa) (sp) (ln) (cz) (⟨by omega, by omega⟩) (hbc)) ⟨callB_of 1 hts (good_RC_needCalendar) rfl rfl rfl (hts _ k_59) (hts _ k_330) (by decide +kernel) ⟨Nat.le_of_ble_eq_true rfl, Nat.le_of_ble_eq_true rfl⟩, (hts _ k_332), (hts _ k_0)⟩ ⟨fun a U g mk q => ⟨q.1, ⟨q.2.1.1, va_K.moved (u := U) (U := U.calling g mk a) (Vm.Alike.refl U.vm) q.2.1.2.1, q.2.1.2.2.calling⟩, q.2.2.calling⟩, (va_recv (q0 := 0) hK hP rfl rfl), fun U hU hW => ⟨rfl, ⟨by rw [hU]; exact hP, va_K.moved hW.alike hK, by rw [hU]; exact hX.warm hW⟩, by rw [hU]; exact hTX.warm hW⟩⟩ rfl rfl hl.1 rfl (lv_room (Nat.le_of_ble_eq_true rfl)) d_RC_inside_7 ⟨Nat.le_of_ble_eq_true rfl, Nat.le_of_ble_eq_true rfl⟩) rfl rfl rfl hlocks hout

set_option maxHeartbeats 4000000 in
set_option maxRecDepth 100000 in
theorem t_RC_inside_p (l : Launch) (hlt : l.stackTraces = false) (D : va_G) (k : Nat → ClassId) (h0 t0 sh al rd pa sp u0 w0 : Nat) (ln : Int) (po : Nat → Nat) (cc : Nat) (c2 : Nat) (hc : cc < 3) (hc2 : c2 < 3) : MetT l y_RC_inside wd_RC_inside rt_RC_inside (va_Pc [.ref h0, .int (iI ((cc : Int))), .int (iI ((c2 : Int)))] (PTX D k [(h0, .inr (0, [.ref t0, .int (iI (ln)), .ref sh, .ref al, .ref rd, .ref pa, .ref sp])), (pa, .inl (k 6, 3, .inr (.inr (.inr (.inr (q3 po)))))), (po cc, .inr (5, [.ref u0, .ref w0, .int (iI (0))]))])) xIS := by
  refine r_t hlt (by decide) rfl (Nat.le_of_ble_eq_true rfl) ?_
  intro p e s m args below meth c ls hx hb hml hown hts hpre hl htr hout hlocks
  obtain ⟨⟨hP, hK, hX⟩, hTX⟩ := hpre
  have hS : va_S nA s.heap s.heap [] := va_S.rf
  have hl : lv_has ls 8 [(0, .ref h0), (1, .int (iI ((cc : Int)))), (2, .int (iI ((c2 : Int))))] := hl
  refine lv_aload_n hx hb d_RC_inside_0 rfl (lv_at hl 0 rfl) ?_
  refine lv_iload_n hx hb d_RC_inside_1 rfl (lv_at hl 1 rfl) ?_
  refine rc_v (va_runV (As := [.int (iI ((cc : Int)))]) (rest := []) (b := h0) ⟨hx, hb, hml, hown, hts⟩ (c_RC_needCalendar l D k (h0) (t0) (sh) (al) (rd) (pa) (sp) (ln) ((cc : Int)) ((by omega))) ⟨callB_of 1 hts (good_RC_needCalendar) rfl rfl rfl (hts _ k_59) (hts _ k_330) (by decide +kernel) ⟨Nat.le_of_ble_eq_true rfl, Nat.le_of_ble_eq_true rfl⟩, (hts _ k_332), (hts _ k_0)⟩ ⟨fun a U g mk q => ⟨q.1, q.2.1, va_K.moved (u := U) (U := U.calling g mk a) (Vm.Alike.refl U.vm) q.2.2.1, q.2.2.2.calling⟩, (va_recv (q0 := 0) hK hP rfl rfl), fun U hU hW => ⟨rfl, by rw [hU]; exact (hP.sub (ws' := [(h0, .inr (0, [.ref t0, .int (iI (ln)), .ref sh, .ref al, .ref rd, .ref pa, .ref sp]))]) [0] rfl), va_K.moved hW.alike hK, by rw [hU]; exact hX.warm hW⟩⟩ rfl rfl hl.1 rfl (lv_room (Nat.le_of_ble_eq_true rfl)) d_RC_inside_2 ⟨Nat.le_of_ble_eq_true rfl, Nat.le_of_ble_eq_true rfl⟩) ?_
  refine lv_aload_n hx hb d_RC_inside_5 rfl (lv_at hl 0 rfl) ?_
  refine lv_iload_n hx hb d_RC_inside_6 rfl (lv_at hl 2 rfl) ?_
  refine rc_v (va_runV (As := [.int (iI ((c2 : Int)))]) (rest := []) (b := h0) ⟨hx, hb, hml, hown, hts⟩ (c_RC_needCalendar l D k (h0) (t0) (sh) (al) (rd) (pa) (sp) (ln) ((c2 : Int)) ((by omega))) ⟨callB_of 1 hts (good_RC_needCalendar) rfl rfl rfl (hts _ k_59) (hts _ k_330) (by decide +kernel) ⟨Nat.le_of_ble_eq_true rfl, Nat.le_of_ble_eq_true rfl⟩, (hts _ k_332), (hts _ k_0)⟩ ⟨fun a U g mk q => ⟨q.1, q.2.1, va_K.moved (u := U) (U := U.calling g mk a) (Vm.Alike.refl U.vm) q.2.2.1, q.2.2.2.calling⟩, (va_recv (q0 := 0) hK hP rfl rfl), fun U hU hW => ⟨rfl, by rw [hU]; exact (hP.sub (ws' := [(h0, .inr (0, [.ref t0, .int (iI (ln)), .ref sh, .ref al, .ref rd, .ref pa, .ref sp]))]) [0] rfl), va_K.moved hW.alike hK, by rw [hU]; exact hX.warm hW⟩⟩ rfl rfl hl.1 rfl (lv_room (Nat.le_of_ble_eq_true rfl)) d_RC_inside_7 ⟨Nat.le_of_ble_eq_true rfl, Nat.le_of_ble_eq_true rfl⟩) ?_
  refine lv_aload_n hx hb d_RC_inside_10 rfl (lv_at hl 0 rfl) ?_
  refine lv_iload_n hx hb d_RC_inside_11 rfl (lv_at hl 1 rfl) ?_
  exact th_leave (th_runV (As := [.int (iI ((cc : Int)))]) (rest := []) (b := h0) ⟨hx, hb, hml, hown, hts⟩ (t_RC_compiledPlan l hlt D k (h0) (t0) (sh) (al) (rd) (pa) (sp) (u0) (w0) (ln) (po) (cc) (hc)) ⟨callB_of 1 hts (good_RC_compiledPlan) rfl rfl rfl (hts _ k_59) (hts _ k_578) (by decide +kernel) ⟨Nat.le_of_ble_eq_true rfl, Nat.le_of_ble_eq_true rfl⟩, (hts _ k_580), (hts _ k_24)⟩ ⟨fun a U g mk q => ⟨q.1, ⟨q.2.1.1, va_K.moved (u := U) (U := U.calling g mk a) (Vm.Alike.refl U.vm) q.2.1.2.1, q.2.1.2.2.calling⟩, q.2.2.calling⟩, (va_recv (q0 := 0) hK hP rfl rfl), fun U hU hW => ⟨rfl, ⟨by rw [hU]; exact hP, va_K.moved hW.alike hK, by rw [hU]; exact hX.warm hW⟩, by rw [hU]; exact hTX.warm hW⟩⟩ rfl rfl hl.1 rfl (lv_room (Nat.le_of_ble_eq_true rfl)) d_RC_inside_12 ⟨Nat.le_of_ble_eq_true rfl, Nat.le_of_ble_eq_true rfl⟩) rfl rfl rfl hlocks hout

set_option maxHeartbeats 4000000 in
set_option maxRecDepth 100000 in
theorem t_RC_inside_r (l : Launch) (hlt : l.stackTraces = false) (D : va_G) (k : Nat → ClassId) (h0 t0 sh al rd pa sp u0 w0 u1 w1 : Nat) (ln : Int) (po : Nat → Nat) (cc : Nat) (c2 : Nat) (rl : Nat) (hc : cc < 3) (hc2 : c2 < 3) (hr : 0 < rl) (hr2 : rl < 1000) : MetT l y_RC_inside wd_RC_inside rt_RC_inside (va_Pc [.ref h0, .int (iI ((cc : Int))), .int (iI ((c2 : Int)))] (PTX D k [(h0, .inr (0, [.ref t0, .int (iI (ln)), .ref sh, .ref al, .ref rd, .ref pa, .ref sp])), (pa, .inl (k 6, 3, .inr (.inr (.inr (.inr (q3 po)))))), (po cc, .inr (5, [.ref u0, .ref w0, .int (iI ((rl : Int)))])), (po c2, .inr (5, [.ref u1, .ref w1, .int (iI (0))]))])) xIS := by
  refine r_t hlt (by decide) rfl (Nat.le_of_ble_eq_true rfl) ?_
  intro p e s m args below meth c ls hx hb hml hown hts hpre hl htr hout hlocks
  obtain ⟨⟨hP, hK, hX⟩, hTX⟩ := hpre
  have hS : va_S nA s.heap s.heap [] := va_S.rf
  have hl : lv_has ls 8 [(0, .ref h0), (1, .int (iI ((cc : Int)))), (2, .int (iI ((c2 : Int))))] := hl
  refine lv_aload_n hx hb d_RC_inside_0 rfl (lv_at hl 0 rfl) ?_
  refine lv_iload_n hx hb d_RC_inside_1 rfl (lv_at hl 1 rfl) ?_
  refine rc_v (va_runV (As := [.int (iI ((cc : Int)))]) (rest := []) (b := h0) ⟨hx, hb, hml, hown, hts⟩ (c_RC_needCalendar l D k (h0) (t0) (sh) (al) (rd) (pa) (sp) (ln) ((cc : Int)) ((by omega))) ⟨callB_of 1 hts (good_RC_needCalendar) rfl rfl rfl (hts _ k_59) (hts _ k_330) (by decide +kernel) ⟨Nat.le_of_ble_eq_true rfl, Nat.le_of_ble_eq_true rfl⟩, (hts _ k_332), (hts _ k_0)⟩ ⟨fun a U g mk q => ⟨q.1, q.2.1, va_K.moved (u := U) (U := U.calling g mk a) (Vm.Alike.refl U.vm) q.2.2.1, q.2.2.2.calling⟩, (va_recv (q0 := 0) hK hP rfl rfl), fun U hU hW => ⟨rfl, by rw [hU]; exact (hP.sub (ws' := [(h0, .inr (0, [.ref t0, .int (iI (ln)), .ref sh, .ref al, .ref rd, .ref pa, .ref sp]))]) [0] rfl), va_K.moved hW.alike hK, by rw [hU]; exact hX.warm hW⟩⟩ rfl rfl hl.1 rfl (lv_room (Nat.le_of_ble_eq_true rfl)) d_RC_inside_2 ⟨Nat.le_of_ble_eq_true rfl, Nat.le_of_ble_eq_true rfl⟩) ?_
  refine lv_aload_n hx hb d_RC_inside_5 rfl (lv_at hl 0 rfl) ?_
  refine lv_iload_n hx hb d_RC_inside_6 rfl (lv_at hl 2 rfl) ?_
  refine rc_v (va_runV (As := [.int (iI ((c2 : Int)))]) (rest := []) (b := h0) ⟨hx, hb, hml, hown, hts⟩ (c_RC_needCalendar l D k (h0) (t0) (sh) (al) (rd) (pa) (sp) (ln) ((c2 : Int)) ((by omega))) ⟨callB_of 1 hts (good_RC_needCalendar) rfl rfl rfl (hts _ k_59) (hts _ k_330) (by decide +kernel) ⟨Nat.le_of_ble_eq_true rfl, Nat.le_of_ble_eq_true rfl⟩, (hts _ k_332), (hts _ k_0)⟩ ⟨fun a U g mk q => ⟨q.1, q.2.1, va_K.moved (u := U) (U := U.calling g mk a) (Vm.Alike.refl U.vm) q.2.2.1, q.2.2.2.calling⟩, (va_recv (q0 := 0) hK hP rfl rfl), fun U hU hW => ⟨rfl, by rw [hU]; exact (hP.sub (ws' := [(h0, .inr (0, [.ref t0, .int (iI (ln)), .ref sh, .ref al, .ref rd, .ref pa, .ref sp]))]) [0] rfl), va_K.moved hW.alike hK, by rw [hU]; exact hX.warm hW⟩⟩ rfl rfl hl.1 rfl (lv_room (Nat.le_of_ble_eq_true rfl)) d_RC_inside_7 ⟨Nat.le_of_ble_eq_true rfl, Nat.le_of_ble_eq_true rfl⟩) ?_
  refine lv_aload_n hx hb d_RC_inside_10 rfl (lv_at hl 0 rfl) ?_
  refine lv_iload_n hx hb d_RC_inside_11 rfl (lv_at hl 1 rfl) ?_
  refine rc_r (va_runV (As := [.int (iI ((cc : Int)))]) (rest := []) (b := h0) ⟨hx, hb, hml, hown, hts⟩ (c_RC_compiledPlan l D k (h0) (t0) (sh) (al) (rd) (pa) (sp) (u0) (w0) (ln) (po) (cc) (rl) (hc) (hr) (hr2)) ⟨callB_of 1 hts (good_RC_compiledPlan) rfl rfl rfl (hts _ k_59) (hts _ k_578) (by decide +kernel) ⟨Nat.le_of_ble_eq_true rfl, Nat.le_of_ble_eq_true rfl⟩, (hts _ k_580), (hts _ k_24)⟩ ⟨fun a U g mk q => ⟨q.1, q.2.1, va_K.moved (u := U) (U := U.calling g mk a) (Vm.Alike.refl U.vm) q.2.2.1, q.2.2.2.calling⟩, (va_recv (q0 := 0) hK hP rfl rfl), fun U hU hW => ⟨rfl, by rw [hU]; exact (hP.sub (ws' := [(h0, .inr (0, [.ref t0, .int (iI (ln)), .ref sh, .ref al, .ref rd, .ref pa, .ref sp])), (pa, .inl (k 6, 3, .inr (.inr (.inr (.inr (q3 po)))))), (po cc, .inr (5, [.ref u0, .ref w0, .int (iI ((rl : Int)))]))]) [0, 1, 2] rfl), va_K.moved hW.alike hK, by rw [hU]; exact hX.warm hW⟩⟩ rfl rfl hl.1 rfl (lv_room (Nat.le_of_ble_eq_true rfl)) d_RC_inside_12 ⟨Nat.le_of_ble_eq_true rfl, Nat.le_of_ble_eq_true rfl⟩) (fun xr_1 h_xr_1 => ?_)
  subst h_xr_1
  refine va_getN (D := D) (ci := 5) (v := .ref u0) (C := R_PL) (T := F_PL) (N := 3) hx hb hts in_PL hown hK hP 2 rfl rfl 0 (by decide) (va_Nw.use rfl (hX.2 _ n_225)) (fun _ h9 => h9) rfl d_RC_inside_15 ?_
  refine lv_astore_n (lv' := [(3, .ref u0), (0, .ref h0), (1, .int (iI ((cc : Int)))), (2, .int (iI ((c2 : Int))))]) hx hb d_RC_inside_18 rfl hl (by decide) rfl (fun ls hl => ?_)
  refine lv_aload_n hx hb d_RC_inside_19 rfl (lv_at hl 1 rfl) ?_
  refine lv_iload_n hx hb d_RC_inside_20 rfl (lv_at hl 3 rfl) ?_
  exact th_leave (th_runV (As := [.int (iI ((c2 : Int)))]) (rest := []) (b := h0) ⟨hx, hb, hml, hown, hts⟩ (t_RC_compiledPlan l hlt D k (h0) (t0) (sh) (al) (rd) (pa) (sp) (u1) (w1) (ln) (po) (c2) (hc2)) ⟨callB_of 1 hts (good_RC_compiledPlan) rfl rfl rfl (hts _ k_59) (hts _ k_578) (by decide +kernel) ⟨Nat.le_of_ble_eq_true rfl, Nat.le_of_ble_eq_true rfl⟩, (hts _ k_580), (hts _ k_24)⟩ ⟨fun a U g mk q => ⟨q.1, ⟨q.2.1.1, va_K.moved (u := U) (U := U.calling g mk a) (Vm.Alike.refl U.vm) q.2.1.2.1, q.2.1.2.2.calling⟩, q.2.2.calling⟩, (va_recv (q0 := 0) hK hP rfl rfl), fun U hU hW => ⟨rfl, ⟨by rw [hU]; exact (hP.sub (ws' := [(h0, .inr (0, [.ref t0, .int (iI (ln)), .ref sh, .ref al, .ref rd, .ref pa, .ref sp])), (pa, .inl (k 6, 3, .inr (.inr (.inr (.inr (q3 po)))))), (po c2, .inr (5, [.ref u1, .ref w1, .int (iI (0))]))]) [0, 1, 3] rfl), va_K.moved hW.alike hK, by rw [hU]; exact hX.warm hW⟩, by rw [hU]; exact hTX.warm hW⟩⟩ rfl rfl hl.1 rfl (lv_room (Nat.le_of_ble_eq_true rfl)) d_RC_inside_21 ⟨Nat.le_of_ble_eq_true rfl, Nat.le_of_ble_eq_true rfl⟩) rfl rfl rfl hlocks hout
