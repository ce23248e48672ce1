set_option maxHeartbeats 4000000 in
set_option maxRecDepth 20000 in
theorem h_compile_ok (l : Launch) (hlt : l.stackTraces = false) (D : va_G) (k : Nat → ClassId) (sz h0 ao : Nat) (R : va_W) (fs : List Value) (f0 : Nat → Int64) (v1 : Int32) (hR0 : R[0]? = some (h0, .inr (0, fs))) (w : Int32) (R1 : va_W) (hM : ∀ sz, Met l y_RC_compile wd_RC_compile rm_RC_compile (va_Pc [.ref h0, .int v1] (PRW D k R sz)) (va_Qi (fun (r : Int32) (_ : Unit) => r = w) (fun _ t => BRW D R sz R1 t) (va_A R sz)) 0 0 (va_A R sz)) : Met l y_LW_compile wd_LW_compile rl_LW_compile (va_Pc [.ref h0, .int v1, .ref ao] (PTW D k (OUT k ao f0 :: R) sz)) (va_Qi (fun (r : Int32) (_ : Unit) => r = iI 0) (fun _ t => BRW D (OUT k ao f0 :: R) sz (OUT k ao (vp_updL f0 0 w.toInt64) :: R1) t) (va_A (OUT k ao f0 :: R) sz)) 0 0 (va_A (OUT k ao f0 :: R) sz) := by
  refine e_iW (by decide) rfl (Nat.le_of_ble_eq_true rfl) ?_
  intro p e s m args below meth c Q ls hx hb hml hown hts hpre hl hex ret
  obtain ⟨⟨hsz, hP, hK, hD0, hX⟩, hTX⟩ := hpre
  subst hsz
  have hD := hD0.self (sz := s.heap.size)
  have hA : ∀ q : Nat, s.heap.size ≤ q → (va_A (OUT k ao f0 :: R) s.heap.size) q := fun q h => Or.inr h
  have hS : va_S (va_A (OUT k ao f0 :: R) s.heap.size) s.heap s.heap [] := va_S.rf
  have hl : lv_has ls 4 [(0, .ref h0), (1, .int v1), (2, .ref ao)] := hl
  have hPr := pR (a := [OUT k ao f0]) (c := R) hP
  have hX0 := hX.mono (B := nA) va_S.rf (fun _ h => absurd h id)
  have hTX0 := hTX.mono (B := nA) va_S.rf (fun _ h => absurd h id)
  refine lv_aload_n hx hb d_LW_compile_0 rfl (lv_at hl 2 rfl) ?_
  refine z_iconst hx hb d_LW_compile_1 ?_
  refine lv_aload_n hx hb d_LW_compile_2 rfl (lv_at hl 0 rfl) ?_
  refine lv_iload_n hx hb d_LW_compile_3 rfl (lv_at hl 1 rfl) ?_
  have hDr := dR (a := [OUT k ao f0]) (c := R) hD
  have hFr := fr hDr hS hA
  refine va_calli (va_runV (As := [.int v1]) (rest := [.int (iI 0), .ref ao]) (b := h0) ⟨hx, hb, hml, hown, hts⟩ (hM s.heap.size) ⟨callB_of 1 hts (good_RC_compile) rfl rfl rfl (hts _ k_59) (hts _ k_326) (by decide +kernel) ⟨(Nat.le_of_ble_eq_true rfl), (Nat.le_of_ble_eq_true rfl)⟩, (hts _ k_327), (hts _ k_328)⟩ ⟨fun a U g mk q => ⟨q.1, q.2.1, q.2.2.1, va_K.moved (u := U) (U := U.calling g mk a) (Vm.Alike.refl U.vm) q.2.2.2.1, q.2.2.2.2.1, q.2.2.2.2.2.calling⟩, (va_recv (q0 := 0) hK hPr rfl hR0), fun U hU hW => ⟨rfl, by rw [hU], by rw [hU]; exact hPr, va_K.moved hW.alike hK, hDr.weaken (fun _ _ _ _ => trivial), by rw [hU]; exact (hX.mono hS hFr).warm hW⟩⟩ rfl rfl hl.1 rfl (lv_room (Nat.le_of_ble_eq_true rfl)) d_LW_compile_4 ⟨(Nat.le_of_ble_eq_true rfl), (Nat.le_of_ble_eq_true rfl)⟩) hS (fun q _ h => hFr q h) hFr (fun r9 u9 t H1 locs ht hvm h9 hB hz1 hk1 hS => ?_)
  obtain ⟨hP1, hD1⟩ := hB
  rw [ht] at hP1
  obtain ⟨hP, hD⟩ := jR (a := [OUT k ao f0]) hP hD hk1 hFr hP1 hD1
  subst h9
  refine lv_i2l hx hb d_LW_compile_7 rfl ?_
  refine x_last hx hb hK hP hD hS 0 1 rfl rfl (0) rfl (by decide) (by omega) d_LW_compile_8 (fun H locs hP hD hS => ?_)
  refine lv_goto (tgt := 15) hx hb d_LW_compile_9 (by decide) ?_
  refine z_iconst hx hb d_LW_compile_15 ?_
  exact ret _ _ _ 16 (iI 0) () d_LW_compile_16 hS rfl (fun t ht _ => ⟨by rw [ht]; exact hP, hD⟩)

set_option maxHeartbeats 4000000 in
set_option maxRecDepth 20000 in
theorem h_compile_io (l : Launch) (hlt : l.stackTraces = false) (D : va_G) (k : Nat → ClassId) (sz h0 ao : Nat) (R : va_W) (fs : List Value) (f0 : Nat → Int64) (v1 : Int32) (hR0 : R[0]? = some (h0, .inr (0, fs))) (hM : MetT l y_RC_compile wd_RC_compile rt_RC_compile (va_Pc [.ref h0, .int v1] (PTX D k R)) xIO) : Met l y_LW_compile wd_LW_compile rx_LW_compile (va_Pc [.ref h0, .int v1, .ref ao] (PTW D k (OUT k ao f0 :: R) sz)) (va_Qi (fun (r : Int32) (_ : Unit) => r = iI 1) (fun _ t => BRW D (OUT k ao f0 :: R) sz (OUT k ao f0 :: R) t) (va_A (OUT k ao f0 :: R) sz)) 1 6 (va_A (OUT k ao f0 :: R) sz) := by
  refine e_iW (by decide) rfl (Nat.le_of_ble_eq_true rfl) ?_
  intro p e s m args below meth c Q ls hx hb hml hown hts hpre hl hex ret
  obtain ⟨⟨hsz, hP, hK, hD0, hX⟩, hTX⟩ := hpre
  subst hsz
  have hD := hD0.self (sz := s.heap.size)
  have hA : ∀ q : Nat, s.heap.size ≤ q → (va_A (OUT k ao f0 :: R) s.heap.size) q := fun q h => Or.inr h
  have hS : va_S (va_A (OUT k ao f0 :: R) s.heap.size) s.heap s.heap [] := va_S.rf
  have hl : lv_has ls 4 [(0, .ref h0), (1, .int v1), (2, .ref ao)] := hl
  have hPr := pR (a := [OUT k ao f0]) (c := R) hP
  have hX0 := hX.mono (B := nA) va_S.rf (fun _ h => absurd h id)
  have hTX0 := hTX.mono (B := nA) va_S.rf (fun _ h => absurd h id)
  refine lv_aload_n hx hb d_LW_compile_0 rfl (lv_at hl 2 rfl) ?_
  refine z_iconst hx hb d_LW_compile_1 ?_
  refine lv_aload_n hx hb d_LW_compile_2 rfl (lv_at hl 0 rfl) ?_
  refine lv_iload_n hx hb d_LW_compile_3 rfl (lv_at hl 1 rfl) ?_
  refine th_catch (own := R_LW) (X := xIO) (hp := 12) (th_runV (As := [.int v1]) (rest := [.int (iI 0), .ref ao]) (b := h0) ⟨hx, hb, hml, hown, hts⟩ hM ⟨callB_of 1 hts (good_RC_compile) rfl rfl rfl (hts _ k_59) (hts _ k_326) (by decide +kernel) ⟨(Nat.le_of_ble_eq_true rfl), (Nat.le_of_ble_eq_true rfl)⟩, (hts _ k_327), (hts _ k_328)⟩ ⟨fun a U g mk q => ⟨q.1, ⟨q.2.1.1, va_K.moved (u := U) (U := U.calling g mk a) (Vm.Alike.refl U.vm) q.2.1.2.1, q.2.1.2.2.calling⟩, q.2.2.calling⟩, (va_recv (q0 := 0) hK hPr rfl hR0), fun U hU hW => ⟨rfl, ⟨by rw [hU]; exact hPr, va_K.moved hW.alike hK, by rw [hU]; exact hX0.warm hW⟩, by rw [hU]; exact hTX0.warm hW⟩⟩ rfl rfl hl.1 rfl (lv_room (Nat.le_of_ble_eq_true rfl)) d_LW_compile_4 ⟨(Nat.le_of_ble_eq_true rfl), (Nat.le_of_ble_eq_true rfl)⟩) rfl hown (fun cls h9 => by rw [hex]; exact ctIO (hts _ k13) hTX h9 rfl) (fun x9 H1 hz1 hk1 => ?_)
  refine W.eq (g2 := F0 m 12 ls [.ref x9]) rfl ?_
  refine lv_astore_n (lv' := [(3, .ref x9), (0, .ref h0), (1, .int v1), (2, .ref ao)]) hx hb d_LW_compile_12 rfl hl (by decide) rfl (fun ls hl => ?_)
  refine z_iconst hx hb d_LW_compile_13 ?_
  exact ret H1 [] _ 14 (iI 1) () d_LW_compile_14 ⟨hz1, fun q h _ => hk1 q h, fun _ h => by cases h⟩ rfl (fun t ht _ => ⟨by rw [ht]; exact keepA hP hk1, hD⟩)

set_option maxHeartbeats 4000000 in
set_option maxRecDepth 20000 in
theorem h_at_ok (l : Launch) (hlt : l.stackTraces = false) (D : va_G) (k : Nat → ClassId) (sz h0 ao : Nat) (R : va_W) (fs : List Value) (f0 : Nat → Int64) (v1 v2 v3 : Int32) (hR0 : R[0]? = some (h0, .inr (0, fs))) (w : Int32) (hM : Met l y_RC_at wd_RC_at rm_RC_at (va_Pc [.ref h0, .int v1, .int v2, .int v3] (PRO D k R)) (QRi (fun r : Int32 => r = w)) 0 0 nA) : Met l y_LW_at wd_LW_at rl_LW_at (va_Pc [.ref h0, .int v1, .int v2, .int v3, .ref ao] (PTW D k (OUT k ao f0 :: R) sz)) (va_Qi (fun (r : Int32) (_ : Unit) => r = iI 0) (fun _ t => BRW D (OUT k ao f0 :: R) sz (OUT k ao (vp_updL f0 0 w.toInt64) :: R) t) (va_A (OUT k ao f0 :: R) sz)) 0 0 (va_A (OUT k ao f0 :: R) sz) := by
  refine e_iW (by decide) rfl (Nat.le_of_ble_eq_true rfl) ?_
  intro p e s m args below meth c Q ls hx hb hml hown hts hpre hl hex ret
  obtain ⟨⟨hsz, hP, hK, hD0, hX⟩, hTX⟩ := hpre
  subst hsz
  have hD := hD0.self (sz := s.heap.size)
  have hA : ∀ q : Nat, s.heap.size ≤ q → (va_A (OUT k ao f0 :: R) s.heap.size) q := fun q h => Or.inr h
  have hS : va_S (va_A (OUT k ao f0 :: R) s.heap.size) s.heap s.heap [] := va_S.rf
  have hl : lv_has ls 6 [(0, .ref h0), (1, .int v1), (2, .int v2), (3, .int v3), (4, .ref ao)] := hl
  have hPr := pR (a := [OUT k ao f0]) (c := R) hP
  have hX0 := hX.mono (B := nA) va_S.rf (fun _ h => absurd h id)
  have hTX0 := hTX.mono (B := nA) va_S.rf (fun _ h => absurd h id)
  refine lv_aload hx hb d_LW_at_0 (lv_at hl 4 rfl) ?_
  refine z_iconst hx hb d_LW_at_2 ?_
  refine lv_aload_n hx hb d_LW_at_3 rfl (lv_at hl 0 rfl) ?_
  refine lv_iload_n hx hb d_LW_at_4 rfl (lv_at hl 1 rfl) ?_
  refine lv_iload_n hx hb d_LW_at_5 rfl (lv_at hl 2 rfl) ?_
  refine lv_iload_n hx hb d_LW_at_6 rfl (lv_at hl 3 rfl) ?_
  refine rc_i (va_runV (As := [.int v1, .int v2, .int v3]) (rest := [.int (iI 0), .ref ao]) (b := h0) ⟨hx, hb, hml, hown, hts⟩ hM ⟨callB_of 3 hts (good_RC_at) rfl rfl rfl (hts _ k_59) (hts _ k_565) (by decide +kernel) ⟨(Nat.le_of_ble_eq_true rfl), (Nat.le_of_ble_eq_true rfl)⟩, (hts _ k_566), (hts _ k_567)⟩ ⟨fun a U g mk q => ⟨q.1, q.2.1, va_K.moved (u := U) (U := U.calling g mk a) (Vm.Alike.refl U.vm) q.2.2.1, q.2.2.2.calling⟩, (va_recv (q0 := 0) hK hPr rfl hR0), fun U hU hW => ⟨rfl, by rw [hU]; exact hPr, va_K.moved hW.alike hK, by rw [hU]; exact hX0.warm hW⟩⟩ rfl rfl hl.1 rfl (lv_room (Nat.le_of_ble_eq_true rfl)) d_LW_at_7 ⟨(Nat.le_of_ble_eq_true rfl), (Nat.le_of_ble_eq_true rfl)⟩) (fun r9 h9 => ?_)
  subst h9
  refine lv_i2l hx hb d_LW_at_10 rfl ?_
  refine x_last hx hb hK hP hD hS 0 1 rfl rfl (0) rfl (by decide) (by omega) d_LW_at_11 (fun H locs hP hD hS => ?_)
  refine lv_goto (tgt := 23) hx hb d_LW_at_12 (by decide) ?_
  refine z_iconst hx hb d_LW_at_23 ?_
  exact ret _ _ _ 24 (iI 0) () d_LW_at_24 hS rfl (fun t ht _ => ⟨by rw [ht]; exact hP, hD⟩)

set_option maxHeartbeats 4000000 in
set_option maxRecDepth 20000 in
theorem h_at_io (l : Launch) (hlt : l.stackTraces = false) (D : va_G) (k : Nat → ClassId) (sz h0 ao : Nat) (R : va_W) (fs : List Value) (f0 : Nat → Int64) (v1 v2 v3 : Int32) (hR0 : R[0]? = some (h0, .inr (0, fs))) (hM : MetT l y_RC_at wd_RC_at rt_RC_at (va_Pc [.ref h0, .int v1, .int v2, .int v3] (PTX D k R)) xIO) : Met l y_LW_at wd_LW_at rx_LW_at (va_Pc [.ref h0, .int v1, .int v2, .int v3, .ref ao] (PTW D k (OUT k ao f0 :: R) sz)) (va_Qi (fun (r : Int32) (_ : Unit) => r = iI 1) (fun _ t => BRW D (OUT k ao f0 :: R) sz (OUT k ao f0 :: R) t) (va_A (OUT k ao f0 :: R) sz)) 1 6 (va_A (OUT k ao f0 :: R) sz) := by
  refine e_iW (by decide) rfl (Nat.le_of_ble_eq_true rfl) ?_
  intro p e s m args below meth c Q ls hx hb hml hown hts hpre hl hex ret
  obtain ⟨⟨hsz, hP, hK, hD0, hX⟩, hTX⟩ := hpre
  subst hsz
  have hD := hD0.self (sz := s.heap.size)
  have hA : ∀ q : Nat, s.heap.size ≤ q → (va_A (OUT k ao f0 :: R) s.heap.size) q := fun q h => Or.inr h
  have hS : va_S (va_A (OUT k ao f0 :: R) s.heap.size) s.heap s.heap [] := va_S.rf
  have hl : lv_has ls 6 [(0, .ref h0), (1, .int v1), (2, .int v2), (3, .int v3), (4, .ref ao)] := hl
  have hPr := pR (a := [OUT k ao f0]) (c := R) hP
  have hX0 := hX.mono (B := nA) va_S.rf (fun _ h => absurd h id)
  have hTX0 := hTX.mono (B := nA) va_S.rf (fun _ h => absurd h id)
  refine lv_aload hx hb d_LW_at_0 (lv_at hl 4 rfl) ?_
  refine z_iconst hx hb d_LW_at_2 ?_
  refine lv_aload_n hx hb d_LW_at_3 rfl (lv_at hl 0 rfl) ?_
  refine lv_iload_n hx hb d_LW_at_4 rfl (lv_at hl 1 rfl) ?_
  refine lv_iload_n hx hb d_LW_at_5 rfl (lv_at hl 2 rfl) ?_
  refine lv_iload_n hx hb d_LW_at_6 rfl (lv_at hl 3 rfl) ?_
  refine th_catch (own := R_LW) (X := xIO) (hp := 15) (th_runV (As := [.int v1, .int v2, .int v3]) (rest := [.int (iI 0), .ref ao]) (b := h0) ⟨hx, hb, hml, hown, hts⟩ hM ⟨callB_of 3 hts (good_RC_at) rfl rfl rfl (hts _ k_59) (hts _ k_565) (by decide +kernel) ⟨(Nat.le_of_ble_eq_true rfl), (Nat.le_of_ble_eq_true rfl)⟩, (hts _ k_566), (hts _ k_567)⟩ ⟨fun a U g mk q => ⟨q.1, ⟨q.2.1.1, va_K.moved (u := U) (U := U.calling g mk a) (Vm.Alike.refl U.vm) q.2.1.2.1, q.2.1.2.2.calling⟩, q.2.2.calling⟩, (va_recv (q0 := 0) hK hPr rfl hR0), fun U hU hW => ⟨rfl, ⟨by rw [hU]; exact hPr, va_K.moved hW.alike hK, by rw [hU]; exact hX0.warm hW⟩, by rw [hU]; exact hTX0.warm hW⟩⟩ rfl rfl hl.1 rfl (lv_room (Nat.le_of_ble_eq_true rfl)) d_LW_at_7 ⟨(Nat.le_of_ble_eq_true rfl), (Nat.le_of_ble_eq_true rfl)⟩) rfl hown (fun cls h9 => by rw [hex]; exact ctIO (hts _ k13) hTX h9 rfl) (fun x9 H1 hz1 hk1 => ?_)
  refine W.eq (g2 := F0 m 15 ls [.ref x9]) rfl ?_
  refine lv_astore (lv' := [(5, .ref x9), (0, .ref h0), (1, .int v1), (2, .int v2), (3, .int v3), (4, .ref ao)]) hx hb d_LW_at_15 hl (by decide) rfl (fun ls hl => ?_)
  refine z_iconst hx hb d_LW_at_17 ?_
  exact ret H1 [] _ 18 (iI 1) () d_LW_at_18 ⟨hz1, fun q h _ => hk1 q h, fun _ h => by cases h⟩ rfl (fun t ht _ => ⟨by rw [ht]; exact keepA hP hk1, hD⟩)

set_option maxHeartbeats 4000000 in
set_option maxRecDepth 20000 in
theorem h_at_is (l : Launch) (hlt : l.stackTraces = false) (D : va_G) (k : Nat → ClassId) (sz h0 ao : Nat) (R : va_W) (fs : List Value) (f0 : Nat → Int64) (v1 v2 v3 : Int32) (hR0 : R[0]? = some (h0, .inr (0, fs))) (hM : MetT l y_RC_at wd_RC_at rt_RC_at (va_Pc [.ref h0, .int v1, .int v2, .int v3] (PTX D k R)) xIS) : Met l y_LW_at wd_LW_at rx_LW_at (va_Pc [.ref h0, .int v1, .int v2, .int v3, .ref ao] (PTW D k (OUT k ao f0 :: R) sz)) (va_Qi (fun (r : Int32) (_ : Unit) => r = iI 2) (fun _ t => BRW D (OUT k ao f0 :: R) sz (OUT k ao f0 :: R) t) (va_A (OUT k ao f0 :: R) sz)) 1 6 (va_A (OUT k ao f0 :: R) sz) := by
  refine e_iW (by decide) rfl (Nat.le_of_ble_eq_true rfl) ?_
  intro p e s m args below meth c Q ls hx hb hml hown hts hpre hl hex ret
  obtain ⟨⟨hsz, hP, hK, hD0, hX⟩, hTX⟩ := hpre
  subst hsz
  have hD := hD0.self (sz := s.heap.size)
  have hA : ∀ q : Nat, s.heap.size ≤ q → (va_A (OUT k ao f0 :: R) s.heap.size) q := fun q h => Or.inr h
  have hS : va_S (va_A (OUT k ao f0 :: R) s.heap.size) s.heap s.heap [] := va_S.rf
  have hl : lv_has ls 6 [(0, .ref h0), (1, .int v1), (2, .int v2), (3, .int v3), (4, .ref ao)] := hl
  have hPr := pR (a := [OUT k ao f0]) (c := R) hP
  have hX0 := hX.mono (B := nA) va_S.rf (fun _ h => absurd h id)
  have hTX0 := hTX.mono (B := nA) va_S.rf (fun _ h => absurd h id)
  refine lv_aload hx hb d_LW_at_0 (lv_at hl 4 rfl) ?_
  refine z_iconst hx hb d_LW_at_2 ?_
  refine lv_aload_n hx hb d_LW_at_3 rfl (lv_at hl 0 rfl) ?_
  refine lv_iload_n hx hb d_LW_at_4 rfl (lv_at hl 1 rfl) ?_
  refine lv_iload_n hx hb d_LW_at_5 rfl (lv_at hl 2 rfl) ?_
  refine lv_iload_n hx hb d_LW_at_6 rfl (lv_at hl 3 rfl) ?_
  refine th_catch (own := R_LW) (X := xIS) (hp := 19) (th_runV (As := [.int v1, .int v2, .int v3]) (rest := [.int (iI 0), .ref ao]) (b := h0) ⟨hx, hb, hml, hown, hts⟩ hM ⟨callB_of 3 hts (good_RC_at) rfl rfl rfl (hts _ k_59) (hts _ k_565) (by decide +kernel) ⟨(Nat.le_of_ble_eq_true rfl), (Nat.le_of_ble_eq_true rfl)⟩, (hts _ k_566), (hts _ k_567)⟩ ⟨fun a U g mk q => ⟨q.1, ⟨q.2.1.1, va_K.moved (u := U) (U := U.calling g mk a) (Vm.Alike.refl U.vm) q.2.1.2.1, q.2.1.2.2.calling⟩, q.2.2.calling⟩, (va_recv (q0 := 0) hK hPr rfl hR0), fun U hU hW => ⟨rfl, ⟨by rw [hU]; exact hPr, va_K.moved hW.alike hK, by rw [hU]; exact hX0.warm hW⟩, by rw [hU]; exact hTX0.warm hW⟩⟩ rfl rfl hl.1 rfl (lv_room (Nat.le_of_ble_eq_true rfl)) d_LW_at_7 ⟨(Nat.le_of_ble_eq_true rfl), (Nat.le_of_ble_eq_true rfl)⟩) rfl hown (fun cls h9 => by rw [hex]; exact ctIS (hts _ k13) (hts _ k19) hTX h9 rfl rfl) (fun x9 H1 hz1 hk1 => ?_)
  refine W.eq (g2 := F0 m 19 ls [.ref x9]) rfl ?_
  refine lv_astore (lv' := [(5, .ref x9), (0, .ref h0), (1, .int v1), (2, .int v2), (3, .int v3), (4, .ref ao)]) hx hb d_LW_at_19 hl (by decide) rfl (fun ls hl => ?_)
  refine z_iconst hx hb d_LW_at_21 ?_
  exact ret H1 [] _ 22 (iI 2) () d_LW_at_22 ⟨hz1, fun q h _ => hk1 q h, fun _ h => by cases h⟩ rfl (fun t ht _ => ⟨by rw [ht]; exact keepA hP hk1, hD⟩)

set_option maxHeartbeats 4000000 in
set_option maxRecDepth 20000 in
theorem h_which_ok (l : Launch) (hlt : l.stackTraces = false) (D : va_G) (k : Nat → ClassId) (sz h0 ao : Nat) (R : va_W) (fs : List Value) (f0 : Nat → Int64) (v1 v2 v3 : Int32) (hR0 : R[0]? = some (h0, .inr (0, fs))) (w : Int32) (hM : Met l y_RC_which wd_RC_which rm_RC_which (va_Pc [.ref h0, .int v1, .int v2, .int v3] (PRO D k R)) (QRi (fun r : Int32 => r = w)) 0 0 nA) : Met l y_LW_which wd_LW_which rl_LW_which (va_Pc [.ref h0, .int v1, .int v2, .int v3, .ref ao] (PTW D k (OUT k ao f0 :: R) sz)) (va_Qi (fun (r : Int32) (_ : Unit) => r = iI 0) (fun _ t => BRW D (OUT k ao f0 :: R) sz (OUT k ao (vp_updL f0 0 w.toInt64) :: R) t) (va_A (OUT k ao f0 :: R) sz)) 0 0 (va_A (OUT k ao f0 :: R) sz) := by
  refine e_iW (by decide) rfl (Nat.le_of_ble_eq_true rfl) ?_
  intro p e s m args below meth c Q ls hx hb hml hown hts hpre hl hex ret
  obtain ⟨⟨hsz, hP, hK, hD0, hX⟩, hTX⟩ := hpre
  subst hsz
  have hD := hD0.self (sz := s.heap.size)
  have hA : ∀ q : Nat, s.heap.size ≤ q → (va_A (OUT k ao f0 :: R) s.heap.size) q := fun q h => Or.inr h
  have hS : va_S (va_A (OUT k ao f0 :: R) s.heap.size) s.heap s.heap [] := va_S.rf
  have hl : lv_has ls 6 [(0, .ref h0), (1, .int v1), (2, .int v2), (3, .int v3), (4, .ref ao)] := hl
  have hPr := pR (a := [OUT k ao f0]) (c := R) hP
  have hX0 := hX.mono (B := nA) va_S.rf (fun _ h => absurd h id)
  have hTX0 := hTX.mono (B := nA) va_S.rf (fun _ h => absurd h id)
  refine lv_aload hx hb d_LW_which_0 (lv_at hl 4 rfl) ?_
  refine z_iconst hx hb d_LW_which_2 ?_
  refine lv_aload_n hx hb d_LW_which_3 rfl (lv_at hl 0 rfl) ?_
  refine lv_iload_n hx hb d_LW_which_4 rfl (lv_at hl 1 rfl) ?_
  refine lv_iload_n hx hb d_LW_which_5 rfl (lv_at hl 2 rfl) ?_
  refine lv_iload_n hx hb d_LW_which_6 rfl (lv_at hl 3 rfl) ?_
  refine rc_i (va_runV (As := [.int v1, .int v2, .int v3]) (rest := [.int (iI 0), .ref ao]) (b := h0) ⟨hx, hb, hml, hown, hts⟩ hM ⟨callB_of 3 hts (good_RC_which) rfl rfl rfl (hts _ k_59) (hts _ k_609) (by decide +kernel) ⟨(Nat.le_of_ble_eq_true rfl), (Nat.le_of_ble_eq_true rfl)⟩, (hts _ k_610), (hts _ k_611)⟩ ⟨fun a U g mk q => ⟨q.1, q.2.1, va_K.moved (u := U) (U := U.calling g mk a) (Vm.Alike.refl U.vm) q.2.2.1, q.2.2.2.calling⟩, (va_recv (q0 := 0) hK hPr rfl hR0), fun U hU hW => ⟨rfl, by rw [hU]; exact hPr, va_K.moved hW.alike hK, by rw [hU]; exact hX0.warm hW⟩⟩ rfl rfl hl.1 rfl (lv_room (Nat.le_of_ble_eq_true rfl)) d_LW_which_7 ⟨(Nat.le_of_ble_eq_true rfl), (Nat.le_of_ble_eq_true rfl)⟩) (fun r9 h9 => ?_)
  subst h9
  refine lv_i2l hx hb d_LW_which_10 rfl ?_
  refine x_last hx hb hK hP hD hS 0 1 rfl rfl (0) rfl (by decide) (by omega) d_LW_which_11 (fun H locs hP hD hS => ?_)
  refine lv_goto (tgt := 23) hx hb d_LW_which_12 (by decide) ?_
  refine z_iconst hx hb d_LW_which_23 ?_
  exact ret _ _ _ 24 (iI 0) () d_LW_which_24 hS rfl (fun t ht _ => ⟨by rw [ht]; exact hP, hD⟩)

set_option maxHeartbeats 4000000 in
set_option maxRecDepth 20000 in
theorem h_which_io (l : Launch) (hlt : l.stackTraces = false) (D : va_G) (k : Nat → ClassId) (sz h0 ao : Nat) (R : va_W) (fs : List Value) (f0 : Nat → Int64) (v1 v2 v3 : Int32) (hR0 : R[0]? = some (h0, .inr (0, fs))) (hM : MetT l y_RC_which wd_RC_which rt_RC_which (va_Pc [.ref h0, .int v1, .int v2, .int v3] (PTX D k R)) xIO) : Met l y_LW_which wd_LW_which rx_LW_which (va_Pc [.ref h0, .int v1, .int v2, .int v3, .ref ao] (PTW D k (OUT k ao f0 :: R) sz)) (va_Qi (fun (r : Int32) (_ : Unit) => r = iI 1) (fun _ t => BRW D (OUT k ao f0 :: R) sz (OUT k ao f0 :: R) t) (va_A (OUT k ao f0 :: R) sz)) 1 6 (va_A (OUT k ao f0 :: R) sz) := by
  refine e_iW (by decide) rfl (Nat.le_of_ble_eq_true rfl) ?_
  intro p e s m args below meth c Q ls hx hb hml hown hts hpre hl hex ret
  obtain ⟨⟨hsz, hP, hK, hD0, hX⟩, hTX⟩ := hpre
  subst hsz
  have hD := hD0.self (sz := s.heap.size)
  have hA : ∀ q : Nat, s.heap.size ≤ q → (va_A (OUT k ao f0 :: R) s.heap.size) q := fun q h => Or.inr h
  have hS : va_S (va_A (OUT k ao f0 :: R) s.heap.size) s.heap s.heap [] := va_S.rf
  have hl : lv_has ls 6 [(0, .ref h0), (1, .int v1), (2, .int v2), (3, .int v3), (4, .ref ao)] := hl
  have hPr := pR (a := [OUT k ao f0]) (c := R) hP
  have hX0 := hX.mono (B := nA) va_S.rf (fun _ h => absurd h id)
  have hTX0 := hTX.mono (B := nA) va_S.rf (fun _ h => absurd h id)
  refine lv_aload hx hb d_LW_which_0 (lv_at hl 4 rfl) ?_
  refine z_iconst hx hb d_LW_which_2 ?_
  refine lv_aload_n hx hb d_LW_which_3 rfl (lv_at hl 0 rfl) ?_
  refine lv_iload_n hx hb d_LW_which_4 rfl (lv_at hl 1 rfl) ?_
  refine lv_iload_n hx hb d_LW_which_5 rfl (lv_at hl 2 rfl) ?_
  refine lv_iload_n hx hb d_LW_which_6 rfl (lv_at hl 3 rfl) ?_
  refine th_catch (own := R_LW) (X := xIO) (hp := 15) (th_runV (As := [.int v1, .int v2, .int v3]) (rest := [.int (iI 0), .ref ao]) (b := h0) ⟨hx, hb, hml, hown, hts⟩ hM ⟨callB_of 3 hts (good_RC_which) rfl rfl rfl (hts _ k_59) (hts _ k_609) (by decide +kernel) ⟨(Nat.le_of_ble_eq_true rfl), (Nat.le_of_ble_eq_true rfl)⟩, (hts _ k_610), (hts _ k_611)⟩ ⟨fun a U g mk q => ⟨q.1, ⟨q.2.1.1, va_K.moved (u := U) (U := U.calling g mk a) (Vm.Alike.refl U.vm) q.2.1.2.1, q.2.1.2.2.calling⟩, q.2.2.calling⟩, (va_recv (q0 := 0) hK hPr rfl hR0), fun U hU hW => ⟨rfl, ⟨by rw [hU]; exact hPr, va_K.moved hW.alike hK, by rw [hU]; exact hX0.warm hW⟩, by rw [hU]; exact hTX0.warm hW⟩⟩ rfl rfl hl.1 rfl (lv_room (Nat.le_of_ble_eq_true rfl)) d_LW_which_7 ⟨(Nat.le_of_ble_eq_true rfl), (Nat.le_of_ble_eq_true rfl)⟩) rfl hown (fun cls h9 => by rw [hex]; exact ctIO (hts _ k13) hTX h9 rfl) (fun x9 H1 hz1 hk1 => ?_)
  refine W.eq (g2 := F0 m 15 ls [.ref x9]) rfl ?_
  refine lv_astore (lv' := [(5, .ref x9), (0, .ref h0), (1, .int v1), (2, .int v2), (3, .int v3), (4, .ref ao)]) hx hb d_LW_which_15 hl (by decide) rfl (fun ls hl => ?_)
  refine z_iconst hx hb d_LW_which_17 ?_
  exact ret H1 [] _ 18 (iI 1) () d_LW_which_18 ⟨hz1, fun q h _ => hk1 q h, fun _ h => by cases h⟩ rfl (fun t ht _ => ⟨by rw [ht]; exact keepA hP hk1, hD⟩)

set_option maxHeartbeats 4000000 in
set_option maxRecDepth 20000 in
theorem h_which_is (l : Launch) (hlt : l.stackTraces = false) (D : va_G) (k : Nat → ClassId) (sz h0 ao : Nat) (R : va_W) (fs : List Value) (f0 : Nat → Int64) (v1 v2 v3 : Int32) (hR0 : R[0]? = some (h0, .inr (0, fs))) (hM : MetT l y_RC_which wd_RC_which rt_RC_which (va_Pc [.ref h0, .int v1, .int v2, .int v3] (PTX D k R)) xIS) : Met l y_LW_which wd_LW_which rx_LW_which (va_Pc [.ref h0, .int v1, .int v2, .int v3, .ref ao] (PTW D k (OUT k ao f0 :: R) sz)) (va_Qi (fun (r : Int32) (_ : Unit) => r = iI 2) (fun _ t => BRW D (OUT k ao f0 :: R) sz (OUT k ao f0 :: R) t) (va_A (OUT k ao f0 :: R) sz)) 1 6 (va_A (OUT k ao f0 :: R) sz) := by
  refine e_iW (by decide) rfl (Nat.le_of_ble_eq_true rfl) ?_
  intro p e s m args below meth c Q ls hx hb hml hown hts hpre hl hex ret
  obtain ⟨⟨hsz, hP, hK, hD0, hX⟩, hTX⟩ := hpre
  subst hsz
  have hD := hD0.self (sz := s.heap.size)
  have hA : ∀ q : Nat, s.heap.size ≤ q → (va_A (OUT k ao f0 :: R) s.heap.size) q := fun q h => Or.inr h
  have hS : va_S (va_A (OUT k ao f0 :: R) s.heap.size) s.heap s.heap [] := va_S.rf
  have hl : lv_has ls 6 [(0, .ref h0), (1, .int v1), (2, .int v2), (3, .int v3), (4, .ref ao)] := hl
  have hPr := pR (a := [OUT k ao f0]) (c := R) hP
  have hX0 := hX.mono (B := nA) va_S.rf (fun _ h => absurd h id)
  have hTX0 := hTX.mono (B := nA) va_S.rf (fun _ h => absurd h id)
  refine lv_aload hx hb d_LW_which_0 (lv_at hl 4 rfl) ?_
  refine z_iconst hx hb d_LW_which_2 ?_
  refine lv_aload_n hx hb d_LW_which_3 rfl (lv_at hl 0 rfl) ?_
  refine lv_iload_n hx hb d_LW_which_4 rfl (lv_at hl 1 rfl) ?_
  refine lv_iload_n hx hb d_LW_which_5 rfl (lv_at hl 2 rfl) ?_
  refine lv_iload_n hx hb d_LW_which_6 rfl (lv_at hl 3 rfl) ?_
  refine th_catch (own := R_LW) (X := xIS) (hp := 19) (th_runV (As := [.int v1, .int v2, .int v3]) (rest := [.int (iI 0), .ref ao]) (b := h0) ⟨hx, hb, hml, hown, hts⟩ hM ⟨callB_of 3 hts (good_RC_which) rfl rfl rfl (hts _ k_59) (hts _ k_609) (by decide +kernel) ⟨(Nat.le_of_ble_eq_true rfl), (Nat.le_of_ble_eq_true rfl)⟩, (hts _ k_610), (hts _ k_611)⟩ ⟨fun a U g mk q => ⟨q.1, ⟨q.2.1.1, va_K.moved (u := U) (U := U.calling g mk a) (Vm.Alike.refl U.vm) q.2.1.2.1, q.2.1.2.2.calling⟩, q.2.2.calling⟩, (va_recv (q0 := 0) hK hPr rfl hR0), fun U hU hW => ⟨rfl, ⟨by rw [hU]; exact hPr, va_K.moved hW.alike hK, by rw [hU]; exact hX0.warm hW⟩, by rw [hU]; exact hTX0.warm hW⟩⟩ rfl rfl hl.1 rfl (lv_room (Nat.le_of_ble_eq_true rfl)) d_LW_which_7 ⟨(Nat.le_of_ble_eq_true rfl), (Nat.le_of_ble_eq_true rfl)⟩) rfl hown (fun cls h9 => by rw [hex]; exact ctIS (hts _ k13) (hts _ k19) hTX h9 rfl rfl) (fun x9 H1 hz1 hk1 => ?_)
  refine W.eq (g2 := F0 m 19 ls [.ref x9]) rfl ?_
  refine lv_astore (lv' := [(5, .ref x9), (0, .ref h0), (1, .int v1), (2, .int v2), (3, .int v3), (4, .ref ao)]) hx hb d_LW_which_19 hl (by decide) rfl (fun ls hl => ?_)
  refine z_iconst hx hb d_LW_which_21 ?_
  exact ret H1 [] _ 22 (iI 2) () d_LW_which_22 ⟨hz1, fun q h _ => hk1 q h, fun _ h => by cases h⟩ rfl (fun t ht _ => ⟨by rw [ht]; exact keepA hP hk1, hD⟩)

set_option maxHeartbeats 4000000 in
set_option maxRecDepth 20000 in
theorem h_next_ok (l : Launch) (hlt : l.stackTraces = false) (D : va_G) (k : Nat → ClassId) (sz h0 ao : Nat) (R : va_W) (fs : List Value) (f0 : Nat → Int64) (v1 v2 v3 : Int32) (hR0 : R[0]? = some (h0, .inr (0, fs))) (w : Int32) (hM : Met l y_RC_next wd_RC_next rm_RC_next (va_Pc [.ref h0, .int v1, .int v2, .int v3] (PRO D k R)) (QRi (fun r : Int32 => r = w)) 0 0 nA) : Met l y_LW_next wd_LW_next rl_LW_next (va_Pc [.ref h0, .int v1, .int v2, .int v3, .ref ao] (PTW D k (OUT k ao f0 :: R) sz)) (va_Qi (fun (r : Int32) (_ : Unit) => r = iI 0) (fun _ t => BRW D (OUT k ao f0 :: R) sz (OUT k ao (vp_updL f0 0 w.toInt64) :: R) t) (va_A (OUT k ao f0 :: R) sz)) 0 0 (va_A (OUT k ao f0 :: R) sz) := by
  refine e_iW (by decide) rfl (Nat.le_of_ble_eq_true rfl) ?_
  intro p e s m args below meth c Q ls hx hb hml hown hts hpre hl hex ret
  obtain ⟨⟨hsz, hP, hK, hD0, hX⟩, hTX⟩ := hpre
  subst hsz
  have hD := hD0.self (sz := s.heap.size)
  have hA : ∀ q : Nat, s.heap.size ≤ q → (va_A (OUT k ao f0 :: R) s.heap.size) q := fun q h => Or.inr h
  have hS : va_S (va_A (OUT k ao f0 :: R) s.heap.size) s.heap s.heap [] := va_S.rf
  have hl : lv_has ls 6 [(0, .ref h0), (1, .int v1), (2, .int v2), (3, .int v3), (4, .ref ao)] := hl
  have hPr := pR (a := [OUT k ao f0]) (c := R) hP
  have hX0 := hX.mono (B := nA) va_S.rf (fun _ h => absurd h id)
  have hTX0 := hTX.mono (B := nA) va_S.rf (fun _ h => absurd h id)
  refine lv_aload hx hb d_LW_next_0 (lv_at hl 4 rfl) ?_
  refine z_iconst hx hb d_LW_next_2 ?_
  refine lv_aload_n hx hb d_LW_next_3 rfl (lv_at hl 0 rfl) ?_
  refine lv_iload_n hx hb d_LW_next_4 rfl (lv_at hl 1 rfl) ?_
  refine lv_iload_n hx hb d_LW_next_5 rfl (lv_at hl 2 rfl) ?_
  refine lv_iload_n hx hb d_LW_next_6 rfl (lv_at hl 3 rfl) ?_
  refine rc_i (va_runV (As := [.int v1, .int v2, .int v3]) (rest := [.int (iI 0), .ref ao]) (b := h0) ⟨hx, hb, hml, hown, hts⟩ hM ⟨callB_of 3 hts (good_RC_next) rfl rfl rfl (hts _ k_59) (hts _ k_616) (by decide +kernel) ⟨(Nat.le_of_ble_eq_true rfl), (Nat.le_of_ble_eq_true rfl)⟩, (hts _ k_617), (hts _ k_618)⟩ ⟨fun a U g mk q => ⟨q.1, q.2.1, va_K.moved (u := U) (U := U.calling g mk a) (Vm.Alike.refl U.vm) q.2.2.1, q.2.2.2.calling⟩, (va_recv (q0 := 0) hK hPr rfl hR0), fun U hU hW => ⟨rfl, by rw [hU]; exact hPr, va_K.moved hW.alike hK, by rw [hU]; exact hX0.warm hW⟩⟩ rfl rfl hl.1 rfl (lv_room (Nat.le_of_ble_eq_true rfl)) d_LW_next_7 ⟨(Nat.le_of_ble_eq_true rfl), (Nat.le_of_ble_eq_true rfl)⟩) (fun r9 h9 => ?_)
  subst h9
  refine lv_i2l hx hb d_LW_next_10 rfl ?_
  refine x_last hx hb hK hP hD hS 0 1 rfl rfl (0) rfl (by decide) (by omega) d_LW_next_11 (fun H locs hP hD hS => ?_)
  refine lv_goto (tgt := 23) hx hb d_LW_next_12 (by decide) ?_
  refine z_iconst hx hb d_LW_next_23 ?_
  exact ret _ _ _ 24 (iI 0) () d_LW_next_24 hS rfl (fun t ht _ => ⟨by rw [ht]; exact hP, hD⟩)

set_option maxHeartbeats 4000000 in
set_option maxRecDepth 20000 in
theorem h_next_io (l : Launch) (hlt : l.stackTraces = false) (D : va_G) (k : Nat → ClassId) (sz h0 ao : Nat) (R : va_W) (fs : List Value) (f0 : Nat → Int64) (v1 v2 v3 : Int32) (hR0 : R[0]? = some (h0, .inr (0, fs))) (hM : MetT l y_RC_next wd_RC_next rt_RC_next (va_Pc [.ref h0, .int v1, .int v2, .int v3] (PTX D k R)) xIO) : Met l y_LW_next wd_LW_next rx_LW_next (va_Pc [.ref h0, .int v1, .int v2, .int v3, .ref ao] (PTW D k (OUT k ao f0 :: R) sz)) (va_Qi (fun (r : Int32) (_ : Unit) => r = iI 1) (fun _ t => BRW D (OUT k ao f0 :: R) sz (OUT k ao f0 :: R) t) (va_A (OUT k ao f0 :: R) sz)) 1 6 (va_A (OUT k ao f0 :: R) sz) := by
  refine e_iW (by decide) rfl (Nat.le_of_ble_eq_true rfl) ?_
  intro p e s m args below meth c Q ls hx hb hml hown hts hpre hl hex ret
  obtain ⟨⟨hsz, hP, hK, hD0, hX⟩, hTX⟩ := hpre
  subst hsz
  have hD := hD0.self (sz := s.heap.size)
  have hA : ∀ q : Nat, s.heap.size ≤ q → (va_A (OUT k ao f0 :: R) s.heap.size) q := fun q h => Or.inr h
  have hS : va_S (va_A (OUT k ao f0 :: R) s.heap.size) s.heap s.heap [] := va_S.rf
  have hl : lv_has ls 6 [(0, .ref h0), (1, .int v1), (2, .int v2), (3, .int v3), (4, .ref ao)] := hl
  have hPr := pR (a := [OUT k ao f0]) (c := R) hP
  have hX0 := hX.mono (B := nA) va_S.rf (fun _ h => absurd h id)
  have hTX0 := hTX.mono (B := nA) va_S.rf (fun _ h => absurd h id)
  refine lv_aload hx hb d_LW_next_0 (lv_at hl 4 rfl) ?_
  refine z_iconst hx hb d_LW_next_2 ?_
  refine lv_aload_n hx hb d_LW_next_3 rfl (lv_at hl 0 rfl) ?_
  refine lv_iload_n hx hb d_LW_next_4 rfl (lv_at hl 1 rfl) ?_
  refine lv_iload_n hx hb d_LW_next_5 rfl (lv_at hl 2 rfl) ?_
  refine lv_iload_n hx hb d_LW_next_6 rfl (lv_at hl 3 rfl) ?_
  refine th_catch (own := R_LW) (X := xIO) (hp := 15) (th_runV (As := [.int v1, .int v2, .int v3]) (rest := [.int (iI 0), .ref ao]) (b := h0) ⟨hx, hb, hml, hown, hts⟩ hM ⟨callB_of 3 hts (good_RC_next) rfl rfl rfl (hts _ k_59) (hts _ k_616) (by decide +kernel) ⟨(Nat.le_of_ble_eq_true rfl), (Nat.le_of_ble_eq_true rfl)⟩, (hts _ k_617), (hts _ k_618)⟩ ⟨fun a U g mk q => ⟨q.1, ⟨q.2.1.1, va_K.moved (u := U) (U := U.calling g mk a) (Vm.Alike.refl U.vm) q.2.1.2.1, q.2.1.2.2.calling⟩, q.2.2.calling⟩, (va_recv (q0 := 0) hK hPr rfl hR0), fun U hU hW => ⟨rfl, ⟨by rw [hU]; exact hPr, va_K.moved hW.alike hK, by rw [hU]; exact hX0.warm hW⟩, by rw [hU]; exact hTX0.warm hW⟩⟩ rfl rfl hl.1 rfl (lv_room (Nat.le_of_ble_eq_true rfl)) d_LW_next_7 ⟨(Nat.le_of_ble_eq_true rfl), (Nat.le_of_ble_eq_true rfl)⟩) rfl hown (fun cls h9 => by rw [hex]; exact ctIO (hts _ k13) hTX h9 rfl) (fun x9 H1 hz1 hk1 => ?_)
  refine W.eq (g2 := F0 m 15 ls [.ref x9]) rfl ?_
  refine lv_astore (lv' := [(5, .ref x9), (0, .ref h0), (1, .int v1), (2, .int v2), (3, .int v3), (4, .ref ao)]) hx hb d_LW_next_15 hl (by decide) rfl (fun ls hl => ?_)
  refine z_iconst hx hb d_LW_next_17 ?_
  exact ret H1 [] _ 18 (iI 1) () d_LW_next_18 ⟨hz1, fun q h _ => hk1 q h, fun _ h => by cases h⟩ rfl (fun t ht _ => ⟨by rw [ht]; exact keepA hP hk1, hD⟩)

set_option maxHeartbeats 4000000 in
set_option maxRecDepth 20000 in
theorem h_next_is (l : Launch) (hlt : l.stackTraces = false) (D : va_G) (k : Nat → ClassId) (sz h0 ao : Nat) (R : va_W) (fs : List Value) (f0 : Nat → Int64) (v1 v2 v3 : Int32) (hR0 : R[0]? = some (h0, .inr (0, fs))) (hM : MetT l y_RC_next wd_RC_next rt_RC_next (va_Pc [.ref h0, .int v1, .int v2, .int v3] (PTX D k R)) xIS) : Met l y_LW_next wd_LW_next rx_LW_next (va_Pc [.ref h0, .int v1, .int v2, .int v3, .ref ao] (PTW D k (OUT k ao f0 :: R) sz)) (va_Qi (fun (r : Int32) (_ : Unit) => r = iI 2) (fun _ t => BRW D (OUT k ao f0 :: R) sz (OUT k ao f0 :: R) t) (va_A (OUT k ao f0 :: R) sz)) 1 6 (va_A (OUT k ao f0 :: R) sz) := by
  refine e_iW (by decide) rfl (Nat.le_of_ble_eq_true rfl) ?_
  intro p e s m args below meth c Q ls hx hb hml hown hts hpre hl hex ret
  obtain ⟨⟨hsz, hP, hK, hD0, hX⟩, hTX⟩ := hpre
  subst hsz
  have hD := hD0.self (sz := s.heap.size)
  have hA : ∀ q : Nat, s.heap.size ≤ q → (va_A (OUT k ao f0 :: R) s.heap.size) q := fun q h => Or.inr h
  have hS : va_S (va_A (OUT k ao f0 :: R) s.heap.size) s.heap s.heap [] := va_S.rf
  have hl : lv_has ls 6 [(0, .ref h0), (1, .int v1), (2, .int v2), (3, .int v3), (4, .ref ao)] := hl
  have hPr := pR (a := [OUT k ao f0]) (c := R) hP
  have hX0 := hX.mono (B := nA) va_S.rf (fun _ h => absurd h id)
  have hTX0 := hTX.mono (B := nA) va_S.rf (fun _ h => absurd h id)
  refine lv_aload hx hb d_LW_next_0 (lv_at hl 4 rfl) ?_
  refine z_iconst hx hb d_LW_next_2 ?_
  refine lv_aload_n hx hb d_LW_next_3 rfl (lv_at hl 0 rfl) ?_
  refine lv_iload_n hx hb d_LW_next_4 rfl (lv_at hl 1 rfl) ?_
  refine lv_iload_n hx hb d_LW_next_5 rfl (lv_at hl 2 rfl) ?_
  refine lv_iload_n hx hb d_LW_next_6 rfl (lv_at hl 3 rfl) ?_
  refine th_catch (own := R_LW) (X := xIS) (hp := 19) (th_runV (As := [.int v1, .int v2, .int v3]) (rest := [.int (iI 0), .ref ao]) (b := h0) ⟨hx, hb, hml, hown, hts⟩ hM ⟨callB_of 3 hts (good_RC_next) rfl rfl rfl (hts _ k_59) (hts _ k_616) (by decide +kernel) ⟨(Nat.le_of_ble_eq_true rfl), (Nat.le_of_ble_eq_true rfl)⟩, (hts _ k_617), (hts _ k_618)⟩ ⟨fun a U g mk q => ⟨q.1, ⟨q.2.1.1, va_K.moved (u := U) (U := U.calling g mk a) (Vm.Alike.refl U.vm) q.2.1.2.1, q.2.1.2.2.calling⟩, q.2.2.calling⟩, (va_recv (q0 := 0) hK hPr rfl hR0), fun U hU hW => ⟨rfl, ⟨by rw [hU]; exact hPr, va_K.moved hW.alike hK, by rw [hU]; exact hX0.warm hW⟩, by rw [hU]; exact hTX0.warm hW⟩⟩ rfl rfl hl.1 rfl (lv_room (Nat.le_of_ble_eq_true rfl)) d_LW_next_7 ⟨(Nat.le_of_ble_eq_true rfl), (Nat.le_of_ble_eq_true rfl)⟩) rfl hown (fun cls h9 => by rw [hex]; exact ctIS (hts _ k13) (hts _ k19) hTX h9 rfl rfl) (fun x9 H1 hz1 hk1 => ?_)
  refine W.eq (g2 := F0 m 19 ls [.ref x9]) rfl ?_
  refine lv_astore (lv' := [(5, .ref x9), (0, .ref h0), (1, .int v1), (2, .int v2), (3, .int v3), (4, .ref ao)]) hx hb d_LW_next_19 hl (by decide) rfl (fun ls hl => ?_)
  refine z_iconst hx hb d_LW_next_21 ?_
  exact ret H1 [] _ 22 (iI 2) () d_LW_next_22 ⟨hz1, fun q h _ => hk1 q h, fun _ h => by cases h⟩ rfl (fun t ht _ => ⟨by rw [ht]; exact keepA hP hk1, hD⟩)

set_option maxHeartbeats 4000000 in
set_option maxRecDepth 20000 in
theorem h_total_ok (l : Launch) (hlt : l.stackTraces = false) (D : va_G) (k : Nat → ClassId) (sz h0 ao : Nat) (R : va_W) (fs : List Value) (f0 : Nat → Int64) (v1 v2 v3 v4 : Int32) (hR0 : R[0]? = some (h0, .inr (0, fs))) (w : Int32) (hM : Met l y_RC_total wd_RC_total rm_RC_total (va_Pc [.ref h0, .int v1, .int v2, .int v3, .int v4] (PRO D k R)) (QRi (fun r : Int32 => r = w)) 0 0 nA) : Met l y_LW_total wd_LW_total rl_LW_total (va_Pc [.ref h0, .int v1, .int v2, .int v3, .int v4, .ref ao] (PTW D k (OUT k ao f0 :: R) sz)) (va_Qi (fun (r : Int32) (_ : Unit) => r = iI 0) (fun _ t => BRW D (OUT k ao f0 :: R) sz (OUT k ao (vp_updL f0 0 w.toInt64) :: R) t) (va_A (OUT k ao f0 :: R) sz)) 0 0 (va_A (OUT k ao f0 :: R) sz) := by
  refine e_iW (by decide) rfl (Nat.le_of_ble_eq_true rfl) ?_
  intro p e s m args below meth c Q ls hx hb hml hown hts hpre hl hex ret
  obtain ⟨⟨hsz, hP, hK, hD0, hX⟩, hTX⟩ := hpre
  subst hsz
  have hD := hD0.self (sz := s.heap.size)
  have hA : ∀ q : Nat, s.heap.size ≤ q → (va_A (OUT k ao f0 :: R) s.heap.size) q := fun q h => Or.inr h
  have hS : va_S (va_A (OUT k ao f0 :: R) s.heap.size) s.heap s.heap [] := va_S.rf
  have hl : lv_has ls 7 [(0, .ref h0), (1, .int v1), (2, .int v2), (3, .int v3), (4, .int v4), (5, .ref ao)] := hl
  have hPr := pR (a := [OUT k ao f0]) (c := R) hP
  have hX0 := hX.mono (B := nA) va_S.rf (fun _ h => absurd h id)
  have hTX0 := hTX.mono (B := nA) va_S.rf (fun _ h => absurd h id)
  refine lv_aload hx hb d_LW_total_0 (lv_at hl 5 rfl) ?_
  refine z_iconst hx hb d_LW_total_2 ?_
  refine lv_aload_n hx hb d_LW_total_3 rfl (lv_at hl 0 rfl) ?_
  refine lv_iload_n hx hb d_LW_total_4 rfl (lv_at hl 1 rfl) ?_
  refine lv_iload_n hx hb d_LW_total_5 rfl (lv_at hl 2 rfl) ?_
  refine lv_iload_n hx hb d_LW_total_6 rfl (lv_at hl 3 rfl) ?_
  refine lv_iload hx hb d_LW_total_7 (lv_at hl 4 rfl) ?_
  refine rc_i (va_runV (As := [.int v1, .int v2, .int v3, .int v4]) (rest := [.int (iI 0), .ref ao]) (b := h0) ⟨hx, hb, hml, hown, hts⟩ hM ⟨callB_of 4 hts (good_RC_total) rfl rfl rfl (hts _ k_59) (hts _ k_656) (by decide +kernel) ⟨(Nat.le_of_ble_eq_true rfl), (Nat.le_of_ble_eq_true rfl)⟩, (hts _ k_657), (hts _ k_658)⟩ ⟨fun a U g mk q => ⟨q.1, q.2.1, va_K.moved (u := U) (U := U.calling g mk a) (Vm.Alike.refl U.vm) q.2.2.1, q.2.2.2.calling⟩, (va_recv (q0 := 0) hK hPr rfl hR0), fun U hU hW => ⟨rfl, by rw [hU]; exact hPr, va_K.moved hW.alike hK, by rw [hU]; exact hX0.warm hW⟩⟩ rfl rfl hl.1 rfl (lv_room (Nat.le_of_ble_eq_true rfl)) d_LW_total_9 ⟨(Nat.le_of_ble_eq_true rfl), (Nat.le_of_ble_eq_true rfl)⟩) (fun r9 h9 => ?_)
  subst h9
  refine lv_i2l hx hb d_LW_total_12 rfl ?_
  refine x_last hx hb hK hP hD hS 0 1 rfl rfl (0) rfl (by decide) (by omega) d_LW_total_13 (fun H locs hP hD hS => ?_)
  refine lv_goto (tgt := 25) hx hb d_LW_total_14 (by decide) ?_
  refine z_iconst hx hb d_LW_total_25 ?_
  exact ret _ _ _ 26 (iI 0) () d_LW_total_26 hS rfl (fun t ht _ => ⟨by rw [ht]; exact hP, hD⟩)

set_option maxHeartbeats 4000000 in
set_option maxRecDepth 20000 in
theorem h_total_io (l : Launch) (hlt : l.stackTraces = false) (D : va_G) (k : Nat → ClassId) (sz h0 ao : Nat) (R : va_W) (fs : List Value) (f0 : Nat → Int64) (v1 v2 v3 v4 : Int32) (hR0 : R[0]? = some (h0, .inr (0, fs))) (hM : MetT l y_RC_total wd_RC_total rt_RC_total (va_Pc [.ref h0, .int v1, .int v2, .int v3, .int v4] (PTX D k R)) xIO) : Met l y_LW_total wd_LW_total rx_LW_total (va_Pc [.ref h0, .int v1, .int v2, .int v3, .int v4, .ref ao] (PTW D k (OUT k ao f0 :: R) sz)) (va_Qi (fun (r : Int32) (_ : Unit) => r = iI 1) (fun _ t => BRW D (OUT k ao f0 :: R) sz (OUT k ao f0 :: R) t) (va_A (OUT k ao f0 :: R) sz)) 1 6 (va_A (OUT k ao f0 :: R) sz) := by
  refine e_iW (by decide) rfl (Nat.le_of_ble_eq_true rfl) ?_
  intro p e s m args below meth c Q ls hx hb hml hown hts hpre hl hex ret
  obtain ⟨⟨hsz, hP, hK, hD0, hX⟩, hTX⟩ := hpre
  subst hsz
  have hD := hD0.self (sz := s.heap.size)
  have hA : ∀ q : Nat, s.heap.size ≤ q → (va_A (OUT k ao f0 :: R) s.heap.size) q := fun q h => Or.inr h
  have hS : va_S (va_A (OUT k ao f0 :: R) s.heap.size) s.heap s.heap [] := va_S.rf
  have hl : lv_has ls 7 [(0, .ref h0), (1, .int v1), (2, .int v2), (3, .int v3), (4, .int v4), (5, .ref ao)] := hl
  have hPr := pR (a := [OUT k ao f0]) (c := R) hP
  have hX0 := hX.mono (B := nA) va_S.rf (fun _ h => absurd h id)
  have hTX0 := hTX.mono (B := nA) va_S.rf (fun _ h => absurd h id)
  refine lv_aload hx hb d_LW_total_0 (lv_at hl 5 rfl) ?_
  refine z_iconst hx hb d_LW_total_2 ?_
  refine lv_aload_n hx hb d_LW_total_3 rfl (lv_at hl 0 rfl) ?_
  refine lv_iload_n hx hb d_LW_total_4 rfl (lv_at hl 1 rfl) ?_
  refine lv_iload_n hx hb d_LW_total_5 rfl (lv_at hl 2 rfl) ?_
  refine lv_iload_n hx hb d_LW_total_6 rfl (lv_at hl 3 rfl) ?_
  refine lv_iload hx hb d_LW_total_7 (lv_at hl 4 rfl) ?_
  refine th_catch (own := R_LW) (X := xIO) (hp := 17) (th_runV (As := [.int v1, .int v2, .int v3, .int v4]) (rest := [.int (iI 0), .ref ao]) (b := h0) ⟨hx, hb, hml, hown, hts⟩ hM ⟨callB_of 4 hts (good_RC_total) rfl rfl rfl (hts _ k_59) (hts _ k_656) (by decide +kernel) ⟨(Nat.le_of_ble_eq_true rfl), (Nat.le_of_ble_eq_true rfl)⟩, (hts _ k_657), (hts _ k_658)⟩ ⟨fun a U g mk q => ⟨q.1, ⟨q.2.1.1, va_K.moved (u := U) (U := U.calling g mk a) (Vm.Alike.refl U.vm) q.2.1.2.1, q.2.1.2.2.calling⟩, q.2.2.calling⟩, (va_recv (q0 := 0) hK hPr rfl hR0), fun U hU hW => ⟨rfl, ⟨by rw [hU]; exact hPr, va_K.moved hW.alike hK, by rw [hU]; exact hX0.warm hW⟩, by rw [hU]; exact hTX0.warm hW⟩⟩ rfl rfl hl.1 rfl (lv_room (Nat.le_of_ble_eq_true rfl)) d_LW_total_9 ⟨(Nat.le_of_ble_eq_true rfl), (Nat.le_of_ble_eq_true rfl)⟩) rfl hown (fun cls h9 => by rw [hex]; exact ctIO (hts _ k13) hTX h9 rfl) (fun x9 H1 hz1 hk1 => ?_)
  refine W.eq (g2 := F0 m 17 ls [.ref x9]) rfl ?_
  refine lv_astore (lv' := [(6, .ref x9), (0, .ref h0), (1, .int v1), (2, .int v2), (3, .int v3), (4, .int v4), (5, .ref ao)]) hx hb d_LW_total_17 hl (by decide) rfl (fun ls hl => ?_)
  refine z_iconst hx hb d_LW_total_19 ?_
  exact ret H1 [] _ 20 (iI 1) () d_LW_total_20 ⟨hz1, fun q h _ => hk1 q h, fun _ h => by cases h⟩ rfl (fun t ht _ => ⟨by rw [ht]; exact keepA hP hk1, hD⟩)

set_option maxHeartbeats 4000000 in
set_option maxRecDepth 20000 in
theorem h_total_is (l : Launch) (hlt : l.stackTraces = false) (D : va_G) (k : Nat → ClassId) (sz h0 ao : Nat) (R : va_W) (fs : List Value) (f0 : Nat → Int64) (v1 v2 v3 v4 : Int32) (hR0 : R[0]? = some (h0, .inr (0, fs))) (hM : MetT l y_RC_total wd_RC_total rt_RC_total (va_Pc [.ref h0, .int v1, .int v2, .int v3, .int v4] (PTX D k R)) xIS) : Met l y_LW_total wd_LW_total rx_LW_total (va_Pc [.ref h0, .int v1, .int v2, .int v3, .int v4, .ref ao] (PTW D k (OUT k ao f0 :: R) sz)) (va_Qi (fun (r : Int32) (_ : Unit) => r = iI 2) (fun _ t => BRW D (OUT k ao f0 :: R) sz (OUT k ao f0 :: R) t) (va_A (OUT k ao f0 :: R) sz)) 1 6 (va_A (OUT k ao f0 :: R) sz) := by
  refine e_iW (by decide) rfl (Nat.le_of_ble_eq_true rfl) ?_
  intro p e s m args below meth c Q ls hx hb hml hown hts hpre hl hex ret
  obtain ⟨⟨hsz, hP, hK, hD0, hX⟩, hTX⟩ := hpre
  subst hsz
  have hD := hD0.self (sz := s.heap.size)
  have hA : ∀ q : Nat, s.heap.size ≤ q → (va_A (OUT k ao f0 :: R) s.heap.size) q := fun q h => Or.inr h
  have hS : va_S (va_A (OUT k ao f0 :: R) s.heap.size) s.heap s.heap [] := va_S.rf
  have hl : lv_has ls 7 [(0, .ref h0), (1, .int v1), (2, .int v2), (3, .int v3), (4, .int v4), (5, .ref ao)] := hl
  have hPr := pR (a := [OUT k ao f0]) (c := R) hP
  have hX0 := hX.mono (B := nA) va_S.rf (fun _ h => absurd h id)
  have hTX0 := hTX.mono (B := nA) va_S.rf (fun _ h => absurd h id)
  refine lv_aload hx hb d_LW_total_0 (lv_at hl 5 rfl) ?_
  refine z_iconst hx hb d_LW_total_2 ?_
  refine lv_aload_n hx hb d_LW_total_3 rfl (lv_at hl 0 rfl) ?_
  refine lv_iload_n hx hb d_LW_total_4 rfl (lv_at hl 1 rfl) ?_
  refine lv_iload_n hx hb d_LW_total_5 rfl (lv_at hl 2 rfl) ?_
  refine lv_iload_n hx hb d_LW_total_6 rfl (lv_at hl 3 rfl) ?_
  refine lv_iload hx hb d_LW_total_7 (lv_at hl 4 rfl) ?_
  refine th_catch (own := R_LW) (X := xIS) (hp := 21) (th_runV (As := [.int v1, .int v2, .int v3, .int v4]) (rest := [.int (iI 0), .ref ao]) (b := h0) ⟨hx, hb, hml, hown, hts⟩ hM ⟨callB_of 4 hts (good_RC_total) rfl rfl rfl (hts _ k_59) (hts _ k_656) (by decide +kernel) ⟨(Nat.le_of_ble_eq_true rfl), (Nat.le_of_ble_eq_true rfl)⟩, (hts _ k_657), (hts _ k_658)⟩ ⟨fun a U g mk q => ⟨q.1, ⟨q.2.1.1, va_K.moved (u := U) (U := U.calling g mk a) (Vm.Alike.refl U.vm) q.2.1.2.1, q.2.1.2.2.calling⟩, q.2.2.calling⟩, (va_recv (q0 := 0) hK hPr rfl hR0), fun U hU hW => ⟨rfl, ⟨by rw [hU]; exact hPr, va_K.moved hW.alike hK, by rw [hU]; exact hX0.warm hW⟩, by rw [hU]; exact hTX0.warm hW⟩⟩ rfl rfl hl.1 rfl (lv_room (Nat.le_of_ble_eq_true rfl)) d_LW_total_9 ⟨(Nat.le_of_ble_eq_true rfl), (Nat.le_of_ble_eq_true rfl)⟩) rfl hown (fun cls h9 => by rw [hex]; exact ctIS (hts _ k13) (hts _ k19) hTX h9 rfl rfl) (fun x9 H1 hz1 hk1 => ?_)
  refine W.eq (g2 := F0 m 21 ls [.ref x9]) rfl ?_
  refine lv_astore (lv' := [(6, .ref x9), (0, .ref h0), (1, .int v1), (2, .int v2), (3, .int v3), (4, .int v4), (5, .ref ao)]) hx hb d_LW_total_21 hl (by decide) rfl (fun ls hl => ?_)
  refine z_iconst hx hb d_LW_total_23 ?_
  exact ret H1 [] _ 24 (iI 2) () d_LW_total_24 ⟨hz1, fun q h _ => hk1 q h, fun _ h => by cases h⟩ rfl (fun t ht _ => ⟨by rw [ht]; exact keepA hP hk1, hD⟩)

set_option maxHeartbeats 4000000 in
set_option maxRecDepth 20000 in
theorem h_elapsed_ok (l : Launch) (hlt : l.stackTraces = false) (D : va_G) (k : Nat → ClassId) (sz h0 ao : Nat) (R : va_W) (fs : List Value) (f0 : Nat → Int64) (v1 v2 v3 : Int32) (hR0 : R[0]? = some (h0, .inr (0, fs))) (w : Int32) (hM : Met l y_RC_elapsed wd_RC_elapsed rm_RC_elapsed (va_Pc [.ref h0, .int v1, .int v2, .int v3] (PRO D k R)) (QRi (fun r : Int32 => r = w)) 0 0 nA) : Met l y_LW_elapsed wd_LW_elapsed rl_LW_elapsed (va_Pc [.ref h0, .int v1, .int v2, .int v3, .ref ao] (PTW D k (OUT k ao f0 :: R) sz)) (va_Qi (fun (r : Int32) (_ : Unit) => r = iI 0) (fun _ t => BRW D (OUT k ao f0 :: R) sz (OUT k ao (vp_updL f0 0 w.toInt64) :: R) t) (va_A (OUT k ao f0 :: R) sz)) 0 0 (va_A (OUT k ao f0 :: R) sz) := by
  refine e_iW (by decide) rfl (Nat.le_of_ble_eq_true rfl) ?_
  intro p e s m args below meth c Q ls hx hb hml hown hts hpre hl hex ret
  obtain ⟨⟨hsz, hP, hK, hD0, hX⟩, hTX⟩ := hpre
  subst hsz
  have hD := hD0.self (sz := s.heap.size)
  have hA : ∀ q : Nat, s.heap.size ≤ q → (va_A (OUT k ao f0 :: R) s.heap.size) q := fun q h => Or.inr h
  have hS : va_S (va_A (OUT k ao f0 :: R) s.heap.size) s.heap s.heap [] := va_S.rf
  have hl : lv_has ls 6 [(0, .ref h0), (1, .int v1), (2, .int v2), (3, .int v3), (4, .ref ao)] := hl
  have hPr := pR (a := [OUT k ao f0]) (c := R) hP
  have hX0 := hX.mono (B := nA) va_S.rf (fun _ h => absurd h id)
  have hTX0 := hTX.mono (B := nA) va_S.rf (fun _ h => absurd h id)
  refine lv_aload hx hb d_LW_elapsed_0 (lv_at hl 4 rfl) ?_
  refine z_iconst hx hb d_LW_elapsed_2 ?_
  refine lv_aload_n hx hb d_LW_elapsed_3 rfl (lv_at hl 0 rfl) ?_
  refine lv_iload_n hx hb d_LW_elapsed_4 rfl (lv_at hl 1 rfl) ?_
  refine lv_iload_n hx hb d_LW_elapsed_5 rfl (lv_at hl 2 rfl) ?_
  refine lv_iload_n hx hb d_LW_elapsed_6 rfl (lv_at hl 3 rfl) ?_
  refine rc_i (va_runV (As := [.int v1, .int v2, .int v3]) (rest := [.int (iI 0), .ref ao]) (b := h0) ⟨hx, hb, hml, hown, hts⟩ hM ⟨callB_of 3 hts (good_RC_elapsed) rfl rfl rfl (hts _ k_59) (hts _ k_669) (by decide +kernel) ⟨(Nat.le_of_ble_eq_true rfl), (Nat.le_of_ble_eq_true rfl)⟩, (hts _ k_670), (hts _ k_671)⟩ ⟨fun a U g mk q => ⟨q.1, q.2.1, va_K.moved (u := U) (U := U.calling g mk a) (Vm.Alike.refl U.vm) q.2.2.1, q.2.2.2.calling⟩, (va_recv (q0 := 0) hK hPr rfl hR0), fun U hU hW => ⟨rfl, by rw [hU]; exact hPr, va_K.moved hW.alike hK, by rw [hU]; exact hX0.warm hW⟩⟩ rfl rfl hl.1 rfl (lv_room (Nat.le_of_ble_eq_true rfl)) d_LW_elapsed_7 ⟨(Nat.le_of_ble_eq_true rfl), (Nat.le_of_ble_eq_true rfl)⟩) (fun r9 h9 => ?_)
  subst h9
  refine lv_i2l hx hb d_LW_elapsed_10 rfl ?_
  refine x_last hx hb hK hP hD hS 0 1 rfl rfl (0) rfl (by decide) (by omega) d_LW_elapsed_11 (fun H locs hP hD hS => ?_)
  refine lv_goto (tgt := 19) hx hb d_LW_elapsed_12 (by decide) ?_
  refine z_iconst hx hb d_LW_elapsed_19 ?_
  exact ret _ _ _ 20 (iI 0) () d_LW_elapsed_20 hS rfl (fun t ht _ => ⟨by rw [ht]; exact hP, hD⟩)

set_option maxHeartbeats 4000000 in
set_option maxRecDepth 20000 in
theorem h_elapsed_io (l : Launch) (hlt : l.stackTraces = false) (D : va_G) (k : Nat → ClassId) (sz h0 ao : Nat) (R : va_W) (fs : List Value) (f0 : Nat → Int64) (v1 v2 v3 : Int32) (hR0 : R[0]? = some (h0, .inr (0, fs))) (hM : MetT l y_RC_elapsed wd_RC_elapsed rt_RC_elapsed (va_Pc [.ref h0, .int v1, .int v2, .int v3] (PTX D k R)) xIO) : Met l y_LW_elapsed wd_LW_elapsed rx_LW_elapsed (va_Pc [.ref h0, .int v1, .int v2, .int v3, .ref ao] (PTW D k (OUT k ao f0 :: R) sz)) (va_Qi (fun (r : Int32) (_ : Unit) => r = iI 1) (fun _ t => BRW D (OUT k ao f0 :: R) sz (OUT k ao f0 :: R) t) (va_A (OUT k ao f0 :: R) sz)) 1 6 (va_A (OUT k ao f0 :: R) sz) := by
  refine e_iW (by decide) rfl (Nat.le_of_ble_eq_true rfl) ?_
  intro p e s m args below meth c Q ls hx hb hml hown hts hpre hl hex ret
  obtain ⟨⟨hsz, hP, hK, hD0, hX⟩, hTX⟩ := hpre
  subst hsz
  have hD := hD0.self (sz := s.heap.size)
  have hA : ∀ q : Nat, s.heap.size ≤ q → (va_A (OUT k ao f0 :: R) s.heap.size) q := fun q h => Or.inr h
  have hS : va_S (va_A (OUT k ao f0 :: R) s.heap.size) s.heap s.heap [] := va_S.rf
  have hl : lv_has ls 6 [(0, .ref h0), (1, .int v1), (2, .int v2), (3, .int v3), (4, .ref ao)] := hl
  have hPr := pR (a := [OUT k ao f0]) (c := R) hP
  have hX0 := hX.mono (B := nA) va_S.rf (fun _ h => absurd h id)
  have hTX0 := hTX.mono (B := nA) va_S.rf (fun _ h => absurd h id)
  refine lv_aload hx hb d_LW_elapsed_0 (lv_at hl 4 rfl) ?_
  refine z_iconst hx hb d_LW_elapsed_2 ?_
  refine lv_aload_n hx hb d_LW_elapsed_3 rfl (lv_at hl 0 rfl) ?_
  refine lv_iload_n hx hb d_LW_elapsed_4 rfl (lv_at hl 1 rfl) ?_
  refine lv_iload_n hx hb d_LW_elapsed_5 rfl (lv_at hl 2 rfl) ?_
  refine lv_iload_n hx hb d_LW_elapsed_6 rfl (lv_at hl 3 rfl) ?_
  refine th_catch (own := R_LW) (X := xIO) (hp := 15) (th_runV (As := [.int v1, .int v2, .int v3]) (rest := [.int (iI 0), .ref ao]) (b := h0) ⟨hx, hb, hml, hown, hts⟩ hM ⟨callB_of 3 hts (good_RC_elapsed) rfl rfl rfl (hts _ k_59) (hts _ k_669) (by decide +kernel) ⟨(Nat.le_of_ble_eq_true rfl), (Nat.le_of_ble_eq_true rfl)⟩, (hts _ k_670), (hts _ k_671)⟩ ⟨fun a U g mk q => ⟨q.1, ⟨q.2.1.1, va_K.moved (u := U) (U := U.calling g mk a) (Vm.Alike.refl U.vm) q.2.1.2.1, q.2.1.2.2.calling⟩, q.2.2.calling⟩, (va_recv (q0 := 0) hK hPr rfl hR0), fun U hU hW => ⟨rfl, ⟨by rw [hU]; exact hPr, va_K.moved hW.alike hK, by rw [hU]; exact hX0.warm hW⟩, by rw [hU]; exact hTX0.warm hW⟩⟩ rfl rfl hl.1 rfl (lv_room (Nat.le_of_ble_eq_true rfl)) d_LW_elapsed_7 ⟨(Nat.le_of_ble_eq_true rfl), (Nat.le_of_ble_eq_true rfl)⟩) rfl hown (fun cls h9 => by rw [hex]; exact ctIO (hts _ k13) hTX h9 rfl) (fun x9 H1 hz1 hk1 => ?_)
  refine W.eq (g2 := F0 m 15 ls [.ref x9]) rfl ?_
  refine lv_astore (lv' := [(5, .ref x9), (0, .ref h0), (1, .int v1), (2, .int v2), (3, .int v3), (4, .ref ao)]) hx hb d_LW_elapsed_15 hl (by decide) rfl (fun ls hl => ?_)
  refine z_iconst hx hb d_LW_elapsed_17 ?_
  exact ret H1 [] _ 18 (iI 1) () d_LW_elapsed_18 ⟨hz1, fun q h _ => hk1 q h, fun _ h => by cases h⟩ rfl (fun t ht _ => ⟨by rw [ht]; exact keepA hP hk1, hD⟩)

set_option maxHeartbeats 4000000 in
set_option maxRecDepth 20000 in
theorem h_compare_ok (l : Launch) (hlt : l.stackTraces = false) (D : va_G) (k : Nat → ClassId) (sz h0 ao : Nat) (R : va_W) (fs : List Value) (f0 : Nat → Int64) (v1 v2 : Int32) (hR0 : R[0]? = some (h0, .inr (0, fs))) (w : Int32) (hM : Met l y_RC_compare wd_RC_compare rm_RC_compare (va_Pc [.ref h0, .int v1, .int v2] (PRO D k R)) (QRi (fun r : Int32 => r = w)) 0 0 nA) : Met l y_LW_compare wd_LW_compare rl_LW_compare (va_Pc [.ref h0, .int v1, .int v2, .ref ao] (PTW D k (OUT k ao f0 :: R) sz)) (va_Qi (fun (r : Int32) (_ : Unit) => r = iI 0) (fun _ t => BRW D (OUT k ao f0 :: R) sz (OUT k ao (vp_updL f0 0 w.toInt64) :: R) t) (va_A (OUT k ao f0 :: R) sz)) 0 0 (va_A (OUT k ao f0 :: R) sz) := by
  refine e_iW (by decide) rfl (Nat.le_of_ble_eq_true rfl) ?_
  intro p e s m args below meth c Q ls hx hb hml hown hts hpre hl hex ret
  obtain ⟨⟨hsz, hP, hK, hD0, hX⟩, hTX⟩ := hpre
  subst hsz
  have hD := hD0.self (sz := s.heap.size)
  have hA : ∀ q : Nat, s.heap.size ≤ q → (va_A (OUT k ao f0 :: R) s.heap.size) q := fun q h => Or.inr h
  have hS : va_S (va_A (OUT k ao f0 :: R) s.heap.size) s.heap s.heap [] := va_S.rf
  have hl : lv_has ls 5 [(0, .ref h0), (1, .int v1), (2, .int v2), (3, .ref ao)] := hl
  have hPr := pR (a := [OUT k ao f0]) (c := R) hP
  have hX0 := hX.mono (B := nA) va_S.rf (fun _ h => absurd h id)
  have hTX0 := hTX.mono (B := nA) va_S.rf (fun _ h => absurd h id)
  refine lv_aload_n hx hb d_LW_compare_0 rfl (lv_at hl 3 rfl) ?_
  refine z_iconst hx hb d_LW_compare_1 ?_
  refine lv_aload_n hx hb d_LW_compare_2 rfl (lv_at hl 0 rfl) ?_
  refine lv_iload_n hx hb d_LW_compare_3 rfl (lv_at hl 1 rfl) ?_
  refine lv_iload_n hx hb d_LW_compare_4 rfl (lv_at hl 2 rfl) ?_
  refine rc_i (va_runV (As := [.int v1, .int v2]) (rest := [.int (iI 0), .ref ao]) (b := h0) ⟨hx, hb, hml, hown, hts⟩ hM ⟨callB_of 2 hts (good_RC_compare) rfl rfl rfl (hts _ k_59) (hts _ k_676) (by decide +kernel) ⟨(Nat.le_of_ble_eq_true rfl), (Nat.le_of_ble_eq_true rfl)⟩, (hts _ k_677), (hts _ k_678)⟩ ⟨fun a U g mk q => ⟨q.1, q.2.1, va_K.moved (u := U) (U := U.calling g mk a) (Vm.Alike.refl U.vm) q.2.2.1, q.2.2.2.calling⟩, (va_recv (q0 := 0) hK hPr rfl hR0), fun U hU hW => ⟨rfl, by rw [hU]; exact hPr, va_K.moved hW.alike hK, by rw [hU]; exact hX0.warm hW⟩⟩ rfl rfl hl.1 rfl (lv_room (Nat.le_of_ble_eq_true rfl)) d_LW_compare_5 ⟨(Nat.le_of_ble_eq_true rfl), (Nat.le_of_ble_eq_true rfl)⟩) (fun r9 h9 => ?_)
  subst h9
  refine lv_i2l hx hb d_LW_compare_8 rfl ?_
  refine x_last hx hb hK hP hD hS 0 1 rfl rfl (0) rfl (by decide) (by omega) d_LW_compare_9 (fun H locs hP hD hS => ?_)
  refine lv_goto (tgt := 21) hx hb d_LW_compare_10 (by decide) ?_
  refine z_iconst hx hb d_LW_compare_21 ?_
  exact ret _ _ _ 22 (iI 0) () d_LW_compare_22 hS rfl (fun t ht _ => ⟨by rw [ht]; exact hP, hD⟩)

set_option maxHeartbeats 4000000 in
set_option maxRecDepth 20000 in
theorem h_compare_io (l : Launch) (hlt : l.stackTraces = false) (D : va_G) (k : Nat → ClassId) (sz h0 ao : Nat) (R : va_W) (fs : List Value) (f0 : Nat → Int64) (v1 v2 : Int32) (hR0 : R[0]? = some (h0, .inr (0, fs))) (hM : MetT l y_RC_compare wd_RC_compare rt_RC_compare (va_Pc [.ref h0, .int v1, .int v2] (PTX D k R)) xIO) : Met l y_LW_compare wd_LW_compare rx_LW_compare (va_Pc [.ref h0, .int v1, .int v2, .ref ao] (PTW D k (OUT k ao f0 :: R) sz)) (va_Qi (fun (r : Int32) (_ : Unit) => r = iI 1) (fun _ t => BRW D (OUT k ao f0 :: R) sz (OUT k ao f0 :: R) t) (va_A (OUT k ao f0 :: R) sz)) 1 6 (va_A (OUT k ao f0 :: R) sz) := by
  refine e_iW (by decide) rfl (Nat.le_of_ble_eq_true rfl) ?_
  intro p e s m args below meth c Q ls hx hb hml hown hts hpre hl hex ret
  obtain ⟨⟨hsz, hP, hK, hD0, hX⟩, hTX⟩ := hpre
  subst hsz
  have hD := hD0.self (sz := s.heap.size)
  have hA : ∀ q : Nat, s.heap.size ≤ q → (va_A (OUT k ao f0 :: R) s.heap.size) q := fun q h => Or.inr h
  have hS : va_S (va_A (OUT k ao f0 :: R) s.heap.size) s.heap s.heap [] := va_S.rf
  have hl : lv_has ls 5 [(0, .ref h0), (1, .int v1), (2, .int v2), (3, .ref ao)] := hl
  have hPr := pR (a := [OUT k ao f0]) (c := R) hP
  have hX0 := hX.mono (B := nA) va_S.rf (fun _ h => absurd h id)
  have hTX0 := hTX.mono (B := nA) va_S.rf (fun _ h => absurd h id)
  refine lv_aload_n hx hb d_LW_compare_0 rfl (lv_at hl 3 rfl) ?_
  refine z_iconst hx hb d_LW_compare_1 ?_
  refine lv_aload_n hx hb d_LW_compare_2 rfl (lv_at hl 0 rfl) ?_
  refine lv_iload_n hx hb d_LW_compare_3 rfl (lv_at hl 1 rfl) ?_
  refine lv_iload_n hx hb d_LW_compare_4 rfl (lv_at hl 2 rfl) ?_
  refine th_catch (own := R_LW) (X := xIO) (hp := 13) (th_runV (As := [.int v1, .int v2]) (rest := [.int (iI 0), .ref ao]) (b := h0) ⟨hx, hb, hml, hown, hts⟩ hM ⟨callB_of 2 hts (good_RC_compare) rfl rfl rfl (hts _ k_59) (hts _ k_676) (by decide +kernel) ⟨(Nat.le_of_ble_eq_true rfl), (Nat.le_of_ble_eq_true rfl)⟩, (hts _ k_677), (hts _ k_678)⟩ ⟨fun a U g mk q => ⟨q.1, ⟨q.2.1.1, va_K.moved (u := U) (U := U.calling g mk a) (Vm.Alike.refl U.vm) q.2.1.2.1, q.2.1.2.2.calling⟩, q.2.2.calling⟩, (va_recv (q0 := 0) hK hPr rfl hR0), fun U hU hW => ⟨rfl, ⟨by rw [hU]; exact hPr, va_K.moved hW.alike hK, by rw [hU]; exact hX0.warm hW⟩, by rw [hU]; exact hTX0.warm hW⟩⟩ rfl rfl hl.1 rfl (lv_room (Nat.le_of_ble_eq_true rfl)) d_LW_compare_5 ⟨(Nat.le_of_ble_eq_true rfl), (Nat.le_of_ble_eq_true rfl)⟩) rfl hown (fun cls h9 => by rw [hex]; exact ctIO (hts _ k13) hTX h9 rfl) (fun x9 H1 hz1 hk1 => ?_)
  refine W.eq (g2 := F0 m 13 ls [.ref x9]) rfl ?_
  refine lv_astore (lv' := [(4, .ref x9), (0, .ref h0), (1, .int v1), (2, .int v2), (3, .ref ao)]) hx hb d_LW_compare_13 hl (by decide) rfl (fun ls hl => ?_)
  refine z_iconst hx hb d_LW_compare_15 ?_
  exact ret H1 [] _ 16 (iI 1) () d_LW_compare_16 ⟨hz1, fun q h _ => hk1 q h, fun _ h => by cases h⟩ rfl (fun t ht _ => ⟨by rw [ht]; exact keepA hP hk1, hD⟩)

set_option maxHeartbeats 4000000 in
set_option maxRecDepth 20000 in
theorem h_compare_is (l : Launch) (hlt : l.stackTraces = false) (D : va_G) (k : Nat → ClassId) (sz h0 ao : Nat) (R : va_W) (fs : List Value) (f0 : Nat → Int64) (v1 v2 : Int32) (hR0 : R[0]? = some (h0, .inr (0, fs))) (hM : MetT l y_RC_compare wd_RC_compare rt_RC_compare (va_Pc [.ref h0, .int v1, .int v2] (PTX D k R)) xIS) : Met l y_LW_compare wd_LW_compare rx_LW_compare (va_Pc [.ref h0, .int v1, .int v2, .ref ao] (PTW D k (OUT k ao f0 :: R) sz)) (va_Qi (fun (r : Int32) (_ : Unit) => r = iI 2) (fun _ t => BRW D (OUT k ao f0 :: R) sz (OUT k ao f0 :: R) t) (va_A (OUT k ao f0 :: R) sz)) 1 6 (va_A (OUT k ao f0 :: R) sz) := by
  refine e_iW (by decide) rfl (Nat.le_of_ble_eq_true rfl) ?_
  intro p e s m args below meth c Q ls hx hb hml hown hts hpre hl hex ret
  obtain ⟨⟨hsz, hP, hK, hD0, hX⟩, hTX⟩ := hpre
  subst hsz
  have hD := hD0.self (sz := s.heap.size)
  have hA : ∀ q : Nat, s.heap.size ≤ q → (va_A (OUT k ao f0 :: R) s.heap.size) q := fun q h => Or.inr h
  have hS : va_S (va_A (OUT k ao f0 :: R) s.heap.size) s.heap s.heap [] := va_S.rf
  have hl : lv_has ls 5 [(0, .ref h0), (1, .int v1), (2, .int v2), (3, .ref ao)] := hl
  have hPr := pR (a := [OUT k ao f0]) (c := R) hP
  have hX0 := hX.mono (B := nA) va_S.rf (fun _ h => absurd h id)
  have hTX0 := hTX.mono (B := nA) va_S.rf (fun _ h => absurd h id)
  refine lv_aload_n hx hb d_LW_compare_0 rfl (lv_at hl 3 rfl) ?_
  refine z_iconst hx hb d_LW_compare_1 ?_
  refine lv_aload_n hx hb d_LW_compare_2 rfl (lv_at hl 0 rfl) ?_
  refine lv_iload_n hx hb d_LW_compare_3 rfl (lv_at hl 1 rfl) ?_
  refine lv_iload_n hx hb d_LW_compare_4 rfl (lv_at hl 2 rfl) ?_
  refine th_catch (own := R_LW) (X := xIS) (hp := 17) (th_runV (As := [.int v1, .int v2]) (rest := [.int (iI 0), .ref ao]) (b := h0) ⟨hx, hb, hml, hown, hts⟩ hM ⟨callB_of 2 hts (good_RC_compare) rfl rfl rfl (hts _ k_59) (hts _ k_676) (by decide +kernel) ⟨(Nat.le_of_ble_eq_true rfl), (Nat.le_of_ble_eq_true rfl)⟩, (hts _ k_677), (hts _ k_678)⟩ ⟨fun a U g mk q => ⟨q.1, ⟨q.2.1.1, va_K.moved (u := U) (U := U.calling g mk a) (Vm.Alike.refl U.vm) q.2.1.2.1, q.2.1.2.2.calling⟩, q.2.2.calling⟩, (va_recv (q0 := 0) hK hPr rfl hR0), fun U hU hW => ⟨rfl, ⟨by rw [hU]; exact hPr, va_K.moved hW.alike hK, by rw [hU]; exact hX0.warm hW⟩, by rw [hU]; exact hTX0.warm hW⟩⟩ rfl rfl hl.1 rfl (lv_room (Nat.le_of_ble_eq_true rfl)) d_LW_compare_5 ⟨(Nat.le_of_ble_eq_true rfl), (Nat.le_of_ble_eq_true rfl)⟩) rfl hown (fun cls h9 => by rw [hex]; exact ctIS (hts _ k13) (hts _ k19) hTX h9 rfl rfl) (fun x9 H1 hz1 hk1 => ?_)
  refine W.eq (g2 := F0 m 17 ls [.ref x9]) rfl ?_
  refine lv_astore (lv' := [(4, .ref x9), (0, .ref h0), (1, .int v1), (2, .int v2), (3, .ref ao)]) hx hb d_LW_compare_17 hl (by decide) rfl (fun ls hl => ?_)
  refine z_iconst hx hb d_LW_compare_19 ?_
  exact ret H1 [] _ 20 (iI 2) () d_LW_compare_20 ⟨hz1, fun q h _ => hk1 q h, fun _ h => by cases h⟩ rfl (fun t ht _ => ⟨by rw [ht]; exact keepA hP hk1, hD⟩)

set_option maxHeartbeats 4000000 in
set_option maxRecDepth 20000 in
theorem h_inside_ok (l : Launch) (hlt : l.stackTraces = false) (D : va_G) (k : Nat → ClassId) (sz h0 ao : Nat) (R : va_W) (fs : List Value) (f0 : Nat → Int64) (v1 v2 : Int32) (hR0 : R[0]? = some (h0, .inr (0, fs))) (b1 : Bool) (hM : Met l y_RC_inside wd_RC_inside rm_RC_inside (va_Pc [.ref h0, .int v1, .int v2] (PRO D k R)) (QRi (fun r : Int32 => r = bI b1)) 0 0 nA) : Met l y_LW_inside wd_LW_inside rl_LW_inside (va_Pc [.ref h0, .int v1, .int v2, .ref ao] (PTW D k (OUT k ao f0 :: R) sz)) (va_Qi (fun (r : Int32) (_ : Unit) => r = iI 0) (fun _ t => BRW D (OUT k ao f0 :: R) sz (OUT k ao (vp_updL f0 0 (if b1 then 1 else 0)) :: R) t) (va_A (OUT k ao f0 :: R) sz)) 0 0 (va_A (OUT k ao f0 :: R) sz) := by
  refine e_iW (by decide) rfl (Nat.le_of_ble_eq_true rfl) ?_
  intro p e s m args below meth c Q ls hx hb hml hown hts hpre hl hex ret
  obtain ⟨⟨hsz, hP, hK, hD0, hX⟩, hTX⟩ := hpre
  subst hsz
  have hD := hD0.self (sz := s.heap.size)
  have hA : ∀ q : Nat, s.heap.size ≤ q → (va_A (OUT k ao f0 :: R) s.heap.size) q := fun q h => Or.inr h
  have hS : va_S (va_A (OUT k ao f0 :: R) s.heap.size) s.heap s.heap [] := va_S.rf
  have hl : lv_has ls 5 [(0, .ref h0), (1, .int v1), (2, .int v2), (3, .ref ao)] := hl
  have hPr := pR (a := [OUT k ao f0]) (c := R) hP
  have hX0 := hX.mono (B := nA) va_S.rf (fun _ h => absurd h id)
  have hTX0 := hTX.mono (B := nA) va_S.rf (fun _ h => absurd h id)
  refine lv_aload_n hx hb d_LW_inside_0 rfl (lv_at hl 3 rfl) ?_
  refine z_iconst hx hb d_LW_inside_1 ?_
  refine lv_aload_n hx hb d_LW_inside_2 rfl (lv_at hl 0 rfl) ?_
  refine lv_iload_n hx hb d_LW_inside_3 rfl (lv_at hl 1 rfl) ?_
  refine lv_iload_n hx hb d_LW_inside_4 rfl (lv_at hl 2 rfl) ?_
  refine rc_i (va_runV (As := [.int v1, .int v2]) (rest := [.int (iI 0), .ref ao]) (b := h0) ⟨hx, hb, hml, hown, hts⟩ hM ⟨callB_of 2 hts (good_RC_inside) rfl rfl rfl (hts _ k_59) (hts _ k_687) (by decide +kernel) ⟨(Nat.le_of_ble_eq_true rfl), (Nat.le_of_ble_eq_true rfl)⟩, (hts _ k_688), (hts _ k_689)⟩ ⟨fun a U g mk q => ⟨q.1, q.2.1, va_K.moved (u := U) (U := U.calling g mk a) (Vm.Alike.refl U.vm) q.2.2.1, q.2.2.2.calling⟩, (va_recv (q0 := 0) hK hPr rfl hR0), fun U hU hW => ⟨rfl, by rw [hU]; exact hPr, va_K.moved hW.alike hK, by rw [hU]; exact hX0.warm hW⟩⟩ rfl rfl hl.1 rfl (lv_room (Nat.le_of_ble_eq_true rfl)) d_LW_inside_5 ⟨(Nat.le_of_ble_eq_true rfl), (Nat.le_of_ble_eq_true rfl)⟩) (fun r9 h9 => ?_)
  subst h9
  refine b_if_eq (tgt := 15) hx hb d_LW_inside_8 (by decide) (fun h9 => ?_) (fun h9 => ?_)
  · subst h9
    refine lv_lconst (v := 0) hx hb d_LW_inside_15 (by decide) ?_
    refine x_last hx hb hK hP hD hS 0 1 rfl rfl (0) rfl (by decide) (by omega) d_LW_inside_16 (fun H locs hP hD hS => ?_)
    refine lv_goto (tgt := 28) hx hb d_LW_inside_17 (by decide) ?_
    refine z_iconst hx hb d_LW_inside_28 ?_
    exact ret _ _ _ 29 (iI 0) () d_LW_inside_29 hS rfl (fun t ht _ => ⟨by rw [ht]; exact hP, hD⟩)
  · subst h9
    refine lv_lconst (v := 1) hx hb d_LW_inside_11 (by decide) ?_
    refine lv_goto (tgt := 16) hx hb d_LW_inside_12 (by decide) ?_
    refine x_last hx hb hK hP hD hS 0 1 rfl rfl (0) rfl (by decide) (by omega) d_LW_inside_16 (fun H locs hP hD hS => ?_)
    refine lv_goto (tgt := 28) hx hb d_LW_inside_17 (by decide) ?_
    refine z_iconst hx hb d_LW_inside_28 ?_
    exact ret _ _ _ 29 (iI 0) () d_LW_inside_29 hS rfl (fun t ht _ => ⟨by rw [ht]; exact hP, hD⟩)

set_option maxHeartbeats 4000000 in
set_option maxRecDepth 20000 in
theorem h_inside_io (l : Launch) (hlt : l.stackTraces = false) (D : va_G) (k : Nat → ClassId) (sz h0 ao : Nat) (R : va_W) (fs : List Value) (f0 : Nat → Int64) (v1 v2 : Int32) (hR0 : R[0]? = some (h0, .inr (0, fs))) (hM : MetT l y_RC_inside wd_RC_inside rt_RC_inside (va_Pc [.ref h0, .int v1, .int v2] (PTX D k R)) xIO) : Met l y_LW_inside wd_LW_inside rx_LW_inside (va_Pc [.ref h0, .int v1, .int v2, .ref ao] (PTW D k (OUT k ao f0 :: R) sz)) (va_Qi (fun (r : Int32) (_ : Unit) => r = iI 1) (fun _ t => BRW D (OUT k ao f0 :: R) sz (OUT k ao f0 :: R) t) (va_A (OUT k ao f0 :: R) sz)) 1 6 (va_A (OUT k ao f0 :: R) sz) := by
  refine e_iW (by decide) rfl (Nat.le_of_ble_eq_true rfl) ?_
  intro p e s m args below meth c Q ls hx hb hml hown hts hpre hl hex ret
  obtain ⟨⟨hsz, hP, hK, hD0, hX⟩, hTX⟩ := hpre
  subst hsz
  have hD := hD0.self (sz := s.heap.size)
  have hA : ∀ q : Nat, s.heap.size ≤ q → (va_A (OUT k ao f0 :: R) s.heap.size) q := fun q h => Or.inr h
  have hS : va_S (va_A (OUT k ao f0 :: R) s.heap.size) s.heap s.heap [] := va_S.rf
  have hl : lv_has ls 5 [(0, .ref h0), (1, .int v1), (2, .int v2), (3, .ref ao)] := hl
  have hPr := pR (a := [OUT k ao f0]) (c := R) hP
  have hX0 := hX.mono (B := nA) va_S.rf (fun _ h => absurd h id)
  have hTX0 := hTX.mono (B := nA) va_S.rf (fun _ h => absurd h id)
  refine lv_aload_n hx hb d_LW_inside_0 rfl (lv_at hl 3 rfl) ?_
  refine z_iconst hx hb d_LW_inside_1 ?_
  refine lv_aload_n hx hb d_LW_inside_2 rfl (lv_at hl 0 rfl) ?_
  refine lv_iload_n hx hb d_LW_inside_3 rfl (lv_at hl 1 rfl) ?_
  refine lv_iload_n hx hb d_LW_inside_4 rfl (lv_at hl 2 rfl) ?_
  refine th_catch (own := R_LW) (X := xIO) (hp := 20) (th_runV (As := [.int v1, .int v2]) (rest := [.int (iI 0), .ref ao]) (b := h0) ⟨hx, hb, hml, hown, hts⟩ hM ⟨callB_of 2 hts (good_RC_inside) rfl rfl rfl (hts _ k_59) (hts _ k_687) (by decide +kernel) ⟨(Nat.le_of_ble_eq_true rfl), (Nat.le_of_ble_eq_true rfl)⟩, (hts _ k_688), (hts _ k_689)⟩ ⟨fun a U g mk q => ⟨q.1, ⟨q.2.1.1, va_K.moved (u := U) (U := U.calling g mk a) (Vm.Alike.refl U.vm) q.2.1.2.1, q.2.1.2.2.calling⟩, q.2.2.calling⟩, (va_recv (q0 := 0) hK hPr rfl hR0), fun U hU hW => ⟨rfl, ⟨by rw [hU]; exact hPr, va_K.moved hW.alike hK, by rw [hU]; exact hX0.warm hW⟩, by rw [hU]; exact hTX0.warm hW⟩⟩ rfl rfl hl.1 rfl (lv_room (Nat.le_of_ble_eq_true rfl)) d_LW_inside_5 ⟨(Nat.le_of_ble_eq_true rfl), (Nat.le_of_ble_eq_true rfl)⟩) rfl hown (fun cls h9 => by rw [hex]; exact ctIO (hts _ k13) hTX h9 rfl) (fun x9 H1 hz1 hk1 => ?_)
  refine W.eq (g2 := F0 m 20 ls [.ref x9]) rfl ?_
  refine lv_astore (lv' := [(4, .ref x9), (0, .ref h0), (1, .int v1), (2, .int v2), (3, .ref ao)]) hx hb d_LW_inside_20 hl (by decide) rfl (fun ls hl => ?_)
  refine z_iconst hx hb d_LW_inside_22 ?_
  exact ret H1 [] _ 23 (iI 1) () d_LW_inside_23 ⟨hz1, fun q h _ => hk1 q h, fun _ h => by cases h⟩ rfl (fun t ht _ => ⟨by rw [ht]; exact keepA hP hk1, hD⟩)

set_option maxHeartbeats 4000000 in
set_option maxRecDepth 20000 in
theorem h_inside_is (l : Launch) (hlt : l.stackTraces = false) (D : va_G) (k : Nat → ClassId) (sz h0 ao : Nat) (R : va_W) (fs : List Value) (f0 : Nat → Int64) (v1 v2 : Int32) (hR0 : R[0]? = some (h0, .inr (0, fs))) (hM : MetT l y_RC_inside wd_RC_inside rt_RC_inside (va_Pc [.ref h0, .int v1, .int v2] (PTX D k R)) xIS) : Met l y_LW_inside wd_LW_inside rx_LW_inside (va_Pc [.ref h0, .int v1, .int v2, .ref ao] (PTW D k (OUT k ao f0 :: R) sz)) (va_Qi (fun (r : Int32) (_ : Unit) => r = iI 2) (fun _ t => BRW D (OUT k ao f0 :: R) sz (OUT k ao f0 :: R) t) (va_A (OUT k ao f0 :: R) sz)) 1 6 (va_A (OUT k ao f0 :: R) sz) := by
  refine e_iW (by decide) rfl (Nat.le_of_ble_eq_true rfl) ?_
  intro p e s m args below meth c Q ls hx hb hml hown hts hpre hl hex ret
  obtain ⟨⟨hsz, hP, hK, hD0, hX⟩, hTX⟩ := hpre
  subst hsz
  have hD := hD0.self (sz := s.heap.size)
  have hA : ∀ q : Nat, s.heap.size ≤ q → (va_A (OUT k ao f0 :: R) s.heap.size) q := fun q h => Or.inr h
  have hS : va_S (va_A (OUT k ao f0 :: R) s.heap.size) s.heap s.heap [] := va_S.rf
  have hl : lv_has ls 5 [(0, .ref h0), (1, .int v1), (2, .int v2), (3, .ref ao)] := hl
  have hPr := pR (a := [OUT k ao f0]) (c := R) hP
  have hX0 := hX.mono (B := nA) va_S.rf (fun _ h => absurd h id)
  have hTX0 := hTX.mono (B := nA) va_S.rf (fun _ h => absurd h id)
  refine lv_aload_n hx hb d_LW_inside_0 rfl (lv_at hl 3 rfl) ?_
  refine z_iconst hx hb d_LW_inside_1 ?_
  refine lv_aload_n hx hb d_LW_inside_2 rfl (lv_at hl 0 rfl) ?_
  refine lv_iload_n hx hb d_LW_inside_3 rfl (lv_at hl 1 rfl) ?_
  refine lv_iload_n hx hb d_LW_inside_4 rfl (lv_at hl 2 rfl) ?_
  refine th_catch (own := R_LW) (X := xIS) (hp := 24) (th_runV (As := [.int v1, .int v2]) (rest := [.int (iI 0), .ref ao]) (b := h0) ⟨hx, hb, hml, hown, hts⟩ hM ⟨callB_of 2 hts (good_RC_inside) rfl rfl rfl (hts _ k_59) (hts _ k_687) (by decide +kernel) ⟨(Nat.le_of_ble_eq_true rfl), (Nat.le_of_ble_eq_true rfl)⟩, (hts _ k_688), (hts _ k_689)⟩ ⟨fun a U g mk q => ⟨q.1, ⟨q.2.1.1, va_K.moved (u := U) (U := U.calling g mk a) (Vm.Alike.refl U.vm) q.2.1.2.1, q.2.1.2.2.calling⟩, q.2.2.calling⟩, (va_recv (q0 := 0) hK hPr rfl hR0), fun U hU hW => ⟨rfl, ⟨by rw [hU]; exact hPr, va_K.moved hW.alike hK, by rw [hU]; exact hX0.warm hW⟩, by rw [hU]; exact hTX0.warm hW⟩⟩ rfl rfl hl.1 rfl (lv_room (Nat.le_of_ble_eq_true rfl)) d_LW_inside_5 ⟨(Nat.le_of_ble_eq_true rfl), (Nat.le_of_ble_eq_true rfl)⟩) rfl hown (fun cls h9 => by rw [hex]; exact ctIS (hts _ k13) (hts _ k19) hTX h9 rfl rfl) (fun x9 H1 hz1 hk1 => ?_)
  refine W.eq (g2 := F0 m 24 ls [.ref x9]) rfl ?_
  refine lv_astore (lv' := [(4, .ref x9), (0, .ref h0), (1, .int v1), (2, .int v2), (3, .ref ao)]) hx hb d_LW_inside_24 hl (by decide) rfl (fun ls hl => ?_)
  refine z_iconst hx hb d_LW_inside_26 ?_
  exact ret H1 [] _ 27 (iI 2) () d_LW_inside_27 ⟨hz1, fun q h _ => hk1 q h, fun _ h => by cases h⟩ rfl (fun t ht _ => ⟨by rw [ht]; exact keepA hP hk1, hD⟩)

set_option maxHeartbeats 4000000 in
set_option maxRecDepth 20000 in
theorem h_dead_ok (l : Launch) (hlt : l.stackTraces = false) (D : va_G) (k : Nat → ClassId) (sz h0 ao : Nat) (R : va_W) (fs : List Value) (f0 : Nat → Int64) (v1 v2 : Int32) (hR0 : R[0]? = some (h0, .inr (0, fs))) (w : Int32) (hM : Met l y_RC_dead wd_RC_dead rm_RC_dead (va_Pc [.ref h0, .int v1, .int v2] (PRO D k R)) (QRi (fun r : Int32 => r = w)) 0 0 nA) : Met l y_LW_dead wd_LW_dead rl_LW_dead (va_Pc [.ref h0, .int v1, .int v2, .ref ao] (PTW D k (OUT k ao f0 :: R) sz)) (va_Qi (fun (r : Int32) (_ : Unit) => r = iI 0) (fun _ t => BRW D (OUT k ao f0 :: R) sz (OUT k ao (vp_updL f0 0 w.toInt64) :: R) t) (va_A (OUT k ao f0 :: R) sz)) 0 0 (va_A (OUT k ao f0 :: R) sz) := by
  refine e_iW (by decide) rfl (Nat.le_of_ble_eq_true rfl) ?_
  intro p e s m args below meth c Q ls hx hb hml hown hts hpre hl hex ret
  obtain ⟨⟨hsz, hP, hK, hD0, hX⟩, hTX⟩ := hpre
  subst hsz
  have hD := hD0.self (sz := s.heap.size)
  have hA : ∀ q : Nat, s.heap.size ≤ q → (va_A (OUT k ao f0 :: R) s.heap.size) q := fun q h => Or.inr h
  have hS : va_S (va_A (OUT k ao f0 :: R) s.heap.size) s.heap s.heap [] := va_S.rf
  have hl : lv_has ls 5 [(0, .ref h0), (1, .int v1), (2, .int v2), (3, .ref ao)] := hl
  have hPr := pR (a := [OUT k ao f0]) (c := R) hP
  have hX0 := hX.mono (B := nA) va_S.rf (fun _ h => absurd h id)
  have hTX0 := hTX.mono (B := nA) va_S.rf (fun _ h => absurd h id)
  refine lv_aload_n hx hb d_LW_dead_0 rfl (lv_at hl 3 rfl) ?_
  refine z_iconst hx hb d_LW_dead_1 ?_
  refine lv_aload_n hx hb d_LW_dead_2 rfl (lv_at hl 0 rfl) ?_
  refine lv_iload_n hx hb d_LW_dead_3 rfl (lv_at hl 1 rfl) ?_
  refine lv_iload_n hx hb d_LW_dead_4 rfl (lv_at hl 2 rfl) ?_
  refine rc_i (va_runV (As := [.int v1, .int v2]) (rest := [.int (iI 0), .ref ao]) (b := h0) ⟨hx, hb, hml, hown, hts⟩ hM ⟨callB_of 2 hts (good_RC_dead) rfl rfl rfl (hts _ k_59) (hts _ k_698) (by decide +kernel) ⟨(Nat.le_of_ble_eq_true rfl), (Nat.le_of_ble_eq_true rfl)⟩, (hts _ k_699), (hts _ k_700)⟩ ⟨fun a U g mk q => ⟨q.1, q.2.1, va_K.moved (u := U) (U := U.calling g mk a) (Vm.Alike.refl U.vm) q.2.2.1, q.2.2.2.calling⟩, (va_recv (q0 := 0) hK hPr rfl hR0), fun U hU hW => ⟨rfl, by rw [hU]; exact hPr, va_K.moved hW.alike hK, by rw [hU]; exact hX0.warm hW⟩⟩ rfl rfl hl.1 rfl (lv_room (Nat.le_of_ble_eq_true rfl)) d_LW_dead_5 ⟨(Nat.le_of_ble_eq_true rfl), (Nat.le_of_ble_eq_true rfl)⟩) (fun r9 h9 => ?_)
  subst h9
  refine lv_i2l hx hb d_LW_dead_8 rfl ?_
  refine x_last hx hb hK hP hD hS 0 1 rfl rfl (0) rfl (by decide) (by omega) d_LW_dead_9 (fun H locs hP hD hS => ?_)
  refine lv_goto (tgt := 21) hx hb d_LW_dead_10 (by decide) ?_
  refine z_iconst hx hb d_LW_dead_21 ?_
  exact ret _ _ _ 22 (iI 0) () d_LW_dead_22 hS rfl (fun t ht _ => ⟨by rw [ht]; exact hP, hD⟩)

set_option maxHeartbeats 4000000 in
set_option maxRecDepth 20000 in
theorem h_dead_io (l : Launch) (hlt : l.stackTraces = false) (D : va_G) (k : Nat → ClassId) (sz h0 ao : Nat) (R : va_W) (fs : List Value) (f0 : Nat → Int64) (v1 v2 : Int32) (hR0 : R[0]? = some (h0, .inr (0, fs))) (hM : MetT l y_RC_dead wd_RC_dead rt_RC_dead (va_Pc [.ref h0, .int v1, .int v2] (PTX D k R)) xIO) : Met l y_LW_dead wd_LW_dead rx_LW_dead (va_Pc [.ref h0, .int v1, .int v2, .ref ao] (PTW D k (OUT k ao f0 :: R) sz)) (va_Qi (fun (r : Int32) (_ : Unit) => r = iI 1) (fun _ t => BRW D (OUT k ao f0 :: R) sz (OUT k ao f0 :: R) t) (va_A (OUT k ao f0 :: R) sz)) 1 6 (va_A (OUT k ao f0 :: R) sz) := by
  refine e_iW (by decide) rfl (Nat.le_of_ble_eq_true rfl) ?_
  intro p e s m args below meth c Q ls hx hb hml hown hts hpre hl hex ret
  obtain ⟨⟨hsz, hP, hK, hD0, hX⟩, hTX⟩ := hpre
  subst hsz
  have hD := hD0.self (sz := s.heap.size)
  have hA : ∀ q : Nat, s.heap.size ≤ q → (va_A (OUT k ao f0 :: R) s.heap.size) q := fun q h => Or.inr h
  have hS : va_S (va_A (OUT k ao f0 :: R) s.heap.size) s.heap s.heap [] := va_S.rf
  have hl : lv_has ls 5 [(0, .ref h0), (1, .int v1), (2, .int v2), (3, .ref ao)] := hl
  have hPr := pR (a := [OUT k ao f0]) (c := R) hP
  have hX0 := hX.mono (B := nA) va_S.rf (fun _ h => absurd h id)
  have hTX0 := hTX.mono (B := nA) va_S.rf (fun _ h => absurd h id)
  refine lv_aload_n hx hb d_LW_dead_0 rfl (lv_at hl 3 rfl) ?_
  refine z_iconst hx hb d_LW_dead_1 ?_
  refine lv_aload_n hx hb d_LW_dead_2 rfl (lv_at hl 0 rfl) ?_
  refine lv_iload_n hx hb d_LW_dead_3 rfl (lv_at hl 1 rfl) ?_
  refine lv_iload_n hx hb d_LW_dead_4 rfl (lv_at hl 2 rfl) ?_
  refine th_catch (own := R_LW) (X := xIO) (hp := 13) (th_runV (As := [.int v1, .int v2]) (rest := [.int (iI 0), .ref ao]) (b := h0) ⟨hx, hb, hml, hown, hts⟩ hM ⟨callB_of 2 hts (good_RC_dead) rfl rfl rfl (hts _ k_59) (hts _ k_698) (by decide +kernel) ⟨(Nat.le_of_ble_eq_true rfl), (Nat.le_of_ble_eq_true rfl)⟩, (hts _ k_699), (hts _ k_700)⟩ ⟨fun a U g mk q => ⟨q.1, ⟨q.2.1.1, va_K.moved (u := U) (U := U.calling g mk a) (Vm.Alike.refl U.vm) q.2.1.2.1, q.2.1.2.2.calling⟩, q.2.2.calling⟩, (va_recv (q0 := 0) hK hPr rfl hR0), fun U hU hW => ⟨rfl, ⟨by rw [hU]; exact hPr, va_K.moved hW.alike hK, by rw [hU]; exact hX0.warm hW⟩, by rw [hU]; exact hTX0.warm hW⟩⟩ rfl rfl hl.1 rfl (lv_room (Nat.le_of_ble_eq_true rfl)) d_LW_dead_5 ⟨(Nat.le_of_ble_eq_true rfl), (Nat.le_of_ble_eq_true rfl)⟩) rfl hown (fun cls h9 => by rw [hex]; exact ctIO (hts _ k13) hTX h9 rfl) (fun x9 H1 hz1 hk1 => ?_)
  refine W.eq (g2 := F0 m 13 ls [.ref x9]) rfl ?_
  refine lv_astore (lv' := [(4, .ref x9), (0, .ref h0), (1, .int v1), (2, .int v2), (3, .ref ao)]) hx hb d_LW_dead_13 hl (by decide) rfl (fun ls hl => ?_)
  refine z_iconst hx hb d_LW_dead_15 ?_
  exact ret H1 [] _ 16 (iI 1) () d_LW_dead_16 ⟨hz1, fun q h _ => hk1 q h, fun _ h => by cases h⟩ rfl (fun t ht _ => ⟨by rw [ht]; exact keepA hP hk1, hD⟩)

set_option maxHeartbeats 4000000 in
set_option maxRecDepth 20000 in
theorem h_dead_is (l : Launch) (hlt : l.stackTraces = false) (D : va_G) (k : Nat → ClassId) (sz h0 ao : Nat) (R : va_W) (fs : List Value) (f0 : Nat → Int64) (v1 v2 : Int32) (hR0 : R[0]? = some (h0, .inr (0, fs))) (hM : MetT l y_RC_dead wd_RC_dead rt_RC_dead (va_Pc [.ref h0, .int v1, .int v2] (PTX D k R)) xIS) : Met l y_LW_dead wd_LW_dead rx_LW_dead (va_Pc [.ref h0, .int v1, .int v2, .ref ao] (PTW D k (OUT k ao f0 :: R) sz)) (va_Qi (fun (r : Int32) (_ : Unit) => r = iI 2) (fun _ t => BRW D (OUT k ao f0 :: R) sz (OUT k ao f0 :: R) t) (va_A (OUT k ao f0 :: R) sz)) 1 6 (va_A (OUT k ao f0 :: R) sz) := by
  refine e_iW (by decide) rfl (Nat.le_of_ble_eq_true rfl) ?_
  intro p e s m args below meth c Q ls hx hb hml hown hts hpre hl hex ret
  obtain ⟨⟨hsz, hP, hK, hD0, hX⟩, hTX⟩ := hpre
  subst hsz
  have hD := hD0.self (sz := s.heap.size)
  have hA : ∀ q : Nat, s.heap.size ≤ q → (va_A (OUT k ao f0 :: R) s.heap.size) q := fun q h => Or.inr h
  have hS : va_S (va_A (OUT k ao f0 :: R) s.heap.size) s.heap s.heap [] := va_S.rf
  have hl : lv_has ls 5 [(0, .ref h0), (1, .int v1), (2, .int v2), (3, .ref ao)] := hl
  have hPr := pR (a := [OUT k ao f0]) (c := R) hP
  have hX0 := hX.mono (B := nA) va_S.rf (fun _ h => absurd h id)
  have hTX0 := hTX.mono (B := nA) va_S.rf (fun _ h => absurd h id)
  refine lv_aload_n hx hb d_LW_dead_0 rfl (lv_at hl 3 rfl) ?_
  refine z_iconst hx hb d_LW_dead_1 ?_
  refine lv_aload_n hx hb d_LW_dead_2 rfl (lv_at hl 0 rfl) ?_
  refine lv_iload_n hx hb d_LW_dead_3 rfl (lv_at hl 1 rfl) ?_
  refine lv_iload_n hx hb d_LW_dead_4 rfl (lv_at hl 2 rfl) ?_
  refine th_catch (own := R_LW) (X := xIS) (hp := 17) (th_runV (As := [.int v1, .int v2]) (rest := [.int (iI 0), .ref ao]) (b := h0) ⟨hx, hb, hml, hown, hts⟩ hM ⟨callB_of 2 hts (good_RC_dead) rfl rfl rfl (hts _ k_59) (hts _ k_698) (by decide +kernel) ⟨(Nat.le_of_ble_eq_true rfl), (Nat.le_of_ble_eq_true rfl)⟩, (hts _ k_699), (hts _ k_700)⟩ ⟨fun a U g mk q => ⟨q.1, ⟨q.2.1.1, va_K.moved (u := U) (U := U.calling g mk a) (Vm.Alike.refl U.vm) q.2.1.2.1, q.2.1.2.2.calling⟩, q.2.2.calling⟩, (va_recv (q0 := 0) hK hPr rfl hR0), fun U hU hW => ⟨rfl, ⟨by rw [hU]; exact hPr, va_K.moved hW.alike hK, by rw [hU]; exact hX0.warm hW⟩, by rw [hU]; exact hTX0.warm hW⟩⟩ rfl rfl hl.1 rfl (lv_room (Nat.le_of_ble_eq_true rfl)) d_LW_dead_5 ⟨(Nat.le_of_ble_eq_true rfl), (Nat.le_of_ble_eq_true rfl)⟩) rfl hown (fun cls h9 => by rw [hex]; exact ctIS (hts _ k13) (hts _ k19) hTX h9 rfl rfl) (fun x9 H1 hz1 hk1 => ?_)
  refine W.eq (g2 := F0 m 17 ls [.ref x9]) rfl ?_
  refine lv_astore (lv' := [(4, .ref x9), (0, .ref h0), (1, .int v1), (2, .int v2), (3, .ref ao)]) hx hb d_LW_dead_17 hl (by decide) rfl (fun ls hl => ?_)
  refine z_iconst hx hb d_LW_dead_19 ?_
  exact ret H1 [] _ 20 (iI 2) () d_LW_dead_20 ⟨hz1, fun q h _ => hk1 q h, fun _ h => by cases h⟩ rfl (fun t ht _ => ⟨by rw [ht]; exact keepA hP hk1, hD⟩)

set_option maxHeartbeats 4000000 in
set_option maxRecDepth 20000 in
theorem h_run_ok (l : Launch) (hlt : l.stackTraces = false) (D : va_G) (k : Nat → ClassId) (sz h0 ao : Nat) (R : va_W) (fs : List Value) (f0 : Nat → Int64) (v1 v2 v3 v4 : Int32) (hR0 : R[0]? = some (h0, .inr (0, fs))) (w : Int32) (hM : Met l y_RC_run wd_RC_run rm_RC_run (va_Pc [.ref h0, .int v1, .int v2, .int v3, .int v4] (PRO D k R)) (QRi (fun r : Int32 => r = w)) 0 0 nA) : Met l y_LW_run wd_LW_run rl_LW_run (va_Pc [.ref h0, .int v1, .int v2, .int v3, .int v4, .ref ao] (PTW D k (OUT k ao f0 :: R) sz)) (va_Qi (fun (r : Int32) (_ : Unit) => r = iI 0) (fun _ t => BRW D (OUT k ao f0 :: R) sz (OUT k ao (vp_updL f0 0 w.toInt64) :: R) t) (va_A (OUT k ao f0 :: R) sz)) 0 0 (va_A (OUT k ao f0 :: R) sz) := by
  refine e_iW (by decide) rfl (Nat.le_of_ble_eq_true rfl) ?_
  intro p e s m args below meth c Q ls hx hb hml hown hts hpre hl hex ret
  obtain ⟨⟨hsz, hP, hK, hD0, hX⟩, hTX⟩ := hpre
  subst hsz
  have hD := hD0.self (sz := s.heap.size)
  have hA : ∀ q : Nat, s.heap.size ≤ q → (va_A (OUT k ao f0 :: R) s.heap.size) q := fun q h => Or.inr h
  have hS : va_S (va_A (OUT k ao f0 :: R) s.heap.size) s.heap s.heap [] := va_S.rf
  have hl : lv_has ls 7 [(0, .ref h0), (1, .int v1), (2, .int v2), (3, .int v3), (4, .int v4), (5, .ref ao)] := hl
  have hPr := pR (a := [OUT k ao f0]) (c := R) hP
  have hX0 := hX.mono (B := nA) va_S.rf (fun _ h => absurd h id)
  have hTX0 := hTX.mono (B := nA) va_S.rf (fun _ h => absurd h id)
  refine lv_aload hx hb d_LW_run_0 (lv_at hl 5 rfl) ?_
  refine z_iconst hx hb d_LW_run_2 ?_
  refine lv_aload_n hx hb d_LW_run_3 rfl (lv_at hl 0 rfl) ?_
  refine lv_iload_n hx hb d_LW_run_4 rfl (lv_at hl 1 rfl) ?_
  refine lv_iload_n hx hb d_LW_run_5 rfl (lv_at hl 2 rfl) ?_
  refine lv_iload_n hx hb d_LW_run_6 rfl (lv_at hl 3 rfl) ?_
  refine lv_iload hx hb d_LW_run_7 (lv_at hl 4 rfl) ?_
  refine rc_i (va_runV (As := [.int v1, .int v2, .int v3, .int v4]) (rest := [.int (iI 0), .ref ao]) (b := h0) ⟨hx, hb, hml, hown, hts⟩ hM ⟨callB_of 4 hts (good_RC_run) rfl rfl rfl (hts _ k_59) (hts _ k_709) (by decide +kernel) ⟨(Nat.le_of_ble_eq_true rfl), (Nat.le_of_ble_eq_true rfl)⟩, (hts _ k_710), (hts _ k_711)⟩ ⟨fun a U g mk q => ⟨q.1, q.2.1, va_K.moved (u := U) (U := U.calling g mk a) (Vm.Alike.refl U.vm) q.2.2.1, q.2.2.2.calling⟩, (va_recv (q0 := 0) hK hPr rfl hR0), fun U hU hW => ⟨rfl, by rw [hU]; exact hPr, va_K.moved hW.alike hK, by rw [hU]; exact hX0.warm hW⟩⟩ rfl rfl hl.1 rfl (lv_room (Nat.le_of_ble_eq_true rfl)) d_LW_run_9 ⟨(Nat.le_of_ble_eq_true rfl), (Nat.le_of_ble_eq_true rfl)⟩) (fun r9 h9 => ?_)
  subst h9
  refine lv_i2l hx hb d_LW_run_12 rfl ?_
  refine x_last hx hb hK hP hD hS 0 1 rfl rfl (0) rfl (by decide) (by omega) d_LW_run_13 (fun H locs hP hD hS => ?_)
  refine lv_goto (tgt := 25) hx hb d_LW_run_14 (by decide) ?_
  refine z_iconst hx hb d_LW_run_25 ?_
  exact ret _ _ _ 26 (iI 0) () d_LW_run_26 hS rfl (fun t ht _ => ⟨by rw [ht]; exact hP, hD⟩)

set_option maxHeartbeats 4000000 in
set_option maxRecDepth 20000 in
theorem h_run_io (l : Launch) (hlt : l.stackTraces = false) (D : va_G) (k : Nat → ClassId) (sz h0 ao : Nat) (R : va_W) (fs : List Value) (f0 : Nat → Int64) (v1 v2 v3 v4 : Int32) (hR0 : R[0]? = some (h0, .inr (0, fs))) (hM : MetT l y_RC_run wd_RC_run rt_RC_run (va_Pc [.ref h0, .int v1, .int v2, .int v3, .int v4] (PTX D k R)) xIO) : Met l y_LW_run wd_LW_run rx_LW_run (va_Pc [.ref h0, .int v1, .int v2, .int v3, .int v4, .ref ao] (PTW D k (OUT k ao f0 :: R) sz)) (va_Qi (fun (r : Int32) (_ : Unit) => r = iI 1) (fun _ t => BRW D (OUT k ao f0 :: R) sz (OUT k ao f0 :: R) t) (va_A (OUT k ao f0 :: R) sz)) 1 6 (va_A (OUT k ao f0 :: R) sz) := by
  refine e_iW (by decide) rfl (Nat.le_of_ble_eq_true rfl) ?_
  intro p e s m args below meth c Q ls hx hb hml hown hts hpre hl hex ret
  obtain ⟨⟨hsz, hP, hK, hD0, hX⟩, hTX⟩ := hpre
  subst hsz
  have hD := hD0.self (sz := s.heap.size)
  have hA : ∀ q : Nat, s.heap.size ≤ q → (va_A (OUT k ao f0 :: R) s.heap.size) q := fun q h => Or.inr h
  have hS : va_S (va_A (OUT k ao f0 :: R) s.heap.size) s.heap s.heap [] := va_S.rf
  have hl : lv_has ls 7 [(0, .ref h0), (1, .int v1), (2, .int v2), (3, .int v3), (4, .int v4), (5, .ref ao)] := hl
  have hPr := pR (a := [OUT k ao f0]) (c := R) hP
  have hX0 := hX.mono (B := nA) va_S.rf (fun _ h => absurd h id)
  have hTX0 := hTX.mono (B := nA) va_S.rf (fun _ h => absurd h id)
  refine lv_aload hx hb d_LW_run_0 (lv_at hl 5 rfl) ?_
  refine z_iconst hx hb d_LW_run_2 ?_
  refine lv_aload_n hx hb d_LW_run_3 rfl (lv_at hl 0 rfl) ?_
  refine lv_iload_n hx hb d_LW_run_4 rfl (lv_at hl 1 rfl) ?_
  refine lv_iload_n hx hb d_LW_run_5 rfl (lv_at hl 2 rfl) ?_
  refine lv_iload_n hx hb d_LW_run_6 rfl (lv_at hl 3 rfl) ?_
  refine lv_iload hx hb d_LW_run_7 (lv_at hl 4 rfl) ?_
  refine th_catch (own := R_LW) (X := xIO) (hp := 17) (th_runV (As := [.int v1, .int v2, .int v3, .int v4]) (rest := [.int (iI 0), .ref ao]) (b := h0) ⟨hx, hb, hml, hown, hts⟩ hM ⟨callB_of 4 hts (good_RC_run) rfl rfl rfl (hts _ k_59) (hts _ k_709) (by decide +kernel) ⟨(Nat.le_of_ble_eq_true rfl), (Nat.le_of_ble_eq_true rfl)⟩, (hts _ k_710), (hts _ k_711)⟩ ⟨fun a U g mk q => ⟨q.1, ⟨q.2.1.1, va_K.moved (u := U) (U := U.calling g mk a) (Vm.Alike.refl U.vm) q.2.1.2.1, q.2.1.2.2.calling⟩, q.2.2.calling⟩, (va_recv (q0 := 0) hK hPr rfl hR0), fun U hU hW => ⟨rfl, ⟨by rw [hU]; exact hPr, va_K.moved hW.alike hK, by rw [hU]; exact hX0.warm hW⟩, by rw [hU]; exact hTX0.warm hW⟩⟩ rfl rfl hl.1 rfl (lv_room (Nat.le_of_ble_eq_true rfl)) d_LW_run_9 ⟨(Nat.le_of_ble_eq_true rfl), (Nat.le_of_ble_eq_true rfl)⟩) rfl hown (fun cls h9 => by rw [hex]; exact ctIO (hts _ k13) hTX h9 rfl) (fun x9 H1 hz1 hk1 => ?_)
  refine W.eq (g2 := F0 m 17 ls [.ref x9]) rfl ?_
  refine lv_astore (lv' := [(6, .ref x9), (0, .ref h0), (1, .int v1), (2, .int v2), (3, .int v3), (4, .int v4), (5, .ref ao)]) hx hb d_LW_run_17 hl (by decide) rfl (fun ls hl => ?_)
  refine z_iconst hx hb d_LW_run_19 ?_
  exact ret H1 [] _ 20 (iI 1) () d_LW_run_20 ⟨hz1, fun q h _ => hk1 q h, fun _ h => by cases h⟩ rfl (fun t ht _ => ⟨by rw [ht]; exact keepA hP hk1, hD⟩)

set_option maxHeartbeats 4000000 in
set_option maxRecDepth 20000 in
theorem h_run_is (l : Launch) (hlt : l.stackTraces = false) (D : va_G) (k : Nat → ClassId) (sz h0 ao : Nat) (R : va_W) (fs : List Value) (f0 : Nat → Int64) (v1 v2 v3 v4 : Int32) (hR0 : R[0]? = some (h0, .inr (0, fs))) (hM : MetT l y_RC_run wd_RC_run rt_RC_run (va_Pc [.ref h0, .int v1, .int v2, .int v3, .int v4] (PTX D k R)) xIS) : Met l y_LW_run wd_LW_run rx_LW_run (va_Pc [.ref h0, .int v1, .int v2, .int v3, .int v4, .ref ao] (PTW D k (OUT k ao f0 :: R) sz)) (va_Qi (fun (r : Int32) (_ : Unit) => r = iI 2) (fun _ t => BRW D (OUT k ao f0 :: R) sz (OUT k ao f0 :: R) t) (va_A (OUT k ao f0 :: R) sz)) 1 6 (va_A (OUT k ao f0 :: R) sz) := by
  refine e_iW (by decide) rfl (Nat.le_of_ble_eq_true rfl) ?_
  intro p e s m args below meth c Q ls hx hb hml hown hts hpre hl hex ret
  obtain ⟨⟨hsz, hP, hK, hD0, hX⟩, hTX⟩ := hpre
  subst hsz
  have hD := hD0.self (sz := s.heap.size)
  have hA : ∀ q : Nat, s.heap.size ≤ q → (va_A (OUT k ao f0 :: R) s.heap.size) q := fun q h => Or.inr h
  have hS : va_S (va_A (OUT k ao f0 :: R) s.heap.size) s.heap s.heap [] := va_S.rf
  have hl : lv_has ls 7 [(0, .ref h0), (1, .int v1), (2, .int v2), (3, .int v3), (4, .int v4), (5, .ref ao)] := hl
  have hPr := pR (a := [OUT k ao f0]) (c := R) hP
  have hX0 := hX.mono (B := nA) va_S.rf (fun _ h => absurd h id)
  have hTX0 := hTX.mono (B := nA) va_S.rf (fun _ h => absurd h id)
  refine lv_aload hx hb d_LW_run_0 (lv_at hl 5 rfl) ?_
  refine z_iconst hx hb d_LW_run_2 ?_
  refine lv_aload_n hx hb d_LW_run_3 rfl (lv_at hl 0 rfl) ?_
  refine lv_iload_n hx hb d_LW_run_4 rfl (lv_at hl 1 rfl) ?_
  refine lv_iload_n hx hb d_LW_run_5 rfl (lv_at hl 2 rfl) ?_
  refine lv_iload_n hx hb d_LW_run_6 rfl (lv_at hl 3 rfl) ?_
  refine lv_iload hx hb d_LW_run_7 (lv_at hl 4 rfl) ?_
  refine th_catch (own := R_LW) (X := xIS) (hp := 21) (th_runV (As := [.int v1, .int v2, .int v3, .int v4]) (rest := [.int (iI 0), .ref ao]) (b := h0) ⟨hx, hb, hml, hown, hts⟩ hM ⟨callB_of 4 hts (good_RC_run) rfl rfl rfl (hts _ k_59) (hts _ k_709) (by decide +kernel) ⟨(Nat.le_of_ble_eq_true rfl), (Nat.le_of_ble_eq_true rfl)⟩, (hts _ k_710), (hts _ k_711)⟩ ⟨fun a U g mk q => ⟨q.1, ⟨q.2.1.1, va_K.moved (u := U) (U := U.calling g mk a) (Vm.Alike.refl U.vm) q.2.1.2.1, q.2.1.2.2.calling⟩, q.2.2.calling⟩, (va_recv (q0 := 0) hK hPr rfl hR0), fun U hU hW => ⟨rfl, ⟨by rw [hU]; exact hPr, va_K.moved hW.alike hK, by rw [hU]; exact hX0.warm hW⟩, by rw [hU]; exact hTX0.warm hW⟩⟩ rfl rfl hl.1 rfl (lv_room (Nat.le_of_ble_eq_true rfl)) d_LW_run_9 ⟨(Nat.le_of_ble_eq_true rfl), (Nat.le_of_ble_eq_true rfl)⟩) rfl hown (fun cls h9 => by rw [hex]; exact ctIS (hts _ k13) (hts _ k19) hTX h9 rfl rfl) (fun x9 H1 hz1 hk1 => ?_)
  refine W.eq (g2 := F0 m 21 ls [.ref x9]) rfl ?_
  refine lv_astore (lv' := [(6, .ref x9), (0, .ref h0), (1, .int v1), (2, .int v2), (3, .int v3), (4, .int v4), (5, .ref ao)]) hx hb d_LW_run_21 hl (by decide) rfl (fun ls hl => ?_)
  refine z_iconst hx hb d_LW_run_23 ?_
  exact ret H1 [] _ 24 (iI 2) () d_LW_run_24 ⟨hz1, fun q h _ => hk1 q h, fun _ h => by cases h⟩ rfl (fun t ht _ => ⟨by rw [ht]; exact keepA hP hk1, hD⟩)

