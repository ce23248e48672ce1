set_option maxHeartbeats 4000000 in
set_option maxRecDepth 100000 in
theorem k_DS (l : Launch) (D : va_G) (k : Nat → ClassId) (sz : Nat) (h0 : Nat) : Met l y_DS_init wd_DS_init rk_DS (va_Pc [.ref h0] (PRK D k [(h0, .inr (4, [.null]))] sz)) (va_Qv (fun u : Nat → Nat => True) (fun u t => BRW D [(h0, .inr (4, [.null]))] sz [(h0, .inr (4, [.ref (u 0)])), (u 0, .inl (k 1, 23, .inr (.inl (fun _ => (0 : Int64)))))] t) (va_A [(h0, .inr (4, [.null]))] sz)) 1 23 (va_A [(h0, .inr (4, [.null]))] sz) := by
  refine e_v (by decide) rfl (Nat.le_of_ble_eq_true rfl) ?_
  intro p e s m args below meth c Q ls hx hb hml hown hts hpre hl hin ret
  obtain ⟨⟨hsz, hP, hK, hD0, hX⟩, hAO⟩ := hpre
  subst hsz
  have hD := hD0.self (sz := s.heap.size)
  have hA : ∀ q : Nat, s.heap.size ≤ q → (va_A [(h0, .inr (4, [.null]))] s.heap.size) q := fun q h => Or.inr h
  have hS : va_S (va_A [(h0, .inr (4, [.null]))] s.heap.size) s.heap s.heap [] := va_S.rf
  have hl : lv_has ls 1 [(0, .ref h0)] := hl
  refine lv_aload_n hx hb d_DS_init_0 rfl (lv_at hl 0 rfl) ?_
  refine W.objInit hx hb hown (hts _ k_146) (hts _ k_81) (hts _ k_82) rfl (by rw [hml]; exact hl.1) rfl d_DS_init_1 (Nat.le_of_ble_eq_true rfl) (Nat.le_of_ble_eq_true rfl) ?_
  refine W.eq (g2 := F0 m 4 ls []) rfl ?_
  refine lv_aload_n hx hb d_DS_init_4 rfl (lv_at hl 0 rfl) ?_
  refine z_bipush hx hb d_DS_init_5 (by decide) ?_
  refine x_newa (atype := .long) (ty := .long) (kc := k 1) (tys := TY k) (a0 := (23, .inr (.inl (fun _ => (0 : Int64))))) (n := iI (23)) (N' := 23) hx hb (hts _ k_151) rfl hK 1 rfl hP hD hS hA (fun _ => rfl) (by decide) (by decide) (by decide) (Nat.le_of_ble_eq_true rfl) (Nat.le_of_ble_eq_true rfl) d_DS_init_7 (fun nw1 H hP hD hS => ?_)
  have hP : va_P D classes [(h0, .inr (4, [.null])), (nw1, .inl (k 1, 23, .inr (.inl (fun _ => (0 : Int64)))))] H := hP
  have hD : va_D (va_A [(h0, .inr (4, [.null]))] s.heap.size) [(h0, .inr (4, [.null])), (nw1, .inl (k 1, 23, .inr (.inl (fun _ => (0 : Int64)))))] := hD
  refine va_putF (D := D) (ci := 4) (v := .ref nw1) (ty := .array .long) (C := R_DS) (T := F_DS) (N := 1) hx hb hts in_DS t_DS t_DS_ok n_DS hown hK hP hD hS 0 rfl rfl 0 (by decide) (hts _ k_147) (fun _ h9 => h9) rfl hin rfl (by decide +kernel) rfl rfl (Nat.le_of_ble_eq_true rfl) d_DS_init_9 (fun H locs hP hD hS => ?_)
  have hP : va_P D classes [(h0, .inr (4, [.ref nw1])), (nw1, .inl (k 1, 23, .inr (.inl (fun _ => (0 : Int64)))))] H := hP
  have hD : va_D (va_A [(h0, .inr (4, [.null]))] s.heap.size) [(h0, .inr (4, [.ref nw1])), (nw1, .inl (k 1, 23, .inr (.inl (fun _ => (0 : Int64)))))] := hD
  exact ret _ _ _ 12 (ad [nw1]) d_DS_init_12 hS (trivial) (fun t ht _ => ⟨by rw [ht]; exact hP, hD⟩)

set_option maxHeartbeats 4000000 in
set_option maxRecDepth 100000 in
theorem k_CN (l : Launch) (D : va_G) (k : Nat → ClassId) (sz : Nat) (h0 : Nat) : Met l y_CN_init wd_CN_init rk_CN (va_Pc [.ref h0] (PRK D k [(h0, .inr (3, [.null]))] sz)) (va_Qv (fun u : Nat → Nat => True) (fun u t => BRW D [(h0, .inr (3, [.null]))] sz [(h0, .inr (3, [.ref (u 0)])), (u 0, .inl (k 4, 4, .inr (.inr (.inr (.inr (rws (u 1) (u 2) (u 3) (u 4))))))), (u 1, .inl (k 1, 1461, .inr (.inl (fun _ => (0 : Int64))))), (u 2, .inl (k 1, 1461, .inr (.inl (fun _ => (0 : Int64))))), (u 3, .inl (k 1, 1461, .inr (.inl (fun _ => (0 : Int64))))), (u 4, .inl (k 1, 1461, .inr (.inl (fun _ => (0 : Int64)))))] t) (va_A [(h0, .inr (3, [.null]))] sz)) 5 5848 (va_A [(h0, .inr (3, [.null]))] sz) := by
  refine e_v (by decide) rfl (Nat.le_of_ble_eq_true rfl) ?_
  intro p e s m args below meth c Q ls hx hb hml hown hts hpre hl hin ret
  obtain ⟨⟨hsz, hP, hK, hD0, hX⟩, hAO⟩ := hpre
  subst hsz
  have hD := hD0.self (sz := s.heap.size)
  have hA : ∀ q : Nat, s.heap.size ≤ q → (va_A [(h0, .inr (3, [.null]))] s.heap.size) q := fun q h => Or.inr h
  have hS : va_S (va_A [(h0, .inr (3, [.null]))] s.heap.size) s.heap s.heap [] := va_S.rf
  have hl : lv_has ls 1 [(0, .ref h0)] := hl
  refine lv_aload_n hx hb d_CN_init_0 rfl (lv_at hl 0 rfl) ?_
  refine W.objInit hx hb hown (hts _ k_217) (hts _ k_81) (hts _ k_82) rfl (by rw [hml]; exact hl.1) rfl d_CN_init_1 (Nat.le_of_ble_eq_true rfl) (Nat.le_of_ble_eq_true rfl) ?_
  refine W.eq (g2 := F0 m 4 ls []) rfl ?_
  refine lv_aload_n hx hb d_CN_init_4 rfl (lv_at hl 0 rfl) ?_
  refine z_iconst hx hb d_CN_init_5 ?_
  refine z_sipush hx hb d_CN_init_6 (by decide) ?_
  refine x_mna (own := R_CN) (index := 11) (k4 := k 4) (k1 := k 1) (tys := TY k) hx hb hown (hts _ k_218) (show (Cond.arrayOver (.array .long)).before args s = true from hAO.2.2) (hts _ k_151) hK 4 1 rfl rfl hP hD hS hA (Nat.le_of_ble_eq_true rfl) (Nat.le_of_ble_eq_true rfl) d_CN_init_9 (fun nw1 nw1r0 nw1r1 nw1r2 nw1r3 H hP hD hS => ?_)
  have hP : va_P D classes [(h0, .inr (3, [.null])), (nw1, .inl (k 4, 4, .inr (.inr (.inr (.inr (rws nw1r0 nw1r1 nw1r2 nw1r3)))))), (nw1r0, .inl (k 1, 1461, .inr (.inl (fun _ => (0 : Int64))))), (nw1r1, .inl (k 1, 1461, .inr (.inl (fun _ => (0 : Int64))))), (nw1r2, .inl (k 1, 1461, .inr (.inl (fun _ => (0 : Int64))))), (nw1r3, .inl (k 1, 1461, .inr (.inl (fun _ => (0 : Int64)))))] H := hP
  have hD : va_D (va_A [(h0, .inr (3, [.null]))] s.heap.size) [(h0, .inr (3, [.null])), (nw1, .inl (k 4, 4, .inr (.inr (.inr (.inr (rws nw1r0 nw1r1 nw1r2 nw1r3)))))), (nw1r0, .inl (k 1, 1461, .inr (.inl (fun _ => (0 : Int64))))), (nw1r1, .inl (k 1, 1461, .inr (.inl (fun _ => (0 : Int64))))), (nw1r2, .inl (k 1, 1461, .inr (.inl (fun _ => (0 : Int64))))), (nw1r3, .inl (k 1, 1461, .inr (.inl (fun _ => (0 : Int64)))))] := hD
  refine va_putF (D := D) (ci := 3) (v := .ref nw1) (ty := .array (.array .long)) (C := R_CN) (T := F_CN) (N := 1) hx hb hts in_CN t_CN t_CN_ok n_CN hown hK hP hD hS 0 rfl rfl 0 (by decide) (hts _ k_220) (fun _ h9 => h9) rfl hin rfl (by decide +kernel) rfl rfl (Nat.le_of_ble_eq_true rfl) d_CN_init_13 (fun H locs hP hD hS => ?_)
  have hP : va_P D classes [(h0, .inr (3, [.ref nw1])), (nw1, .inl (k 4, 4, .inr (.inr (.inr (.inr (rws nw1r0 nw1r1 nw1r2 nw1r3)))))), (nw1r0, .inl (k 1, 1461, .inr (.inl (fun _ => (0 : Int64))))), (nw1r1, .inl (k 1, 1461, .inr (.inl (fun _ => (0 : Int64))))), (nw1r2, .inl (k 1, 1461, .inr (.inl (fun _ => (0 : Int64))))), (nw1r3, .inl (k 1, 1461, .inr (.inl (fun _ => (0 : Int64)))))] H := hP
  have hD : va_D (va_A [(h0, .inr (3, [.null]))] s.heap.size) [(h0, .inr (3, [.ref nw1])), (nw1, .inl (k 4, 4, .inr (.inr (.inr (.inr (rws nw1r0 nw1r1 nw1r2 nw1r3)))))), (nw1r0, .inl (k 1, 1461, .inr (.inl (fun _ => (0 : Int64))))), (nw1r1, .inl (k 1, 1461, .inr (.inl (fun _ => (0 : Int64))))), (nw1r2, .inl (k 1, 1461, .inr (.inl (fun _ => (0 : Int64))))), (nw1r3, .inl (k 1, 1461, .inr (.inl (fun _ => (0 : Int64)))))] := hD
  exact ret _ _ _ 16 (ad [nw1, nw1r0, nw1r1, nw1r2, nw1r3]) d_CN_init_16 hS (trivial) (fun t ht _ => ⟨by rw [ht]; exact hP, hD⟩)

set_option maxHeartbeats 4000000 in
set_option maxRecDepth 100000 in
theorem k_PL (l : Launch) (D : va_G) (k : Nat → ClassId) (sz : Nat) (h0 : Nat) : Met l y_PL_init wd_PL_init rk_PL (va_Pc [.ref h0] (PRK D k [(h0, .inr (5, [.null, .null, .int (iI (0))]))] sz)) (va_Qv (fun u : Nat → Nat => True) (fun u t => BRW D [(h0, .inr (5, [.null, .null, .int (iI (0))]))] sz [(h0, .inr (5, [.ref (u 0), .ref (u 6), .int (iI (0))])), (u 0, .inr (3, [.ref (u 1)])), (u 1, .inl (k 4, 4, .inr (.inr (.inr (.inr (rws (u 2) (u 3) (u 4) (u 5))))))), (u 2, .inl (k 1, 1461, .inr (.inl (fun _ => (0 : Int64))))), (u 3, .inl (k 1, 1461, .inr (.inl (fun _ => (0 : Int64))))), (u 4, .inl (k 1, 1461, .inr (.inl (fun _ => (0 : Int64))))), (u 5, .inl (k 1, 1461, .inr (.inl (fun _ => (0 : Int64))))), (u 6, .inr (3, [.ref (u 7)])), (u 7, .inl (k 4, 4, .inr (.inr (.inr (.inr (rws (u 8) (u 9) (u 10) (u 11))))))), (u 8, .inl (k 1, 1461, .inr (.inl (fun _ => (0 : Int64))))), (u 9, .inl (k 1, 1461, .inr (.inl (fun _ => (0 : Int64))))), (u 10, .inl (k 1, 1461, .inr (.inl (fun _ => (0 : Int64))))), (u 11, .inl (k 1, 1461, .inr (.inl (fun _ => (0 : Int64)))))] t) (va_A [(h0, .inr (5, [.null, .null, .int (iI (0))]))] sz)) 12 11698 (va_A [(h0, .inr (5, [.null, .null, .int (iI (0))]))] sz) := by
  refine e_v (by decide) rfl (Nat.le_of_ble_eq_true rfl) ?_
  intro p e s m args below meth c Q ls hx hb hml hown hts hpre hl hin ret
  obtain ⟨⟨hsz, hP, hK, hD0, hX⟩, hAO⟩ := hpre
  subst hsz
  have hD := hD0.self (sz := s.heap.size)
  have hA : ∀ q : Nat, s.heap.size ≤ q → (va_A [(h0, .inr (5, [.null, .null, .int (iI (0))]))] s.heap.size) q := fun q h => Or.inr h
  have hS : va_S (va_A [(h0, .inr (5, [.null, .null, .int (iI (0))]))] s.heap.size) s.heap s.heap [] := va_S.rf
  have hl : lv_has ls 1 [(0, .ref h0)] := hl
  refine lv_aload_n hx hb d_PL_init_0 rfl (lv_at hl 0 rfl) ?_
  refine W.objInit hx hb hown (hts _ k_211) (hts _ k_81) (hts _ k_82) rfl (by rw [hml]; exact hl.1) rfl d_PL_init_1 (Nat.le_of_ble_eq_true rfl) (Nat.le_of_ble_eq_true rfl) ?_
  refine W.eq (g2 := F0 m 4 ls []) rfl ?_
  refine lv_aload_n hx hb d_PL_init_4 rfl (lv_at hl 0 rfl) ?_
  refine va_new (own := R_PL) (C := R_CN) (T := F_CN) (N := 1) (ci := 3) (index := 9) (fs := [.null]) hx hb hts in_CN t_CN t_CN_ok hown (hts _ k_212) (hts _ k_213) (hts _ k_66) hK hP hD hS hA rfl (by decide) (Nat.le_of_ble_eq_true rfl) (Nat.le_of_ble_eq_true rfl) d_PL_init_5 (fun nw1 H hP hD hS => ?_)
  have hP : va_P D classes [(h0, .inr (5, [.null, .null, .int (iI (0))])), (nw1, .inr (3, [.null]))] H := hP
  have hD : va_D (va_A [(h0, .inr (5, [.null, .null, .int (iI (0))]))] s.heap.size) [(h0, .inr (5, [.null, .null, .int (iI (0))])), (nw1, .inr (3, [.null]))] := hD
  refine lv_dup hx hb d_PL_init_8 rfl ?_
  have hPc := hP.sub (ws' := [(nw1, .inr (3, [.null]))]) [1] rfl
  have hDc := hD.sub (ws' := [(nw1, .inr (3, [.null]))]) [1] (by decide) rfl
  have hFc := va_free (wc := [(nw1, .inr (3, [.null]))]) hD hS hA [1] rfl
  refine va_callv (va_runIN (As := []) (rest := [.ref nw1, .ref h0]) (b := nw1) ⟨hx, hb, hml, hown, hts⟩ (k_CN l D k H.size (nw1)) ⟨va_cnB 0 hts (good_CN_init) rfl rfl rfl (hX.2 _ n_214) (hts _ k_66) (by decide +kernel) ⟨Nat.le_of_ble_eq_true rfl, Nat.le_of_ble_eq_true rfl⟩, rfl, (hts _ k_215)⟩ ⟨fun a U g mk q => ⟨q.1, ⟨q.2.1.1, q.2.1.2.1, va_K.moved (u := U) (U := U.calling g mk a) (Vm.Alike.refl U.vm) q.2.1.2.2.1, q.2.1.2.2.2.1, q.2.1.2.2.2.2.calling⟩, AOX.moved (u := U) (U := U.calling g mk a) (Vm.Alike.refl U.vm) q.2.2⟩, fun U hU hW => ⟨rfl, ⟨by rw [hU], by rw [hU]; exact hPc, va_K.moved hW.alike hK, hDc.weaken (fun _ _ _ _ => trivial), by rw [hU]; exact (hX.mono hS hFc).warm hW⟩, hAO.moved hW.alike⟩⟩ rfl rfl hl.1 rfl (lv_room (Nat.le_of_ble_eq_true rfl)) d_PL_init_9 ⟨Nat.le_of_ble_eq_true rfl, Nat.le_of_ble_eq_true rfl⟩) hS (fun q _ h => hFc q h) hFc (fun uk1 t H1 locs ht hvm h_xr_2 hB hz1 hk1 hS => ?_)
  obtain ⟨hP1, hD1⟩ := hB
  rw [ht] at hP1
  obtain ⟨hP, hD⟩ := va_join (wr := [(h0, .inr (5, [.null, .null, .int (iI (0))]))]) (w1 := [(nw1, .inr (3, [.ref (uk1 0)])), (uk1 0, .inl (k 4, 4, .inr (.inr (.inr (.inr (rws (uk1 1) (uk1 2) (uk1 3) (uk1 4))))))), (uk1 1, .inl (k 1, 1461, .inr (.inl (fun _ => (0 : Int64))))), (uk1 2, .inl (k 1, 1461, .inr (.inl (fun _ => (0 : Int64))))), (uk1 3, .inl (k 1, 1461, .inr (.inl (fun _ => (0 : Int64))))), (uk1 4, .inl (k 1, 1461, .inr (.inl (fun _ => (0 : Int64)))))]) hP hD [1] [0] rfl rfl (by decide) (by decide) hk1 hFc hP1 hD1
  generalize H1 = H at hP hS ⊢
  have hP := hP.sub (ws' := [(h0, .inr (5, [.null, .null, .int (iI (0))])), (nw1, .inr (3, [.ref (uk1 0)])), (uk1 0, .inl (k 4, 4, .inr (.inr (.inr (.inr (rws (uk1 1) (uk1 2) (uk1 3) (uk1 4))))))), (uk1 1, .inl (k 1, 1461, .inr (.inl (fun _ => (0 : Int64))))), (uk1 2, .inl (k 1, 1461, .inr (.inl (fun _ => (0 : Int64))))), (uk1 3, .inl (k 1, 1461, .inr (.inl (fun _ => (0 : Int64))))), (uk1 4, .inl (k 1, 1461, .inr (.inl (fun _ => (0 : Int64)))))]) [0, 1, 2, 3, 4, 5, 6] rfl
  have hD := hD.sub (ws' := [(h0, .inr (5, [.null, .null, .int (iI (0))])), (nw1, .inr (3, [.ref (uk1 0)])), (uk1 0, .inl (k 4, 4, .inr (.inr (.inr (.inr (rws (uk1 1) (uk1 2) (uk1 3) (uk1 4))))))), (uk1 1, .inl (k 1, 1461, .inr (.inl (fun _ => (0 : Int64))))), (uk1 2, .inl (k 1, 1461, .inr (.inl (fun _ => (0 : Int64))))), (uk1 3, .inl (k 1, 1461, .inr (.inl (fun _ => (0 : Int64))))), (uk1 4, .inl (k 1, 1461, .inr (.inl (fun _ => (0 : Int64)))))]) [0, 1, 2, 3, 4, 5, 6] (by decide) rfl
  refine va_putF (D := D) (ci := 5) (v := .ref nw1) (ty := .object R_CN) (C := R_PL) (T := F_PL) (N := 3) hx hb hts in_PL t_PL t_PL_ok n_PL hown hK hP hD hS 0 rfl rfl 0 (by decide) (hts _ k_224) (fun _ h9 => h9) rfl hin rfl (by decide +kernel) rfl rfl (Nat.le_of_ble_eq_true rfl) d_PL_init_12 (fun H locs hP hD hS => ?_)
  have hP : va_P D classes [(h0, .inr (5, [.ref nw1, .null, .int (iI (0))])), (nw1, .inr (3, [.ref (uk1 0)])), (uk1 0, .inl (k 4, 4, .inr (.inr (.inr (.inr (rws (uk1 1) (uk1 2) (uk1 3) (uk1 4))))))), (uk1 1, .inl (k 1, 1461, .inr (.inl (fun _ => (0 : Int64))))), (uk1 2, .inl (k 1, 1461, .inr (.inl (fun _ => (0 : Int64))))), (uk1 3, .inl (k 1, 1461, .inr (.inl (fun _ => (0 : Int64))))), (uk1 4, .inl (k 1, 1461, .inr (.inl (fun _ => (0 : Int64)))))] H := hP
  have hD : va_D (va_A [(h0, .inr (5, [.null, .null, .int (iI (0))]))] s.heap.size) [(h0, .inr (5, [.ref nw1, .null, .int (iI (0))])), (nw1, .inr (3, [.ref (uk1 0)])), (uk1 0, .inl (k 4, 4, .inr (.inr (.inr (.inr (rws (uk1 1) (uk1 2) (uk1 3) (uk1 4))))))), (uk1 1, .inl (k 1, 1461, .inr (.inl (fun _ => (0 : Int64))))), (uk1 2, .inl (k 1, 1461, .inr (.inl (fun _ => (0 : Int64))))), (uk1 3, .inl (k 1, 1461, .inr (.inl (fun _ => (0 : Int64))))), (uk1 4, .inl (k 1, 1461, .inr (.inl (fun _ => (0 : Int64)))))] := hD
  refine lv_aload_n hx hb d_PL_init_15 rfl (lv_at hl 0 rfl) ?_
  refine va_new (own := R_PL) (C := R_CN) (T := F_CN) (N := 1) (ci := 3) (index := 9) (fs := [.null]) hx hb hts in_CN t_CN t_CN_ok hown (hts _ k_212) (hts _ k_213) (hts _ k_66) hK hP hD hS hA rfl (by decide) (Nat.le_of_ble_eq_true rfl) (Nat.le_of_ble_eq_true rfl) d_PL_init_16 (fun nw3 H hP hD hS => ?_)
  have hP : va_P D classes [(h0, .inr (5, [.ref nw1, .null, .int (iI (0))])), (nw1, .inr (3, [.ref (uk1 0)])), (uk1 0, .inl (k 4, 4, .inr (.inr (.inr (.inr (rws (uk1 1) (uk1 2) (uk1 3) (uk1 4))))))), (uk1 1, .inl (k 1, 1461, .inr (.inl (fun _ => (0 : Int64))))), (uk1 2, .inl (k 1, 1461, .inr (.inl (fun _ => (0 : Int64))))), (uk1 3, .inl (k 1, 1461, .inr (.inl (fun _ => (0 : Int64))))), (uk1 4, .inl (k 1, 1461, .inr (.inl (fun _ => (0 : Int64))))), (nw3, .inr (3, [.null]))] H := hP
  have hD : va_D (va_A [(h0, .inr (5, [.null, .null, .int (iI (0))]))] s.heap.size) [(h0, .inr (5, [.ref nw1, .null, .int (iI (0))])), (nw1, .inr (3, [.ref (uk1 0)])), (uk1 0, .inl (k 4, 4, .inr (.inr (.inr (.inr (rws (uk1 1) (uk1 2) (uk1 3) (uk1 4))))))), (uk1 1, .inl (k 1, 1461, .inr (.inl (fun _ => (0 : Int64))))), (uk1 2, .inl (k 1, 1461, .inr (.inl (fun _ => (0 : Int64))))), (uk1 3, .inl (k 1, 1461, .inr (.inl (fun _ => (0 : Int64))))), (uk1 4, .inl (k 1, 1461, .inr (.inl (fun _ => (0 : Int64))))), (nw3, .inr (3, [.null]))] := hD
  refine lv_dup hx hb d_PL_init_19 rfl ?_
  have hPc := hP.sub (ws' := [(nw3, .inr (3, [.null]))]) [7] rfl
  have hDc := hD.sub (ws' := [(nw3, .inr (3, [.null]))]) [7] (by decide) rfl
  have hFc := va_free (wc := [(nw3, .inr (3, [.null]))]) hD hS hA [7] rfl
  refine va_callv (va_runIN (As := []) (rest := [.ref nw3, .ref h0]) (b := nw3) ⟨hx, hb, hml, hown, hts⟩ (k_CN l D k H.size (nw3)) ⟨va_cnB 0 hts (good_CN_init) rfl rfl rfl (hX.2 _ n_214) (hts _ k_66) (by decide +kernel) ⟨Nat.le_of_ble_eq_true rfl, Nat.le_of_ble_eq_true rfl⟩, rfl, (hts _ k_215)⟩ ⟨fun a U g mk q => ⟨q.1, ⟨q.2.1.1, q.2.1.2.1, va_K.moved (u := U) (U := U.calling g mk a) (Vm.Alike.refl U.vm) q.2.1.2.2.1, q.2.1.2.2.2.1, q.2.1.2.2.2.2.calling⟩, AOX.moved (u := U) (U := U.calling g mk a) (Vm.Alike.refl U.vm) q.2.2⟩, fun U hU hW => ⟨rfl, ⟨by rw [hU], by rw [hU]; exact hPc, va_K.moved hW.alike hK, hDc.weaken (fun _ _ _ _ => trivial), by rw [hU]; exact (hX.mono hS hFc).warm hW⟩, hAO.moved hW.alike⟩⟩ rfl rfl hl.1 rfl (lv_room (Nat.le_of_ble_eq_true rfl)) d_PL_init_20 ⟨Nat.le_of_ble_eq_true rfl, Nat.le_of_ble_eq_true rfl⟩) hS (fun q _ h => hFc q h) hFc (fun uk2 t H1 locs ht hvm h_xr_4 hB hz1 hk1 hS => ?_)
  obtain ⟨hP1, hD1⟩ := hB
  rw [ht] at hP1
  obtain ⟨hP, hD⟩ := va_join (wr := [(h0, .inr (5, [.ref nw1, .null, .int (iI (0))])), (nw1, .inr (3, [.ref (uk1 0)])), (uk1 0, .inl (k 4, 4, .inr (.inr (.inr (.inr (rws (uk1 1) (uk1 2) (uk1 3) (uk1 4))))))), (uk1 1, .inl (k 1, 1461, .inr (.inl (fun _ => (0 : Int64))))), (uk1 2, .inl (k 1, 1461, .inr (.inl (fun _ => (0 : Int64))))), (uk1 3, .inl (k 1, 1461, .inr (.inl (fun _ => (0 : Int64))))), (uk1 4, .inl (k 1, 1461, .inr (.inl (fun _ => (0 : Int64)))))]) (w1 := [(nw3, .inr (3, [.ref (uk2 0)])), (uk2 0, .inl (k 4, 4, .inr (.inr (.inr (.inr (rws (uk2 1) (uk2 2) (uk2 3) (uk2 4))))))), (uk2 1, .inl (k 1, 1461, .inr (.inl (fun _ => (0 : Int64))))), (uk2 2, .inl (k 1, 1461, .inr (.inl (fun _ => (0 : Int64))))), (uk2 3, .inl (k 1, 1461, .inr (.inl (fun _ => (0 : Int64))))), (uk2 4, .inl (k 1, 1461, .inr (.inl (fun _ => (0 : Int64)))))]) hP hD [7] [0, 1, 2, 3, 4, 5, 6] rfl rfl (by decide) (by decide) hk1 hFc hP1 hD1
  generalize H1 = H at hP hS ⊢
  have hP := hP.sub (ws' := [(h0, .inr (5, [.ref nw1, .null, .int (iI (0))])), (nw1, .inr (3, [.ref (uk1 0)])), (uk1 0, .inl (k 4, 4, .inr (.inr (.inr (.inr (rws (uk1 1) (uk1 2) (uk1 3) (uk1 4))))))), (uk1 1, .inl (k 1, 1461, .inr (.inl (fun _ => (0 : Int64))))), (uk1 2, .inl (k 1, 1461, .inr (.inl (fun _ => (0 : Int64))))), (uk1 3, .inl (k 1, 1461, .inr (.inl (fun _ => (0 : Int64))))), (uk1 4, .inl (k 1, 1461, .inr (.inl (fun _ => (0 : Int64))))), (nw3, .inr (3, [.ref (uk2 0)])), (uk2 0, .inl (k 4, 4, .inr (.inr (.inr (.inr (rws (uk2 1) (uk2 2) (uk2 3) (uk2 4))))))), (uk2 1, .inl (k 1, 1461, .inr (.inl (fun _ => (0 : Int64))))), (uk2 2, .inl (k 1, 1461, .inr (.inl (fun _ => (0 : Int64))))), (uk2 3, .inl (k 1, 1461, .inr (.inl (fun _ => (0 : Int64))))), (uk2 4, .inl (k 1, 1461, .inr (.inl (fun _ => (0 : Int64)))))]) [0, 1, 2, 3, 4, 5, 6, 7, 8, 9, 10, 11, 12] rfl
  have hD := hD.sub (ws' := [(h0, .inr (5, [.ref nw1, .null, .int (iI (0))])), (nw1, .inr (3, [.ref (uk1 0)])), (uk1 0, .inl (k 4, 4, .inr (.inr (.inr (.inr (rws (uk1 1) (uk1 2) (uk1 3) (uk1 4))))))), (uk1 1, .inl (k 1, 1461, .inr (.inl (fun _ => (0 : Int64))))), (uk1 2, .inl (k 1, 1461, .inr (.inl (fun _ => (0 : Int64))))), (uk1 3, .inl (k 1, 1461, .inr (.inl (fun _ => (0 : Int64))))), (uk1 4, .inl (k 1, 1461, .inr (.inl (fun _ => (0 : Int64))))), (nw3, .inr (3, [.ref (uk2 0)])), (uk2 0, .inl (k 4, 4, .inr (.inr (.inr (.inr (rws (uk2 1) (uk2 2) (uk2 3) (uk2 4))))))), (uk2 1, .inl (k 1, 1461, .inr (.inl (fun _ => (0 : Int64))))), (uk2 2, .inl (k 1, 1461, .inr (.inl (fun _ => (0 : Int64))))), (uk2 3, .inl (k 1, 1461, .inr (.inl (fun _ => (0 : Int64))))), (uk2 4, .inl (k 1, 1461, .inr (.inl (fun _ => (0 : Int64)))))]) [0, 1, 2, 3, 4, 5, 6, 7, 8, 9, 10, 11, 12] (by decide) rfl
  refine va_putF (D := D) (ci := 5) (v := .ref nw3) (ty := .object R_CN) (C := R_PL) (T := F_PL) (N := 3) hx hb hts in_PL t_PL t_PL_ok n_PL hown hK hP hD hS 0 rfl rfl 1 (by decide) (hts _ k_226) (fun _ h9 => h9) rfl hin rfl (by decide +kernel) rfl rfl (Nat.le_of_ble_eq_true rfl) d_PL_init_23 (fun H locs hP hD hS => ?_)
  have hP : va_P D classes [(h0, .inr (5, [.ref nw1, .ref nw3, .int (iI (0))])), (nw1, .inr (3, [.ref (uk1 0)])), (uk1 0, .inl (k 4, 4, .inr (.inr (.inr (.inr (rws (uk1 1) (uk1 2) (uk1 3) (uk1 4))))))), (uk1 1, .inl (k 1, 1461, .inr (.inl (fun _ => (0 : Int64))))), (uk1 2, .inl (k 1, 1461, .inr (.inl (fun _ => (0 : Int64))))), (uk1 3, .inl (k 1, 1461, .inr (.inl (fun _ => (0 : Int64))))), (uk1 4, .inl (k 1, 1461, .inr (.inl (fun _ => (0 : Int64))))), (nw3, .inr (3, [.ref (uk2 0)])), (uk2 0, .inl (k 4, 4, .inr (.inr (.inr (.inr (rws (uk2 1) (uk2 2) (uk2 3) (uk2 4))))))), (uk2 1, .inl (k 1, 1461, .inr (.inl (fun _ => (0 : Int64))))), (uk2 2, .inl (k 1, 1461, .inr (.inl (fun _ => (0 : Int64))))), (uk2 3, .inl (k 1, 1461, .inr (.inl (fun _ => (0 : Int64))))), (uk2 4, .inl (k 1, 1461, .inr (.inl (fun _ => (0 : Int64)))))] H := hP
  have hD : va_D (va_A [(h0, .inr (5, [.null, .null, .int (iI (0))]))] s.heap.size) [(h0, .inr (5, [.ref nw1, .ref nw3, .int (iI (0))])), (nw1, .inr (3, [.ref (uk1 0)])), (uk1 0, .inl (k 4, 4, .inr (.inr (.inr (.inr (rws (uk1 1) (uk1 2) (uk1 3) (uk1 4))))))), (uk1 1, .inl (k 1, 1461, .inr (.inl (fun _ => (0 : Int64))))), (uk1 2, .inl (k 1, 1461, .inr (.inl (fun _ => (0 : Int64))))), (uk1 3, .inl (k 1, 1461, .inr (.inl (fun _ => (0 : Int64))))), (uk1 4, .inl (k 1, 1461, .inr (.inl (fun _ => (0 : Int64))))), (nw3, .inr (3, [.ref (uk2 0)])), (uk2 0, .inl (k 4, 4, .inr (.inr (.inr (.inr (rws (uk2 1) (uk2 2) (uk2 3) (uk2 4))))))), (uk2 1, .inl (k 1, 1461, .inr (.inl (fun _ => (0 : Int64))))), (uk2 2, .inl (k 1, 1461, .inr (.inl (fun _ => (0 : Int64))))), (uk2 3, .inl (k 1, 1461, .inr (.inl (fun _ => (0 : Int64))))), (uk2 4, .inl (k 1, 1461, .inr (.inl (fun _ => (0 : Int64)))))] := hD
  exact ret _ _ _ 26 (ad [nw1, uk1 0, uk1 1, uk1 2, uk1 3, uk1 4, nw3, uk2 0, uk2 1, uk2 2, uk2 3, uk2 4]) d_PL_init_26 hS (trivial) (fun t ht _ => ⟨by rw [ht]; exact hP, hD⟩)

set_option maxHeartbeats 4000000 in
set_option maxRecDepth 100000 in
theorem k_AT (l : Launch) (D : va_G) (k : Nat → ClassId) (sz : Nat) (h0 l0 : Nat) : Met l y_AT_init wd_AT_init rk_AT (va_Pc [.ref h0, .ref l0] (PRK D k [(h0, .inr (2, [.null, .int (iI (0)), .int (iI (0)), .int (iI (0))]))] sz)) (va_Qv (fun u : Nat → Nat => True) (fun u t => BRW D [(h0, .inr (2, [.null, .int (iI (0)), .int (iI (0)), .int (iI (0))]))] sz [(h0, .inr (2, [.ref l0, .int (iI (0)), .int (iI (0)), .int (iI (0))]))] t) (va_A [(h0, .inr (2, [.null, .int (iI (0)), .int (iI (0)), .int (iI (0))]))] sz)) 0 0 (va_A [(h0, .inr (2, [.null, .int (iI (0)), .int (iI (0)), .int (iI (0))]))] sz) := by
  refine e_v (by decide) rfl (Nat.le_of_ble_eq_true rfl) ?_
  intro p e s m args below meth c Q ls hx hb hml hown hts hpre hl hin ret
  obtain ⟨⟨hsz, hP, hK, hD0, hX⟩, hAO⟩ := hpre
  subst hsz
  have hD := hD0.self (sz := s.heap.size)
  have hA : ∀ q : Nat, s.heap.size ≤ q → (va_A [(h0, .inr (2, [.null, .int (iI (0)), .int (iI (0)), .int (iI (0))]))] s.heap.size) q := fun q h => Or.inr h
  have hS : va_S (va_A [(h0, .inr (2, [.null, .int (iI (0)), .int (iI (0)), .int (iI (0))]))] s.heap.size) s.heap s.heap [] := va_S.rf
  have hl : lv_has ls 2 [(0, .ref h0), (1, .ref l0)] := hl
  refine lv_aload_n hx hb d_AT_init_0 rfl (lv_at hl 0 rfl) ?_
  refine W.objInit hx hb hown (hts _ k_158) (hts _ k_81) (hts _ k_82) rfl (by rw [hml]; exact hl.1) rfl d_AT_init_1 (Nat.le_of_ble_eq_true rfl) (Nat.le_of_ble_eq_true rfl) ?_
  refine W.eq (g2 := F0 m 4 ls []) rfl ?_
  refine lv_aload_n hx hb d_AT_init_4 rfl (lv_at hl 0 rfl) ?_
  refine lv_aload_n hx hb d_AT_init_5 rfl (lv_at hl 1 rfl) ?_
  refine va_putF (D := D) (ci := 2) (v := .ref l0) (ty := .object R_AL) (C := R_AT) (T := F_AT) (N := 4) hx hb hts in_AT t_AT t_AT_ok n_AT hown hK hP hD hS 0 rfl rfl 0 (by decide) (hts _ k_159) (fun _ h9 => h9) rfl hin rfl (by decide +kernel) rfl rfl (Nat.le_of_ble_eq_true rfl) d_AT_init_6 (fun H locs hP hD hS => ?_)
  have hP : va_P D classes [(h0, .inr (2, [.ref l0, .int (iI (0)), .int (iI (0)), .int (iI (0))]))] H := hP
  have hD : va_D (va_A [(h0, .inr (2, [.null, .int (iI (0)), .int (iI (0)), .int (iI (0))]))] s.heap.size) [(h0, .inr (2, [.ref l0, .int (iI (0)), .int (iI (0)), .int (iI (0))]))] := hD
  exact ret _ _ _ 9 (ad []) d_AT_init_9 hS (trivial) (fun t ht _ => ⟨by rw [ht]; exact hP, hD⟩)
