set_option maxHeartbeats 4000000 in
set_option maxRecDepth 100000 in
theorem k_SH (l : Launch) (D : va_G) (k : Nat → ClassId) (sz : Nat) (h0 : Nat) : Met l y_SH_init wd_SH_init rk_SH (va_Pc [.ref h0] (PRK D k [(h0, .inr (7, [.null, .null, .int (bI (false))]))] sz)) (va_Qv (fun u : Nat → Nat => True) (fun u t => BRW D [(h0, .inr (7, [.null, .null, .int (bI (false))]))] sz [(h0, .inr (7, [.ref (u 0), .ref (u 1), .int (bI (false))])), (u 0, .inl (k 0, 4, .inl (aZ (losZ)))), (u 1, .inl (k 0, 4, .inl (aZ (dblZ))))] t) (va_A [(h0, .inr (7, [.null, .null, .int (bI (false))]))] sz)) 2 8 (va_A [(h0, .inr (7, [.null, .null, .int (bI (false))]))] sz) := by
  refine e_v (by decide) rfl (Nat.le_of_ble_eq_true rfl) ?_
  intro p e s m args below meth c Q ls hx hb hml hown hts hpre hl hin ret
  obtain ⟨⟨hsz, hP, hK, hD0, hX⟩, hAO⟩ := hpre
  subst hsz
  have hD := hD0.self (sz := s.heap.size)
  have hA : ∀ q : Nat, s.heap.size ≤ q → (va_A [(h0, .inr (7, [.null, .null, .int (bI (false))]))] s.heap.size) q := fun q h => Or.inr h
  have hS : va_S (va_A [(h0, .inr (7, [.null, .null, .int (bI (false))]))] s.heap.size) s.heap s.heap [] := va_S.rf
  have hl : lv_has ls 2 [(0, .ref h0)] := hl
  refine lv_aload_n hx hb d_SH_init_0 rfl (lv_at hl 0 rfl) ?_
  refine W.objInit hx hb hown (hts _ k_88) (hts _ k_81) (hts _ k_82) rfl (by rw [hml]; exact hl.1) rfl d_SH_init_1 (Nat.le_of_ble_eq_true rfl) (Nat.le_of_ble_eq_true rfl) ?_
  refine W.eq (g2 := F0 m 4 ls []) rfl ?_
  refine lv_aload_n hx hb d_SH_init_4 rfl (lv_at hl 0 rfl) ?_
  refine z_iconst hx hb d_SH_init_5 ?_
  refine x_newa (atype := .int) (ty := .int) (kc := k 0) (tys := TY k) (a0 := (4, .inl (aZ (fun _ => 0)))) (n := iI (4)) (N' := 4) hx hb (hts _ k_118) rfl hK 0 rfl hP hD hS hA (fun _ => rfl) (by decide) (by decide) (by decide) (Nat.le_of_ble_eq_true rfl) (Nat.le_of_ble_eq_true rfl) d_SH_init_6 (fun nw1 H hP hD hS => ?_)
  have hP : va_P D classes [(h0, .inr (7, [.null, .null, .int (bI (false))])), (nw1, .inl (k 0, 4, .inl (aZ (fun _ => 0))))] H := hP
  have hD : va_D (va_A [(h0, .inr (7, [.null, .null, .int (bI (false))]))] s.heap.size) [(h0, .inr (7, [.null, .null, .int (bI (false))])), (nw1, .inl (k 0, 4, .inl (aZ (fun _ => 0))))] := hD
  refine va_putF (D := D) (ci := 7) (v := .ref nw1) (ty := .array .int) (C := R_SH) (T := F_SH) (N := 3) hx hb hts in_SH t_SH t_SH_ok n_SH hown hK hP hD hS 0 rfl rfl 0 (by decide) (hts _ k_106) (fun _ h9 => h9) rfl hin rfl (by decide +kernel) rfl rfl (Nat.le_of_ble_eq_true rfl) d_SH_init_8 (fun H locs hP hD hS => ?_)
  have hP : va_P D classes [(h0, .inr (7, [.ref nw1, .null, .int (bI (false))])), (nw1, .inl (k 0, 4, .inl (aZ (fun _ => 0))))] H := hP
  have hD : va_D (va_A [(h0, .inr (7, [.null, .null, .int (bI (false))]))] s.heap.size) [(h0, .inr (7, [.ref nw1, .null, .int (bI (false))])), (nw1, .inl (k 0, 4, .inl (aZ (fun _ => 0))))] := hD
  refine lv_aload_n hx hb d_SH_init_11 rfl (lv_at hl 0 rfl) ?_
  refine z_iconst hx hb d_SH_init_12 ?_
  refine x_newa (atype := .int) (ty := .int) (kc := k 0) (tys := TY k) (a0 := (4, .inl (aZ (fun _ => 0)))) (n := iI (4)) (N' := 4) hx hb (hts _ k_118) rfl hK 0 rfl hP hD hS hA (fun _ => rfl) (by decide) (by decide) (by decide) (Nat.le_of_ble_eq_true rfl) (Nat.le_of_ble_eq_true rfl) d_SH_init_13 (fun nw2 H hP hD hS => ?_)
  have hP : va_P D classes [(h0, .inr (7, [.ref nw1, .null, .int (bI (false))])), (nw1, .inl (k 0, 4, .inl (aZ (fun _ => 0)))), (nw2, .inl (k 0, 4, .inl (aZ (fun _ => 0))))] H := hP
  have hD : va_D (va_A [(h0, .inr (7, [.null, .null, .int (bI (false))]))] s.heap.size) [(h0, .inr (7, [.ref nw1, .null, .int (bI (false))])), (nw1, .inl (k 0, 4, .inl (aZ (fun _ => 0)))), (nw2, .inl (k 0, 4, .inl (aZ (fun _ => 0))))] := hD
  refine va_putF (D := D) (ci := 7) (v := .ref nw2) (ty := .array .int) (C := R_SH) (T := F_SH) (N := 3) hx hb hts in_SH t_SH t_SH_ok n_SH hown hK hP hD hS 0 rfl rfl 1 (by decide) (hts _ k_107) (fun _ h9 => h9) rfl hin rfl (by decide +kernel) rfl rfl (Nat.le_of_ble_eq_true rfl) d_SH_init_15 (fun H locs hP hD hS => ?_)
  have hP : va_P D classes [(h0, .inr (7, [.ref nw1, .ref nw2, .int (bI (false))])), (nw1, .inl (k 0, 4, .inl (aZ (fun _ => 0)))), (nw2, .inl (k 0, 4, .inl (aZ (fun _ => 0))))] H := hP
  have hD : va_D (va_A [(h0, .inr (7, [.null, .null, .int (bI (false))]))] s.heap.size) [(h0, .inr (7, [.ref nw1, .ref nw2, .int (bI (false))])), (nw1, .inl (k 0, 4, .inl (aZ (fun _ => 0)))), (nw2, .inl (k 0, 4, .inl (aZ (fun _ => 0))))] := hD
  refine z_iconst hx hb d_SH_init_18 ?_
  refine lv_istore_n (lv' := [(1, .int (iI (0))), (0, .ref h0)]) hx hb d_SH_init_19 rfl hl (by decide) rfl (fun ls hl => ?_)
  refine lv_iload_n hx hb d_SH_init_20 rfl (lv_at hl 0 rfl) ?_
  refine z_iconst hx hb d_SH_init_21 ?_
  refine z_icmp_ge (tgt := 62) hx hb d_SH_init_22 (by decide) ⟨by omega, by omega⟩ ⟨by omega, by omega⟩ (fun h22 => absurd h22 (by decide)) (fun h22 => ?_)
  refine lv_aload_n hx hb d_SH_init_25 rfl (lv_at hl 1 rfl) ?_
  refine va_get (D := D) (ci := 7) (v := .ref nw1) (C := R_SH) (T := F_SH) (N := 3) hx hb hts in_SH hown hK hP 0 rfl rfl 0 (by decide) (hts _ k_106) (fun _ h9 => h9) rfl d_SH_init_26 ?_
  refine lv_iload_n hx hb d_SH_init_29 rfl (lv_at hl 0 rfl) ?_
  refine z_sipush hx hb d_SH_init_30 (by decide) ?_
  refine lv_iload_n hx hb d_SH_init_33 rfl (lv_at hl 0 rfl) ?_
  refine z_iadd hx hb d_SH_init_34 ?_
  refine z_iconst hx hb d_SH_init_35 ?_
  refine rc_i (va_runS (As := [.int (iI (2000)), .int (iI (3))]) (rest := [.int (iI (0)), .ref nw1]) ⟨hx, hb, hml, hown, hts⟩ (c_AL_lastSunday l D k (2000) (3) ((by omega)) ((by omega))) ⟨callB_of 2 hts (good_AL_lastSunday) rfl rfl rfl (hts _ k_61) (hts _ k_89) (by decide +kernel) ⟨Nat.le_of_ble_eq_true rfl, Nat.le_of_ble_eq_true rfl⟩, (hts _ k_90)⟩ ⟨fun a U g mk q => ⟨q.1, q.2.1, va_K.moved (u := U) (U := U.calling g mk a) (Vm.Alike.refl U.vm) q.2.2.1, q.2.2.2.calling⟩, fun U hU hW => ⟨rfl, by rw [hU]; exact (hP.sub (ws' := []) [] rfl), va_K.moved hW.alike hK, by rw [hU]; exact (hX.mono hS (fun _ h => absurd h id)).warm hW⟩⟩ rfl rfl hl.1 rfl (lv_room (Nat.le_of_ble_eq_true rfl)) d_SH_init_36 ⟨Nat.le_of_ble_eq_true rfl, Nat.le_of_ble_eq_true rfl⟩) (fun xr_3 h_xr_3 => ?_)
  subst h_xr_3
  refine x_iast hx hb hK hP hD hS 1 0 rfl rfl (0) rfl (by decide) (by omega) d_SH_init_39 (fun H locs hP hD hS => ?_)
  rw [aZ_upd] at hP hD
  have hP : va_P D classes [(h0, .inr (7, [.ref nw1, .ref nw2, .int (bI (false))])), (nw1, .inl (k 0, 4, .inl (aZ (updZ (fun _ => 0) (0) (lSun 2000 3))))), (nw2, .inl (k 0, 4, .inl (aZ (fun _ => 0))))] H := hP
  have hD : va_D (va_A [(h0, .inr (7, [.null, .null, .int (bI (false))]))] s.heap.size) [(h0, .inr (7, [.ref nw1, .ref nw2, .int (bI (false))])), (nw1, .inl (k 0, 4, .inl (aZ (updZ (fun _ => 0) (0) (lSun 2000 3))))), (nw2, .inl (k 0, 4, .inl (aZ (fun _ => 0))))] := hD
  refine lv_aload_n hx hb d_SH_init_40 rfl (lv_at hl 1 rfl) ?_
  refine va_get (D := D) (ci := 7) (v := .ref nw2) (C := R_SH) (T := F_SH) (N := 3) hx hb hts in_SH hown hK hP 0 rfl rfl 1 (by decide) (hts _ k_107) (fun _ h9 => h9) rfl d_SH_init_41 ?_
  refine lv_iload_n hx hb d_SH_init_44 rfl (lv_at hl 0 rfl) ?_
  refine z_sipush hx hb d_SH_init_45 (by decide) ?_
  refine lv_iload_n hx hb d_SH_init_48 rfl (lv_at hl 0 rfl) ?_
  refine z_iadd hx hb d_SH_init_49 ?_
  refine z_bipush hx hb d_SH_init_50 (by decide) ?_
  refine rc_i (va_runS (As := [.int (iI (2000)), .int (iI (10))]) (rest := [.int (iI (0)), .ref nw2]) ⟨hx, hb, hml, hown, hts⟩ (c_AL_lastSunday l D k (2000) (10) ((by omega)) ((by omega))) ⟨callB_of 2 hts (good_AL_lastSunday) rfl rfl rfl (hts _ k_61) (hts _ k_89) (by decide +kernel) ⟨Nat.le_of_ble_eq_true rfl, Nat.le_of_ble_eq_true rfl⟩, (hts _ k_90)⟩ ⟨fun a U g mk q => ⟨q.1, q.2.1, va_K.moved (u := U) (U := U.calling g mk a) (Vm.Alike.refl U.vm) q.2.2.1, q.2.2.2.calling⟩, fun U hU hW => ⟨rfl, by rw [hU]; exact (hP.sub (ws' := []) [] rfl), va_K.moved hW.alike hK, by rw [hU]; exact (hX.mono hS (fun _ h => absurd h id)).warm hW⟩⟩ rfl rfl hl.1 rfl (lv_room (Nat.le_of_ble_eq_true rfl)) d_SH_init_52 ⟨Nat.le_of_ble_eq_true rfl, Nat.le_of_ble_eq_true rfl⟩) (fun xr_4 h_xr_4 => ?_)
  subst h_xr_4
  refine x_iast hx hb hK hP hD hS 2 0 rfl rfl (0) rfl (by decide) (by omega) d_SH_init_55 (fun H locs hP hD hS => ?_)
  rw [aZ_upd] at hP hD
  have hP : va_P D classes [(h0, .inr (7, [.ref nw1, .ref nw2, .int (bI (false))])), (nw1, .inl (k 0, 4, .inl (aZ (updZ (fun _ => 0) (0) (lSun 2000 3))))), (nw2, .inl (k 0, 4, .inl (aZ (updZ (fun _ => 0) (0) (lSun 2000 10)))))] H := hP
  have hD : va_D (va_A [(h0, .inr (7, [.null, .null, .int (bI (false))]))] s.heap.size) [(h0, .inr (7, [.ref nw1, .ref nw2, .int (bI (false))])), (nw1, .inl (k 0, 4, .inl (aZ (updZ (fun _ => 0) (0) (lSun 2000 3))))), (nw2, .inl (k 0, 4, .inl (aZ (updZ (fun _ => 0) (0) (lSun 2000 10)))))] := hD
  refine z_iinc (k := 0) (a := 0) (lv' := [(1, .int (iI (1))), (0, .ref h0)]) hx hb d_SH_init_56 hl rfl (by decide) rfl (fun ls hl => ?_)
  refine lv_goto (tgt := 20) hx hb d_SH_init_59 (by decide) ?_
  refine lv_iload_n hx hb d_SH_init_20 rfl (lv_at hl 0 rfl) ?_
  refine z_iconst hx hb d_SH_init_21 ?_
  refine z_icmp_ge (tgt := 62) hx hb d_SH_init_22 (by decide) ⟨by omega, by omega⟩ ⟨by omega, by omega⟩ (fun h22 => absurd h22 (by decide)) (fun h22 => ?_)
  refine lv_aload_n hx hb d_SH_init_25 rfl (lv_at hl 1 rfl) ?_
  refine va_get (D := D) (ci := 7) (v := .ref nw1) (C := R_SH) (T := F_SH) (N := 3) hx hb hts in_SH hown hK hP 0 rfl rfl 0 (by decide) (hts _ k_106) (fun _ h9 => h9) rfl d_SH_init_26 ?_
  refine lv_iload_n hx hb d_SH_init_29 rfl (lv_at hl 0 rfl) ?_
  refine z_sipush hx hb d_SH_init_30 (by decide) ?_
  refine lv_iload_n hx hb d_SH_init_33 rfl (lv_at hl 0 rfl) ?_
  refine z_iadd hx hb d_SH_init_34 ?_
  refine z_iconst hx hb d_SH_init_35 ?_
  refine rc_i (va_runS (As := [.int (iI (2001)), .int (iI (3))]) (rest := [.int (iI (1)), .ref nw1]) ⟨hx, hb, hml, hown, hts⟩ (c_AL_lastSunday l D k (2001) (3) ((by omega)) ((by omega))) ⟨callB_of 2 hts (good_AL_lastSunday) rfl rfl rfl (hts _ k_61) (hts _ k_89) (by decide +kernel) ⟨Nat.le_of_ble_eq_true rfl, Nat.le_of_ble_eq_true rfl⟩, (hts _ k_90)⟩ ⟨fun a U g mk q => ⟨q.1, q.2.1, va_K.moved (u := U) (U := U.calling g mk a) (Vm.Alike.refl U.vm) q.2.2.1, q.2.2.2.calling⟩, fun U hU hW => ⟨rfl, by rw [hU]; exact (hP.sub (ws' := []) [] rfl), va_K.moved hW.alike hK, by rw [hU]; exact (hX.mono hS (fun _ h => absurd h id)).warm hW⟩⟩ rfl rfl hl.1 rfl (lv_room (Nat.le_of_ble_eq_true rfl)) d_SH_init_36 ⟨Nat.le_of_ble_eq_true rfl, Nat.le_of_ble_eq_true rfl⟩) (fun xr_5 h_xr_5 => ?_)
  subst h_xr_5
  refine x_iast hx hb hK hP hD hS 1 0 rfl rfl (1) rfl (by decide) (by omega) d_SH_init_39 (fun H locs hP hD hS => ?_)
  rw [aZ_upd] at hP hD
  have hP : va_P D classes [(h0, .inr (7, [.ref nw1, .ref nw2, .int (bI (false))])), (nw1, .inl (k 0, 4, .inl (aZ (updZ (updZ (fun _ => 0) (0) (lSun 2000 3)) (1) (lSun 2001 3))))), (nw2, .inl (k 0, 4, .inl (aZ (updZ (fun _ => 0) (0) (lSun 2000 10)))))] H := hP
  have hD : va_D (va_A [(h0, .inr (7, [.null, .null, .int (bI (false))]))] s.heap.size) [(h0, .inr (7, [.ref nw1, .ref nw2, .int (bI (false))])), (nw1, .inl (k 0, 4, .inl (aZ (updZ (updZ (fun _ => 0) (0) (lSun 2000 3)) (1) (lSun 2001 3))))), (nw2, .inl (k 0, 4, .inl (aZ (updZ (fun _ => 0) (0) (lSun 2000 10)))))] := hD
  refine lv_aload_n hx hb d_SH_init_40 rfl (lv_at hl 1 rfl) ?_
  refine va_get (D := D) (ci := 7) (v := .ref nw2) (C := R_SH) (T := F_SH) (N := 3) hx hb hts in_SH hown hK hP 0 rfl rfl 1 (by decide) (hts _ k_107) (fun _ h9 => h9) rfl d_SH_init_41 ?_
  refine lv_iload_n hx hb d_SH_init_44 rfl (lv_at hl 0 rfl) ?_
  refine z_sipush hx hb d_SH_init_45 (by decide) ?_
  refine lv_iload_n hx hb d_SH_init_48 rfl (lv_at hl 0 rfl) ?_
  refine z_iadd hx hb d_SH_init_49 ?_
  refine z_bipush hx hb d_SH_init_50 (by decide) ?_
  refine rc_i (va_runS (As := [.int (iI (2001)), .int (iI (10))]) (rest := [.int (iI (1)), .ref nw2]) ⟨hx, hb, hml, hown, hts⟩ (c_AL_lastSunday l D k (2001) (10) ((by omega)) ((by omega))) ⟨callB_of 2 hts (good_AL_lastSunday) rfl rfl rfl (hts _ k_61) (hts _ k_89) (by decide +kernel) ⟨Nat.le_of_ble_eq_true rfl, Nat.le_of_ble_eq_true rfl⟩, (hts _ k_90)⟩ ⟨fun a U g mk q => ⟨q.1, q.2.1, va_K.moved (u := U) (U := U.calling g mk a) (Vm.Alike.refl U.vm) q.2.2.1, q.2.2.2.calling⟩, fun U hU hW => ⟨rfl, by rw [hU]; exact (hP.sub (ws' := []) [] rfl), va_K.moved hW.alike hK, by rw [hU]; exact (hX.mono hS (fun _ h => absurd h id)).warm hW⟩⟩ rfl rfl hl.1 rfl (lv_room (Nat.le_of_ble_eq_true rfl)) d_SH_init_52 ⟨Nat.le_of_ble_eq_true rfl, Nat.le_of_ble_eq_true rfl⟩) (fun xr_6 h_xr_6 => ?_)
  subst h_xr_6
  refine x_iast hx hb hK hP hD hS 2 0 rfl rfl (1) rfl (by decide) (by omega) d_SH_init_55 (fun H locs hP hD hS => ?_)
  rw [aZ_upd] at hP hD
  have hP : va_P D classes [(h0, .inr (7, [.ref nw1, .ref nw2, .int (bI (false))])), (nw1, .inl (k 0, 4, .inl (aZ (updZ (updZ (fun _ => 0) (0) (lSun 2000 3)) (1) (lSun 2001 3))))), (nw2, .inl (k 0, 4, .inl (aZ (updZ (updZ (fun _ => 0) (0) (lSun 2000 10)) (1) (lSun 2001 10)))))] H := hP
  have hD : va_D (va_A [(h0, .inr (7, [.null, .null, .int (bI (false))]))] s.heap.size) [(h0, .inr (7, [.ref nw1, .ref nw2, .int (bI (false))])), (nw1, .inl (k 0, 4, .inl (aZ (updZ (updZ (fun _ => 0) (0) (lSun 2000 3)) (1) (lSun 2001 3))))), (nw2, .inl (k 0, 4, .inl (aZ (updZ (updZ (fun _ => 0) (0) (lSun 2000 10)) (1) (lSun 2001 10)))))] := hD
  refine z_iinc (k := 0) (a := 1) (lv' := [(1, .int (iI (2))), (0, .ref h0)]) hx hb d_SH_init_56 hl rfl (by decide) rfl (fun ls hl => ?_)
  refine lv_goto (tgt := 20) hx hb d_SH_init_59 (by decide) ?_
  refine lv_iload_n hx hb d_SH_init_20 rfl (lv_at hl 0 rfl) ?_
  refine z_iconst hx hb d_SH_init_21 ?_
  refine z_icmp_ge (tgt := 62) hx hb d_SH_init_22 (by decide) ⟨by omega, by omega⟩ ⟨by omega, by omega⟩ (fun h22 => absurd h22 (by decide)) (fun h22 => ?_)
  refine lv_aload_n hx hb d_SH_init_25 rfl (lv_at hl 1 rfl) ?_
  refine va_get (D := D) (ci := 7) (v := .ref nw1) (C := R_SH) (T := F_SH) (N := 3) hx hb hts in_SH hown hK hP 0 rfl rfl 0 (by decide) (hts _ k_106) (fun _ h9 => h9) rfl d_SH_init_26 ?_
  refine lv_iload_n hx hb d_SH_init_29 rfl (lv_at hl 0 rfl) ?_
  refine z_sipush hx hb d_SH_init_30 (by decide) ?_
  refine lv_iload_n hx hb d_SH_init_33 rfl (lv_at hl 0 rfl) ?_
  refine z_iadd hx hb d_SH_init_34 ?_
  refine z_iconst hx hb d_SH_init_35 ?_
  refine rc_i (va_runS (As := [.int (iI (2002)), .int (iI (3))]) (rest := [.int (iI (2)), .ref nw1]) ⟨hx, hb, hml, hown, hts⟩ (c_AL_lastSunday l D k (2002) (3) ((by omega)) ((by omega))) ⟨callB_of 2 hts (good_AL_lastSunday) rfl rfl rfl (hts _ k_61) (hts _ k_89) (by decide +kernel) ⟨Nat.le_of_ble_eq_true rfl, Nat.le_of_ble_eq_true rfl⟩, (hts _ k_90)⟩ ⟨fun a U g mk q => ⟨q.1, q.2.1, va_K.moved (u := U) (U := U.calling g mk a) (Vm.Alike.refl U.vm) q.2.2.1, q.2.2.2.calling⟩, fun U hU hW => ⟨rfl, by rw [hU]; exact (hP.sub (ws' := []) [] rfl), va_K.moved hW.alike hK, by rw [hU]; exact (hX.mono hS (fun _ h => absurd h id)).warm hW⟩⟩ rfl rfl hl.1 rfl (lv_room (Nat.le_of_ble_eq_true rfl)) d_SH_init_36 ⟨Nat.le_of_ble_eq_true rfl, Nat.le_of_ble_eq_true rfl⟩) (fun xr_7 h_xr_7 => ?_)
  subst h_xr_7
  refine x_iast hx hb hK hP hD hS 1 0 rfl rfl (2) rfl (by decide) (by omega) d_SH_init_39 (fun H locs hP hD hS => ?_)
  rw [aZ_upd] at hP hD
  have hP : va_P D classes [(h0, .inr (7, [.ref nw1, .ref nw2, .int (bI (false))])), (nw1, .inl (k 0, 4, .inl (aZ (updZ (updZ (updZ (fun _ => 0) (0) (lSun 2000 3)) (1) (lSun 2001 3)) (2) (lSun 2002 3))))), (nw2, .inl (k 0, 4, .inl (aZ (updZ (updZ (fun _ => 0) (0) (lSun 2000 10)) (1) (lSun 2001 10)))))] H := hP
  have hD : va_D (va_A [(h0, .inr (7, [.null, .null, .int (bI (false))]))] s.heap.size) [(h0, .inr (7, [.ref nw1, .ref nw2, .int (bI (false))])), (nw1, .inl (k 0, 4, .inl (aZ (updZ (updZ (updZ (fun _ => 0) (0) (lSun 2000 3)) (1) (lSun 2001 3)) (2) (lSun 2002 3))))), (nw2, .inl (k 0, 4, .inl (aZ (updZ (updZ (fun _ => 0) (0) (lSun 2000 10)) (1) (lSun 2001 10)))))] := hD
  refine lv_aload_n hx hb d_SH_init_40 rfl (lv_at hl 1 rfl) ?_
  refine va_get (D := D) (ci := 7) (v := .ref nw2) (C := R_SH) (T := F_SH) (N := 3) hx hb hts in_SH hown hK hP 0 rfl rfl 1 (by decide) (hts _ k_107) (fun _ h9 => h9) rfl d_SH_init_41 ?_
  refine lv_iload_n hx hb d_SH_init_44 rfl (lv_at hl 0 rfl) ?_
  refine z_sipush hx hb d_SH_init_45 (by decide) ?_
  refine lv_iload_n hx hb d_SH_init_48 rfl (lv_at hl 0 rfl) ?_
  refine z_iadd hx hb d_SH_init_49 ?_
  refine z_bipush hx hb d_SH_init_50 (by decide) ?_
  refine rc_i (va_runS (As := [.int (iI (2002)), .int (iI (10))]) (rest := [.int (iI (2)), .ref nw2]) ⟨hx, hb, hml, hown, hts⟩ (c_AL_lastSunday l D k (2002) (10) ((by omega)) ((by omega))) ⟨callB_of 2 hts (good_AL_lastSunday) rfl rfl rfl (hts _ k_61) (hts _ k_89) (by decide +kernel) ⟨Nat.le_of_ble_eq_true rfl, Nat.le_of_ble_eq_true rfl⟩, (hts _ k_90)⟩ ⟨fun a U g mk q => ⟨q.1, q.2.1, va_K.moved (u := U) (U := U.calling g mk a) (Vm.Alike.refl U.vm) q.2.2.1, q.2.2.2.calling⟩, fun U hU hW => ⟨rfl, by rw [hU]; exact (hP.sub (ws' := []) [] rfl), va_K.moved hW.alike hK, by rw [hU]; exact (hX.mono hS (fun _ h => absurd h id)).warm hW⟩⟩ rfl rfl hl.1 rfl (lv_room (Nat.le_of_ble_eq_true rfl)) d_SH_init_52 ⟨Nat.le_of_ble_eq_true rfl, Nat.le_of_ble_eq_true rfl⟩) (fun xr_8 h_xr_8 => ?_)
  subst h_xr_8
  refine x_iast hx hb hK hP hD hS 2 0 rfl rfl (2) rfl (by decide) (by omega) d_SH_init_55 (fun H locs hP hD hS => ?_)
  rw [aZ_upd] at hP hD
  have hP : va_P D classes [(h0, .inr (7, [.ref nw1, .ref nw2, .int (bI (false))])), (nw1, .inl (k 0, 4, .inl (aZ (updZ (updZ (updZ (fun _ => 0) (0) (lSun 2000 3)) (1) (lSun 2001 3)) (2) (lSun 2002 3))))), (nw2, .inl (k 0, 4, .inl (aZ (updZ (updZ (updZ (fun _ => 0) (0) (lSun 2000 10)) (1) (lSun 2001 10)) (2) (lSun 2002 10)))))] H := hP
  have hD : va_D (va_A [(h0, .inr (7, [.null, .null, .int (bI (false))]))] s.heap.size) [(h0, .inr (7, [.ref nw1, .ref nw2, .int (bI (false))])), (nw1, .inl (k 0, 4, .inl (aZ (updZ (updZ (updZ (fun _ => 0) (0) (lSun 2000 3)) (1) (lSun 2001 3)) (2) (lSun 2002 3))))), (nw2, .inl (k 0, 4, .inl (aZ (updZ (updZ (updZ (fun _ => 0) (0) (lSun 2000 10)) (1) (lSun 2001 10)) (2) (lSun 2002 10)))))] := hD
  refine z_iinc (k := 0) (a := 2) (lv' := [(1, .int (iI (3))), (0, .ref h0)]) hx hb d_SH_init_56 hl rfl (by decide) rfl (fun ls hl => ?_)
  refine lv_goto (tgt := 20) hx hb d_SH_init_59 (by decide) ?_
  refine lv_iload_n hx hb d_SH_init_20 rfl (lv_at hl 0 rfl) ?_
  refine z_iconst hx hb d_SH_init_21 ?_
  refine z_icmp_ge (tgt := 62) hx hb d_SH_init_22 (by decide) ⟨by omega, by omega⟩ ⟨by omega, by omega⟩ (fun h22 => absurd h22 (by decide)) (fun h22 => ?_)
  refine lv_aload_n hx hb d_SH_init_25 rfl (lv_at hl 1 rfl) ?_
  refine va_get (D := D) (ci := 7) (v := .ref nw1) (C := R_SH) (T := F_SH) (N := 3) hx hb hts in_SH hown hK hP 0 rfl rfl 0 (by decide) (hts _ k_106) (fun _ h9 => h9) rfl d_SH_init_26 ?_
  refine lv_iload_n hx hb d_SH_init_29 rfl (lv_at hl 0 rfl) ?_
  refine z_sipush hx hb d_SH_init_30 (by decide) ?_
  refine lv_iload_n hx hb d_SH_init_33 rfl (lv_at hl 0 rfl) ?_
  refine z_iadd hx hb d_SH_init_34 ?_
  refine z_iconst hx hb d_SH_init_35 ?_
  refine rc_i (va_runS (As := [.int (iI (2003)), .int (iI (3))]) (rest := [.int (iI (3)), .ref nw1]) ⟨hx, hb, hml, hown, hts⟩ (c_AL_lastSunday l D k (2003) (3) ((by omega)) ((by omega))) ⟨callB_of 2 hts (good_AL_lastSunday) rfl rfl rfl (hts _ k_61) (hts _ k_89) (by decide +kernel) ⟨Nat.le_of_ble_eq_true rfl, Nat.le_of_ble_eq_true rfl⟩, (hts _ k_90)⟩ ⟨fun a U g mk q => ⟨q.1, q.2.1, va_K.moved (u := U) (U := U.calling g mk a) (Vm.Alike.refl U.vm) q.2.2.1, q.2.2.2.calling⟩, fun U hU hW => ⟨rfl, by rw [hU]; exact (hP.sub (ws' := []) [] rfl), va_K.moved hW.alike hK, by rw [hU]; exact (hX.mono hS (fun _ h => absurd h id)).warm hW⟩⟩ rfl rfl hl.1 rfl (lv_room (Nat.le_of_ble_eq_true rfl)) d_SH_init_36 ⟨Nat.le_of_ble_eq_true rfl, Nat.le_of_ble_eq_true rfl⟩) (fun xr_9 h_xr_9 => ?_)
  subst h_xr_9
  refine x_iast hx hb hK hP hD hS 1 0 rfl rfl (3) rfl (by decide) (by omega) d_SH_init_39 (fun H locs hP hD hS => ?_)
  rw [aZ_upd] at hP hD
  have hP : va_P D classes [(h0, .inr (7, [.ref nw1, .ref nw2, .int (bI (false))])), (nw1, .inl (k 0, 4, .inl (aZ (updZ (updZ (updZ (updZ (fun _ => 0) (0) (lSun 2000 3)) (1) (lSun 2001 3)) (2) (lSun 2002 3)) (3) (lSun 2003 3))))), (nw2, .inl (k 0, 4, .inl (aZ (updZ (updZ (updZ (fun _ => 0) (0) (lSun 2000 10)) (1) (lSun 2001 10)) (2) (lSun 2002 10)))))] H := hP
  have hD : va_D (va_A [(h0, .inr (7, [.null, .null, .int (bI (false))]))] s.heap.size) [(h0, .inr (7, [.ref nw1, .ref nw2, .int (bI (false))])), (nw1, .inl (k 0, 4, .inl (aZ (updZ (updZ (updZ (updZ (fun _ => 0) (0) (lSun 2000 3)) (1) (lSun 2001 3)) (2) (lSun 2002 3)) (3) (lSun 2003 3))))), (nw2, .inl (k 0, 4, .inl (aZ (updZ (updZ (updZ (fun _ => 0) (0) (lSun 2000 10)) (1) (lSun 2001 10)) (2) (lSun 2002 10)))))] := hD
  refine lv_aload_n hx hb d_SH_init_40 rfl (lv_at hl 1 rfl) ?_
  refine va_get (D := D) (ci := 7) (v := .ref nw2) (C := R_SH) (T := F_SH) (N := 3) hx hb hts in_SH hown hK hP 0 rfl rfl 1 (by decide) (hts _ k_107) (fun _ h9 => h9) rfl d_SH_init_41 ?_
  refine lv_iload_n hx hb d_SH_init_44 rfl (lv_at hl 0 rfl) ?_
  refine z_sipush hx hb d_SH_init_45 (by decide) ?_
  refine lv_iload_n hx hb d_SH_init_48 rfl (lv_at hl 0 rfl) ?_
  refine z_iadd hx hb d_SH_init_49 ?_
  refine z_bipush hx hb d_SH_init_50 (by decide) ?_
  refine rc_i (va_runS (As := [.int (iI (2003)), .int (iI (10))]) (rest := [.int (iI (3)), .ref nw2]) ⟨hx, hb, hml, hown, hts⟩ (c_AL_lastSunday l D k (2003) (10) ((by omega)) ((by omega))) ⟨callB_of 2 hts (good_AL_lastSunday) rfl rfl rfl (hts _ k_61) (hts _ k_89) (by decide +kernel) ⟨Nat.le_of_ble_eq_true rfl, Nat.le_of_ble_eq_true rfl⟩, (hts _ k_90)⟩ ⟨fun a U g mk q => ⟨q.1, q.2.1, va_K.moved (u := U) (U := U.calling g mk a) (Vm.Alike.refl U.vm) q.2.2.1, q.2.2.2.calling⟩, fun U hU hW => ⟨rfl, by rw [hU]; exact (hP.sub (ws' := []) [] rfl), va_K.moved hW.alike hK, by rw [hU]; exact (hX.mono hS (fun _ h => absurd h id)).warm hW⟩⟩ rfl rfl hl.1 rfl (lv_room (Nat.le_of_ble_eq_true rfl)) d_SH_init_52 ⟨Nat.le_of_ble_eq_true rfl, Nat.le_of_ble_eq_true rfl⟩) (fun xr_10 h_xr_10 => ?_)
  subst h_xr_10
  refine x_iast hx hb hK hP hD hS 2 0 rfl rfl (3) rfl (by decide) (by omega) d_SH_init_55 (fun H locs hP hD hS => ?_)
  rw [aZ_upd] at hP hD
  have hP : va_P D classes [(h0, .inr (7, [.ref nw1, .ref nw2, .int (bI (false))])), (nw1, .inl (k 0, 4, .inl (aZ (updZ (updZ (updZ (updZ (fun _ => 0) (0) (lSun 2000 3)) (1) (lSun 2001 3)) (2) (lSun 2002 3)) (3) (lSun 2003 3))))), (nw2, .inl (k 0, 4, .inl (aZ (updZ (updZ (updZ (updZ (fun _ => 0) (0) (lSun 2000 10)) (1) (lSun 2001 10)) (2) (lSun 2002 10)) (3) (lSun 2003 10)))))] H := hP
  have hD : va_D (va_A [(h0, .inr (7, [.null, .null, .int (bI (false))]))] s.heap.size) [(h0, .inr (7, [.ref nw1, .ref nw2, .int (bI (false))])), (nw1, .inl (k 0, 4, .inl (aZ (updZ (updZ (updZ (updZ (fun _ => 0) (0) (lSun 2000 3)) (1) (lSun 2001 3)) (2) (lSun 2002 3)) (3) (lSun 2003 3))))), (nw2, .inl (k 0, 4, .inl (aZ (updZ (updZ (updZ (updZ (fun _ => 0) (0) (lSun 2000 10)) (1) (lSun 2001 10)) (2) (lSun 2002 10)) (3) (lSun 2003 10)))))] := hD
  refine z_iinc (k := 0) (a := 3) (lv' := [(1, .int (iI (4))), (0, .ref h0)]) hx hb d_SH_init_56 hl rfl (by decide) rfl (fun ls hl => ?_)
  refine lv_goto (tgt := 20) hx hb d_SH_init_59 (by decide) ?_
  refine lv_iload_n hx hb d_SH_init_20 rfl (lv_at hl 0 rfl) ?_
  refine z_iconst hx hb d_SH_init_21 ?_
  refine z_icmp_ge (tgt := 62) hx hb d_SH_init_22 (by decide) ⟨by omega, by omega⟩ ⟨by omega, by omega⟩ (fun h22 => ?_) (fun h22 => absurd h22 (by decide))
  have hP := P_cell 1 (y := (4, .inl (aZ losZ))) rfl (cellZ (fun j hj => (los_at hj).1)) hP
  have hD := D_cell 1 (y := .inl (k 0, 4, .inl (aZ losZ))) rfl hD
  have hP : va_P D classes [(h0, .inr (7, [.ref nw1, .ref nw2, .int (bI (false))])), (nw1, .inl (k 0, 4, .inl (aZ (losZ)))), (nw2, .inl (k 0, 4, .inl (aZ (updZ (updZ (updZ (updZ (fun _ => 0) (0) (lSun 2000 10)) (1) (lSun 2001 10)) (2) (lSun 2002 10)) (3) (lSun 2003 10)))))] H := hP
  have hD : va_D (va_A [(h0, .inr (7, [.null, .null, .int (bI (false))]))] s.heap.size) [(h0, .inr (7, [.ref nw1, .ref nw2, .int (bI (false))])), (nw1, .inl (k 0, 4, .inl (aZ (losZ)))), (nw2, .inl (k 0, 4, .inl (aZ (updZ (updZ (updZ (updZ (fun _ => 0) (0) (lSun 2000 10)) (1) (lSun 2001 10)) (2) (lSun 2002 10)) (3) (lSun 2003 10)))))] := hD
  have hP := P_cell 2 (y := (4, .inl (aZ dblZ))) rfl (cellZ (fun j hj => (los_at hj).2)) hP
  have hD := D_cell 2 (y := .inl (k 0, 4, .inl (aZ dblZ))) rfl hD
  have hP : va_P D classes [(h0, .inr (7, [.ref nw1, .ref nw2, .int (bI (false))])), (nw1, .inl (k 0, 4, .inl (aZ (losZ)))), (nw2, .inl (k 0, 4, .inl (aZ (dblZ))))] H := hP
  have hD : va_D (va_A [(h0, .inr (7, [.null, .null, .int (bI (false))]))] s.heap.size) [(h0, .inr (7, [.ref nw1, .ref nw2, .int (bI (false))])), (nw1, .inl (k 0, 4, .inl (aZ (losZ)))), (nw2, .inl (k 0, 4, .inl (aZ (dblZ))))] := hD
  exact ret _ _ _ 62 (ad [nw1, nw2]) d_SH_init_62 hS (trivial) (fun t ht _ => ⟨by rw [ht]; exact hP, hD⟩)
