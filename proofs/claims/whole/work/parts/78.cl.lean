set_option maxHeartbeats 16000000 in
set_option maxRecDepth 100000 in
theorem k_AL (l : Launch) (D : va_G) (k : Nat → ClassId) (sz : Nat) (h0 : Nat) : Met l y_AL_init wd_AL_init rk_AL (va_Pc [.ref h0] (PRK D k [(h0, .inr (1, [.null, .null]))] sz)) (va_Qv (fun u : Nat → Nat => True) (fun u t => BRW D [(h0, .inr (1, [.null, .null]))] sz [(h0, .inr (1, [.ref (u 0), .ref (u 1)])), (u 0, .inl (k 0, 1461, .inl (aZ (dateZ)))), (u 1, .inl (k 0, 4, .inl (aZ (feaZ))))] t) (va_A [(h0, .inr (1, [.null, .null]))] sz)) 2 1465 (va_A [(h0, .inr (1, [.null, .null]))] sz) := by
  refine e_v (by decide) rfl (Nat.le_of_ble_eq_true rfl) ?_
  intro p e s m args below meth c Q ls hx hb hml hown hts hpre hl hin ret
  obtain ⟨⟨hsz, hP, hK, hD0, hX⟩, hAO⟩ := hpre
  subst hsz
  have hD := hD0.self (sz := s.heap.size)
  have hA : ∀ q : Nat, s.heap.size ≤ q → (va_A [(h0, .inr (1, [.null, .null]))] s.heap.size) q := fun q h => Or.inr h
  have hS : va_S (va_A [(h0, .inr (1, [.null, .null]))] s.heap.size) s.heap s.heap [] := va_S.rf
  have hl : lv_has ls 5 [(0, .ref h0)] := hl
  refine lv_aload_n hx hb d_AL_init_0 rfl (lv_at hl 0 rfl) ?_
  refine W.objInit hx hb hown (hts _ k_124) (hts _ k_81) (hts _ k_82) rfl (by rw [hml]; exact hl.1) rfl d_AL_init_1 (Nat.le_of_ble_eq_true rfl) (Nat.le_of_ble_eq_true rfl) ?_
  refine W.eq (g2 := F0 m 4 ls []) rfl ?_
  refine lv_aload_n hx hb d_AL_init_4 rfl (lv_at hl 0 rfl) ?_
  refine z_sipush hx hb d_AL_init_5 (by decide) ?_
  refine x_newa (atype := .int) (ty := .int) (kc := k 0) (tys := TY k) (a0 := (1461, .inl (aZ (fun _ => 0)))) (n := iI (1461)) (N' := 1461) hx hb (hts _ k_118) rfl hK 0 rfl hP hD hS hA (fun _ => rfl) (by decide) (by decide) (by decide) (Nat.le_of_ble_eq_true rfl) (Nat.le_of_ble_eq_true rfl) d_AL_init_8 (fun nw1 H hP hD hS => ?_)
  have hP : va_P D classes [(h0, .inr (1, [.null, .null])), (nw1, .inl (k 0, 1461, .inl (aZ (fun _ => 0))))] H := hP
  have hD : va_D (va_A [(h0, .inr (1, [.null, .null]))] s.heap.size) [(h0, .inr (1, [.null, .null])), (nw1, .inl (k 0, 1461, .inl (aZ (fun _ => 0))))] := hD
  refine va_putF (D := D) (ci := 1) (v := .ref nw1) (ty := .array .int) (C := R_AL) (T := F_AL) (N := 2) hx hb hts in_AL t_AL t_AL_ok n_AL hown hK hP hD hS 0 rfl rfl 0 (by decide) (hts _ k_128) (fun _ h9 => h9) rfl hin rfl (by decide +kernel) rfl rfl (Nat.le_of_ble_eq_true rfl) d_AL_init_10 (fun H locs hP hD hS => ?_)
  have hP : va_P D classes [(h0, .inr (1, [.ref nw1, .null])), (nw1, .inl (k 0, 1461, .inl (aZ (fun _ => 0))))] H := hP
  have hD : va_D (va_A [(h0, .inr (1, [.null, .null]))] s.heap.size) [(h0, .inr (1, [.ref nw1, .null])), (nw1, .inl (k 0, 1461, .inl (aZ (fun _ => 0))))] := hD
  refine lv_aload_n hx hb d_AL_init_13 rfl (lv_at hl 0 rfl) ?_
  refine z_iconst hx hb d_AL_init_14 ?_
  refine x_newa (atype := .int) (ty := .int) (kc := k 0) (tys := TY k) (a0 := (4, .inl (aZ (fun _ => 0)))) (n := iI (4)) (N' := 4) hx hb (hts _ k_118) rfl hK 0 rfl hP hD hS hA (fun _ => rfl) (by decide) (by decide) (by decide) (Nat.le_of_ble_eq_true rfl) (Nat.le_of_ble_eq_true rfl) d_AL_init_15 (fun nw2 H hP hD hS => ?_)
  have hP : va_P D classes [(h0, .inr (1, [.ref nw1, .null])), (nw1, .inl (k 0, 1461, .inl (aZ (fun _ => 0)))), (nw2, .inl (k 0, 4, .inl (aZ (fun _ => 0))))] H := hP
  have hD : va_D (va_A [(h0, .inr (1, [.null, .null]))] s.heap.size) [(h0, .inr (1, [.ref nw1, .null])), (nw1, .inl (k 0, 1461, .inl (aZ (fun _ => 0)))), (nw2, .inl (k 0, 4, .inl (aZ (fun _ => 0))))] := hD
  refine va_putF (D := D) (ci := 1) (v := .ref nw2) (ty := .array .int) (C := R_AL) (T := F_AL) (N := 2) hx hb hts in_AL t_AL t_AL_ok n_AL hown hK hP hD hS 0 rfl rfl 1 (by decide) (hts _ k_129) (fun _ h9 => h9) rfl hin rfl (by decide +kernel) rfl rfl (Nat.le_of_ble_eq_true rfl) d_AL_init_17 (fun H locs hP hD hS => ?_)
  have hP : va_P D classes [(h0, .inr (1, [.ref nw1, .ref nw2])), (nw1, .inl (k 0, 1461, .inl (aZ (fun _ => 0)))), (nw2, .inl (k 0, 4, .inl (aZ (fun _ => 0))))] H := hP
  have hD : va_D (va_A [(h0, .inr (1, [.null, .null]))] s.heap.size) [(h0, .inr (1, [.ref nw1, .ref nw2])), (nw1, .inl (k 0, 1461, .inl (aZ (fun _ => 0)))), (nw2, .inl (k 0, 4, .inl (aZ (fun _ => 0))))] := hD
  refine z_iconst hx hb d_AL_init_20 ?_
  refine lv_istore_n (lv' := [(1, .int (iI (0))), (0, .ref h0)]) hx hb d_AL_init_21 rfl hl (by decide) rfl (fun ls hl => ?_)
  refine z_sipush hx hb d_AL_init_22 (by decide) ?_
  refine lv_istore_n (lv' := [(2, .int (iI (2000))), (1, .int (iI (0))), (0, .ref h0)]) hx hb d_AL_init_25 rfl hl (by decide) rfl (fun ls hl => ?_)
  have L26 : ∀ (fu : Nat) (y9 : Nat) (zy : Int) (n9 : Nat) (zd : Int) (Dt : Nat → Int) (Ft : Nat → Int) (ls : Array Slot) (H : Heap) (locs : List Loc), zy = 2000 + (y9 : Int) → zd = (n9 : Int) → y9 ≤ 4 → (n9 : Int) = fDay (2000 + (y9 : Int)) → Dt = dtU n9 → Ft = ftU y9 → 4 - y9 < fu → lv_has ls 5 [(0, .ref h0), (1, .int (iI (zd))), (2, .int (iI (zy)))] → va_P D classes [(h0, .inr (1, [.ref nw1, .ref nw2])), (nw1, .inl (k 0, 1461, .inl (aZ (Dt)))), (nw2, .inl (k 0, 4, .inl (aZ (Ft))))] H → va_D (va_A [(h0, .inr (1, [.null, .null]))] s.heap.size) [(h0, .inr (1, [.ref nw1, .ref nw2])), (nw1, .inl (k 0, 1461, .inl (aZ (Dt)))), (nw2, .inl (k 0, 4, .inl (aZ (Ft))))] → va_S (va_A [(h0, .inr (1, [.null, .null]))] s.heap.size) s.heap H locs → W p l e rk_AL s m args below meth c H locs 2 1465 Q (F0 m 26 ls []) := by
    intro fu
    induction fu with
    | zero => intro y9 zy n9 zd Dt Ft ls H locs hzy hzd hy9 hn9 hDt hFt hmu; exact absurd hmu (Nat.not_lt_zero _)
    | succ fu ih26 =>
      intro y9 zy n9 zd Dt Ft ls H locs hzy hzd hy9 hn9 hDt hFt hmu hl hP hD hS
      subst hzy
      subst hzd
      refine lv_iload_n hx hb d_AL_init_26 rfl (lv_at hl 2 rfl) ?_
      refine z_sipush hx hb d_AL_init_27 (by decide) ?_
      refine z_icmp_ge (tgt := 128) hx hb d_AL_init_30 (by decide) ⟨by omega, by omega⟩ ⟨by omega, by omega⟩ (fun h30 => ?_) (fun h30 => ?_)
      · have hy4 : y9 = 4 := by omega
        have hf4 : fDay (2000 + ((4 : Nat) : Int)) = 1461 := by decide
        have hn4 : n9 = 1461 := by rw [hy4, hf4] at hn9; omega
        rw [hDt, hn4, hFt, hy4] at hP hD
        have hP : va_P D classes [(h0, .inr (1, [.ref nw1, .ref nw2])), (nw1, .inl (k 0, 1461, .inl (aZ (dtU 1461)))), (nw2, .inl (k 0, 4, .inl (aZ (ftU 4))))] H := hP
        have hD : va_D (va_A [(h0, .inr (1, [.null, .null]))] s.heap.size) [(h0, .inr (1, [.ref nw1, .ref nw2])), (nw1, .inl (k 0, 1461, .inl (aZ (dtU 1461)))), (nw2, .inl (k 0, 4, .inl (aZ (ftU 4))))] := hD
        have hP := P_cell 1 (y := (1461, .inl (aZ dateZ))) rfl (cellZ (fun j hj => if_pos hj)) hP
        have hD := D_cell 1 (y := .inl (k 0, 1461, .inl (aZ dateZ))) rfl hD
        have hP : va_P D classes [(h0, .inr (1, [.ref nw1, .ref nw2])), (nw1, .inl (k 0, 1461, .inl (aZ (dateZ)))), (nw2, .inl (k 0, 4, .inl (aZ (ftU 4))))] H := hP
        have hD : va_D (va_A [(h0, .inr (1, [.null, .null]))] s.heap.size) [(h0, .inr (1, [.ref nw1, .ref nw2])), (nw1, .inl (k 0, 1461, .inl (aZ (dateZ)))), (nw2, .inl (k 0, 4, .inl (aZ (ftU 4))))] := hD
        have hP := P_cell 2 (y := (4, .inl (aZ feaZ))) rfl (cellZ (fun j hj => if_pos hj)) hP
        have hD := D_cell 2 (y := .inl (k 0, 4, .inl (aZ feaZ))) rfl hD
        have hP : va_P D classes [(h0, .inr (1, [.ref nw1, .ref nw2])), (nw1, .inl (k 0, 1461, .inl (aZ (dateZ)))), (nw2, .inl (k 0, 4, .inl (aZ (feaZ))))] H := hP
        have hD : va_D (va_A [(h0, .inr (1, [.null, .null]))] s.heap.size) [(h0, .inr (1, [.ref nw1, .ref nw2])), (nw1, .inl (k 0, 1461, .inl (aZ (dateZ)))), (nw2, .inl (k 0, 4, .inl (aZ (feaZ))))] := hD
        exact ret _ _ _ 128 (ad [nw1, nw2]) d_AL_init_128 hS (trivial) (fun t ht _ => ⟨by rw [ht]; exact hP, hD⟩)
      · refine z_iconst hx hb d_AL_init_33 ?_
        refine lv_istore_n (lv' := [(3, .int (iI (1))), (0, .ref h0), (1, .int (iI ((n9 : Int)))), (2, .int (iI (2000 + (y9 : Int))))]) hx hb d_AL_init_34 rfl hl (by decide) rfl (fun ls hl => ?_)
        have L35 : ∀ (fu : Nat) (m9 : Nat) (zm : Int) (n8 : Nat) (zd8 : Int) (Dt8 : Nat → Int) (ls : Array Slot) (H : Heap) (locs : List Loc), zm = (m9 : Int) + 1 → zd8 = (n8 : Int) → m9 ≤ 12 → (n8 : Int) = fDay (2000 + (y9 : Int)) + mSum (2000 + (y9 : Int)) m9 → Dt8 = dtU n8 → 12 - m9 < fu → lv_has ls 5 [(0, .ref h0), (1, .int (iI (zd8))), (2, .int (iI (2000 + (y9 : Int)))), (3, .int (iI (zm)))] → va_P D classes [(h0, .inr (1, [.ref nw1, .ref nw2])), (nw1, .inl (k 0, 1461, .inl (aZ (Dt8)))), (nw2, .inl (k 0, 4, .inl (aZ (Ft))))] H → va_D (va_A [(h0, .inr (1, [.null, .null]))] s.heap.size) [(h0, .inr (1, [.ref nw1, .ref nw2])), (nw1, .inl (k 0, 1461, .inl (aZ (Dt8)))), (nw2, .inl (k 0, 4, .inl (aZ (Ft))))] → va_S (va_A [(h0, .inr (1, [.null, .null]))] s.heap.size) s.heap H locs → W p l e rk_AL s m args below meth c H locs 2 1465 Q (F0 m 35 ls []) := by
          intro fu
          induction fu with
          | zero => intro m9 zm n8 zd8 Dt8 ls H locs hzm hzd8 hm9 hn8 hD8 hmu; exact absurd hmu (Nat.not_lt_zero _)
          | succ fu ih35 =>
            intro m9 zm n8 zd8 Dt8 ls H locs hzm hzd8 hm9 hn8 hD8 hmu hl hP hD hS
            subst hzm
            subst hzd8
            refine lv_iload_n hx hb d_AL_init_35 rfl (lv_at hl 3 rfl) ?_
            refine z_bipush hx hb d_AL_init_36 (by decide) ?_
            refine z_icmp_gt (tgt := 95) hx hb d_AL_init_38 (by decide) ⟨by omega, by omega⟩ ⟨by omega, by omega⟩ (fun h38 => ?_) (fun h38 => ?_)
            · refine lv_iload_n hx hb d_AL_init_95 rfl (lv_at hl 2 rfl) ?_
              refine rc_i (va_runS (As := [.int (iI (2000 + (y9 : Int)))]) (rest := []) ⟨hx, hb, hml, hown, hts⟩ (c_AL_feastDate l D k (2000 + (y9 : Int)) (⟨by omega, by omega⟩)) ⟨callB_of 1 hts (good_AL_feastDate) rfl rfl rfl (hts _ k_61) (hts _ k_125) (by decide +kernel) ⟨Nat.le_of_ble_eq_true rfl, Nat.le_of_ble_eq_true rfl⟩, (hts _ k_126)⟩ ⟨fun a U g mk q => ⟨q.1, q.2.1, va_K.moved (u := U) (U := U.calling g mk a) (Vm.Alike.refl U.vm) q.2.2.1, q.2.2.2.calling⟩, fun U hU hW => ⟨rfl, by rw [hU]; exact (hP.sub (ws' := []) [] rfl), va_K.moved hW.alike hK, by rw [hU]; exact (hX.mono hS (fun _ h => absurd h id)).warm hW⟩⟩ rfl rfl hl.1 rfl (lv_room (Nat.le_of_ble_eq_true rfl)) d_AL_init_96 ⟨Nat.le_of_ble_eq_true rfl, Nat.le_of_ble_eq_true rfl⟩) (fun xr_3 h_xr_3 => ?_)
              subst h_xr_3
              obtain ⟨y1, y2, y3, y4, y5⟩ := yr_at (y := y9) (by omega)
              refine lv_istore_n (lv' := [(3, .int (iI (feastZ (2000 + (y9 : Int))))), (0, .ref h0), (1, .int (iI ((n8 : Int)))), (2, .int (iI (2000 + (y9 : Int))))]) hx hb d_AL_init_99 rfl hl (by decide) rfl (fun ls hl => ?_)
              refine lv_aload_n hx hb d_AL_init_100 rfl (lv_at hl 1 rfl) ?_
              refine va_get (D := D) (ci := 1) (v := .ref nw2) (C := R_AL) (T := F_AL) (N := 2) hx hb hts in_AL hown hK hP 0 rfl rfl 1 (by decide) (hts _ k_129) (fun _ h9 => h9) rfl d_AL_init_101 ?_
              refine lv_iload_n hx hb d_AL_init_104 rfl (lv_at hl 3 rfl) ?_
              refine z_sipush hx hb d_AL_init_105 (by decide) ?_
              refine z_isub hx hb d_AL_init_108 ?_
              refine lv_iload_n hx hb d_AL_init_109 rfl (lv_at hl 3 rfl) ?_
              refine lv_iload_n hx hb d_AL_init_110 rfl (lv_at hl 0 rfl) ?_
              refine z_bipush hx hb d_AL_init_111 (by decide) ?_
              refine z_idiv hx hb d_AL_init_113 ⟨by omega, by omega⟩ (by omega) ⟨by omega, by omega⟩ (by omega) ?_
              refine lv_iload_n hx hb d_AL_init_114 rfl (lv_at hl 0 rfl) ?_
              refine z_bipush hx hb d_AL_init_115 (by decide) ?_
              refine z_irem hx hb d_AL_init_117 ⟨by omega, by omega⟩ (by omega) ⟨by omega, by omega⟩ (by omega) ?_
              refine rc_i (va_runS (As := [.int (iI (2000 + (y9 : Int))), .int (iI ((feastZ (2000 + (y9 : Int))) / (100))), .int (iI ((feastZ (2000 + (y9 : Int))) % (100)))]) (rest := [.int (iI ((2000 + (y9 : Int)) - 2000)), .ref nw2]) ⟨hx, hb, hml, hown, hts⟩ (c_AL_dayNumber l D k (2000 + (y9 : Int)) ((feastZ (2000 + (y9 : Int))) / (100)) ((feastZ (2000 + (y9 : Int))) % (100)) (⟨by omega, by omega⟩) (⟨by omega, by omega⟩) (⟨by omega, by omega⟩)) ⟨callB_of 3 hts (good_AL_dayNumber) rfl rfl rfl (hts _ k_61) (hts _ k_97) (by decide +kernel) ⟨Nat.le_of_ble_eq_true rfl, Nat.le_of_ble_eq_true rfl⟩, (hts _ k_98)⟩ ⟨fun a U g mk q => ⟨q.1, q.2.1, va_K.moved (u := U) (U := U.calling g mk a) (Vm.Alike.refl U.vm) q.2.2.1, q.2.2.2.calling⟩, fun U hU hW => ⟨rfl, by rw [hU]; exact (hP.sub (ws' := []) [] rfl), va_K.moved hW.alike hK, by rw [hU]; exact (hX.mono hS (fun _ h => absurd h id)).warm hW⟩⟩ rfl rfl hl.1 rfl (lv_room (Nat.le_of_ble_eq_true rfl)) d_AL_init_118 ⟨Nat.le_of_ble_eq_true rfl, Nat.le_of_ble_eq_true rfl⟩) (fun xr_4 h_xr_4 => ?_)
              subst h_xr_4
              have hdn := True.intro
              refine x_iast hx hb hK hP hD hS 2 0 rfl rfl (y9) (by omega) (by omega) (by omega) d_AL_init_121 (fun H locs hP hD hS => ?_)
              rw [aZ_upd] at hP hD
              have hP : va_P D classes [(h0, .inr (1, [.ref nw1, .ref nw2])), (nw1, .inl (k 0, 1461, .inl (aZ (Dt8)))), (nw2, .inl (k 0, 4, .inl (aZ (updZ (Ft) (y9) (dNum (2000 + (y9 : Int)) ((feastZ (2000 + (y9 : Int))) / (100)) ((feastZ (2000 + (y9 : Int))) % (100)))))))] H := hP
              have hD : va_D (va_A [(h0, .inr (1, [.null, .null]))] s.heap.size) [(h0, .inr (1, [.ref nw1, .ref nw2])), (nw1, .inl (k 0, 1461, .inl (aZ (Dt8)))), (nw2, .inl (k 0, 4, .inl (aZ (updZ (Ft) (y9) (dNum (2000 + (y9 : Int)) ((feastZ (2000 + (y9 : Int))) / (100)) ((feastZ (2000 + (y9 : Int))) % (100)))))))] := hD
              refine z_iinc (k := 3) (a := 2000 + (y9 : Int)) (lv' := [(2, .int (iI ((2000 + (y9 : Int)) + 1))), (3, .int (iI (feastZ (2000 + (y9 : Int))))), (0, .ref h0), (1, .int (iI ((n8 : Int))))]) hx hb d_AL_init_122 hl rfl (by decide) rfl (fun ls hl => ?_)
              refine lv_goto (tgt := 26) hx hb d_AL_init_125 (by decide) ?_
              exact ih26 (y9 + 1) (2000 + (y9 : Int) + 1) (n8) ((n8 : Int)) (Dt8) (updZ Ft (y9) (dNum (2000 + (y9 : Int)) ((feastZ (2000 + (y9 : Int))) / (100)) ((feastZ (2000 + (y9 : Int))) % (100)))) ls H locs (by omega) (by omega) (by omega) (by rw [show 2000 + ((y9 + 1 : Nat) : Int) = 2000 + (y9 : Int) + 1 by omega, ← y1, hn8, show m9 = 12 by omega]) (by exact hD8) (by rw [hFt]; exact ftU_s (by unfold feaZ; rw [y2])) (by omega) (lv_sub hl [2, 3, 0] rfl) hP hD hS
            · refine z_iconst hx hb d_AL_init_41 ?_
              refine lv_istore (lv' := [(4, .int (iI (1))), (0, .ref h0), (1, .int (iI ((n8 : Int)))), (2, .int (iI (2000 + (y9 : Int)))), (3, .int (iI ((m9 : Int) + 1)))]) hx hb d_AL_init_42 hl (by decide) rfl (fun ls hl => ?_)
              have L44 : ∀ (fu : Nat) (o9 : Nat) (zo : Int) (n7 : Nat) (zd7 : Int) (Dt7 : Nat → Int) (ls : Array Slot) (H : Heap) (locs : List Loc), zo = (o9 : Int) + 1 → zd7 = (n7 : Int) → (o9 : Int) ≤ mLen (2000 + (y9 : Int)) ((m9 : Int) + 1) → (n7 : Int) = fDay (2000 + (y9 : Int)) + mSum (2000 + (y9 : Int)) m9 + (o9 : Int) → Dt7 = dtU n7 → n7 ≤ 3000 ∧ o9 ≤ 31 → (mLen (2000 + (y9 : Int)) ((m9 : Int) + 1)).toNat - o9 < fu → lv_has ls 5 [(0, .ref h0), (1, .int (iI (zd7))), (2, .int (iI (2000 + (y9 : Int)))), (3, .int (iI ((m9 : Int) + 1))), (4, .int (iI (zo)))] → va_P D classes [(h0, .inr (1, [.ref nw1, .ref nw2])), (nw1, .inl (k 0, 1461, .inl (aZ (Dt7)))), (nw2, .inl (k 0, 4, .inl (aZ (Ft))))] H → va_D (va_A [(h0, .inr (1, [.null, .null]))] s.heap.size) [(h0, .inr (1, [.ref nw1, .ref nw2])), (nw1, .inl (k 0, 1461, .inl (aZ (Dt7)))), (nw2, .inl (k 0, 4, .inl (aZ (Ft))))] → va_S (va_A [(h0, .inr (1, [.null, .null]))] s.heap.size) s.heap H locs → W p l e rk_AL s m args below meth c H locs 2 1465 Q (F0 m 44 ls []) := by
                intro fu
                induction fu with
                | zero => intro o9 zo n7 zd7 Dt7 ls H locs hzo hzd7 ho9 hn7 hD7 hb7 hmu; exact absurd hmu (Nat.not_lt_zero _)
                | succ fu ih44 =>
                  intro o9 zo n7 zd7 Dt7 ls H locs hzo hzd7 ho9 hn7 hD7 hb7 hmu hl hP hD hS
                  subst hzo
                  subst hzd7
                  refine lv_iload hx hb d_AL_init_44 (lv_at hl 4 rfl) ?_
                  refine lv_iload_n hx hb d_AL_init_46 rfl (lv_at hl 2 rfl) ?_
                  refine lv_iload_n hx hb d_AL_init_47 rfl (lv_at hl 3 rfl) ?_
                  refine rc_i (va_runS (As := [.int (iI (2000 + (y9 : Int))), .int (iI ((m9 : Int) + 1))]) (rest := [.int (iI ((o9 : Int) + 1))]) ⟨hx, hb, hml, hown, hts⟩ (c_AL_monthLength l D k (2000 + (y9 : Int)) ((m9 : Int) + 1) (⟨by omega, by omega⟩) (⟨by omega, by omega⟩)) ⟨callB_of 2 hts (good_AL_monthLength) rfl rfl rfl (hts _ k_61) (hts _ k_92) (by decide +kernel) ⟨Nat.le_of_ble_eq_true rfl, Nat.le_of_ble_eq_true rfl⟩, (hts _ k_93)⟩ ⟨fun a U g mk q => ⟨q.1, q.2.1, va_K.moved (u := U) (U := U.calling g mk a) (Vm.Alike.refl U.vm) q.2.2.1, q.2.2.2.calling⟩, fun U hU hW => ⟨rfl, by rw [hU]; exact (hP.sub (ws' := []) [] rfl), va_K.moved hW.alike hK, by rw [hU]; exact (hX.mono hS (fun _ h => absurd h id)).warm hW⟩⟩ rfl rfl hl.1 rfl (lv_room (Nat.le_of_ble_eq_true rfl)) d_AL_init_48 ⟨Nat.le_of_ble_eq_true rfl, Nat.le_of_ble_eq_true rfl⟩) (fun xr_5 h_xr_5 => ?_)
                  subst h_xr_5
                  have hmL := mLen_le (2000 + (y9 : Int)) ((m9 : Int) + 1)
                  refine z_icmp_gt (tgt := 89) hx hb d_AL_init_51 (by decide) ⟨by omega, by omega⟩ ⟨by omega, by omega⟩ (fun h51 => ?_) (fun h51 => ?_)
                  · refine z_iinc (k := 3) (a := (m9 : Int) + 1) (lv' := [(3, .int (iI (((m9 : Int) + 1) + 1))), (0, .ref h0), (1, .int (iI ((n7 : Int)))), (2, .int (iI (2000 + (y9 : Int)))), (4, .int (iI ((o9 : Int) + 1)))]) hx hb d_AL_init_89 hl rfl (by decide) rfl (fun ls hl => ?_)
                    refine lv_goto (tgt := 35) hx hb d_AL_init_92 (by decide) ?_
                    exact ih35 (m9 + 1) ((m9 : Int) + 1 + 1) (n7) ((n7 : Int)) (Dt7) ls H locs (by omega) (by omega) (by omega) (by rw [mSum_s]; omega) (by exact hD7) (by omega) (lv_sub hl [1, 2, 3, 0] rfl) hP hD hS
                  · obtain ⟨k1, k2, k3, k4⟩ := alm_at (y := y9) (m := m9) (o := o9) (n := n7) (by omega) (by omega) (by omega) hn7
                    refine lv_iload_n hx hb d_AL_init_54 rfl (lv_at hl 1 rfl) ?_
                    refine z_sipush hx hb d_AL_init_55 (by decide) ?_
                    refine z_icmp_ge (tgt := 89) hx hb d_AL_init_58 (by decide) ⟨by omega, by omega⟩ ⟨by omega, by omega⟩ (fun h58 => absurd h58 (by omega)) (fun h58 => ?_)
                    refine lv_aload_n hx hb d_AL_init_61 rfl (lv_at hl 0 rfl) ?_
                    refine va_get (D := D) (ci := 1) (v := .ref nw1) (C := R_AL) (T := F_AL) (N := 2) hx hb hts in_AL hown hK hP 0 rfl rfl 0 (by decide) (hts _ k_128) (fun _ h9 => h9) rfl d_AL_init_62 ?_
                    refine lv_iload_n hx hb d_AL_init_65 rfl (lv_at hl 1 rfl) ?_
                    refine z_sipush hx hb d_AL_init_66 (by decide) ?_
                    refine lv_iload_n hx hb d_AL_init_69 rfl (lv_at hl 2 rfl) ?_
                    refine z_imul hx hb d_AL_init_70 ?_
                    refine z_bipush hx hb d_AL_init_71 (by decide) ?_
                    refine lv_iload_n hx hb d_AL_init_73 rfl (lv_at hl 3 rfl) ?_
                    refine z_imul hx hb d_AL_init_74 ?_
                    refine z_iadd hx hb d_AL_init_75 ?_
                    refine lv_iload hx hb d_AL_init_76 (lv_at hl 4 rfl) ?_
                    refine z_iadd hx hb d_AL_init_78 ?_
                    refine x_iast hx hb hK hP hD hS 1 0 rfl rfl (n7) rfl (by omega) (by omega) d_AL_init_79 (fun H locs hP hD hS => ?_)
                    rw [aZ_upd] at hP hD
                    have hP : va_P D classes [(h0, .inr (1, [.ref nw1, .ref nw2])), (nw1, .inl (k 0, 1461, .inl (aZ (updZ (Dt7) (n7) (((10000 * (2000 + (y9 : Int))) + (100 * ((m9 : Int) + 1))) + ((o9 : Int) + 1)))))), (nw2, .inl (k 0, 4, .inl (aZ (Ft))))] H := hP
                    have hD : va_D (va_A [(h0, .inr (1, [.null, .null]))] s.heap.size) [(h0, .inr (1, [.ref nw1, .ref nw2])), (nw1, .inl (k 0, 1461, .inl (aZ (updZ (Dt7) (n7) (((10000 * (2000 + (y9 : Int))) + (100 * ((m9 : Int) + 1))) + ((o9 : Int) + 1)))))), (nw2, .inl (k 0, 4, .inl (aZ (Ft))))] := hD
                    refine z_iinc (k := 1) (a := (n7 : Int)) (lv' := [(1, .int (iI (((n7 : Int)) + 1))), (0, .ref h0), (2, .int (iI (2000 + (y9 : Int)))), (3, .int (iI ((m9 : Int) + 1))), (4, .int (iI ((o9 : Int) + 1)))]) hx hb d_AL_init_80 hl rfl (by decide) rfl (fun ls hl => ?_)
                    refine z_iinc (k := 4) (a := (o9 : Int) + 1) (lv' := [(4, .int (iI (((o9 : Int) + 1) + 1))), (1, .int (iI (((n7 : Int)) + 1))), (0, .ref h0), (2, .int (iI (2000 + (y9 : Int)))), (3, .int (iI ((m9 : Int) + 1)))]) hx hb d_AL_init_83 hl rfl (by decide) rfl (fun ls hl => ?_)
                    refine lv_goto (tgt := 44) hx hb d_AL_init_86 (by decide) ?_
                    exact ih44 (o9 + 1) ((o9 : Int) + 1 + 1) (n7 + 1) ((n7 : Int) + 1) (updZ Dt7 (n7) (((10000 * (2000 + (y9 : Int))) + (100 * ((m9 : Int) + 1))) + ((o9 : Int) + 1))) ls H locs (by omega) (by omega) (by omega) (by omega) (by rw [hD7]; exact dtU_s k2.symm) (by omega) (by omega) (lv_sub hl [2, 1, 3, 4, 0] rfl) hP hD hS
              exact L44 (_) (0) (1) (n8) ((n8 : Int)) (Dt8) ls H locs (by omega) (by omega) (by have := mLen_le (2000 + (y9 : Int)) ((m9 : Int) + 1); omega) (by omega) (by exact hD8) (by have := mSum_le (2000 + (y9 : Int)) m9; have := fDay_bd (y := (2000 + (y9 : Int))) (by omega) (by omega); omega) (Nat.lt_succ_self _) (lv_sub hl [1, 2, 3, 4, 0] rfl) hP hD hS
        exact L35 (_) (0) (1) (n9) ((n9 : Int)) (Dt) ls H locs (by omega) (by omega) (by omega) (by rw [hn9]; show _ = fDay (2000 + (y9 : Int)) + 0; omega) (by exact hDt) (Nat.lt_succ_self _) (lv_sub hl [1, 2, 3, 0] rfl) hP hD hS
  exact L26 (_) (0) (2000) (0) (0) (fun _ => 0) (fun _ => 0) ls H locs (by omega) (by omega) (by omega) (by decide) (by exact dtU_0) (by exact ftU_0) (Nat.lt_succ_self _) (lv_sub hl [2, 1, 0] rfl) hP hD hS
