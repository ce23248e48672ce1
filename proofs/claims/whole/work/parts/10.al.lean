set_option maxHeartbeats 4000000 in
set_option maxRecDepth 100000 in
theorem c_RC_yearIndex (l : Launch) (D : va_G) (k : Nat → ClassId) (z : Int) (hz : rg z) (hz2 : -1000 ≤ z) : Met l y_RC_yearIndex wd_RC_yearIndex rm_RC_yearIndex (va_Pc [.int (iI (z))] (PRO D k [])) (QRi (fun r : Int32 => r = (iI (yIx z)))) 0 0 nA := by
  refine r_i (by decide) rfl (Nat.le_of_ble_eq_true rfl) ?_
  intro p e s m args below meth c Q ls hx hb hml hown hts hpre hl ret
  obtain ⟨hP, hK, hX⟩ := hpre
  have hS : va_S nA s.heap s.heap [] := va_S.rf
  have hl : lv_has ls 1 [(0, .int (iI (z)))] := hl
  obtain ⟨q1, q2⟩ := hz
  refine lv_iload_n hx hb d_RC_yearIndex_0 rfl (lv_at hl 0 rfl) ?_
  refine z_sipush hx hb d_RC_yearIndex_1 (by decide) ?_
  refine z_icmp_ge (tgt := 11) hx hb d_RC_yearIndex_4 (by decide) ⟨by omega, by omega⟩ ⟨by omega, by omega⟩ (fun h4 => ?_) (fun h4 => ?_)
  · refine lv_iload_n hx hb d_RC_yearIndex_11 rfl (lv_at hl 0 rfl) ?_
    refine z_iconst hx hb d_RC_yearIndex_12 ?_
    refine z_isub hx hb d_RC_yearIndex_13 ?_
    refine z_sipush hx hb d_RC_yearIndex_14 (by decide) ?_
    refine z_idiv hx hb d_RC_yearIndex_17 ⟨by omega, by omega⟩ (by omega) ⟨by omega, by omega⟩ (by omega) ?_
    exact ret _ 18 (iI ((z - 1) / (365))) d_RC_yearIndex_18 (by rw [yIx_1 h4])
  · refine z_iconst hx hb d_RC_yearIndex_7 ?_
    refine lv_goto (tgt := 18) hx hb d_RC_yearIndex_8 (by decide) ?_
    exact ret _ 18 (iI (0)) d_RC_yearIndex_18 (by rw [yIx_0 h4])

set_option maxHeartbeats 4000000 in
set_option maxRecDepth 100000 in
theorem c_RC_cellsBelow (l : Launch) (D : va_G) (k : Nat → ClassId) (q : Nat) : Met l y_RC_cellsBelow wd_RC_cellsBelow rm_RC_cellsBelow (va_Pc [.int (iI ((q : Int)))] (PRO D k [])) (QRl (fun r : Int64 => r = (cBel q))) 0 0 nA := by
  refine r_l (by decide) rfl (Nat.le_of_ble_eq_true rfl) ?_
  intro p e s m args below meth c Q ls hx hb hml hown hts hpre hl ret
  obtain ⟨hP, hK, hX⟩ := hpre
  have hS : va_S nA s.heap s.heap [] := va_S.rf
  have hl : lv_has ls 1 [(0, .int (iI ((q : Int))))] := hl
  refine lv_lconst (v := 1) hx hb d_RC_cellsBelow_0 (by decide) ?_
  refine lv_iload_n hx hb d_RC_cellsBelow_1 rfl (lv_at hl 0 rfl) ?_
  refine lv_lshl hx hb d_RC_cellsBelow_2 rfl ?_
  refine lv_lconst (v := 1) hx hb d_RC_cellsBelow_3 (by decide) ?_
  refine lv_lsub hx hb d_RC_cellsBelow_4 ?_
  exact ret _ 5 ((((1 : Int64)) <<< ((iI ((q : Int))).toInt64 &&& 63)) - ((1 : Int64))) d_RC_cellsBelow_5 (rfl)

set_option maxHeartbeats 4000000 in
set_option maxRecDepth 100000 in
theorem c_AL_weekday (l : Launch) (D : va_G) (k : Nat → ClassId) (z : Int) (hz : -5 ≤ z ∧ z ≤ 2000000000) : Met l y_AL_weekday wd_AL_weekday rm_AL_weekday (va_Pc [.int (iI (z))] (PRO D k [])) (QRi (fun r : Int32 => r = (iI (wDay z)))) 0 0 nA := by
  refine r_i (by decide) rfl (Nat.le_of_ble_eq_true rfl) ?_
  intro p e s m args below meth c Q ls hx hb hml hown hts hpre hl ret
  obtain ⟨hP, hK, hX⟩ := hpre
  have hS : va_S nA s.heap s.heap [] := va_S.rf
  have hl : lv_has ls 1 [(0, .int (iI (z)))] := hl
  refine lv_iload_n hx hb d_AL_weekday_0 rfl (lv_at hl 0 rfl) ?_
  refine z_iconst hx hb d_AL_weekday_1 ?_
  refine z_iadd hx hb d_AL_weekday_2 ?_
  refine z_bipush hx hb d_AL_weekday_3 (by decide) ?_
  refine z_irem hx hb d_AL_weekday_5 ⟨by omega, by omega⟩ (by omega) ⟨by omega, by omega⟩ (by omega) ?_
  refine z_iconst hx hb d_AL_weekday_6 ?_
  refine z_iadd hx hb d_AL_weekday_7 ?_
  exact ret _ 8 (iI (((z + 5) % (7)) + 1)) d_AL_weekday_8 (rfl)

set_option maxHeartbeats 4000000 in
set_option maxRecDepth 100000 in
theorem c_AL_firstDay (l : Launch) (D : va_G) (k : Nat → ClassId) (y : Int) (hy : 1000 ≤ y ∧ y ≤ 3000) : Met l y_AL_firstDay wd_AL_firstDay rm_AL_firstDay (va_Pc [.int (iI (y))] (PRO D k [])) (QRi (fun r : Int32 => r = (iI (fDay y)))) 0 0 nA := by
  refine r_i (by decide) rfl (Nat.le_of_ble_eq_true rfl) ?_
  intro p e s m args below meth c Q ls hx hb hml hown hts hpre hl ret
  obtain ⟨hP, hK, hX⟩ := hpre
  have hS : va_S nA s.heap s.heap [] := va_S.rf
  have hl : lv_has ls 1 [(0, .int (iI (y)))] := hl
  refine z_sipush hx hb d_AL_firstDay_0 (by decide) ?_
  refine lv_iload_n hx hb d_AL_firstDay_3 rfl (lv_at hl 0 rfl) ?_
  refine z_sipush hx hb d_AL_firstDay_4 (by decide) ?_
  refine z_isub hx hb d_AL_firstDay_7 ?_
  refine z_imul hx hb d_AL_firstDay_8 ?_
  refine lv_iload_n hx hb d_AL_firstDay_9 rfl (lv_at hl 0 rfl) ?_
  refine z_sipush hx hb d_AL_firstDay_10 (by decide) ?_
  have J13_1 : W p l e rm_AL_firstDay s m args below meth c s.heap [] 0 0 Q (F0 m 21 ls [.int (iI (if 2000 < y then 1 else 0)), .int (iI (365 * (y - 2000)))]) := by
    refine z_iadd hx hb d_AL_firstDay_21 ?_
    exact ret _ 22 (iI ((365 * (y - 2000)) + (if 2000 < y then 1 else 0))) d_AL_firstDay_22 (rfl)
  refine z_icmp_le (tgt := 20) hx hb d_AL_firstDay_13 (by decide) ⟨by omega, by omega⟩ ⟨by omega, by omega⟩ (fun h13 => ?_) (fun h13 => ?_)
  · refine z_iconst hx hb d_AL_firstDay_20 ?_
    exact z_top (show (iI (0)) = (iI (if 2000 < y then 1 else 0)) from (by rw [if_neg (by omega)])) J13_1
  · refine z_iconst hx hb d_AL_firstDay_16 ?_
    refine lv_goto (tgt := 21) hx hb d_AL_firstDay_17 (by decide) ?_
    exact z_top (show (iI (1)) = (iI (if 2000 < y then 1 else 0)) from (by rw [if_pos (by omega)])) J13_1

set_option maxHeartbeats 4000000 in
set_option maxRecDepth 100000 in
theorem c_AL_monthLength (l : Launch) (D : va_G) (k : Nat → ClassId) (y : Int) (m1 : Int) (hy : rg y) (hm : rg m1) : Met l y_AL_monthLength wd_AL_monthLength rm_AL_monthLength (va_Pc [.int (iI (y)), .int (iI (m1))] (PRO D k [])) (QRi (fun r : Int32 => r = (iI (mLen y m1)))) 0 0 nA := by
  refine r_i (by decide) rfl (Nat.le_of_ble_eq_true rfl) ?_
  intro p e s m args below meth c Q ls hx hb hml hown hts hpre hl ret
  obtain ⟨hP, hK, hX⟩ := hpre
  have hS : va_S nA s.heap s.heap [] := va_S.rf
  have hl : lv_has ls 2 [(0, .int (iI (y))), (1, .int (iI (m1)))] := hl
  obtain ⟨q1, q2⟩ := hy
  obtain ⟨q3, q4⟩ := hm
  refine lv_iload_n hx hb d_AL_monthLength_0 rfl (lv_at hl 1 rfl) ?_
  refine z_iconst hx hb d_AL_monthLength_1 ?_
  refine z_icmp_lt (tgt := 11) hx hb d_AL_monthLength_2 (by decide) ⟨by omega, by omega⟩ ⟨by omega, by omega⟩ (fun h2 => ?_) (fun h2 => ?_)
  · refine z_iconst hx hb d_AL_monthLength_11 ?_
    exact ret _ 12 (iI (0)) d_AL_monthLength_12 (by rw [mLen_0 (by omega)])
  · refine lv_iload_n hx hb d_AL_monthLength_5 rfl (lv_at hl 1 rfl) ?_
    refine z_bipush hx hb d_AL_monthLength_6 (by decide) ?_
    refine z_icmp_le (tgt := 13) hx hb d_AL_monthLength_8 (by decide) ⟨by omega, by omega⟩ ⟨by omega, by omega⟩ (fun h8 => ?_) (fun h8 => ?_)
    · refine lv_iload_n hx hb d_AL_monthLength_13 rfl (lv_at hl 1 rfl) ?_
      refine z_iconst hx hb d_AL_monthLength_14 ?_
      refine z_icmp_ne (tgt := 30) hx hb d_AL_monthLength_15 (by decide) ⟨by omega, by omega⟩ ⟨by omega, by omega⟩ (fun h15 => ?_) (fun h15 => ?_)
      · obtain ⟨tL, hZL, hTL⟩ := hX.1
        refine va_gets hx hb hZL hS hown (hts _ k_95) (fun _ h9 => h9) d_AL_monthLength_30 ?_
        refine lv_iload_n hx hb d_AL_monthLength_33 rfl (lv_at hl 1 rfl) ?_
        refine va_ti (v := .int (iI (lonG (m1.toNat)))) hx hb hTL hS (iI_in (j := m1.toNat) (by omega) (by omega) (by decide)) (by rw [iI_clamp (j := m1.toNat) (by omega) (by omega)]) d_AL_monthLength_34 ?_
        exact ret _ 35 (iI (lonG (m1.toNat))) d_AL_monthLength_35 (by rw [mLen_L (by omega) (by omega) (by omega)])
      · refine lv_iload_n hx hb d_AL_monthLength_18 rfl (lv_at hl 0 rfl) ?_
        refine z_sipush hx hb d_AL_monthLength_19 (by decide) ?_
        refine z_icmp_eq (tgt := 30) hx hb d_AL_monthLength_22 (by decide) ⟨by omega, by omega⟩ ⟨by omega, by omega⟩ (fun h22 => ?_) (fun h22 => ?_)
        · obtain ⟨tL, hZL, hTL⟩ := hX.1
          refine va_gets hx hb hZL hS hown (hts _ k_95) (fun _ h9 => h9) d_AL_monthLength_30 ?_
          refine lv_iload_n hx hb d_AL_monthLength_33 rfl (lv_at hl 1 rfl) ?_
          refine va_ti (v := .int (iI (lonG (m1.toNat)))) hx hb hTL hS (iI_in (j := m1.toNat) (by omega) (by omega) (by decide)) (by rw [iI_clamp (j := m1.toNat) (by omega) (by omega)]) d_AL_monthLength_34 ?_
          exact ret _ 35 (iI (lonG (m1.toNat))) d_AL_monthLength_35 (by rw [mLen_L (by omega) (by omega) (by omega)])
        · refine z_bipush hx hb d_AL_monthLength_25 (by decide) ?_
          refine lv_goto (tgt := 35) hx hb d_AL_monthLength_27 (by decide) ?_
          exact ret _ 35 (iI (28)) d_AL_monthLength_35 (by rw [mLen_28 (by omega) (by omega)])
    · refine z_iconst hx hb d_AL_monthLength_11 ?_
      exact ret _ 12 (iI (0)) d_AL_monthLength_12 (by rw [mLen_0 (by omega)])

set_option maxHeartbeats 4000000 in
set_option maxRecDepth 100000 in
theorem c_AL_dayNumber (l : Launch) (D : va_G) (k : Nat → ClassId) (y : Int) (m1 : Int) (o : Int) (hy : rg y) (hm : rg m1) (ho : rg o) : Met l y_AL_dayNumber wd_AL_dayNumber rm_AL_dayNumber (va_Pc [.int (iI (y)), .int (iI (m1)), .int (iI (o))] (PRO D k [])) (QRi (fun r : Int32 => r = (iI (dNum y m1 o)))) 0 0 nA := by
  refine r_i (by decide) rfl (Nat.le_of_ble_eq_true rfl) ?_
  intro p e s m args below meth c Q ls hx hb hml hown hts hpre hl ret
  obtain ⟨hP, hK, hX⟩ := hpre
  have hS : va_S nA s.heap s.heap [] := va_S.rf
  have hl : lv_has ls 5 [(0, .int (iI (y))), (1, .int (iI (m1))), (2, .int (iI (o)))] := hl
  obtain ⟨q1, q2⟩ := hy
  obtain ⟨q3, q4⟩ := hm
  obtain ⟨q5, q6⟩ := ho
  refine lv_iload_n hx hb d_AL_dayNumber_0 rfl (lv_at hl 0 rfl) ?_
  refine z_sipush hx hb d_AL_dayNumber_1 (by decide) ?_
  refine z_icmp_lt (tgt := 28) hx hb d_AL_dayNumber_4 (by decide) ⟨by omega, by omega⟩ ⟨by omega, by omega⟩ (fun h4 => ?_) (fun h4 => ?_)
  · refine z_iconst hx hb d_AL_dayNumber_28 ?_
    exact ret _ 29 (iI (-1)) d_AL_dayNumber_29 (by rw [dNum_out (by omega)])
  · refine lv_iload_n hx hb d_AL_dayNumber_7 rfl (lv_at hl 0 rfl) ?_
    refine z_sipush hx hb d_AL_dayNumber_8 (by decide) ?_
    refine z_icmp_ge (tgt := 28) hx hb d_AL_dayNumber_11 (by decide) ⟨by omega, by omega⟩ ⟨by omega, by omega⟩ (fun h11 => ?_) (fun h11 => ?_)
    · refine z_iconst hx hb d_AL_dayNumber_28 ?_
      exact ret _ 29 (iI (-1)) d_AL_dayNumber_29 (by rw [dNum_out (by omega)])
    · refine lv_iload_n hx hb d_AL_dayNumber_14 rfl (lv_at hl 2 rfl) ?_
      refine z_iconst hx hb d_AL_dayNumber_15 ?_
      refine z_icmp_lt (tgt := 28) hx hb d_AL_dayNumber_16 (by decide) ⟨by omega, by omega⟩ ⟨by omega, by omega⟩ (fun h16 => ?_) (fun h16 => ?_)
      · refine z_iconst hx hb d_AL_dayNumber_28 ?_
        exact ret _ 29 (iI (-1)) d_AL_dayNumber_29 (by rw [dNum_out (by omega)])
      · refine lv_iload_n hx hb d_AL_dayNumber_19 rfl (lv_at hl 2 rfl) ?_
        refine lv_iload_n hx hb d_AL_dayNumber_20 rfl (lv_at hl 0 rfl) ?_
        refine lv_iload_n hx hb d_AL_dayNumber_21 rfl (lv_at hl 1 rfl) ?_
        refine rc_i (va_runS (As := [.int (iI (y)), .int (iI (m1))]) (rest := [.int (iI (o))]) ⟨hx, hb, hml, hown, hts⟩ (c_AL_monthLength l D k (y) (m1) (⟨by omega, by omega⟩) (⟨by omega, by omega⟩)) ⟨callB_of 2 hts (good_AL_monthLength) rfl rfl rfl (hts _ k_61) (hts _ k_92) (by decide +kernel) ⟨Nat.le_of_ble_eq_true rfl, Nat.le_of_ble_eq_true rfl⟩, (hts _ k_93)⟩ ⟨fun a U g mk q => ⟨q.1, q.2.1, va_K.moved (u := U) (U := U.calling g mk a) (Vm.Alike.refl U.vm) q.2.2.1, q.2.2.2.calling⟩, fun U hU hW => ⟨rfl, by rw [hU]; exact hP, va_K.moved hW.alike hK, by rw [hU]; exact hX.warm hW⟩⟩ rfl rfl hl.1 rfl (lv_room (Nat.le_of_ble_eq_true rfl)) d_AL_dayNumber_22 ⟨Nat.le_of_ble_eq_true rfl, Nat.le_of_ble_eq_true rfl⟩) (fun xr_1 h_xr_1 => ?_)
        subst h_xr_1
        have hq := mLen_le (y) (m1)
        refine z_icmp_le (tgt := 30) hx hb d_AL_dayNumber_25 (by decide) ⟨by omega, by omega⟩ ⟨by omega, by omega⟩ (fun h25 => ?_) (fun h25 => ?_)
        · refine lv_iload_n hx hb d_AL_dayNumber_30 rfl (lv_at hl 0 rfl) ?_
          refine rc_i (va_runS (As := [.int (iI (y))]) (rest := []) ⟨hx, hb, hml, hown, hts⟩ (c_AL_firstDay l D k (y) (⟨by omega, by omega⟩)) ⟨callB_of 1 hts (good_AL_firstDay) rfl rfl rfl (hts _ k_61) (hts _ k_100) (by decide +kernel) ⟨Nat.le_of_ble_eq_true rfl, Nat.le_of_ble_eq_true rfl⟩, (hts _ k_101)⟩ ⟨fun a U g mk q => ⟨q.1, q.2.1, va_K.moved (u := U) (U := U.calling g mk a) (Vm.Alike.refl U.vm) q.2.2.1, q.2.2.2.calling⟩, fun U hU hW => ⟨rfl, by rw [hU]; exact hP, va_K.moved hW.alike hK, by rw [hU]; exact hX.warm hW⟩⟩ rfl rfl hl.1 rfl (lv_room (Nat.le_of_ble_eq_true rfl)) d_AL_dayNumber_31 ⟨Nat.le_of_ble_eq_true rfl, Nat.le_of_ble_eq_true rfl⟩) (fun xr_2 h_xr_2 => ?_)
          subst h_xr_2
          have hp := mLen_pos (y := y) (m := m1) (by omega)
          refine lv_iload_n hx hb d_AL_dayNumber_34 rfl (lv_at hl 2 rfl) ?_
          refine z_iadd hx hb d_AL_dayNumber_35 ?_
          refine z_iconst hx hb d_AL_dayNumber_36 ?_
          refine z_isub hx hb d_AL_dayNumber_37 ?_
          refine lv_istore_n (lv' := [(3, .int (iI (((fDay y) + o) - 1))), (0, .int (iI (y))), (1, .int (iI (m1))), (2, .int (iI (o)))]) hx hb d_AL_dayNumber_38 rfl hl (by decide) rfl (fun ls hl => ?_)
          refine z_iconst hx hb d_AL_dayNumber_39 ?_
          refine lv_istore (lv' := [(4, .int (iI (1))), (3, .int (iI (((fDay y) + o) - 1))), (0, .int (iI (y))), (1, .int (iI (m1))), (2, .int (iI (o)))]) hx hb d_AL_dayNumber_40 hl (by decide) rfl (fun ls hl => ?_)
          have L42 : ∀ (fu : Nat) (i : Nat) (z4 : Int) (a : Int) (ls : Array Slot), z4 = (i : Int) + 1 → z4 ≤ m1 → a = fDay y + o - 1 + mSum y i → (m1 - z4).toNat < fu → lv_has ls 5 [(0, .int (iI (y))), (1, .int (iI (m1))), (2, .int (iI (o))), (3, .int (iI (a))), (4, .int (iI (z4)))] → W p l e rm_AL_dayNumber s m args below meth c s.heap [] 0 0 Q (F0 m 42 ls []) := by
            intro fu
            induction fu with
            | zero => intro i z4 a ls hz hi ha hmu; exact absurd hmu (Nat.not_lt_zero _)
            | succ fu ih42 =>
              intro i z4 a ls hz hi ha hmu hl
              refine lv_iload hx hb d_AL_dayNumber_42 (lv_at hl 4 rfl) ?_
              refine lv_iload_n hx hb d_AL_dayNumber_44 rfl (lv_at hl 1 rfl) ?_
              refine z_icmp_ge (tgt := 63) hx hb d_AL_dayNumber_45 (by decide) ⟨by omega, by omega⟩ ⟨by omega, by omega⟩ (fun h45 => ?_) (fun h45 => ?_)
              · refine lv_iload_n hx hb d_AL_dayNumber_63 rfl (lv_at hl 3 rfl) ?_
                exact ret _ 64 (iI (a)) d_AL_dayNumber_64 (by rw [dNum_in (by omega), ha, show (m1 - 1).toNat = i by omega])
              · refine lv_iload_n hx hb d_AL_dayNumber_48 rfl (lv_at hl 3 rfl) ?_
                refine lv_iload_n hx hb d_AL_dayNumber_49 rfl (lv_at hl 0 rfl) ?_
                refine lv_iload hx hb d_AL_dayNumber_50 (lv_at hl 4 rfl) ?_
                refine rc_i (va_runS (As := [.int (iI (y)), .int (iI (z4))]) (rest := [.int (iI (a))]) ⟨hx, hb, hml, hown, hts⟩ (c_AL_monthLength l D k (y) (z4) (⟨by omega, by omega⟩) (⟨by omega, by omega⟩)) ⟨callB_of 2 hts (good_AL_monthLength) rfl rfl rfl (hts _ k_61) (hts _ k_92) (by decide +kernel) ⟨Nat.le_of_ble_eq_true rfl, Nat.le_of_ble_eq_true rfl⟩, (hts _ k_93)⟩ ⟨fun a U g mk q => ⟨q.1, q.2.1, va_K.moved (u := U) (U := U.calling g mk a) (Vm.Alike.refl U.vm) q.2.2.1, q.2.2.2.calling⟩, fun U hU hW => ⟨rfl, by rw [hU]; exact hP, va_K.moved hW.alike hK, by rw [hU]; exact hX.warm hW⟩⟩ rfl rfl hl.1 rfl (lv_room (Nat.le_of_ble_eq_true rfl)) d_AL_dayNumber_52 ⟨Nat.le_of_ble_eq_true rfl, Nat.le_of_ble_eq_true rfl⟩) (fun xr_3 h_xr_3 => ?_)
                subst h_xr_3
                have hq := mLen_le (y) (z4)
                refine z_iadd hx hb d_AL_dayNumber_55 ?_
                refine lv_istore_n (lv' := [(3, .int (iI (a + (mLen y z4)))), (0, .int (iI (y))), (1, .int (iI (m1))), (2, .int (iI (o))), (4, .int (iI (z4)))]) hx hb d_AL_dayNumber_56 rfl hl (by decide) rfl (fun ls hl => ?_)
                refine z_iinc (k := 4) (a := z4) (lv' := [(4, .int (iI (z4 + 1))), (3, .int (iI (a + (mLen y z4)))), (0, .int (iI (y))), (1, .int (iI (m1))), (2, .int (iI (o)))]) hx hb d_AL_dayNumber_57 hl rfl (by decide) rfl (fun ls hl => ?_)
                refine lv_goto (tgt := 42) hx hb d_AL_dayNumber_60 (by decide) ?_
                exact ih42 (i + 1) (z4 + 1) (a + mLen y z4) ls (by omega) (by omega) (by have q := mSum_s y i; rw [← hz] at q; rw [q]; omega) (by omega) (lv_sub hl [2, 3, 4, 1, 0] rfl)
          exact L42 (_) (0) (1) (fDay y + o - 1) ls (by omega) (by omega) (by exact (by show _ = _ + (0 : Int); omega)) (Nat.lt_succ_self _) (lv_sub hl [2, 3, 4, 1, 0] rfl)
        · refine z_iconst hx hb d_AL_dayNumber_28 ?_
          exact ret _ 29 (iI (-1)) d_AL_dayNumber_29 (by rw [dNum_out (by omega)])

set_option maxHeartbeats 4000000 in
set_option maxRecDepth 100000 in
theorem c_AL_lastSunday (l : Launch) (D : va_G) (k : Nat → ClassId) (y : Int) (m1 : Int) (hy : 2000 ≤ y ∧ y ≤ 2003) (hm : 1 ≤ m1 ∧ m1 ≤ 12) : Met l y_AL_lastSunday wd_AL_lastSunday rm_AL_lastSunday (va_Pc [.int (iI (y)), .int (iI (m1))] (PRO D k [])) (QRi (fun r : Int32 => r = (iI (lSun y m1)))) 0 0 nA := by
  refine r_i (by decide) rfl (Nat.le_of_ble_eq_true rfl) ?_
  intro p e s m args below meth c Q ls hx hb hml hown hts hpre hl ret
  obtain ⟨hP, hK, hX⟩ := hpre
  have hS : va_S nA s.heap s.heap [] := va_S.rf
  have hl : lv_has ls 3 [(0, .int (iI (y))), (1, .int (iI (m1)))] := hl
  refine lv_iload_n hx hb d_AL_lastSunday_0 rfl (lv_at hl 0 rfl) ?_
  refine lv_iload_n hx hb d_AL_lastSunday_1 rfl (lv_at hl 1 rfl) ?_
  refine lv_iload_n hx hb d_AL_lastSunday_2 rfl (lv_at hl 0 rfl) ?_
  refine lv_iload_n hx hb d_AL_lastSunday_3 rfl (lv_at hl 1 rfl) ?_
  refine rc_i (va_runS (As := [.int (iI (y)), .int (iI (m1))]) (rest := [.int (iI (m1)), .int (iI (y))]) ⟨hx, hb, hml, hown, hts⟩ (c_AL_monthLength l D k (y) (m1) (⟨by omega, by omega⟩) (⟨by omega, by omega⟩)) ⟨callB_of 2 hts (good_AL_monthLength) rfl rfl rfl (hts _ k_61) (hts _ k_92) (by decide +kernel) ⟨Nat.le_of_ble_eq_true rfl, Nat.le_of_ble_eq_true rfl⟩, (hts _ k_93)⟩ ⟨fun a U g mk q => ⟨q.1, q.2.1, va_K.moved (u := U) (U := U.calling g mk a) (Vm.Alike.refl U.vm) q.2.2.1, q.2.2.2.calling⟩, fun U hU hW => ⟨rfl, by rw [hU]; exact hP, va_K.moved hW.alike hK, by rw [hU]; exact hX.warm hW⟩⟩ rfl rfl hl.1 rfl (lv_room (Nat.le_of_ble_eq_true rfl)) d_AL_lastSunday_4 ⟨Nat.le_of_ble_eq_true rfl, Nat.le_of_ble_eq_true rfl⟩) (fun xr_1 h_xr_1 => ?_)
  subst h_xr_1
  have hq := mLen_le (y) (m1)
  refine rc_i (va_runS (As := [.int (iI (y)), .int (iI (m1)), .int (iI (mLen y m1))]) (rest := []) ⟨hx, hb, hml, hown, hts⟩ (c_AL_dayNumber l D k (y) (m1) (mLen y m1) (⟨by omega, by omega⟩) (⟨by omega, by omega⟩) (⟨by omega, by omega⟩)) ⟨callB_of 3 hts (good_AL_dayNumber) rfl rfl rfl (hts _ k_61) (hts _ k_97) (by decide +kernel) ⟨Nat.le_of_ble_eq_true rfl, Nat.le_of_ble_eq_true rfl⟩, (hts _ k_98)⟩ ⟨fun a U g mk q => ⟨q.1, q.2.1, va_K.moved (u := U) (U := U.calling g mk a) (Vm.Alike.refl U.vm) q.2.2.1, q.2.2.2.calling⟩, fun U hU hW => ⟨rfl, by rw [hU]; exact hP, va_K.moved hW.alike hK, by rw [hU]; exact hX.warm hW⟩⟩ rfl rfl hl.1 rfl (lv_room (Nat.le_of_ble_eq_true rfl)) d_AL_lastSunday_7 ⟨Nat.le_of_ble_eq_true rfl, Nat.le_of_ble_eq_true rfl⟩) (fun xr_2 h_xr_2 => ?_)
  subst h_xr_2
  have hb9 := dNum_bd y m1 (mLen y m1)
  refine lv_istore_n (lv' := [(2, .int (iI (dNum y m1 (mLen y m1)))), (0, .int (iI (y))), (1, .int (iI (m1)))]) hx hb d_AL_lastSunday_10 rfl hl (by decide) rfl (fun ls hl => ?_)
  refine lv_iload_n hx hb d_AL_lastSunday_11 rfl (lv_at hl 0 rfl) ?_
  refine lv_iload_n hx hb d_AL_lastSunday_12 rfl (lv_at hl 0 rfl) ?_
  refine rc_i (va_runS (As := [.int (iI (dNum y m1 (mLen y m1)))]) (rest := [.int (iI (dNum y m1 (mLen y m1)))]) ⟨hx, hb, hml, hown, hts⟩ (c_AL_weekday l D k (dNum y m1 (mLen y m1)) (⟨by omega, by omega⟩)) ⟨callB_of 1 hts (good_AL_weekday) rfl rfl rfl (hts _ k_61) (hts _ k_103) (by decide +kernel) ⟨Nat.le_of_ble_eq_true rfl, Nat.le_of_ble_eq_true rfl⟩, (hts _ k_104)⟩ ⟨fun a U g mk q => ⟨q.1, q.2.1, va_K.moved (u := U) (U := U.calling g mk a) (Vm.Alike.refl U.vm) q.2.2.1, q.2.2.2.calling⟩, fun U hU hW => ⟨rfl, by rw [hU]; exact hP, va_K.moved hW.alike hK, by rw [hU]; exact hX.warm hW⟩⟩ rfl rfl hl.1 rfl (lv_room (Nat.le_of_ble_eq_true rfl)) d_AL_lastSunday_13 ⟨Nat.le_of_ble_eq_true rfl, Nat.le_of_ble_eq_true rfl⟩) (fun xr_3 h_xr_3 => ?_)
  subst h_xr_3
  have hw9 := wDay_bd (z := dNum y m1 (mLen y m1)) (by omega)
  refine z_bipush hx hb d_AL_lastSunday_16 (by decide) ?_
  refine z_irem hx hb d_AL_lastSunday_18 ⟨by omega, by omega⟩ (by omega) ⟨by omega, by omega⟩ (by omega) ?_
  refine z_isub hx hb d_AL_lastSunday_19 ?_
  exact ret _ 20 (iI ((dNum y m1 (mLen y m1)) - ((wDay (dNum y m1 (mLen y m1))) % (7)))) d_AL_lastSunday_20 (rfl)

set_option maxHeartbeats 4000000 in
set_option maxRecDepth 100000 in
theorem c_AL_week (l : Launch) (D : va_G) (k : Nat → ClassId) (z : Int) (hz : 0 ≤ z ∧ z ≤ 1460) : Met l y_AL_week wd_AL_week rm_AL_week (va_Pc [.int (iI (z))] (PRO D k [])) (QRi (fun r : Int32 => r = (iI (weekZ z)))) 0 0 nA := by
  refine r_i (by decide) rfl (Nat.le_of_ble_eq_true rfl) ?_
  intro p e s m args below meth c Q ls hx hb hml hown hts hpre hl ret
  obtain ⟨hP, hK, hX⟩ := hpre
  have hS : va_S nA s.heap s.heap [] := va_S.rf
  have hl : lv_has ls 3 [(0, .int (iI (z)))] := hl
  refine lv_iload_n hx hb d_AL_week_0 rfl (lv_at hl 0 rfl) ?_
  refine lv_iload_n hx hb d_AL_week_1 rfl (lv_at hl 0 rfl) ?_
  refine rc_i (va_runS (As := [.int (iI (z))]) (rest := [.int (iI (z))]) ⟨hx, hb, hml, hown, hts⟩ (c_AL_weekday l D k (z) (⟨by omega, by omega⟩)) ⟨callB_of 1 hts (good_AL_weekday) rfl rfl rfl (hts _ k_61) (hts _ k_103) (by decide +kernel) ⟨Nat.le_of_ble_eq_true rfl, Nat.le_of_ble_eq_true rfl⟩, (hts _ k_104)⟩ ⟨fun a U g mk q => ⟨q.1, q.2.1, va_K.moved (u := U) (U := U.calling g mk a) (Vm.Alike.refl U.vm) q.2.2.1, q.2.2.2.calling⟩, fun U hU hW => ⟨rfl, by rw [hU]; exact hP, va_K.moved hW.alike hK, by rw [hU]; exact hX.warm hW⟩⟩ rfl rfl hl.1 rfl (lv_room (Nat.le_of_ble_eq_true rfl)) d_AL_week_2 ⟨Nat.le_of_ble_eq_true rfl, Nat.le_of_ble_eq_true rfl⟩) (fun xr_1 h_xr_1 => ?_)
  subst h_xr_1
  have hw9 := wDay_bd (z := z) (by omega)
  refine z_isub hx hb d_AL_week_5 ?_
  refine z_iconst hx hb d_AL_week_6 ?_
  refine z_iadd hx hb d_AL_week_7 ?_
  obtain ⟨t, h_t⟩ : ∃ t : Int, t = (z - (wDay z)) + 4 := ⟨_, rfl⟩
  refine z_top (show iI ((z - (wDay z)) + 4) = iI t from by rw [h_t]) ?_
  refine lv_istore_n (lv' := [(1, .int (iI (t))), (0, .int (iI (z)))]) hx hb d_AL_week_8 rfl hl (by decide) rfl (fun ls hl => ?_)
  refine z_sipush hx hb d_AL_week_9 (by decide) ?_
  refine lv_iload_n hx hb d_AL_week_12 rfl (lv_at hl 0 rfl) ?_
  refine rc_i (va_runSN (As := [.int (iI (t))]) (rest := [.int (iI (2000))]) ⟨hx, hb, hml, hown, hts⟩ (c_RC_yearIndex l D k (t) (⟨by omega, by omega⟩) ((by omega))) ⟨va_cnB 1 hts (good_RC_yearIndex) rfl rfl rfl (hX.2 _ n_288) (hts _ k_59) (by decide +kernel) ⟨Nat.le_of_ble_eq_true rfl, Nat.le_of_ble_eq_true rfl⟩, (hts _ k_289), trivial⟩ ⟨fun a U g mk q => ⟨q.1, q.2.1, va_K.moved (u := U) (U := U.calling g mk a) (Vm.Alike.refl U.vm) q.2.2.1, q.2.2.2.calling⟩, fun U hU hW => ⟨rfl, by rw [hU]; exact hP, va_K.moved hW.alike hK, by rw [hU]; exact hX.warm hW⟩⟩ rfl rfl hl.1 rfl (lv_room (Nat.le_of_ble_eq_true rfl)) d_AL_week_13 ⟨Nat.le_of_ble_eq_true rfl, Nat.le_of_ble_eq_true rfl⟩) (fun xr_2 h_xr_2 => ?_)
  subst h_xr_2
  refine z_iadd hx hb d_AL_week_16 ?_
  refine lv_istore_n (lv' := [(2, .int (iI (2000 + (yIx t)))), (1, .int (iI (t))), (0, .int (iI (z)))]) hx hb d_AL_week_17 rfl hl (by decide) rfl (fun ls hl => ?_)
  refine lv_iload_n hx hb d_AL_week_18 rfl (lv_at hl 1 rfl) ?_
  refine z_if_ge (tgt := 26) hx hb d_AL_week_19 (by decide) ⟨by omega, by omega⟩ (fun h19 => ?_) (fun h19 => ?_)
  · refine z_bipush hx hb d_AL_week_26 (by decide) ?_
    refine lv_iload_n hx hb d_AL_week_28 rfl (lv_at hl 0 rfl) ?_
    refine z_imul hx hb d_AL_week_29 ?_
    refine lv_iload_n hx hb d_AL_week_30 rfl (lv_at hl 1 rfl) ?_
    refine lv_iload_n hx hb d_AL_week_31 rfl (lv_at hl 0 rfl) ?_
    refine rc_i (va_runS (As := [.int (iI (2000 + (yIx t)))]) (rest := [.int (iI (t)), .int (iI (100 * (2000 + (yIx t))))]) ⟨hx, hb, hml, hown, hts⟩ (c_AL_firstDay l D k (2000 + (yIx t)) ((by have := yIx_bd (t := t) (by omega) (by omega); omega))) ⟨callB_of 1 hts (good_AL_firstDay) rfl rfl rfl (hts _ k_61) (hts _ k_100) (by decide +kernel) ⟨Nat.le_of_ble_eq_true rfl, Nat.le_of_ble_eq_true rfl⟩, (hts _ k_101)⟩ ⟨fun a U g mk q => ⟨q.1, q.2.1, va_K.moved (u := U) (U := U.calling g mk a) (Vm.Alike.refl U.vm) q.2.2.1, q.2.2.2.calling⟩, fun U hU hW => ⟨rfl, by rw [hU]; exact hP, va_K.moved hW.alike hK, by rw [hU]; exact hX.warm hW⟩⟩ rfl rfl hl.1 rfl (lv_room (Nat.le_of_ble_eq_true rfl)) d_AL_week_32 ⟨Nat.le_of_ble_eq_true rfl, Nat.le_of_ble_eq_true rfl⟩) (fun xr_3 h_xr_3 => ?_)
    subst h_xr_3
    have e9 := yIx_bd (t := t) (by omega) (by omega)
    have e8 := fDay_bd (y := 2000 + yIx t) (by omega) (by omega)
    refine z_isub hx hb d_AL_week_35 ?_
    refine z_bipush hx hb d_AL_week_36 (by decide) ?_
    refine z_idiv hx hb d_AL_week_38 ⟨by omega, by omega⟩ (by omega) ⟨by omega, by omega⟩ (by omega) ?_
    refine z_iadd hx hb d_AL_week_39 ?_
    refine z_iconst hx hb d_AL_week_40 ?_
    refine z_iadd hx hb d_AL_week_41 ?_
    exact ret _ 42 (iI (((100 * (2000 + (yIx t))) + ((t - (fDay (2000 + (yIx t)))) / (7))) + 1)) d_AL_week_42 (by rw [h_t]; unfold weekZ; rw [if_neg (by omega)])
  · refine z_sipush hx hb d_AL_week_22 (by decide) ?_
    refine lv_istore_n (lv' := [(2, .int (iI (1999))), (1, .int (iI (t))), (0, .int (iI (z)))]) hx hb d_AL_week_25 rfl hl (by decide) rfl (fun ls hl => ?_)
    refine z_bipush hx hb d_AL_week_26 (by decide) ?_
    refine lv_iload_n hx hb d_AL_week_28 rfl (lv_at hl 0 rfl) ?_
    refine z_imul hx hb d_AL_week_29 ?_
    refine lv_iload_n hx hb d_AL_week_30 rfl (lv_at hl 1 rfl) ?_
    refine lv_iload_n hx hb d_AL_week_31 rfl (lv_at hl 0 rfl) ?_
    refine rc_i (va_runS (As := [.int (iI (1999))]) (rest := [.int (iI (t)), .int (iI (199900))]) ⟨hx, hb, hml, hown, hts⟩ (c_AL_firstDay l D k (1999) (⟨by omega, by omega⟩)) ⟨callB_of 1 hts (good_AL_firstDay) rfl rfl rfl (hts _ k_61) (hts _ k_100) (by decide +kernel) ⟨Nat.le_of_ble_eq_true rfl, Nat.le_of_ble_eq_true rfl⟩, (hts _ k_101)⟩ ⟨fun a U g mk q => ⟨q.1, q.2.1, va_K.moved (u := U) (U := U.calling g mk a) (Vm.Alike.refl U.vm) q.2.2.1, q.2.2.2.calling⟩, fun U hU hW => ⟨rfl, by rw [hU]; exact hP, va_K.moved hW.alike hK, by rw [hU]; exact hX.warm hW⟩⟩ rfl rfl hl.1 rfl (lv_room (Nat.le_of_ble_eq_true rfl)) d_AL_week_32 ⟨Nat.le_of_ble_eq_true rfl, Nat.le_of_ble_eq_true rfl⟩) (fun xr_4 h_xr_4 => ?_)
    subst h_xr_4
    have e9 : fDay 1999 = -365 := by decide
    refine z_isub hx hb d_AL_week_35 ?_
    refine z_bipush hx hb d_AL_week_36 (by decide) ?_
    refine z_idiv hx hb d_AL_week_38 ⟨by omega, by omega⟩ (by omega) ⟨by omega, by omega⟩ (by omega) ?_
    refine z_iadd hx hb d_AL_week_39 ?_
    refine z_iconst hx hb d_AL_week_40 ?_
    refine z_iadd hx hb d_AL_week_41 ?_
    exact ret _ 42 (iI ((199900 + ((t - (fDay 1999)) / (7))) + 1)) d_AL_week_42 (by rw [h_t]; unfold weekZ; rw [if_pos (by omega)]; rfl)

set_option maxHeartbeats 4000000 in
set_option maxRecDepth 100000 in
theorem c_AL_feastDate (l : Launch) (D : va_G) (k : Nat → ClassId) (y : Int) (hy : rg y) : Met l y_AL_feastDate wd_AL_feastDate rm_AL_feastDate (va_Pc [.int (iI (y))] (PRO D k [])) (QRi (fun r : Int32 => r = (iI (feastZ y)))) 0 0 nA := by
  refine r_i (by decide) rfl (Nat.le_of_ble_eq_true rfl) ?_
  intro p e s m args below meth c Q ls hx hb hml hown hts hpre hl ret
  obtain ⟨hP, hK, hX⟩ := hpre
  have hS : va_S nA s.heap s.heap [] := va_S.rf
  have hl : lv_has ls 14 [(0, .int (iI (y)))] := hl
  obtain ⟨q1, q2⟩ := hy
  refine lv_iload_n hx hb d_AL_feastDate_0 rfl (lv_at hl 0 rfl) ?_
  refine z_sipush hx hb d_AL_feastDate_1 (by decide) ?_
  refine z_icmp_lt (tgt := 14) hx hb d_AL_feastDate_4 (by decide) ⟨by omega, by omega⟩ ⟨by omega, by omega⟩ (fun h4 => ?_) (fun h4 => ?_)
  · refine z_iconst hx hb d_AL_feastDate_14 ?_
    exact ret _ 15 (iI (-1)) d_AL_feastDate_15 (by rw [feastZ_out (by omega)])
  · refine lv_iload_n hx hb d_AL_feastDate_7 rfl (lv_at hl 0 rfl) ?_
    refine z_sipush hx hb d_AL_feastDate_8 (by decide) ?_
    refine z_icmp_le (tgt := 16) hx hb d_AL_feastDate_11 (by decide) ⟨by omega, by omega⟩ ⟨by omega, by omega⟩ (fun h11 => ?_) (fun h11 => ?_)
    · refine lv_iload_n hx hb d_AL_feastDate_16 rfl (lv_at hl 0 rfl) ?_
      refine z_bipush hx hb d_AL_feastDate_17 (by decide) ?_
      refine z_irem hx hb d_AL_feastDate_19 ⟨by omega, by omega⟩ (by omega) ⟨by omega, by omega⟩ (by omega) ?_
      obtain ⟨a, h_a⟩ : ∃ a : Int, a = (y) % (19) := ⟨_, rfl⟩
      refine z_top (show iI ((y) % (19)) = iI a from by rw [h_a]) ?_
      refine lv_istore_n (lv' := [(1, .int (iI (a))), (0, .int (iI (y)))]) hx hb d_AL_feastDate_20 rfl hl (by decide) rfl (fun ls hl => ?_)
      refine lv_iload_n hx hb d_AL_feastDate_21 rfl (lv_at hl 1 rfl) ?_
      refine z_bipush hx hb d_AL_feastDate_22 (by decide) ?_
      refine z_idiv hx hb d_AL_feastDate_24 ⟨by omega, by omega⟩ (by omega) ⟨by omega, by omega⟩ (by omega) ?_
      obtain ⟨b, h_b⟩ : ∃ b : Int, b = (y) / (100) := ⟨_, rfl⟩
      refine z_top (show iI ((y) / (100)) = iI b from by rw [h_b]) ?_
      refine lv_istore_n (lv' := [(2, .int (iI (b))), (1, .int (iI (a))), (0, .int (iI (y)))]) hx hb d_AL_feastDate_25 rfl hl (by decide) rfl (fun ls hl => ?_)
      refine lv_iload_n hx hb d_AL_feastDate_26 rfl (lv_at hl 2 rfl) ?_
      refine z_bipush hx hb d_AL_feastDate_27 (by decide) ?_
      refine z_irem hx hb d_AL_feastDate_29 ⟨by omega, by omega⟩ (by omega) ⟨by omega, by omega⟩ (by omega) ?_
      obtain ⟨c1, h_c1⟩ : ∃ c1 : Int, c1 = (y) % (100) := ⟨_, rfl⟩
      refine z_top (show iI ((y) % (100)) = iI c1 from by rw [h_c1]) ?_
      refine lv_istore_n (lv' := [(3, .int (iI (c1))), (2, .int (iI (b))), (1, .int (iI (a))), (0, .int (iI (y)))]) hx hb d_AL_feastDate_30 rfl hl (by decide) rfl (fun ls hl => ?_)
      refine lv_iload_n hx hb d_AL_feastDate_31 rfl (lv_at hl 1 rfl) ?_
      refine z_iconst hx hb d_AL_feastDate_32 ?_
      refine z_idiv hx hb d_AL_feastDate_33 ⟨by omega, by omega⟩ (by omega) ⟨by omega, by omega⟩ (by omega) ?_
      obtain ⟨d1, h_d1⟩ : ∃ d1 : Int, d1 = (b) / (4) := ⟨_, rfl⟩
      refine z_top (show iI ((b) / (4)) = iI d1 from by rw [h_d1]) ?_
      refine lv_istore (lv' := [(4, .int (iI (d1))), (3, .int (iI (c1))), (2, .int (iI (b))), (1, .int (iI (a))), (0, .int (iI (y)))]) hx hb d_AL_feastDate_34 hl (by decide) rfl (fun ls hl => ?_)
      refine lv_iload_n hx hb d_AL_feastDate_36 rfl (lv_at hl 2 rfl) ?_
      refine z_iconst hx hb d_AL_feastDate_37 ?_
      refine z_irem hx hb d_AL_feastDate_38 ⟨by omega, by omega⟩ (by omega) ⟨by omega, by omega⟩ (by omega) ?_
      obtain ⟨e1, h_e1⟩ : ∃ e1 : Int, e1 = (b) % (4) := ⟨_, rfl⟩
      refine z_top (show iI ((b) % (4)) = iI e1 from by rw [h_e1]) ?_
      refine lv_istore (lv' := [(5, .int (iI (e1))), (4, .int (iI (d1))), (3, .int (iI (c1))), (2, .int (iI (b))), (1, .int (iI (a))), (0, .int (iI (y)))]) hx hb d_AL_feastDate_39 hl (by decide) rfl (fun ls hl => ?_)
      refine lv_iload_n hx hb d_AL_feastDate_41 rfl (lv_at hl 3 rfl) ?_
      refine z_bipush hx hb d_AL_feastDate_42 (by decide) ?_
      refine z_iadd hx hb d_AL_feastDate_44 ?_
      refine z_bipush hx hb d_AL_feastDate_45 (by decide) ?_
      refine z_idiv hx hb d_AL_feastDate_47 ⟨by omega, by omega⟩ (by omega) ⟨by omega, by omega⟩ (by omega) ?_
      obtain ⟨f1, h_f1⟩ : ∃ f1 : Int, f1 = (b + 8) / (25) := ⟨_, rfl⟩
      refine z_top (show iI ((b + 8) / (25)) = iI f1 from by rw [h_f1]) ?_
      refine lv_istore (lv' := [(6, .int (iI (f1))), (5, .int (iI (e1))), (4, .int (iI (d1))), (3, .int (iI (c1))), (2, .int (iI (b))), (1, .int (iI (a))), (0, .int (iI (y)))]) hx hb d_AL_feastDate_48 hl (by decide) rfl (fun ls hl => ?_)
      refine lv_iload_n hx hb d_AL_feastDate_50 rfl (lv_at hl 4 rfl) ?_
      refine lv_iload hx hb d_AL_feastDate_51 (lv_at hl 0 rfl) ?_
      refine z_isub hx hb d_AL_feastDate_53 ?_
      refine z_iconst hx hb d_AL_feastDate_54 ?_
      refine z_iadd hx hb d_AL_feastDate_55 ?_
      refine z_iconst hx hb d_AL_feastDate_56 ?_
      refine z_idiv hx hb d_AL_feastDate_57 ⟨by omega, by omega⟩ (by omega) ⟨by omega, by omega⟩ (by omega) ?_
      obtain ⟨g1, h_g1⟩ : ∃ g1 : Int, g1 = ((b - f1) + 1) / (3) := ⟨_, rfl⟩
      refine z_top (show iI (((b - f1) + 1) / (3)) = iI g1 from by rw [h_g1]) ?_
      refine lv_istore (lv' := [(7, .int (iI (g1))), (6, .int (iI (f1))), (5, .int (iI (e1))), (4, .int (iI (d1))), (3, .int (iI (c1))), (2, .int (iI (b))), (1, .int (iI (a))), (0, .int (iI (y)))]) hx hb d_AL_feastDate_58 hl (by decide) rfl (fun ls hl => ?_)
      refine z_bipush hx hb d_AL_feastDate_60 (by decide) ?_
      refine lv_iload_n hx hb d_AL_feastDate_62 rfl (lv_at hl 6 rfl) ?_
      refine z_imul hx hb d_AL_feastDate_63 ?_
      refine lv_iload_n hx hb d_AL_feastDate_64 rfl (lv_at hl 5 rfl) ?_
      refine z_iadd hx hb d_AL_feastDate_65 ?_
      refine lv_iload hx hb d_AL_feastDate_66 (lv_at hl 3 rfl) ?_
      refine z_isub hx hb d_AL_feastDate_68 ?_
      refine lv_iload hx hb d_AL_feastDate_69 (lv_at hl 0 rfl) ?_
      refine z_isub hx hb d_AL_feastDate_71 ?_
      refine z_bipush hx hb d_AL_feastDate_72 (by decide) ?_
      refine z_iadd hx hb d_AL_feastDate_74 ?_
      refine z_bipush hx hb d_AL_feastDate_75 (by decide) ?_
      refine z_irem hx hb d_AL_feastDate_77 ⟨by omega, by omega⟩ (by omega) ⟨by omega, by omega⟩ (by omega) ?_
      obtain ⟨h1, h_h1⟩ : ∃ h1 : Int, h1 = (((((19 * a) + b) - d1) - g1) + 15) % (30) := ⟨_, rfl⟩
      refine z_top (show iI ((((((19 * a) + b) - d1) - g1) + 15) % (30)) = iI h1 from by rw [h_h1]) ?_
      refine lv_istore (lv' := [(8, .int (iI (h1))), (7, .int (iI (g1))), (6, .int (iI (f1))), (5, .int (iI (e1))), (4, .int (iI (d1))), (3, .int (iI (c1))), (2, .int (iI (b))), (1, .int (iI (a))), (0, .int (iI (y)))]) hx hb d_AL_feastDate_78 hl (by decide) rfl (fun ls hl => ?_)
      refine lv_iload_n hx hb d_AL_feastDate_80 rfl (lv_at hl 5 rfl) ?_
      refine z_iconst hx hb d_AL_feastDate_81 ?_
      refine z_idiv hx hb d_AL_feastDate_82 ⟨by omega, by omega⟩ (by omega) ⟨by omega, by omega⟩ (by omega) ?_
      obtain ⟨i1, h_i1⟩ : ∃ i1 : Int, i1 = (c1) / (4) := ⟨_, rfl⟩
      refine z_top (show iI ((c1) / (4)) = iI i1 from by rw [h_i1]) ?_
      refine lv_istore (lv' := [(9, .int (iI (i1))), (8, .int (iI (h1))), (7, .int (iI (g1))), (6, .int (iI (f1))), (5, .int (iI (e1))), (4, .int (iI (d1))), (3, .int (iI (c1))), (2, .int (iI (b))), (1, .int (iI (a))), (0, .int (iI (y)))]) hx hb d_AL_feastDate_83 hl (by decide) rfl (fun ls hl => ?_)
      refine lv_iload_n hx hb d_AL_feastDate_85 rfl (lv_at hl 6 rfl) ?_
      refine z_iconst hx hb d_AL_feastDate_86 ?_
      refine z_irem hx hb d_AL_feastDate_87 ⟨by omega, by omega⟩ (by omega) ⟨by omega, by omega⟩ (by omega) ?_
      obtain ⟨k1, h_k1⟩ : ∃ k1 : Int, k1 = (c1) % (4) := ⟨_, rfl⟩
      refine z_top (show iI ((c1) % (4)) = iI k1 from by rw [h_k1]) ?_
      refine lv_istore (lv' := [(10, .int (iI (k1))), (9, .int (iI (i1))), (8, .int (iI (h1))), (7, .int (iI (g1))), (6, .int (iI (f1))), (5, .int (iI (e1))), (4, .int (iI (d1))), (3, .int (iI (c1))), (2, .int (iI (b))), (1, .int (iI (a))), (0, .int (iI (y)))]) hx hb d_AL_feastDate_88 hl (by decide) rfl (fun ls hl => ?_)
      refine z_bipush hx hb d_AL_feastDate_90 (by decide) ?_
      refine z_iconst hx hb d_AL_feastDate_92 ?_
      refine lv_iload hx hb d_AL_feastDate_93 (lv_at hl 5 rfl) ?_
      refine z_imul hx hb d_AL_feastDate_95 ?_
      refine z_iadd hx hb d_AL_feastDate_96 ?_
      refine z_iconst hx hb d_AL_feastDate_97 ?_
      refine lv_iload hx hb d_AL_feastDate_98 (lv_at hl 1 rfl) ?_
      refine z_imul hx hb d_AL_feastDate_100 ?_
      refine z_iadd hx hb d_AL_feastDate_101 ?_
      refine lv_iload hx hb d_AL_feastDate_102 (lv_at hl 2 rfl) ?_
      refine z_isub hx hb d_AL_feastDate_104 ?_
      refine lv_iload hx hb d_AL_feastDate_105 (lv_at hl 0 rfl) ?_
      refine z_isub hx hb d_AL_feastDate_107 ?_
      refine z_bipush hx hb d_AL_feastDate_108 (by decide) ?_
      refine z_irem hx hb d_AL_feastDate_110 ⟨by omega, by omega⟩ (by omega) ⟨by omega, by omega⟩ (by omega) ?_
      obtain ⟨l1, h_l1⟩ : ∃ l1 : Int, l1 = ((((32 + (2 * e1)) + (2 * i1)) - h1) - k1) % (7) := ⟨_, rfl⟩
      refine z_top (show iI (((((32 + (2 * e1)) + (2 * i1)) - h1) - k1) % (7)) = iI l1 from by rw [h_l1]) ?_
      refine lv_istore (lv' := [(11, .int (iI (l1))), (10, .int (iI (k1))), (9, .int (iI (i1))), (8, .int (iI (h1))), (7, .int (iI (g1))), (6, .int (iI (f1))), (5, .int (iI (e1))), (4, .int (iI (d1))), (3, .int (iI (c1))), (2, .int (iI (b))), (1, .int (iI (a))), (0, .int (iI (y)))]) hx hb d_AL_feastDate_111 hl (by decide) rfl (fun ls hl => ?_)
      refine lv_iload_n hx hb d_AL_feastDate_113 rfl (lv_at hl 10 rfl) ?_
      refine z_bipush hx hb d_AL_feastDate_114 (by decide) ?_
      refine lv_iload hx hb d_AL_feastDate_116 (lv_at hl 3 rfl) ?_
      refine z_imul hx hb d_AL_feastDate_118 ?_
      refine z_iadd hx hb d_AL_feastDate_119 ?_
      refine z_bipush hx hb d_AL_feastDate_120 (by decide) ?_
      refine lv_iload hx hb d_AL_feastDate_122 (lv_at hl 0 rfl) ?_
      refine z_imul hx hb d_AL_feastDate_124 ?_
      refine z_iadd hx hb d_AL_feastDate_125 ?_
      refine z_sipush hx hb d_AL_feastDate_126 (by decide) ?_
      refine z_idiv hx hb d_AL_feastDate_129 ⟨by omega, by omega⟩ (by omega) ⟨by omega, by omega⟩ (by omega) ?_
      obtain ⟨m1, h_m1⟩ : ∃ m1 : Int, m1 = ((a + (11 * h1)) + (22 * l1)) / (451) := ⟨_, rfl⟩
      refine z_top (show iI (((a + (11 * h1)) + (22 * l1)) / (451)) = iI m1 from by rw [h_m1]) ?_
      refine lv_istore (lv' := [(12, .int (iI (m1))), (11, .int (iI (l1))), (10, .int (iI (k1))), (9, .int (iI (i1))), (8, .int (iI (h1))), (7, .int (iI (g1))), (6, .int (iI (f1))), (5, .int (iI (e1))), (4, .int (iI (d1))), (3, .int (iI (c1))), (2, .int (iI (b))), (1, .int (iI (a))), (0, .int (iI (y)))]) hx hb d_AL_feastDate_130 hl (by decide) rfl (fun ls hl => ?_)
      refine lv_iload hx hb d_AL_feastDate_132 (lv_at hl 4 rfl) ?_
      refine lv_iload hx hb d_AL_feastDate_134 (lv_at hl 1 rfl) ?_
      refine z_iadd hx hb d_AL_feastDate_136 ?_
      refine z_bipush hx hb d_AL_feastDate_137 (by decide) ?_
      refine lv_iload hx hb d_AL_feastDate_139 (lv_at hl 0 rfl) ?_
      refine z_imul hx hb d_AL_feastDate_141 ?_
      refine z_isub hx hb d_AL_feastDate_142 ?_
      refine z_bipush hx hb d_AL_feastDate_143 (by decide) ?_
      refine z_iadd hx hb d_AL_feastDate_145 ?_
      obtain ⟨s1, h_s1⟩ : ∃ s1 : Int, s1 = ((h1 + l1) - (7 * m1)) + 114 := ⟨_, rfl⟩
      refine z_top (show iI (((h1 + l1) - (7 * m1)) + 114) = iI s1 from by rw [h_s1]) ?_
      refine lv_istore (lv' := [(13, .int (iI (s1))), (12, .int (iI (m1))), (11, .int (iI (l1))), (10, .int (iI (k1))), (9, .int (iI (i1))), (8, .int (iI (h1))), (7, .int (iI (g1))), (6, .int (iI (f1))), (5, .int (iI (e1))), (4, .int (iI (d1))), (3, .int (iI (c1))), (2, .int (iI (b))), (1, .int (iI (a))), (0, .int (iI (y)))]) hx hb d_AL_feastDate_146 hl (by decide) rfl (fun ls hl => ?_)
      refine z_bipush hx hb d_AL_feastDate_148 (by decide) ?_
      refine lv_iload hx hb d_AL_feastDate_150 (lv_at hl 0 rfl) ?_
      refine z_bipush hx hb d_AL_feastDate_152 (by decide) ?_
      refine z_idiv hx hb d_AL_feastDate_154 ⟨by omega, by omega⟩ (by omega) ⟨by omega, by omega⟩ (by omega) ?_
      refine z_imul hx hb d_AL_feastDate_155 ?_
      refine lv_iload hx hb d_AL_feastDate_156 (lv_at hl 0 rfl) ?_
      refine z_bipush hx hb d_AL_feastDate_158 (by decide) ?_
      refine z_irem hx hb d_AL_feastDate_160 ⟨by omega, by omega⟩ (by omega) ⟨by omega, by omega⟩ (by omega) ?_
      refine z_iadd hx hb d_AL_feastDate_161 ?_
      refine z_iconst hx hb d_AL_feastDate_162 ?_
      refine z_iadd hx hb d_AL_feastDate_163 ?_
      exact ret _ 164 (iI (((100 * ((s1) / (31))) + ((s1) % (31))) + 1)) d_AL_feastDate_164 (by rw [feastZ_in (by omega)]; subst h_s1 h_m1 h_l1 h_k1 h_i1 h_h1 h_g1 h_f1 h_e1 h_d1 h_c1 h_b h_a; rfl)
    · refine z_iconst hx hb d_AL_feastDate_14 ?_
      exact ret _ 15 (iI (-1)) d_AL_feastDate_15 (by rw [feastZ_out (by omega)])

set_option maxHeartbeats 4000000 in
set_option maxRecDepth 100000 in
theorem c_AL_date (l : Launch) (D : va_G) (k : Nat → ClassId) (h0 a0 a1 : Nat) (d : Nat) (hd : d < 1461) : Met l y_AL_date wd_AL_date rm_AL_date (va_Pc [.ref h0, .int (iI ((d : Int)))] (PRO D k [(h0, .inr (1, [.ref a0, .ref a1])), (a0, .inl (k 0, 1461, .inl (aZ (dateZ))))])) (QRi (fun r : Int32 => r = (iI (dateZ d)))) 0 0 nA := by
  refine r_i (by decide) rfl (Nat.le_of_ble_eq_true rfl) ?_
  intro p e s m args below meth c Q ls hx hb hml hown hts hpre hl ret
  obtain ⟨hP, hK, hX⟩ := hpre
  have hS : va_S nA s.heap s.heap [] := va_S.rf
  have hl : lv_has ls 2 [(0, .ref h0), (1, .int (iI ((d : Int))))] := hl
  refine lv_aload_n hx hb d_AL_date_0 rfl (lv_at hl 0 rfl) ?_
  refine va_get (D := D) (ci := 1) (v := .ref a0) (C := R_AL) (T := F_AL) (N := 2) hx hb hts in_AL hown hK hP 0 rfl rfl 0 (by decide) (hts _ k_128) (fun _ h9 => h9) rfl d_AL_date_1 ?_
  refine lv_iload_n hx hb d_AL_date_4 rfl (lv_at hl 1 rfl) ?_
  refine x_iald hx hb hK hP 1 0 rfl rfl (d) rfl hd (by omega) d_AL_date_5 ?_
  refine z_top (show _ = iI (dateZ (d)) from rfl) ?_
  exact ret _ 6 (iI (dateZ (d))) d_AL_date_6 (rfl)

set_option maxHeartbeats 4000000 in
set_option maxRecDepth 100000 in
theorem c_AL_monthAndDay (l : Launch) (D : va_G) (k : Nat → ClassId) (h0 a0 a1 : Nat) (d : Nat) (hd : d < 1461) : Met l y_AL_monthAndDay wd_AL_monthAndDay rm_AL_monthAndDay (va_Pc [.ref h0, .int (iI ((d : Int)))] (PRO D k [(h0, .inr (1, [.ref a0, .ref a1])), (a0, .inl (k 0, 1461, .inl (aZ (dateZ))))])) (QRi (fun r : Int32 => r = (iI (dateZ d % 10000)))) 0 0 nA := by
  refine r_i (by decide) rfl (Nat.le_of_ble_eq_true rfl) ?_
  intro p e s m args below meth c Q ls hx hb hml hown hts hpre hl ret
  obtain ⟨hP, hK, hX⟩ := hpre
  have hS : va_S nA s.heap s.heap [] := va_S.rf
  have hl : lv_has ls 2 [(0, .ref h0), (1, .int (iI ((d : Int))))] := hl
  have hb9 := dateZ_bd hd
  refine lv_aload_n hx hb d_AL_monthAndDay_0 rfl (lv_at hl 0 rfl) ?_
  refine va_get (D := D) (ci := 1) (v := .ref a0) (C := R_AL) (T := F_AL) (N := 2) hx hb hts in_AL hown hK hP 0 rfl rfl 0 (by decide) (hts _ k_128) (fun _ h9 => h9) rfl d_AL_monthAndDay_1 ?_
  refine lv_iload_n hx hb d_AL_monthAndDay_4 rfl (lv_at hl 1 rfl) ?_
  refine x_iald hx hb hK hP 1 0 rfl rfl (d) rfl hd (by omega) d_AL_monthAndDay_5 ?_
  refine z_top (show _ = iI (dateZ (d)) from rfl) ?_
  refine z_sipush hx hb d_AL_monthAndDay_6 (by decide) ?_
  refine z_irem hx hb d_AL_monthAndDay_9 ⟨by omega, by omega⟩ (by omega) ⟨by omega, by omega⟩ (by omega) ?_
  exact ret _ 10 (iI ((dateZ (d)) % (10000))) d_AL_monthAndDay_10 (rfl)

set_option maxHeartbeats 4000000 in
set_option maxRecDepth 100000 in
theorem c_AL_feastDay (l : Launch) (D : va_G) (k : Nat → ClassId) (h0 a0 a1 : Nat) (d : Nat) (hd : d < 1461) : Met l y_AL_feastDay wd_AL_feastDay rm_AL_feastDay (va_Pc [.ref h0, .int (iI ((d : Int)))] (PRO D k [(h0, .inr (1, [.ref a0, .ref a1])), (a1, .inl (k 0, 4, .inl (aZ (feaZ))))])) (QRi (fun r : Int32 => r = (iI (feaZ (yIx (d : Int)).toNat)))) 0 0 nA := by
  refine r_i (by decide) rfl (Nat.le_of_ble_eq_true rfl) ?_
  intro p e s m args below meth c Q ls hx hb hml hown hts hpre hl ret
  obtain ⟨hP, hK, hX⟩ := hpre
  have hS : va_S nA s.heap s.heap [] := va_S.rf
  have hl : lv_has ls 2 [(0, .ref h0), (1, .int (iI ((d : Int))))] := hl
  refine lv_aload_n hx hb d_AL_feastDay_0 rfl (lv_at hl 0 rfl) ?_
  refine va_get (D := D) (ci := 1) (v := .ref a1) (C := R_AL) (T := F_AL) (N := 2) hx hb hts in_AL hown hK hP 0 rfl rfl 1 (by decide) (hts _ k_129) (fun _ h9 => h9) rfl d_AL_feastDay_1 ?_
  refine lv_iload_n hx hb d_AL_feastDay_4 rfl (lv_at hl 1 rfl) ?_
  refine rc_i (va_runSN (As := [.int (iI ((d : Int)))]) (rest := [.ref a1]) ⟨hx, hb, hml, hown, hts⟩ (c_RC_yearIndex l D k ((d : Int)) (⟨by omega, by omega⟩) ((by omega))) ⟨va_cnB 1 hts (good_RC_yearIndex) rfl rfl rfl (hX.2 _ n_288) (hts _ k_59) (by decide +kernel) ⟨Nat.le_of_ble_eq_true rfl, Nat.le_of_ble_eq_true rfl⟩, (hts _ k_289), trivial⟩ ⟨fun a U g mk q => ⟨q.1, q.2.1, va_K.moved (u := U) (U := U.calling g mk a) (Vm.Alike.refl U.vm) q.2.2.1, q.2.2.2.calling⟩, fun U hU hW => ⟨rfl, by rw [hU]; exact (hP.sub (ws' := []) [] rfl), va_K.moved hW.alike hK, by rw [hU]; exact hX.warm hW⟩⟩ rfl rfl hl.1 rfl (lv_room (Nat.le_of_ble_eq_true rfl)) d_AL_feastDay_5 ⟨Nat.le_of_ble_eq_true rfl, Nat.le_of_ble_eq_true rfl⟩) (fun xr_1 h_xr_1 => ?_)
  subst h_xr_1
  refine x_iald hx hb hK hP 1 0 rfl rfl ((yIx (d : Int)).toNat) (by have := yIx_nn (d : Int); omega) (yIx_ld hd) (by omega) d_AL_feastDay_8 ?_
  refine z_top (show _ = iI (feaZ ((yIx (d : Int)).toNat)) from rfl) ?_
  exact ret _ 9 (iI (feaZ ((yIx (d : Int)).toNat))) d_AL_feastDay_9 (rfl)

set_option maxHeartbeats 4000000 in
set_option maxRecDepth 100000 in
theorem c_AL_hasRank (l : Launch) (D : va_G) (k : Nat → ClassId) (h0 a0 a1 : Nat) (d : Nat) (rk : Int) (hd : d < 1461) (hr : 0 ≤ rk ∧ rk ≤ 9) : Met l y_AL_hasRank wd_AL_hasRank rm_AL_hasRank (va_Pc [.ref h0, .int (iI ((d : Int))), .int (iI (rk))] (PRO D k [(h0, .inr (1, [.ref a0, .ref a1])), (a0, .inl (k 0, 1461, .inl (aZ (dateZ))))])) (QRi (fun r : Int32 => r = (bI (hasRk d rk)))) 0 0 nA := by
  refine r_z (by decide) rfl (Nat.le_of_ble_eq_true rfl) ?_
  intro p e s m args below meth c Q ls hx hb hml hown hts hpre hl ret
  obtain ⟨hP, hK, hX⟩ := hpre
  have hS : va_S nA s.heap s.heap [] := va_S.rf
  have hl : lv_has ls 4 [(0, .ref h0), (1, .int (iI ((d : Int)))), (2, .int (iI (rk)))] := hl
  have hb9 := dateZ_bd hd
  refine lv_aload_n hx hb d_AL_hasRank_0 rfl (lv_at hl 0 rfl) ?_
  refine va_get (D := D) (ci := 1) (v := .ref a0) (C := R_AL) (T := F_AL) (N := 2) hx hb hts in_AL hown hK hP 0 rfl rfl 0 (by decide) (hts _ k_128) (fun _ h9 => h9) rfl d_AL_hasRank_1 ?_
  refine lv_iload_n hx hb d_AL_hasRank_4 rfl (lv_at hl 1 rfl) ?_
  refine x_iald hx hb hK hP 1 0 rfl rfl (d) rfl hd (by omega) d_AL_hasRank_5 ?_
  refine z_top (show _ = iI (dateZ (d)) from rfl) ?_
  refine z_bipush hx hb d_AL_hasRank_6 (by decide) ?_
  refine z_irem hx hb d_AL_hasRank_8 ⟨by omega, by omega⟩ (by omega) ⟨by omega, by omega⟩ (by omega) ?_
  refine lv_istore_n (lv' := [(3, .int (iI ((dateZ (d)) % (100)))), (0, .ref h0), (1, .int (iI ((d : Int)))), (2, .int (iI (rk)))]) hx hb d_AL_hasRank_9 rfl hl (by decide) rfl (fun ls hl => ?_)
  refine lv_iload_n hx hb d_AL_hasRank_10 rfl (lv_at hl 3 rfl) ?_
  refine z_if_le (tgt := 32) hx hb d_AL_hasRank_11 (by decide) ⟨by omega, by omega⟩ (fun h11 => ?_) (fun h11 => ?_)
  · refine lv_iload_n hx hb d_AL_hasRank_32 rfl (lv_at hl 0 rfl) ?_
    refine z_bipush hx hb d_AL_hasRank_33 (by decide) ?_
    refine z_iadd hx hb d_AL_hasRank_35 ?_
    refine lv_aload_n hx hb d_AL_hasRank_36 rfl (lv_at hl 1 rfl) ?_
    refine va_get (D := D) (ci := 1) (v := .ref a0) (C := R_AL) (T := F_AL) (N := 2) hx hb hts in_AL hown hK hP 0 rfl rfl 0 (by decide) (hts _ k_128) (fun _ h9 => h9) rfl d_AL_hasRank_37 ?_
    refine lv_iload_n hx hb d_AL_hasRank_40 rfl (lv_at hl 2 rfl) ?_
    refine x_iald hx hb hK hP 1 0 rfl rfl (d) rfl hd (by omega) d_AL_hasRank_41 ?_
    refine z_top (show _ = iI (dateZ (d)) from rfl) ?_
    refine z_sipush hx hb d_AL_hasRank_42 (by decide) ?_
    refine z_idiv hx hb d_AL_hasRank_45 ⟨by omega, by omega⟩ (by omega) ⟨by omega, by omega⟩ (by omega) ?_
    refine lv_aload_n hx hb d_AL_hasRank_46 rfl (lv_at hl 1 rfl) ?_
    refine va_get (D := D) (ci := 1) (v := .ref a0) (C := R_AL) (T := F_AL) (N := 2) hx hb hts in_AL hown hK hP 0 rfl rfl 0 (by decide) (hts _ k_128) (fun _ h9 => h9) rfl d_AL_hasRank_47 ?_
    refine lv_iload_n hx hb d_AL_hasRank_50 rfl (lv_at hl 2 rfl) ?_
    refine x_iald hx hb hK hP 1 0 rfl rfl (d) rfl hd (by omega) d_AL_hasRank_51 ?_
    refine z_top (show _ = iI (dateZ (d)) from rfl) ?_
    refine z_bipush hx hb d_AL_hasRank_52 (by decide) ?_
    refine z_idiv hx hb d_AL_hasRank_54 ⟨by omega, by omega⟩ (by omega) ⟨by omega, by omega⟩ (by omega) ?_
    refine z_bipush hx hb d_AL_hasRank_55 (by decide) ?_
    refine z_irem hx hb d_AL_hasRank_57 ⟨by omega, by omega⟩ (by omega) ⟨by omega, by omega⟩ (by omega) ?_
    refine rc_i (va_runS (As := [.int (iI ((dateZ (d)) / (10000))), .int (iI (((dateZ (d)) / (100)) % (100)))]) (rest := [.int (iI (((dateZ (d)) % (100)) + 7))]) ⟨hx, hb, hml, hown, hts⟩ (c_AL_monthLength l D k (dateZ d / 10000) (dateZ d / 100 % 100) (⟨by omega, by omega⟩) (⟨by omega, by omega⟩)) ⟨callB_of 2 hts (good_AL_monthLength) rfl rfl rfl (hts _ k_61) (hts _ k_92) (by decide +kernel) ⟨Nat.le_of_ble_eq_true rfl, Nat.le_of_ble_eq_true rfl⟩, (hts _ k_93)⟩ ⟨fun a U g mk q => ⟨q.1, q.2.1, va_K.moved (u := U) (U := U.calling g mk a) (Vm.Alike.refl U.vm) q.2.2.1, q.2.2.2.calling⟩, fun U hU hW => ⟨rfl, by rw [hU]; exact (hP.sub (ws' := []) [] rfl), va_K.moved hW.alike hK, by rw [hU]; exact hX.warm hW⟩⟩ rfl rfl hl.1 rfl (lv_room (Nat.le_of_ble_eq_true rfl)) d_AL_hasRank_58 ⟨Nat.le_of_ble_eq_true rfl, Nat.le_of_ble_eq_true rfl⟩) (fun xr_1 h_xr_1 => ?_)
    subst h_xr_1
    have hq := mLen_le (dateZ d / 10000) (dateZ d / 100 % 100)
    refine z_icmp_le (tgt := 68) hx hb d_AL_hasRank_61 (by decide) ⟨by omega, by omega⟩ ⟨by omega, by omega⟩ (fun h61 => ?_) (fun h61 => ?_)
    · refine z_iconst hx hb d_AL_hasRank_68 ?_
      exact ret _ 69 false d_AL_hasRank_69 (congrArg bI (by unfold hasRk; rw [if_neg (by omega)]; exact (decide_eq_false (by omega)).symm))
    · refine z_iconst hx hb d_AL_hasRank_64 ?_
      refine lv_goto (tgt := 69) hx hb d_AL_hasRank_65 (by decide) ?_
      exact ret _ 69 true d_AL_hasRank_69 (congrArg bI (by unfold hasRk; rw [if_neg (by omega)]; exact (decide_eq_true (by omega)).symm))
  · refine lv_iload_n hx hb d_AL_hasRank_14 rfl (lv_at hl 0 rfl) ?_
    refine z_iconst hx hb d_AL_hasRank_15 ?_
    refine z_isub hx hb d_AL_hasRank_16 ?_
    refine z_bipush hx hb d_AL_hasRank_17 (by decide) ?_
    refine z_idiv hx hb d_AL_hasRank_19 ⟨by omega, by omega⟩ (by omega) ⟨by omega, by omega⟩ (by omega) ?_
    refine z_iconst hx hb d_AL_hasRank_20 ?_
    refine z_iadd hx hb d_AL_hasRank_21 ?_
    refine lv_iload_n hx hb d_AL_hasRank_22 rfl (lv_at hl 3 rfl) ?_
    refine z_icmp_ne (tgt := 30) hx hb d_AL_hasRank_23 (by decide) ⟨by omega, by omega⟩ ⟨by omega, by omega⟩ (fun h23 => ?_) (fun h23 => ?_)
    · refine z_iconst hx hb d_AL_hasRank_30 ?_
      exact ret _ 31 false d_AL_hasRank_31 (congrArg bI (by unfold hasRk; rw [if_pos (by omega)]; exact (decide_eq_false (by omega)).symm))
    · refine z_iconst hx hb d_AL_hasRank_26 ?_
      refine lv_goto (tgt := 31) hx hb d_AL_hasRank_27 (by decide) ?_
      exact ret _ 31 true d_AL_hasRank_31 (congrArg bI (by unfold hasRk; rw [if_pos (by omega)]; exact (decide_eq_true (by omega)).symm))

set_option maxHeartbeats 4000000 in
set_option maxRecDepth 100000 in
theorem c_SH_loses (l : Launch) (D : va_G) (k : Nat → ClassId) (h0 a0 a1 : Nat) (on : Bool) (d : Nat) (hd : d < 1461) : Met l y_SH_loses wd_SH_loses rm_SH_loses (va_Pc [.ref h0, .int (iI ((d : Int)))] (PRO D k [(h0, .inr (7, [.ref a0, .ref a1, .int (bI (on))])), (a0, .inl (k 0, 4, .inl (aZ (losZ)))), (a1, .inl (k 0, 4, .inl (aZ (dblZ))))])) (QRi (fun r : Int32 => r = (bI (lose on d)))) 0 0 nA := by
  refine r_z (by decide) rfl (Nat.le_of_ble_eq_true rfl) ?_
  intro p e s m args below meth c Q ls hx hb hml hown hts hpre hl ret
  obtain ⟨hP, hK, hX⟩ := hpre
  have hS : va_S nA s.heap s.heap [] := va_S.rf
  have hl : lv_has ls 2 [(0, .ref h0), (1, .int (iI ((d : Int))))] := hl
  refine lv_aload_n hx hb d_SH_loses_0 rfl (lv_at hl 0 rfl) ?_
  refine va_get (D := D) (ci := 7) (v := .int (bI (on))) (C := R_SH) (T := F_SH) (N := 3) hx hb hts in_SH hown hK hP 0 rfl rfl 2 (by decide) (hts _ k_108) (fun _ h9 => h9) rfl d_SH_loses_1 ?_
  refine b_if_eq (tgt := 24) hx hb d_SH_loses_4 (by decide) (fun h4 => ?_) (fun h4 => ?_)
  · refine z_iconst hx hb d_SH_loses_24 ?_
    exact ret _ 25 false d_SH_loses_25 (congrArg bI (by unfold lose; first | (rw [h4]; rfl) | (rw [decide_eq_false h17]; simp)))
  · refine lv_aload_n hx hb d_SH_loses_7 rfl (lv_at hl 0 rfl) ?_
    refine va_get (D := D) (ci := 7) (v := .ref a0) (C := R_SH) (T := F_SH) (N := 3) hx hb hts in_SH hown hK hP 0 rfl rfl 0 (by decide) (hts _ k_106) (fun _ h9 => h9) rfl d_SH_loses_8 ?_
    refine lv_iload_n hx hb d_SH_loses_11 rfl (lv_at hl 1 rfl) ?_
    refine rc_i (va_runSN (As := [.int (iI ((d : Int)))]) (rest := [.ref a0]) ⟨hx, hb, hml, hown, hts⟩ (c_RC_yearIndex l D k ((d : Int)) (⟨by omega, by omega⟩) ((by omega))) ⟨va_cnB 1 hts (good_RC_yearIndex) rfl rfl rfl (hX.2 _ n_309) (hts _ k_59) (by decide +kernel) ⟨Nat.le_of_ble_eq_true rfl, Nat.le_of_ble_eq_true rfl⟩, (hts _ k_289), trivial⟩ ⟨fun a U g mk q => ⟨q.1, q.2.1, va_K.moved (u := U) (U := U.calling g mk a) (Vm.Alike.refl U.vm) q.2.2.1, q.2.2.2.calling⟩, fun U hU hW => ⟨rfl, by rw [hU]; exact (hP.sub (ws' := []) [] rfl), va_K.moved hW.alike hK, by rw [hU]; exact hX.warm hW⟩⟩ rfl rfl hl.1 rfl (lv_room (Nat.le_of_ble_eq_true rfl)) d_SH_loses_12 ⟨Nat.le_of_ble_eq_true rfl, Nat.le_of_ble_eq_true rfl⟩) (fun xr_1 h_xr_1 => ?_)
    subst h_xr_1
    refine x_iald hx hb hK hP 1 0 rfl rfl ((yIx (d : Int)).toNat) (by have := yIx_nn (d : Int); omega) (yIx_ld hd) (by omega) d_SH_loses_15 ?_
    refine z_top (show _ = iI (losZ ((yIx (d : Int)).toNat)) from rfl) ?_
    refine lv_iload_n hx hb d_SH_loses_16 rfl (lv_at hl 1 rfl) ?_
    refine z_icmp_ne (tgt := 24) hx hb d_SH_loses_17 (by decide) (lose_bd (on := on) hd).1 ⟨by omega, by omega⟩ (fun h17 => ?_) (fun h17 => ?_)
    · refine z_iconst hx hb d_SH_loses_24 ?_
      exact ret _ 25 false d_SH_loses_25 (congrArg bI (by unfold lose; first | (rw [h4]; rfl) | (rw [decide_eq_false h17]; simp)))
    · refine z_iconst hx hb d_SH_loses_20 ?_
      refine lv_goto (tgt := 25) hx hb d_SH_loses_21 (by decide) ?_
      exact ret _ 25 true d_SH_loses_25 (congrArg bI (by unfold lose; rw [h4, h17]; simp))

set_option maxHeartbeats 4000000 in
set_option maxRecDepth 100000 in
theorem c_SH_doubles (l : Launch) (D : va_G) (k : Nat → ClassId) (h0 a0 a1 : Nat) (on : Bool) (d : Nat) (hd : d < 1461) : Met l y_SH_doubles wd_SH_doubles rm_SH_doubles (va_Pc [.ref h0, .int (iI ((d : Int)))] (PRO D k [(h0, .inr (7, [.ref a0, .ref a1, .int (bI (on))])), (a0, .inl (k 0, 4, .inl (aZ (losZ)))), (a1, .inl (k 0, 4, .inl (aZ (dblZ))))])) (QRi (fun r : Int32 => r = (bI (dble on d)))) 0 0 nA := by
  refine r_z (by decide) rfl (Nat.le_of_ble_eq_true rfl) ?_
  intro p e s m args below meth c Q ls hx hb hml hown hts hpre hl ret
  obtain ⟨hP, hK, hX⟩ := hpre
  have hS : va_S nA s.heap s.heap [] := va_S.rf
  have hl : lv_has ls 2 [(0, .ref h0), (1, .int (iI ((d : Int))))] := hl
  refine lv_aload_n hx hb d_SH_doubles_0 rfl (lv_at hl 0 rfl) ?_
  refine va_get (D := D) (ci := 7) (v := .int (bI (on))) (C := R_SH) (T := F_SH) (N := 3) hx hb hts in_SH hown hK hP 0 rfl rfl 2 (by decide) (hts _ k_108) (fun _ h9 => h9) rfl d_SH_doubles_1 ?_
  refine b_if_eq (tgt := 24) hx hb d_SH_doubles_4 (by decide) (fun h4 => ?_) (fun h4 => ?_)
  · refine z_iconst hx hb d_SH_doubles_24 ?_
    exact ret _ 25 false d_SH_doubles_25 (congrArg bI (by unfold dble; first | (rw [h4]; rfl) | (rw [decide_eq_false h17]; simp)))
  · refine lv_aload_n hx hb d_SH_doubles_7 rfl (lv_at hl 0 rfl) ?_
    refine va_get (D := D) (ci := 7) (v := .ref a1) (C := R_SH) (T := F_SH) (N := 3) hx hb hts in_SH hown hK hP 0 rfl rfl 1 (by decide) (hts _ k_107) (fun _ h9 => h9) rfl d_SH_doubles_8 ?_
    refine lv_iload_n hx hb d_SH_doubles_11 rfl (lv_at hl 1 rfl) ?_
    refine rc_i (va_runSN (As := [.int (iI ((d : Int)))]) (rest := [.ref a1]) ⟨hx, hb, hml, hown, hts⟩ (c_RC_yearIndex l D k ((d : Int)) (⟨by omega, by omega⟩) ((by omega))) ⟨va_cnB 1 hts (good_RC_yearIndex) rfl rfl rfl (hX.2 _ n_309) (hts _ k_59) (by decide +kernel) ⟨Nat.le_of_ble_eq_true rfl, Nat.le_of_ble_eq_true rfl⟩, (hts _ k_289), trivial⟩ ⟨fun a U g mk q => ⟨q.1, q.2.1, va_K.moved (u := U) (U := U.calling g mk a) (Vm.Alike.refl U.vm) q.2.2.1, q.2.2.2.calling⟩, fun U hU hW => ⟨rfl, by rw [hU]; exact (hP.sub (ws' := []) [] rfl), va_K.moved hW.alike hK, by rw [hU]; exact hX.warm hW⟩⟩ rfl rfl hl.1 rfl (lv_room (Nat.le_of_ble_eq_true rfl)) d_SH_doubles_12 ⟨Nat.le_of_ble_eq_true rfl, Nat.le_of_ble_eq_true rfl⟩) (fun xr_1 h_xr_1 => ?_)
    subst h_xr_1
    refine x_iald hx hb hK hP 2 0 rfl rfl ((yIx (d : Int)).toNat) (by have := yIx_nn (d : Int); omega) (yIx_ld hd) (by omega) d_SH_doubles_15 ?_
    refine z_top (show _ = iI (dblZ ((yIx (d : Int)).toNat)) from rfl) ?_
    refine lv_iload_n hx hb d_SH_doubles_16 rfl (lv_at hl 1 rfl) ?_
    refine z_icmp_ne (tgt := 24) hx hb d_SH_doubles_17 (by decide) (lose_bd (on := on) hd).2 ⟨by omega, by omega⟩ (fun h17 => ?_) (fun h17 => ?_)
    · refine z_iconst hx hb d_SH_doubles_24 ?_
      exact ret _ 25 false d_SH_doubles_25 (congrArg bI (by unfold dble; first | (rw [h4]; rfl) | (rw [decide_eq_false h17]; simp)))
    · refine z_iconst hx hb d_SH_doubles_20 ?_
      refine lv_goto (tgt := 25) hx hb d_SH_doubles_21 (by decide) ?_
      exact ret _ 25 true d_SH_doubles_25 (congrArg bI (by unfold dble; rw [h4, h17]; simp))

set_option maxHeartbeats 4000000 in
set_option maxRecDepth 100000 in
theorem c_SH_isShifted (l : Launch) (D : va_G) (k : Nat → ClassId) (h0 a0 a1 : Nat) (on : Bool) (z : Int) (hz : rg z) : Met l y_SH_isShifted wd_SH_isShifted rm_SH_isShifted (va_Pc [.ref h0, .int (iI (z))] (PRO D k [(h0, .inr (7, [.ref a0, .ref a1, .int (bI (on))]))])) (QRi (fun r : Int32 => r = (bI (shf z)))) 0 0 nA := by
  refine r_z (by decide) rfl (Nat.le_of_ble_eq_true rfl) ?_
  intro p e s m args below meth c Q ls hx hb hml hown hts hpre hl ret
  obtain ⟨hP, hK, hX⟩ := hpre
  have hS : va_S nA s.heap s.heap [] := va_S.rf
  have hl : lv_has ls 2 [(0, .ref h0), (1, .int (iI (z)))] := hl
  obtain ⟨q1, q2⟩ := hz
  refine lv_iload_n hx hb d_SH_isShifted_0 rfl (lv_at hl 1 rfl) ?_
  refine z_iconst hx hb d_SH_isShifted_1 ?_
  refine z_icmp_lt (tgt := 15) hx hb d_SH_isShifted_2 (by decide) ⟨by omega, by omega⟩ ⟨by omega, by omega⟩ (fun h2 => ?_) (fun h2 => ?_)
  · refine z_iconst hx hb d_SH_isShifted_15 ?_
    exact ret _ 16 false d_SH_isShifted_16 (congrArg bI (by unfold shf; simp; omega))
  · refine lv_iload_n hx hb d_SH_isShifted_5 rfl (lv_at hl 1 rfl) ?_
    refine z_bipush hx hb d_SH_isShifted_6 (by decide) ?_
    refine z_icmp_ge (tgt := 15) hx hb d_SH_isShifted_8 (by decide) ⟨by omega, by omega⟩ ⟨by omega, by omega⟩ (fun h8 => ?_) (fun h8 => ?_)
    · refine z_iconst hx hb d_SH_isShifted_15 ?_
      exact ret _ 16 false d_SH_isShifted_16 (congrArg bI (by unfold shf; simp; omega))
    · refine z_iconst hx hb d_SH_isShifted_11 ?_
      refine lv_goto (tgt := 16) hx hb d_SH_isShifted_12 (by decide) ?_
      exact ret _ 16 true d_SH_isShifted_16 (congrArg bI (by unfold shf; simp; omega))

set_option maxHeartbeats 4000000 in
set_option maxRecDepth 100000 in
theorem c_SH_isLost (l : Launch) (D : va_G) (k : Nat → ClassId) (h0 a0 a1 : Nat) (on : Bool) (d : Nat) (z : Int) (hd : d < 1461) (hz : rg z) : Met l y_SH_isLost wd_SH_isLost rm_SH_isLost (va_Pc [.ref h0, .int (iI ((d : Int))), .int (iI (z))] (PRO D k [(h0, .inr (7, [.ref a0, .ref a1, .int (bI (on))])), (a0, .inl (k 0, 4, .inl (aZ (losZ)))), (a1, .inl (k 0, 4, .inl (aZ (dblZ))))])) (QRi (fun r : Int32 => r = (bI (shf z && lose on d)))) 0 0 nA := by
  refine r_z (by decide) rfl (Nat.le_of_ble_eq_true rfl) ?_
  intro p e s m args below meth c Q ls hx hb hml hown hts hpre hl ret
  obtain ⟨hP, hK, hX⟩ := hpre
  have hS : va_S nA s.heap s.heap [] := va_S.rf
  have hl : lv_has ls 3 [(0, .ref h0), (1, .int (iI ((d : Int)))), (2, .int (iI (z)))] := hl
  obtain ⟨q1, q2⟩ := hz
  refine lv_aload_n hx hb d_SH_isLost_0 rfl (lv_at hl 0 rfl) ?_
  refine lv_iload_n hx hb d_SH_isLost_1 rfl (lv_at hl 2 rfl) ?_
  refine rc_i (va_runV (As := [.int (iI (z))]) (rest := []) (b := h0) ⟨hx, hb, hml, hown, hts⟩ (c_SH_isShifted l D k (h0) (a0) (a1) (on) (z) (⟨by omega, by omega⟩)) ⟨callB_of 1 hts (good_SH_isShifted) rfl rfl rfl (hts _ k_60) (hts _ k_318) (by decide +kernel) ⟨Nat.le_of_ble_eq_true rfl, Nat.le_of_ble_eq_true rfl⟩, (hts _ k_319), (hts _ k_320)⟩ ⟨fun a U g mk q => ⟨q.1, q.2.1, va_K.moved (u := U) (U := U.calling g mk a) (Vm.Alike.refl U.vm) q.2.2.1, q.2.2.2.calling⟩, (va_recv (q0 := 0) hK hP rfl rfl), fun U hU hW => ⟨rfl, by rw [hU]; exact (hP.sub (ws' := [(h0, .inr (7, [.ref a0, .ref a1, .int (bI (on))]))]) [0] rfl), va_K.moved hW.alike hK, by rw [hU]; exact hX.warm hW⟩⟩ rfl rfl hl.1 rfl (lv_room (Nat.le_of_ble_eq_true rfl)) d_SH_isLost_2 ⟨Nat.le_of_ble_eq_true rfl, Nat.le_of_ble_eq_true rfl⟩) (fun xr_1 h_xr_1 => ?_)
  subst h_xr_1
  refine b_if_eq (tgt := 20) hx hb d_SH_isLost_5 (by decide) (fun h5 => ?_) (fun h5 => ?_)
  · refine z_iconst hx hb d_SH_isLost_20 ?_
    exact ret _ 21 false d_SH_isLost_21 (congrArg bI (by first | (rw [h5]; rfl) | (rw [h13]; simp)))
  · refine lv_aload_n hx hb d_SH_isLost_8 rfl (lv_at hl 0 rfl) ?_
    refine lv_iload_n hx hb d_SH_isLost_9 rfl (lv_at hl 1 rfl) ?_
    refine rc_i (va_runV (As := [.int (iI ((d : Int)))]) (rest := []) (b := h0) ⟨hx, hb, hml, hown, hts⟩ (c_SH_loses l D k (h0) (a0) (a1) (on) (d) (hd)) ⟨callB_of 1 hts (good_SH_loses) rfl rfl rfl (hts _ k_60) (hts _ k_310) (by decide +kernel) ⟨Nat.le_of_ble_eq_true rfl, Nat.le_of_ble_eq_true rfl⟩, (hts _ k_311), (hts _ k_312)⟩ ⟨fun a U g mk q => ⟨q.1, q.2.1, va_K.moved (u := U) (U := U.calling g mk a) (Vm.Alike.refl U.vm) q.2.2.1, q.2.2.2.calling⟩, (va_recv (q0 := 0) hK hP rfl rfl), fun U hU hW => ⟨rfl, by rw [hU]; exact hP, va_K.moved hW.alike hK, by rw [hU]; exact hX.warm hW⟩⟩ rfl rfl hl.1 rfl (lv_room (Nat.le_of_ble_eq_true rfl)) d_SH_isLost_10 ⟨Nat.le_of_ble_eq_true rfl, Nat.le_of_ble_eq_true rfl⟩) (fun xr_2 h_xr_2 => ?_)
    subst h_xr_2
    refine b_if_eq (tgt := 20) hx hb d_SH_isLost_13 (by decide) (fun h13 => ?_) (fun h13 => ?_)
    · refine z_iconst hx hb d_SH_isLost_20 ?_
      exact ret _ 21 false d_SH_isLost_21 (congrArg bI (by first | (rw [h5]; rfl) | (rw [h13]; simp)))
    · refine z_iconst hx hb d_SH_isLost_16 ?_
      refine lv_goto (tgt := 21) hx hb d_SH_isLost_17 (by decide) ?_
      exact ret _ 21 true d_SH_isLost_21 (congrArg bI (by rw [h5, h13]; rfl))

set_option maxHeartbeats 4000000 in
set_option maxRecDepth 100000 in
theorem c_SH_cellsOf (l : Launch) (D : va_G) (k : Nat → ClassId) (h0 a0 a1 : Nat) (on : Bool) (d : Nat) (hd : d < 1461) : Met l y_SH_cellsOf wd_SH_cellsOf rm_SH_cellsOf (va_Pc [.ref h0, .int (iI ((d : Int)))] (PRO D k [(h0, .inr (7, [.ref a0, .ref a1, .int (bI (on))])), (a0, .inl (k 0, 4, .inl (aZ (losZ)))), (a1, .inl (k 0, 4, .inl (aZ (dblZ))))])) (QRl (fun r : Int64 => r = (cOf on d))) 0 0 nA := by
  refine r_l (by decide) rfl (Nat.le_of_ble_eq_true rfl) ?_
  intro p e s m args below meth c Q ls hx hb hml hown hts hpre hl ret
  obtain ⟨hP, hK, hX⟩ := hpre
  have hS : va_S nA s.heap s.heap [] := va_S.rf
  have hl : lv_has ls 2 [(0, .ref h0), (1, .int (iI ((d : Int))))] := hl
  refine lv_aload_n hx hb d_SH_cellsOf_0 rfl (lv_at hl 0 rfl) ?_
  refine lv_iload_n hx hb d_SH_cellsOf_1 rfl (lv_at hl 1 rfl) ?_
  refine rc_i (va_runV (As := [.int (iI ((d : Int)))]) (rest := []) (b := h0) ⟨hx, hb, hml, hown, hts⟩ (c_SH_loses l D k (h0) (a0) (a1) (on) (d) (hd)) ⟨callB_of 1 hts (good_SH_loses) rfl rfl rfl (hts _ k_60) (hts _ k_310) (by decide +kernel) ⟨Nat.le_of_ble_eq_true rfl, Nat.le_of_ble_eq_true rfl⟩, (hts _ k_311), (hts _ k_312)⟩ ⟨fun a U g mk q => ⟨q.1, q.2.1, va_K.moved (u := U) (U := U.calling g mk a) (Vm.Alike.refl U.vm) q.2.2.1, q.2.2.2.calling⟩, (va_recv (q0 := 0) hK hP rfl rfl), fun U hU hW => ⟨rfl, by rw [hU]; exact hP, va_K.moved hW.alike hK, by rw [hU]; exact hX.warm hW⟩⟩ rfl rfl hl.1 rfl (lv_room (Nat.le_of_ble_eq_true rfl)) d_SH_cellsOf_2 ⟨Nat.le_of_ble_eq_true rfl, Nat.le_of_ble_eq_true rfl⟩) (fun xr_1 h_xr_1 => ?_)
  subst h_xr_1
  refine b_if_eq (tgt := 14) hx hb d_SH_cellsOf_5 (by decide) (fun h5 => ?_) (fun h5 => ?_)
  · refine W.ldc2 (v := 281474976710655) hx hb hown (hts _ k_629) rfl d_SH_cellsOf_14 ?_
    refine W.eq (g2 := F0 m 17 ls (.long (281474976710655) :: [])) rfl ?_
    exact ret _ 17 ((281474976710655 : Int64)) d_SH_cellsOf_17 (by unfold cOf; rw [h5]; rfl)
  · refine W.ldc2 (v := 281474976710607) hx hb hown (hts _ k_628) rfl d_SH_cellsOf_8 ?_
    refine W.eq (g2 := F0 m 11 ls (.long (281474976710607) :: [])) rfl ?_
    refine lv_goto (tgt := 17) hx hb d_SH_cellsOf_11 (by decide) ?_
    exact ret _ 17 ((281474976710607 : Int64)) d_SH_cellsOf_17 (by unfold cOf; rw [h5]; rfl)

set_option maxHeartbeats 4000000 in
set_option maxRecDepth 100000 in
theorem c_SH_cellsBehind (l : Launch) (D : va_G) (k : Nat → ClassId) (h0 a0 a1 : Nat) (on : Bool) (d : Nat) (q : Nat) (hd : d < 1461) (hq : q < 48) : Met l y_SH_cellsBehind wd_SH_cellsBehind rm_SH_cellsBehind (va_Pc [.ref h0, .int (iI ((d : Int))), .int (iI ((q : Int)))] (PRO D k [(h0, .inr (7, [.ref a0, .ref a1, .int (bI (on))])), (a0, .inl (k 0, 4, .inl (aZ (losZ)))), (a1, .inl (k 0, 4, .inl (aZ (dblZ))))])) (QRl (fun r : Int64 => r = (cBeh on d q))) 0 0 nA := by
  refine r_l (by decide) rfl (Nat.le_of_ble_eq_true rfl) ?_
  intro p e s m args below meth c Q ls hx hb hml hown hts hpre hl ret
  obtain ⟨hP, hK, hX⟩ := hpre
  have hS : va_S nA s.heap s.heap [] := va_S.rf
  have hl : lv_has ls 5 [(0, .ref h0), (1, .int (iI ((d : Int)))), (2, .int (iI ((q : Int))))] := hl
  refine lv_aload_n hx hb d_SH_cellsBehind_0 rfl (lv_at hl 0 rfl) ?_
  refine lv_iload_n hx hb d_SH_cellsBehind_1 rfl (lv_at hl 1 rfl) ?_
  refine rc_l (va_runV (As := [.int (iI ((d : Int)))]) (rest := []) (b := h0) ⟨hx, hb, hml, hown, hts⟩ (c_SH_cellsOf l D k (h0) (a0) (a1) (on) (d) (hd)) ⟨callB_of 1 hts (good_SH_cellsOf) rfl rfl rfl (hts _ k_60) (hts _ k_624) (by decide +kernel) ⟨Nat.le_of_ble_eq_true rfl, Nat.le_of_ble_eq_true rfl⟩, (hts _ k_625), (hts _ k_626)⟩ ⟨fun a U g mk q => ⟨q.1, q.2.1, va_K.moved (u := U) (U := U.calling g mk a) (Vm.Alike.refl U.vm) q.2.2.1, q.2.2.2.calling⟩, (va_recv (q0 := 0) hK hP rfl rfl), fun U hU hW => ⟨rfl, by rw [hU]; exact hP, va_K.moved hW.alike hK, by rw [hU]; exact hX.warm hW⟩⟩ rfl rfl hl.1 rfl (lv_room (Nat.le_of_ble_eq_true rfl)) d_SH_cellsBehind_2 ⟨Nat.le_of_ble_eq_true rfl, Nat.le_of_ble_eq_true rfl⟩) (fun xr_1 h_xr_1 => ?_)
  subst h_xr_1
  refine lv_iload_n hx hb d_SH_cellsBehind_5 rfl (lv_at hl 2 rfl) ?_
  refine z_iconst hx hb d_SH_cellsBehind_6 ?_
  refine z_iadd hx hb d_SH_cellsBehind_7 ?_
  refine rc_l (va_runSN (As := [.int (iI (((q : Int)) + 1))]) (rest := [.long (cOf on d)]) ⟨hx, hb, hml, hown, hts⟩ (c_RC_cellsBelow l D k (q + 1)) ⟨va_cnB 1 hts (good_RC_cellsBelow) rfl rfl rfl (hX.2 _ n_630) (hts _ k_59) (by decide +kernel) ⟨Nat.le_of_ble_eq_true rfl, Nat.le_of_ble_eq_true rfl⟩, (hts _ k_549), trivial⟩ ⟨fun a U g mk q => ⟨q.1, q.2.1, va_K.moved (u := U) (U := U.calling g mk a) (Vm.Alike.refl U.vm) q.2.2.1, q.2.2.2.calling⟩, fun U hU hW => ⟨rfl, by rw [hU]; exact (hP.sub (ws' := []) [] rfl), va_K.moved hW.alike hK, by rw [hU]; exact hX.warm hW⟩⟩ rfl rfl hl.1 rfl (lv_room (Nat.le_of_ble_eq_true rfl)) d_SH_cellsBehind_8 ⟨Nat.le_of_ble_eq_true rfl, Nat.le_of_ble_eq_true rfl⟩) (fun xr_2 h_xr_2 => ?_)
  subst h_xr_2
  refine W.ldc2 (v := -1) hx hb hown (hts _ k_631) rfl d_SH_cellsBehind_11 ?_
  refine W.eq (g2 := F0 m 14 ls (.long (-1) :: [.long (cBel (q + 1)), .long (cOf on d)])) rfl ?_
  refine lv_lxor hx hb d_SH_cellsBehind_14 ?_
  refine lv_land hx hb d_SH_cellsBehind_15 ?_
  refine lv_lstore_n (lv' := [(3, .long ((cOf on d) &&& ((cBel (q + 1)) ^^^ ((-1 : Int64))))), (0, .ref h0), (1, .int (iI ((d : Int)))), (2, .int (iI ((q : Int))))]) hx hb d_SH_cellsBehind_16 rfl hl (by decide) rfl (fun ls hl => ?_)
  refine lv_aload_n hx hb d_SH_cellsBehind_17 rfl (lv_at hl 1 rfl) ?_
  refine lv_iload_n hx hb d_SH_cellsBehind_18 rfl (lv_at hl 3 rfl) ?_
  refine rc_i (va_runV (As := [.int (iI ((q : Int)))]) (rest := []) (b := h0) ⟨hx, hb, hml, hown, hts⟩ (c_SH_isShifted l D k (h0) (a0) (a1) (on) ((q : Int)) (⟨by omega, by omega⟩)) ⟨callB_of 1 hts (good_SH_isShifted) rfl rfl rfl (hts _ k_60) (hts _ k_318) (by decide +kernel) ⟨Nat.le_of_ble_eq_true rfl, Nat.le_of_ble_eq_true rfl⟩, (hts _ k_319), (hts _ k_320)⟩ ⟨fun a U g mk q => ⟨q.1, q.2.1, va_K.moved (u := U) (U := U.calling g mk a) (Vm.Alike.refl U.vm) q.2.2.1, q.2.2.2.calling⟩, (va_recv (q0 := 0) hK hP rfl rfl), fun U hU hW => ⟨rfl, by rw [hU]; exact (hP.sub (ws' := [(h0, .inr (7, [.ref a0, .ref a1, .int (bI (on))]))]) [0] rfl), va_K.moved hW.alike hK, by rw [hU]; exact hX.warm hW⟩⟩ rfl rfl hl.1 rfl (lv_room (Nat.le_of_ble_eq_true rfl)) d_SH_cellsBehind_19 ⟨Nat.le_of_ble_eq_true rfl, Nat.le_of_ble_eq_true rfl⟩) (fun xr_3 h_xr_3 => ?_)
  subst h_xr_3
  refine b_if_eq (tgt := 49) hx hb d_SH_cellsBehind_22 (by decide) (fun h22 => ?_) (fun h22 => ?_)
  · refine lv_lload_n hx hb d_SH_cellsBehind_49 rfl (lv_at hl 0 rfl) ?_
    exact ret _ 50 ((cOf on d) &&& ((cBel (q + 1)) ^^^ ((-1 : Int64)))) d_SH_cellsBehind_50 (by unfold cBeh; first | (rw [h22]; rfl) | (rw [h30]; simp))
  · refine lv_aload_n hx hb d_SH_cellsBehind_25 rfl (lv_at hl 1 rfl) ?_
    refine lv_iload_n hx hb d_SH_cellsBehind_26 rfl (lv_at hl 2 rfl) ?_
    refine rc_i (va_runV (As := [.int (iI ((d : Int)))]) (rest := []) (b := h0) ⟨hx, hb, hml, hown, hts⟩ (c_SH_doubles l D k (h0) (a0) (a1) (on) (d) (hd)) ⟨callB_of 1 hts (good_SH_doubles) rfl rfl rfl (hts _ k_60) (hts _ k_314) (by decide +kernel) ⟨Nat.le_of_ble_eq_true rfl, Nat.le_of_ble_eq_true rfl⟩, (hts _ k_315), (hts _ k_316)⟩ ⟨fun a U g mk q => ⟨q.1, q.2.1, va_K.moved (u := U) (U := U.calling g mk a) (Vm.Alike.refl U.vm) q.2.2.1, q.2.2.2.calling⟩, (va_recv (q0 := 0) hK hP rfl rfl), fun U hU hW => ⟨rfl, by rw [hU]; exact hP, va_K.moved hW.alike hK, by rw [hU]; exact hX.warm hW⟩⟩ rfl rfl hl.1 rfl (lv_room (Nat.le_of_ble_eq_true rfl)) d_SH_cellsBehind_27 ⟨Nat.le_of_ble_eq_true rfl, Nat.le_of_ble_eq_true rfl⟩) (fun xr_4 h_xr_4 => ?_)
    subst h_xr_4
    refine b_if_eq (tgt := 49) hx hb d_SH_cellsBehind_30 (by decide) (fun h30 => ?_) (fun h30 => ?_)
    · refine lv_lload_n hx hb d_SH_cellsBehind_49 rfl (lv_at hl 0 rfl) ?_
      exact ret _ 50 ((cOf on d) &&& ((cBel (q + 1)) ^^^ ((-1 : Int64)))) d_SH_cellsBehind_50 (by unfold cBeh; first | (rw [h22]; rfl) | (rw [h30]; simp))
    · refine lv_lload_n hx hb d_SH_cellsBehind_33 rfl (lv_at hl 0 rfl) ?_
      refine W.ldc2 (v := 48) hx hb hown (hts _ k_632) rfl d_SH_cellsBehind_34 ?_
      refine W.eq (g2 := F0 m 37 ls (.long (48) :: [.long ((cOf on d) &&& ((cBel (q + 1)) ^^^ ((-1 : Int64))))])) rfl ?_
      refine lv_lconst (v := 1) hx hb d_SH_cellsBehind_37 (by decide) ?_
      refine lv_iload_n hx hb d_SH_cellsBehind_38 rfl (lv_at hl 3 rfl) ?_
      refine lv_lshl hx hb d_SH_cellsBehind_39 rfl ?_
      refine W.ldc2 (v := -1) hx hb hown (hts _ k_631) rfl d_SH_cellsBehind_40 ?_
      refine W.eq (g2 := F0 m 43 ls (.long (-1) :: [.long (((1 : Int64)) <<< ((iI ((q : Int))).toInt64 &&& 63)), .long ((48 : Int64)), .long ((cOf on d) &&& ((cBel (q + 1)) ^^^ ((-1 : Int64))))])) rfl ?_
      refine lv_lxor hx hb d_SH_cellsBehind_43 ?_
      refine lv_land hx hb d_SH_cellsBehind_44 ?_
      refine lv_lor hx hb d_SH_cellsBehind_45 ?_
      refine lv_goto (tgt := 50) hx hb d_SH_cellsBehind_46 (by decide) ?_
      exact ret _ 50 (((cOf on d) &&& ((cBel (q + 1)) ^^^ ((-1 : Int64)))) ||| (((48 : Int64)) &&& ((((1 : Int64)) <<< ((iI ((q : Int))).toInt64 &&& 63)) ^^^ ((-1 : Int64))))) d_SH_cellsBehind_50 (by unfold cBeh; rw [h22, h30]; rfl)

set_option maxHeartbeats 4000000 in
set_option maxRecDepth 100000 in
theorem c_SH_startOf (l : Launch) (D : va_G) (k : Nat → ClassId) (h0 a0 a1 : Nat) (on : Bool) (d : Nat) (hd : d < 1461) : Met l y_SH_startOf wd_SH_startOf rm_SH_startOf (va_Pc [.ref h0, .int (iI ((d : Int)))] (PRO D k [(h0, .inr (7, [.ref a0, .ref a1, .int (bI (on))])), (a0, .inl (k 0, 4, .inl (aZ (losZ)))), (a1, .inl (k 0, 4, .inl (aZ (dblZ))))])) (QRi (fun r : Int32 => r = (iI (stZ on d)))) 0 0 nA := by
  refine r_i (by decide) rfl (Nat.le_of_ble_eq_true rfl) ?_
  intro p e s m args below meth c Q ls hx hb hml hown hts hpre hl ret
  obtain ⟨hP, hK, hX⟩ := hpre
  have hS : va_S nA s.heap s.heap [] := va_S.rf
  have hl : lv_has ls 4 [(0, .ref h0), (1, .int (iI ((d : Int))))] := hl
  have hb9 := ld_bd (yIx_ld hd)
  refine lv_iload_n hx hb d_SH_startOf_0 rfl (lv_at hl 1 rfl) ?_
  refine rc_i (va_runSN (As := [.int (iI ((d : Int)))]) (rest := []) ⟨hx, hb, hml, hown, hts⟩ (c_RC_yearIndex l D k ((d : Int)) (⟨by omega, by omega⟩) ((by omega))) ⟨va_cnB 1 hts (good_RC_yearIndex) rfl rfl rfl (hX.2 _ n_309) (hts _ k_59) (by decide +kernel) ⟨Nat.le_of_ble_eq_true rfl, Nat.le_of_ble_eq_true rfl⟩, (hts _ k_289), trivial⟩ ⟨fun a U g mk q => ⟨q.1, q.2.1, va_K.moved (u := U) (U := U.calling g mk a) (Vm.Alike.refl U.vm) q.2.2.1, q.2.2.2.calling⟩, fun U hU hW => ⟨rfl, by rw [hU]; exact (hP.sub (ws' := []) [] rfl), va_K.moved hW.alike hK, by rw [hU]; exact hX.warm hW⟩⟩ rfl rfl hl.1 rfl (lv_room (Nat.le_of_ble_eq_true rfl)) d_SH_startOf_1 ⟨Nat.le_of_ble_eq_true rfl, Nat.le_of_ble_eq_true rfl⟩) (fun xr_1 h_xr_1 => ?_)
  subst h_xr_1
  refine lv_istore_n (lv' := [(2, .int (iI (yIx ((d : Int))))), (0, .ref h0), (1, .int (iI ((d : Int))))]) hx hb d_SH_startOf_4 rfl hl (by decide) rfl (fun ls hl => ?_)
  refine lv_aload_n hx hb d_SH_startOf_5 rfl (lv_at hl 1 rfl) ?_
  refine va_get (D := D) (ci := 7) (v := .int (bI (on))) (C := R_SH) (T := F_SH) (N := 3) hx hb hts in_SH hown hK hP 0 rfl rfl 2 (by decide) (hts _ k_108) (fun _ h9 => h9) rfl d_SH_startOf_6 ?_
  have J9_1 : W p l e rm_SH_startOf s m args below meth c s.heap [] 0 0 Q (F0 m 37 ls [.int (bI (summ on d))]) := by
    refine lv_istore_n (lv' := [(3, .int (bI (summ on d))), (2, .int (iI (yIx ((d : Int))))), (0, .ref h0), (1, .int (iI ((d : Int))))]) hx hb d_SH_startOf_37 rfl hl (by decide) rfl (fun ls hl => ?_)
    refine z_bipush hx hb d_SH_startOf_38 (by decide) ?_
    refine lv_iload_n hx hb d_SH_startOf_40 rfl (lv_at hl 3 rfl) ?_
    refine z_imul hx hb d_SH_startOf_41 ?_
    refine lv_iload_n hx hb d_SH_startOf_42 rfl (lv_at hl 0 rfl) ?_
    have J43_2 : W p l e rm_SH_startOf s m args below meth c s.heap [] 0 0 Q (F0 m 51 ls [.int (iI (if summ on d then 2 else 0)), .int (iI (48 * ((d : Int))))]) := by
      refine z_isub hx hb d_SH_startOf_51 ?_
      exact ret _ 52 (iI ((48 * ((d : Int))) - (if summ on d then 2 else 0))) d_SH_startOf_52 (rfl)
    refine b_if_eq (tgt := 50) hx hb d_SH_startOf_43 (by decide) (fun h43 => ?_) (fun h43 => ?_)
    · refine z_iconst hx hb d_SH_startOf_50 ?_
      exact z_top (show (iI (0)) = (iI (if summ on d then 2 else 0)) from (by rw [h43]; rfl)) J43_2
    · refine z_iconst hx hb d_SH_startOf_46 ?_
      refine lv_goto (tgt := 51) hx hb d_SH_startOf_47 (by decide) ?_
      exact z_top (show (iI (2)) = (iI (if summ on d then 2 else 0)) from (by rw [h43]; rfl)) J43_2
  refine b_if_eq (tgt := 36) hx hb d_SH_startOf_9 (by decide) (fun h9 => ?_) (fun h9 => ?_)
  · refine z_iconst hx hb d_SH_startOf_36 ?_
    exact z_top (show (iI (0)) = (bI (summ on d)) from bI_F ((by unfold summ; first | (rw [h9]; simp; omega) | (rw [h9]; rfl)))) J9_1
  · refine lv_iload_n hx hb d_SH_startOf_12 rfl (lv_at hl 2 rfl) ?_
    refine lv_aload_n hx hb d_SH_startOf_13 rfl (lv_at hl 1 rfl) ?_
    refine va_get (D := D) (ci := 7) (v := .ref a0) (C := R_SH) (T := F_SH) (N := 3) hx hb hts in_SH hown hK hP 0 rfl rfl 0 (by decide) (hts _ k_106) (fun _ h9 => h9) rfl d_SH_startOf_14 ?_
    refine lv_iload_n hx hb d_SH_startOf_17 rfl (lv_at hl 0 rfl) ?_
    refine x_iald hx hb hK hP 1 0 rfl rfl ((yIx (d : Int)).toNat) (by have := yIx_nn (d : Int); omega) (yIx_ld hd) (by omega) d_SH_startOf_18 ?_
    refine z_top (show _ = iI (losZ ((yIx (d : Int)).toNat)) from rfl) ?_
    refine z_icmp_le (tgt := 36) hx hb d_SH_startOf_19 (by decide) ⟨by omega, by omega⟩ ⟨by omega, by omega⟩ (fun h19 => ?_) (fun h19 => ?_)
    · refine z_iconst hx hb d_SH_startOf_36 ?_
      exact z_top (show (iI (0)) = (bI (summ on d)) from bI_F ((by unfold summ; first | (rw [h9]; simp; omega) | (rw [h9]; rfl)))) J9_1
    · refine lv_iload_n hx hb d_SH_startOf_22 rfl (lv_at hl 2 rfl) ?_
      refine lv_aload_n hx hb d_SH_startOf_23 rfl (lv_at hl 1 rfl) ?_
      refine va_get (D := D) (ci := 7) (v := .ref a1) (C := R_SH) (T := F_SH) (N := 3) hx hb hts in_SH hown hK hP 0 rfl rfl 1 (by decide) (hts _ k_107) (fun _ h9 => h9) rfl d_SH_startOf_24 ?_
      refine lv_iload_n hx hb d_SH_startOf_27 rfl (lv_at hl 0 rfl) ?_
      refine x_iald hx hb hK hP 2 0 rfl rfl ((yIx (d : Int)).toNat) (by have := yIx_nn (d : Int); omega) (yIx_ld hd) (by omega) d_SH_startOf_28 ?_
      refine z_top (show _ = iI (dblZ ((yIx (d : Int)).toNat)) from rfl) ?_
      refine z_icmp_gt (tgt := 36) hx hb d_SH_startOf_29 (by decide) ⟨by omega, by omega⟩ ⟨by omega, by omega⟩ (fun h29 => ?_) (fun h29 => ?_)
      · refine z_iconst hx hb d_SH_startOf_36 ?_
        exact z_top (show (iI (0)) = (bI (summ on d)) from bI_F ((by unfold summ; first | (rw [h9]; simp; omega) | (rw [h9]; rfl)))) J9_1
      · refine z_iconst hx hb d_SH_startOf_32 ?_
        refine lv_goto (tgt := 37) hx hb d_SH_startOf_33 (by decide) ?_
        exact z_top (show (iI (1)) = (bI (summ on d)) from bI_T ((by unfold summ; first | (rw [h9]; simp; omega) | (rw [h9]; rfl)))) J9_1

set_option maxHeartbeats 4000000 in
set_option maxRecDepth 100000 in
theorem c_SH_timeOf (l : Launch) (D : va_G) (k : Nat → ClassId) (h0 a0 a1 : Nat) (on : Bool) (d : Nat) (q : Int) (sec : Bool) (hd : d < 1461) (hq : 0 ≤ q ∧ q ≤ 47) : Met l y_SH_timeOf wd_SH_timeOf rm_SH_timeOf (va_Pc [.ref h0, .int (iI ((d : Int))), .int (iI (q)), .int (bI (sec))] (PRO D k [(h0, .inr (7, [.ref a0, .ref a1, .int (bI (on))])), (a0, .inl (k 0, 4, .inl (aZ (losZ)))), (a1, .inl (k 0, 4, .inl (aZ (dblZ))))])) (QRi (fun r : Int32 => r = (iI (tmZ on d q sec)))) 0 0 nA := by
  refine r_i (by decide) rfl (Nat.le_of_ble_eq_true rfl) ?_
  intro p e s m args below meth c Q ls hx hb hml hown hts hpre hl ret
  obtain ⟨hP, hK, hX⟩ := hpre
  have hS : va_S nA s.heap s.heap [] := va_S.rf
  have hl : lv_has ls 6 [(0, .ref h0), (1, .int (iI ((d : Int)))), (2, .int (iI (q))), (3, .int (bI (sec)))] := hl
  refine lv_aload_n hx hb d_SH_timeOf_0 rfl (lv_at hl 0 rfl) ?_
  refine lv_iload_n hx hb d_SH_timeOf_1 rfl (lv_at hl 1 rfl) ?_
  refine rc_i (va_runV (As := [.int (iI ((d : Int)))]) (rest := []) (b := h0) ⟨hx, hb, hml, hown, hts⟩ (c_SH_startOf l D k (h0) (a0) (a1) (on) (d) (hd)) ⟨callB_of 1 hts (good_SH_startOf) rfl rfl rfl (hts _ k_60) (hts _ k_305) (by decide +kernel) ⟨Nat.le_of_ble_eq_true rfl, Nat.le_of_ble_eq_true rfl⟩, (hts _ k_306), (hts _ k_307)⟩ ⟨fun a U g mk q => ⟨q.1, q.2.1, va_K.moved (u := U) (U := U.calling g mk a) (Vm.Alike.refl U.vm) q.2.2.1, q.2.2.2.calling⟩, (va_recv (q0 := 0) hK hP rfl rfl), fun U hU hW => ⟨rfl, by rw [hU]; exact hP, va_K.moved hW.alike hK, by rw [hU]; exact hX.warm hW⟩⟩ rfl rfl hl.1 rfl (lv_room (Nat.le_of_ble_eq_true rfl)) d_SH_timeOf_2 ⟨Nat.le_of_ble_eq_true rfl, Nat.le_of_ble_eq_true rfl⟩) (fun xr_1 h_xr_1 => ?_)
  subst h_xr_1
  have hb8 := stZ_bd (on := on) (d := d)
  refine lv_iload_n hx hb d_SH_timeOf_5 rfl (lv_at hl 2 rfl) ?_
  refine z_iadd hx hb d_SH_timeOf_6 ?_
  refine lv_istore (lv' := [(4, .int (iI ((stZ on d) + q))), (0, .ref h0), (1, .int (iI ((d : Int)))), (2, .int (iI (q))), (3, .int (bI (sec)))]) hx hb d_SH_timeOf_7 hl (by decide) rfl (fun ls hl => ?_)
  refine lv_iload_n hx hb d_SH_timeOf_9 rfl (lv_at hl 3 rfl) ?_
  refine z_bipush hx hb d_SH_timeOf_10 (by decide) ?_
  refine z_icmp_lt (tgt := 28) hx hb d_SH_timeOf_12 (by decide) ⟨by omega, by omega⟩ ⟨by omega, by omega⟩ (fun h12 => ?_) (fun h12 => ?_)
  · refine lv_iload_n hx hb d_SH_timeOf_28 rfl (lv_at hl 3 rfl) ?_
    refine z_bipush hx hb d_SH_timeOf_29 (by decide) ?_
    have J31_1 : W p l e rm_SH_timeOf s m args below meth c s.heap [] 0 0 Q (F0 m 51 ls [.int (bI (decide (6 ≤ q) || (sec && shf q)))]) := by
      refine lv_istore (lv' := [(5, .int (bI (decide (6 ≤ q) || (sec && shf q)))), (4, .int (iI ((stZ on d) + q))), (0, .ref h0), (1, .int (iI ((d : Int)))), (2, .int (iI (q))), (3, .int (bI (sec)))]) hx hb d_SH_timeOf_51 hl (by decide) rfl (fun ls hl => ?_)
      refine lv_iload hx hb d_SH_timeOf_53 (lv_at hl 0 rfl) ?_
      refine b_if_eq (tgt := 73) hx hb d_SH_timeOf_55 (by decide) (fun h55 => ?_) (fun h55 => ?_)
      · refine lv_iload hx hb d_SH_timeOf_73 (lv_at hl 1 rfl) ?_
        exact ret _ 75 (iI ((stZ on d) + q)) d_SH_timeOf_75 (by unfold tmZ; rw [if_neg (by first | omega | (rw [h20]; simp)), if_neg (by first | (rw [h63]; simp; done) | exact fun q9 => absurd q9.1 (by simpa using h55))])
      · refine lv_aload_n hx hb d_SH_timeOf_58 rfl (lv_at hl 2 rfl) ?_
        refine lv_iload_n hx hb d_SH_timeOf_59 rfl (lv_at hl 3 rfl) ?_
        refine rc_i (va_runV (As := [.int (iI ((d : Int)))]) (rest := []) (b := h0) ⟨hx, hb, hml, hown, hts⟩ (c_SH_doubles l D k (h0) (a0) (a1) (on) (d) (hd)) ⟨callB_of 1 hts (good_SH_doubles) rfl rfl rfl (hts _ k_60) (hts _ k_314) (by decide +kernel) ⟨Nat.le_of_ble_eq_true rfl, Nat.le_of_ble_eq_true rfl⟩, (hts _ k_315), (hts _ k_316)⟩ ⟨fun a U g mk q => ⟨q.1, q.2.1, va_K.moved (u := U) (U := U.calling g mk a) (Vm.Alike.refl U.vm) q.2.2.1, q.2.2.2.calling⟩, (va_recv (q0 := 0) hK hP rfl rfl), fun U hU hW => ⟨rfl, by rw [hU]; exact hP, va_K.moved hW.alike hK, by rw [hU]; exact hX.warm hW⟩⟩ rfl rfl hl.1 rfl (lv_room (Nat.le_of_ble_eq_true rfl)) d_SH_timeOf_60 ⟨Nat.le_of_ble_eq_true rfl, Nat.le_of_ble_eq_true rfl⟩) (fun xr_2 h_xr_2 => ?_)
        subst h_xr_2
        refine b_if_eq (tgt := 73) hx hb d_SH_timeOf_63 (by decide) (fun h63 => ?_) (fun h63 => ?_)
        · refine lv_iload hx hb d_SH_timeOf_73 (lv_at hl 1 rfl) ?_
          exact ret _ 75 (iI ((stZ on d) + q)) d_SH_timeOf_75 (by unfold tmZ; rw [if_neg (by first | omega | (rw [h20]; simp)), if_neg (by first | (rw [h63]; simp; done) | exact fun q9 => absurd q9.1 (by simpa using h55))])
        · refine lv_iload hx hb d_SH_timeOf_66 (lv_at hl 1 rfl) ?_
          refine z_iconst hx hb d_SH_timeOf_68 ?_
          refine z_iadd hx hb d_SH_timeOf_69 ?_
          refine lv_goto (tgt := 75) hx hb d_SH_timeOf_70 (by decide) ?_
          exact ret _ 75 (iI (((stZ on d) + q) + 2)) d_SH_timeOf_75 (by unfold tmZ; first | (rw [if_neg (by omega), if_pos ⟨by simpa using h55, h63⟩]) | (rw [if_neg (by rw [h20]; simp), if_pos ⟨by simpa using h55, h63⟩]))
    refine z_icmp_ge (tgt := 46) hx hb d_SH_timeOf_31 (by decide) ⟨by omega, by omega⟩ ⟨by omega, by omega⟩ (fun h31 => ?_) (fun h31 => ?_)
    · refine z_iconst hx hb d_SH_timeOf_46 ?_
      refine lv_goto (tgt := 51) hx hb d_SH_timeOf_47 (by decide) ?_
      exact z_top (show (iI (1)) = (bI (decide (6 ≤ q) || (sec && shf q))) from bI_T ((by first | (rw [h35, h43]; simp; done) | (rw [h35, h43]; simp; omega) | (rw [h35]; simp; omega) | (rw [h43]; simp; omega) | (simp; omega)))) J31_1
    · refine lv_iload_n hx hb d_SH_timeOf_34 rfl (lv_at hl 4 rfl) ?_
      refine b_if_eq (tgt := 50) hx hb d_SH_timeOf_35 (by decide) (fun h35 => ?_) (fun h35 => ?_)
      · refine z_iconst hx hb d_SH_timeOf_50 ?_
        exact z_top (show (iI (0)) = (bI (decide (6 ≤ q) || (sec && shf q))) from bI_F ((by first | (rw [h35, h43]; simp; done) | (rw [h35, h43]; simp; omega) | (rw [h35]; simp; omega) | (rw [h43]; simp; omega) | (simp; omega)))) J31_1
      · refine lv_aload_n hx hb d_SH_timeOf_38 rfl (lv_at hl 1 rfl) ?_
        refine lv_iload_n hx hb d_SH_timeOf_39 rfl (lv_at hl 3 rfl) ?_
        refine rc_i (va_runV (As := [.int (iI (q))]) (rest := []) (b := h0) ⟨hx, hb, hml, hown, hts⟩ (c_SH_isShifted l D k (h0) (a0) (a1) (on) (q) (⟨by omega, by omega⟩)) ⟨callB_of 1 hts (good_SH_isShifted) rfl rfl rfl (hts _ k_60) (hts _ k_318) (by decide +kernel) ⟨Nat.le_of_ble_eq_true rfl, Nat.le_of_ble_eq_true rfl⟩, (hts _ k_319), (hts _ k_320)⟩ ⟨fun a U g mk q => ⟨q.1, q.2.1, va_K.moved (u := U) (U := U.calling g mk a) (Vm.Alike.refl U.vm) q.2.2.1, q.2.2.2.calling⟩, (va_recv (q0 := 0) hK hP rfl rfl), fun U hU hW => ⟨rfl, by rw [hU]; exact (hP.sub (ws' := [(h0, .inr (7, [.ref a0, .ref a1, .int (bI (on))]))]) [0] rfl), va_K.moved hW.alike hK, by rw [hU]; exact hX.warm hW⟩⟩ rfl rfl hl.1 rfl (lv_room (Nat.le_of_ble_eq_true rfl)) d_SH_timeOf_40 ⟨Nat.le_of_ble_eq_true rfl, Nat.le_of_ble_eq_true rfl⟩) (fun xr_3 h_xr_3 => ?_)
        subst h_xr_3
        refine b_if_eq (tgt := 50) hx hb d_SH_timeOf_43 (by decide) (fun h43 => ?_) (fun h43 => ?_)
        · refine z_iconst hx hb d_SH_timeOf_50 ?_
          exact z_top (show (iI (0)) = (bI (decide (6 ≤ q) || (sec && shf q))) from bI_F ((by first | (rw [h35, h43]; simp; done) | (rw [h35, h43]; simp; omega) | (rw [h35]; simp; omega) | (rw [h43]; simp; omega) | (simp; omega)))) J31_1
        · refine z_iconst hx hb d_SH_timeOf_46 ?_
          refine lv_goto (tgt := 51) hx hb d_SH_timeOf_47 (by decide) ?_
          exact z_top (show (iI (1)) = (bI (decide (6 ≤ q) || (sec && shf q))) from bI_T ((by first | (rw [h35, h43]; simp; done) | (rw [h35, h43]; simp; omega) | (rw [h35]; simp; omega) | (rw [h43]; simp; omega) | (simp; omega)))) J31_1
  · refine lv_aload_n hx hb d_SH_timeOf_15 rfl (lv_at hl 1 rfl) ?_
    refine lv_iload_n hx hb d_SH_timeOf_16 rfl (lv_at hl 2 rfl) ?_
    refine rc_i (va_runV (As := [.int (iI ((d : Int)))]) (rest := []) (b := h0) ⟨hx, hb, hml, hown, hts⟩ (c_SH_loses l D k (h0) (a0) (a1) (on) (d) (hd)) ⟨callB_of 1 hts (good_SH_loses) rfl rfl rfl (hts _ k_60) (hts _ k_310) (by decide +kernel) ⟨Nat.le_of_ble_eq_true rfl, Nat.le_of_ble_eq_true rfl⟩, (hts _ k_311), (hts _ k_312)⟩ ⟨fun a U g mk q => ⟨q.1, q.2.1, va_K.moved (u := U) (U := U.calling g mk a) (Vm.Alike.refl U.vm) q.2.2.1, q.2.2.2.calling⟩, (va_recv (q0 := 0) hK hP rfl rfl), fun U hU hW => ⟨rfl, by rw [hU]; exact hP, va_K.moved hW.alike hK, by rw [hU]; exact hX.warm hW⟩⟩ rfl rfl hl.1 rfl (lv_room (Nat.le_of_ble_eq_true rfl)) d_SH_timeOf_17 ⟨Nat.le_of_ble_eq_true rfl, Nat.le_of_ble_eq_true rfl⟩) (fun xr_4 h_xr_4 => ?_)
    subst h_xr_4
    refine b_if_eq (tgt := 28) hx hb d_SH_timeOf_20 (by decide) (fun h20 => ?_) (fun h20 => ?_)
    · refine lv_iload_n hx hb d_SH_timeOf_28 rfl (lv_at hl 3 rfl) ?_
      refine z_bipush hx hb d_SH_timeOf_29 (by decide) ?_
      have J31_2 : W p l e rm_SH_timeOf s m args below meth c s.heap [] 0 0 Q (F0 m 51 ls [.int (bI (decide (6 ≤ q) || (sec && shf q)))]) := by
        refine lv_istore (lv' := [(5, .int (bI (decide (6 ≤ q) || (sec && shf q)))), (4, .int (iI ((stZ on d) + q))), (0, .ref h0), (1, .int (iI ((d : Int)))), (2, .int (iI (q))), (3, .int (bI (sec)))]) hx hb d_SH_timeOf_51 hl (by decide) rfl (fun ls hl => ?_)
        refine lv_iload hx hb d_SH_timeOf_53 (lv_at hl 0 rfl) ?_
        refine b_if_eq (tgt := 73) hx hb d_SH_timeOf_55 (by decide) (fun h55 => ?_) (fun h55 => ?_)
        · refine lv_iload hx hb d_SH_timeOf_73 (lv_at hl 1 rfl) ?_
          exact ret _ 75 (iI ((stZ on d) + q)) d_SH_timeOf_75 (by unfold tmZ; rw [if_neg (by first | omega | (rw [h20]; simp)), if_neg (by first | (rw [h63]; simp; done) | exact fun q9 => absurd q9.1 (by simpa using h55))])
        · refine lv_aload_n hx hb d_SH_timeOf_58 rfl (lv_at hl 2 rfl) ?_
          refine lv_iload_n hx hb d_SH_timeOf_59 rfl (lv_at hl 3 rfl) ?_
          refine rc_i (va_runV (As := [.int (iI ((d : Int)))]) (rest := []) (b := h0) ⟨hx, hb, hml, hown, hts⟩ (c_SH_doubles l D k (h0) (a0) (a1) (on) (d) (hd)) ⟨callB_of 1 hts (good_SH_doubles) rfl rfl rfl (hts _ k_60) (hts _ k_314) (by decide +kernel) ⟨Nat.le_of_ble_eq_true rfl, Nat.le_of_ble_eq_true rfl⟩, (hts _ k_315), (hts _ k_316)⟩ ⟨fun a U g mk q => ⟨q.1, q.2.1, va_K.moved (u := U) (U := U.calling g mk a) (Vm.Alike.refl U.vm) q.2.2.1, q.2.2.2.calling⟩, (va_recv (q0 := 0) hK hP rfl rfl), fun U hU hW => ⟨rfl, by rw [hU]; exact hP, va_K.moved hW.alike hK, by rw [hU]; exact hX.warm hW⟩⟩ rfl rfl hl.1 rfl (lv_room (Nat.le_of_ble_eq_true rfl)) d_SH_timeOf_60 ⟨Nat.le_of_ble_eq_true rfl, Nat.le_of_ble_eq_true rfl⟩) (fun xr_5 h_xr_5 => ?_)
          subst h_xr_5
          refine b_if_eq (tgt := 73) hx hb d_SH_timeOf_63 (by decide) (fun h63 => ?_) (fun h63 => ?_)
          · refine lv_iload hx hb d_SH_timeOf_73 (lv_at hl 1 rfl) ?_
            exact ret _ 75 (iI ((stZ on d) + q)) d_SH_timeOf_75 (by unfold tmZ; rw [if_neg (by first | omega | (rw [h20]; simp)), if_neg (by first | (rw [h63]; simp; done) | exact fun q9 => absurd q9.1 (by simpa using h55))])
          · refine lv_iload hx hb d_SH_timeOf_66 (lv_at hl 1 rfl) ?_
            refine z_iconst hx hb d_SH_timeOf_68 ?_
            refine z_iadd hx hb d_SH_timeOf_69 ?_
            refine lv_goto (tgt := 75) hx hb d_SH_timeOf_70 (by decide) ?_
            exact ret _ 75 (iI (((stZ on d) + q) + 2)) d_SH_timeOf_75 (by unfold tmZ; first | (rw [if_neg (by omega), if_pos ⟨by simpa using h55, h63⟩]) | (rw [if_neg (by rw [h20]; simp), if_pos ⟨by simpa using h55, h63⟩]))
      refine z_icmp_ge (tgt := 46) hx hb d_SH_timeOf_31 (by decide) ⟨by omega, by omega⟩ ⟨by omega, by omega⟩ (fun h31 => ?_) (fun h31 => ?_)
      · refine z_iconst hx hb d_SH_timeOf_46 ?_
        refine lv_goto (tgt := 51) hx hb d_SH_timeOf_47 (by decide) ?_
        exact z_top (show (iI (1)) = (bI (decide (6 ≤ q) || (sec && shf q))) from bI_T ((by first | (rw [h35, h43]; simp; done) | (rw [h35, h43]; simp; omega) | (rw [h35]; simp; omega) | (rw [h43]; simp; omega) | (simp; omega)))) J31_2
      · refine lv_iload_n hx hb d_SH_timeOf_34 rfl (lv_at hl 4 rfl) ?_
        refine b_if_eq (tgt := 50) hx hb d_SH_timeOf_35 (by decide) (fun h35 => ?_) (fun h35 => ?_)
        · refine z_iconst hx hb d_SH_timeOf_50 ?_
          exact z_top (show (iI (0)) = (bI (decide (6 ≤ q) || (sec && shf q))) from bI_F ((by first | (rw [h35, h43]; simp; done) | (rw [h35, h43]; simp; omega) | (rw [h35]; simp; omega) | (rw [h43]; simp; omega) | (simp; omega)))) J31_2
        · refine lv_aload_n hx hb d_SH_timeOf_38 rfl (lv_at hl 1 rfl) ?_
          refine lv_iload_n hx hb d_SH_timeOf_39 rfl (lv_at hl 3 rfl) ?_
          refine rc_i (va_runV (As := [.int (iI (q))]) (rest := []) (b := h0) ⟨hx, hb, hml, hown, hts⟩ (c_SH_isShifted l D k (h0) (a0) (a1) (on) (q) (⟨by omega, by omega⟩)) ⟨callB_of 1 hts (good_SH_isShifted) rfl rfl rfl (hts _ k_60) (hts _ k_318) (by decide +kernel) ⟨Nat.le_of_ble_eq_true rfl, Nat.le_of_ble_eq_true rfl⟩, (hts _ k_319), (hts _ k_320)⟩ ⟨fun a U g mk q => ⟨q.1, q.2.1, va_K.moved (u := U) (U := U.calling g mk a) (Vm.Alike.refl U.vm) q.2.2.1, q.2.2.2.calling⟩, (va_recv (q0 := 0) hK hP rfl rfl), fun U hU hW => ⟨rfl, by rw [hU]; exact (hP.sub (ws' := [(h0, .inr (7, [.ref a0, .ref a1, .int (bI (on))]))]) [0] rfl), va_K.moved hW.alike hK, by rw [hU]; exact hX.warm hW⟩⟩ rfl rfl hl.1 rfl (lv_room (Nat.le_of_ble_eq_true rfl)) d_SH_timeOf_40 ⟨Nat.le_of_ble_eq_true rfl, Nat.le_of_ble_eq_true rfl⟩) (fun xr_6 h_xr_6 => ?_)
          subst h_xr_6
          refine b_if_eq (tgt := 50) hx hb d_SH_timeOf_43 (by decide) (fun h43 => ?_) (fun h43 => ?_)
          · refine z_iconst hx hb d_SH_timeOf_50 ?_
            exact z_top (show (iI (0)) = (bI (decide (6 ≤ q) || (sec && shf q))) from bI_F ((by first | (rw [h35, h43]; simp; done) | (rw [h35, h43]; simp; omega) | (rw [h35]; simp; omega) | (rw [h43]; simp; omega) | (simp; omega)))) J31_2
          · refine z_iconst hx hb d_SH_timeOf_46 ?_
            refine lv_goto (tgt := 51) hx hb d_SH_timeOf_47 (by decide) ?_
            exact z_top (show (iI (1)) = (bI (decide (6 ≤ q) || (sec && shf q))) from bI_T ((by first | (rw [h35, h43]; simp; done) | (rw [h35, h43]; simp; omega) | (rw [h35]; simp; omega) | (rw [h43]; simp; omega) | (simp; omega)))) J31_2
    · refine lv_iload hx hb d_SH_timeOf_23 (lv_at hl 0 rfl) ?_
      refine z_iconst hx hb d_SH_timeOf_25 ?_
      refine z_isub hx hb d_SH_timeOf_26 ?_
      exact ret _ 27 (iI (((stZ on d) + q) - 2)) d_SH_timeOf_27 (by unfold tmZ; rw [if_pos ⟨by omega, h20⟩])
