set_option maxHeartbeats 4000000 in
set_option maxRecDepth 100000 in
theorem c_RC_yearIndex (l : Launch) (D : va_G) (k : Nat → ClassId) (z : Int) (hz : rg z) (hz2 : -1000 ≤ z) : Met l y_RC_yearIndex wd_RC_yearIndex rm_RC_yearIndex (va_Pc [.int (iI (z))] (PRO D k [])) (QRi (fun r : Int32 => r = (iI (yIx z)))) 0 0 nA := by
  refine r_i (by decide) rfl (Nat.le_of_ble_eq_true rfl) ?_
  intro p e s m args below meth c Q ls hx hb hml hown hts hpre hl ret
  obtain ⟨hP, hK, hX⟩ := hpre
  have hS : va_S nA s.heap s.heap [] := va_S.rf
  have hl : lv_has ls 1 [(0, .int (iI (z)))] := hl
  obtain ⟨q1, q2⟩ := hz
  refine lv_iload_n hx hb d_RC_yearIndex_0 rfl (lv_at hl 0 rfl) ?_
  refine z_sipush hx hb d_RC_yearIndex_1 (by decide) ?_
  refine z_icmp_ge (tgt := 11) hx hb d_RC_yearIndex_4 (by decide) ⟨by omega, by omega⟩ ⟨by omega, by omega⟩ (fun h4 => ?_) (fun h4 => ?_)
  · refine lv_iload_n hx hb d_RC_yearIndex_11 rfl (lv_at hl 0 rfl) ?_
    refine z_iconst hx hb d_RC_yearIndex_12 ?_
    refine z_isub hx hb d_RC_yearIndex_13 ?_
    refine z_sipush hx hb d_RC_yearIndex_14 (by decide) ?_
    refine z_idiv hx hb d_RC_yearIndex_17 ⟨by omega, by omega⟩ (by omega) ⟨by omega, by omega⟩ (by omega) ?_
    exact ret _ 18 (iI ((z - 1) / (365))) d_RC_yearIndex_18 (by rw [yIx_1 h4])
  · refine z_iconst hx hb d_RC_yearIndex_7 ?_
    refine lv_goto (tgt := 18) hx hb d_RC_yearIndex_8 (by decide) ?_
    exact ret _ 18 (iI (0)) d_RC_yearIndex_18 (by rw [yIx_0 h4])

set_option maxHeartbeats 4000000 in
set_option maxRecDepth 100000 in
theorem c_AL_weekday (l : Launch) (D : va_G) (k : Nat → ClassId) (z : Int) (hz : -5 ≤ z ∧ z ≤ 2000000000) : Met l y_AL_weekday wd_AL_weekday rm_AL_weekday (va_Pc [.int (iI (z))] (PRO D k [])) (QRi (fun r : Int32 => r = (iI (wDay z)))) 0 0 nA := by
  refine r_i (by decide) rfl (Nat.le_of_ble_eq_true rfl) ?_
  intro p e s m args below meth c Q ls hx hb hml hown hts hpre hl ret
  obtain ⟨hP, hK, hX⟩ := hpre
  have hS : va_S nA s.heap s.heap [] := va_S.rf
  have hl : lv_has ls 1 [(0, .int (iI (z)))] := hl
  refine lv_iload_n hx hb d_AL_weekday_0 rfl (lv_at hl 0 rfl) ?_
  refine z_iconst hx hb d_AL_weekday_1 ?_
  refine z_iadd hx hb d_AL_weekday_2 ?_
  refine z_bipush hx hb d_AL_weekday_3 (by decide) ?_
  refine z_irem hx hb d_AL_weekday_5 ⟨by omega, by omega⟩ (by omega) ⟨by omega, by omega⟩ (by omega) ?_
  refine z_iconst hx hb d_AL_weekday_6 ?_
  refine z_iadd hx hb d_AL_weekday_7 ?_
  exact ret _ 8 (iI (((z + 5) % (7)) + 1)) d_AL_weekday_8 (rfl)

set_option maxHeartbeats 4000000 in
set_option maxRecDepth 100000 in
theorem c_AL_firstDay (l : Launch) (D : va_G) (k : Nat → ClassId) (y : Int) (hy : 1000 ≤ y ∧ y ≤ 3000) : Met l y_AL_firstDay wd_AL_firstDay rm_AL_firstDay (va_Pc [.int (iI (y))] (PRO D k [])) (QRi (fun r : Int32 => r = (iI (fDay y)))) 0 0 nA := by
  refine r_i (by decide) rfl (Nat.le_of_ble_eq_true rfl) ?_
  intro p e s m args below meth c Q ls hx hb hml hown hts hpre hl ret
  obtain ⟨hP, hK, hX⟩ := hpre
  have hS : va_S nA s.heap s.heap [] := va_S.rf
  have hl : lv_has ls 1 [(0, .int (iI (y)))] := hl
  refine z_sipush hx hb d_AL_firstDay_0 (by decide) ?_
  refine lv_iload_n hx hb d_AL_firstDay_3 rfl (lv_at hl 0 rfl) ?_
  refine z_sipush hx hb d_AL_firstDay_4 (by decide) ?_
  refine z_isub hx hb d_AL_firstDay_7 ?_
  refine z_imul hx hb d_AL_firstDay_8 ?_
  refine lv_iload_n hx hb d_AL_firstDay_9 rfl (lv_at hl 0 rfl) ?_
  refine z_sipush hx hb d_AL_firstDay_10 (by decide) ?_
  have J13_1 : W p l e rm_AL_firstDay s m args below meth c s.heap [] 0 0 Q (F0 m 21 ls [.int (iI (if 2000 < y then 1 else 0)), .int (iI (365 * (y - 2000)))]) := by
    refine z_iadd hx hb d_AL_firstDay_21 ?_
    exact ret _ 22 (iI ((365 * (y - 2000)) + (if 2000 < y then 1 else 0))) d_AL_firstDay_22 (rfl)
  refine z_icmp_le (tgt := 20) hx hb d_AL_firstDay_13 (by decide) ⟨by omega, by omega⟩ ⟨by omega, by omega⟩ (fun h13 => ?_) (fun h13 => ?_)
  · refine z_iconst hx hb d_AL_firstDay_20 ?_
    exact z_top (show (iI (0)) = (iI (if 2000 < y then 1 else 0)) from (by rw [if_neg (by omega)])) J13_1
  · refine z_iconst hx hb d_AL_firstDay_16 ?_
    refine lv_goto (tgt := 21) hx hb d_AL_firstDay_17 (by decide) ?_
    exact z_top (show (iI (1)) = (iI (if 2000 < y then 1 else 0)) from (by rw [if_pos (by omega)])) J13_1

set_option maxHeartbeats 4000000 in
set_option maxRecDepth 100000 in
theorem c_AL_monthLength (l : Launch) (D : va_G) (k : Nat → ClassId) (y : Int) (m1 : Int) (hy : rg y) (hm : rg m1) : Met l y_AL_monthLength wd_AL_monthLength rm_AL_monthLength (va_Pc [.int (iI (y)), .int (iI (m1))] (PRO D k [])) (QRi (fun r : Int32 => r = (iI (mLen y m1)))) 0 0 nA := by
  refine r_i (by decide) rfl (Nat.le_of_ble_eq_true rfl) ?_
  intro p e s m args below meth c Q ls hx hb hml hown hts hpre hl ret
  obtain ⟨hP, hK, hX⟩ := hpre
  have hS : va_S nA s.heap s.heap [] := va_S.rf
  have hl : lv_has ls 2 [(0, .int (iI (y))), (1, .int (iI (m1)))] := hl
  obtain ⟨q1, q2⟩ := hy
  obtain ⟨q3, q4⟩ := hm
  refine lv_iload_n hx hb d_AL_monthLength_0 rfl (lv_at hl 1 rfl) ?_
  refine z_iconst hx hb d_AL_monthLength_1 ?_
  refine z_icmp_lt (tgt := 11) hx hb d_AL_monthLength_2 (by decide) ⟨by omega, by omega⟩ ⟨by omega, by omega⟩ (fun h2 => ?_) (fun h2 => ?_)
  · refine z_iconst hx hb d_AL_monthLength_11 ?_
    exact ret _ 12 (iI (0)) d_AL_monthLength_12 (by rw [mLen_0 (by omega)])
  · refine lv_iload_n hx hb d_AL_monthLength_5 rfl (lv_at hl 1 rfl) ?_
    refine z_bipush hx hb d_AL_monthLength_6 (by decide) ?_
    refine z_icmp_le (tgt := 13) hx hb d_AL_monthLength_8 (by decide) ⟨by omega, by omega⟩ ⟨by omega, by omega⟩ (fun h8 => ?_) (fun h8 => ?_)
    · refine lv_iload_n hx hb d_AL_monthLength_13 rfl (lv_at hl 1 rfl) ?_
      refine z_iconst hx hb d_AL_monthLength_14 ?_
      refine z_icmp_ne (tgt := 30) hx hb d_AL_monthLength_15 (by decide) ⟨by omega, by omega⟩ ⟨by omega, by omega⟩ (fun h15 => ?_) (fun h15 => ?_)
      · obtain ⟨tL, hZL, hTL⟩ := hX.1
        refine va_gets hx hb hZL hS hown (hts _ k_95) (fun _ h9 => h9) d_AL_monthLength_30 ?_
        refine lv_iload_n hx hb d_AL_monthLength_33 rfl (lv_at hl 1 rfl) ?_
        refine va_ti (v := .int (iI (lonG (m1.toNat)))) hx hb hTL hS (iI_in (j := m1.toNat) (by omega) (by omega) (by decide)) (by rw [iI_clamp (j := m1.toNat) (by omega) (by omega)]) d_AL_monthLength_34 ?_
        exact ret _ 35 (iI (lonG (m1.toNat))) d_AL_monthLength_35 (by rw [mLen_L (by omega) (by omega) (by omega)])
      · refine lv_iload_n hx hb d_AL_monthLength_18 rfl (lv_at hl 0 rfl) ?_
        refine z_sipush hx hb d_AL_monthLength_19 (by decide) ?_
        refine z_icmp_eq (tgt := 30) hx hb d_AL_monthLength_22 (by decide) ⟨by omega, by omega⟩ ⟨by omega, by omega⟩ (fun h22 => ?_) (fun h22 => ?_)
        · obtain ⟨tL, hZL, hTL⟩ := hX.1
          refine va_gets hx hb hZL hS hown (hts _ k_95) (fun _ h9 => h9) d_AL_monthLength_30 ?_
          refine lv_iload_n hx hb d_AL_monthLength_33 rfl (lv_at hl 1 rfl) ?_
          refine va_ti (v := .int (iI (lonG (m1.toNat)))) hx hb hTL hS (iI_in (j := m1.toNat) (by omega) (by omega) (by decide)) (by rw [iI_clamp (j := m1.toNat) (by omega) (by omega)]) d_AL_monthLength_34 ?_
          exact ret _ 35 (iI (lonG (m1.toNat))) d_AL_monthLength_35 (by rw [mLen_L (by omega) (by omega) (by omega)])
        · refine z_bipush hx hb d_AL_monthLength_25 (by decide) ?_
          refine lv_goto (tgt := 35) hx hb d_AL_monthLength_27 (by decide) ?_
          exact ret _ 35 (iI (28)) d_AL_monthLength_35 (by rw [mLen_28 (by omega) (by omega)])
    · refine z_iconst hx hb d_AL_monthLength_11 ?_
      exact ret _ 12 (iI (0)) d_AL_monthLength_12 (by rw [mLen_0 (by omega)])
