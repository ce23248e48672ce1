theorem tellQ_4 {on : Bool} {d : Nat} {q : Int} (h1 : ¬ (lose on d = true ∧ 4 ≤ q)) (h2 : ¬ (¬ dble on d = true ∨ q < 4)) (h3 : ¬ q < 6) : tellQ on d q = 1000 * (d : Int) + 10 * (q - 2) + (if shf (q - 2) then 2 else 0) := by
  unfold tellQ
  rw [if_neg h1, if_neg h2, if_neg h3]

set_option maxHeartbeats 4000000 in
set_option maxRecDepth 100000 in
theorem c_JL_bitCount (l : Launch) (D : va_G) (k : Nat → ClassId) (w : Int64) : Met l y_JL_bitCount wd_JL_bitCount rm_JL_bitCount (va_Pc [.long (w)] (PRO D k [])) (QRi (fun r : Int32 => r = (bcRaw w))) 0 0 nA := by
  refine r_i (by decide) rfl (Nat.le_of_ble_eq_true rfl) ?_
  intro p e s m args below meth c Q ls hx hb hml hown hts hpre hl ret
  obtain ⟨hP, hK, hX⟩ := hpre
  have hS : va_S nA s.heap s.heap [] := va_S.rf
  have hl : lv_has ls 2 [(0, .long (w))] := hl
  refine lv_lload_n hx hb d_JL_bitCount_0 rfl (lv_at hl 0 rfl) ?_
  refine lv_lload_n hx hb d_JL_bitCount_1 rfl (lv_at hl 0 rfl) ?_
  refine z_iconst hx hb d_JL_bitCount_2 ?_
  refine lv_lushr hx hb d_JL_bitCount_3 rfl ?_
  refine W.ldc2 (v := 6148914691236517205) hx hb hown (hts _ k_646) rfl d_JL_bitCount_4 ?_
  refine W.eq (g2 := F0 m 7 ls (.long (6148914691236517205) :: [.long (((w).toUInt64 >>> ((iI (1)).toInt64.toUInt64 &&& Int64.toUInt64 63)).toInt64), .long (w)])) rfl ?_
  refine lv_land hx hb d_JL_bitCount_7 ?_
  refine lv_lsub hx hb d_JL_bitCount_8 ?_
  refine lv_lstore_n (lv' := [(0, .long ((w) - ((((w).toUInt64 >>> ((iI (1)).toInt64.toUInt64 &&& Int64.toUInt64 63)).toInt64) &&& ((6148914691236517205 : Int64)))))]) hx hb d_JL_bitCount_9 rfl hl (by decide) rfl (fun ls hl => ?_)
  refine lv_lload_n hx hb d_JL_bitCount_10 rfl (lv_at hl 0 rfl) ?_
  refine W.ldc2 (v := 3689348814741910323) hx hb hown (hts _ k_647) rfl d_JL_bitCount_11 ?_
  refine W.eq (g2 := F0 m 14 ls (.long (3689348814741910323) :: [.long ((w) - ((((w).toUInt64 >>> ((iI (1)).toInt64.toUInt64 &&& Int64.toUInt64 63)).toInt64) &&& ((6148914691236517205 : Int64))))])) rfl ?_
  refine lv_land hx hb d_JL_bitCount_14 ?_
  refine lv_lload_n hx hb d_JL_bitCount_15 rfl (lv_at hl 0 rfl) ?_
  refine z_iconst hx hb d_JL_bitCount_16 ?_
  refine lv_lushr hx hb d_JL_bitCount_17 rfl ?_
  refine W.ldc2 (v := 3689348814741910323) hx hb hown (hts _ k_647) rfl d_JL_bitCount_18 ?_
  refine W.eq (g2 := F0 m 21 ls (.long (3689348814741910323) :: [.long ((((w) - ((((w).toUInt64 >>> ((iI (1)).toInt64.toUInt64 &&& Int64.toUInt64 63)).toInt64) &&& ((6148914691236517205 : Int64)))).toUInt64 >>> ((iI (2)).toInt64.toUInt64 &&& Int64.toUInt64 63)).toInt64), .long (((w) - ((((w).toUInt64 >>> ((iI (1)).toInt64.toUInt64 &&& Int64.toUInt64 63)).toInt64) &&& ((6148914691236517205 : Int64)))) &&& ((3689348814741910323 : Int64)))])) rfl ?_
  refine lv_land hx hb d_JL_bitCount_21 ?_
  refine lv_ladd hx hb d_JL_bitCount_22 ?_
  refine lv_lstore_n (lv' := [(0, .long ((((w) - ((((w).toUInt64 >>> ((iI (1)).toInt64.toUInt64 &&& Int64.toUInt64 63)).toInt64) &&& ((6148914691236517205 : Int64)))) &&& ((3689348814741910323 : Int64))) + (((((w) - ((((w).toUInt64 >>> ((iI (1)).toInt64.toUInt64 &&& Int64.toUInt64 63)).toInt64) &&& ((6148914691236517205 : Int64)))).toUInt64 >>> ((iI (2)).toInt64.toUInt64 &&& Int64.toUInt64 63)).toInt64) &&& ((3689348814741910323 : Int64)))))]) hx hb d_JL_bitCount_23 rfl hl (by decide) rfl (fun ls hl => ?_)
  refine lv_lload_n hx hb d_JL_bitCount_24 rfl (lv_at hl 0 rfl) ?_
  refine lv_lload_n hx hb d_JL_bitCount_25 rfl (lv_at hl 0 rfl) ?_
  refine z_iconst hx hb d_JL_bitCount_26 ?_
  refine lv_lushr hx hb d_JL_bitCount_27 rfl ?_
  refine lv_ladd hx hb d_JL_bitCount_28 ?_
  refine W.ldc2 (v := 1085102592571150095) hx hb hown (hts _ k_648) rfl d_JL_bitCount_29 ?_
  refine W.eq (g2 := F0 m 32 ls (.long (1085102592571150095) :: [.long (((((w) - ((((w).toUInt64 >>> ((iI (1)).toInt64.toUInt64 &&& Int64.toUInt64 63)).toInt64) &&& ((6148914691236517205 : Int64)))) &&& ((3689348814741910323 : Int64))) + (((((w) - ((((w).toUInt64 >>> ((iI (1)).toInt64.toUInt64 &&& Int64.toUInt64 63)).toInt64) &&& ((6148914691236517205 : Int64)))).toUInt64 >>> ((iI (2)).toInt64.toUInt64 &&& Int64.toUInt64 63)).toInt64) &&& ((3689348814741910323 : Int64)))) + ((((((w) - ((((w).toUInt64 >>> ((iI (1)).toInt64.toUInt64 &&& Int64.toUInt64 63)).toInt64) &&& ((6148914691236517205 : Int64)))) &&& ((3689348814741910323 : Int64))) + (((((w) - ((((w).toUInt64 >>> ((iI (1)).toInt64.toUInt64 &&& Int64.toUInt64 63)).toInt64) &&& ((6148914691236517205 : Int64)))).toUInt64 >>> ((iI (2)).toInt64.toUInt64 &&& Int64.toUInt64 63)).toInt64) &&& ((3689348814741910323 : Int64)))).toUInt64 >>> ((iI (4)).toInt64.toUInt64 &&& Int64.toUInt64 63)).toInt64))])) rfl ?_
  refine lv_land hx hb d_JL_bitCount_32 ?_
  refine lv_lstore_n (lv' := [(0, .long ((((((w) - ((((w).toUInt64 >>> ((iI (1)).toInt64.toUInt64 &&& Int64.toUInt64 63)).toInt64) &&& ((6148914691236517205 : Int64)))) &&& ((3689348814741910323 : Int64))) + (((((w) - ((((w).toUInt64 >>> ((iI (1)).toInt64.toUInt64 &&& Int64.toUInt64 63)).toInt64) &&& ((6148914691236517205 : Int64)))).toUInt64 >>> ((iI (2)).toInt64.toUInt64 &&& Int64.toUInt64 63)).toInt64) &&& ((3689348814741910323 : Int64)))) + ((((((w) - ((((w).toUInt64 >>> ((iI (1)).toInt64.toUInt64 &&& Int64.toUInt64 63)).toInt64) &&& ((6148914691236517205 : Int64)))) &&& ((3689348814741910323 : Int64))) + (((((w) - ((((w).toUInt64 >>> ((iI (1)).toInt64.toUInt64 &&& Int64.toUInt64 63)).toInt64) &&& ((6148914691236517205 : Int64)))).toUInt64 >>> ((iI (2)).toInt64.toUInt64 &&& Int64.toUInt64 63)).toInt64) &&& ((3689348814741910323 : Int64)))).toUInt64 >>> ((iI (4)).toInt64.toUInt64 &&& Int64.toUInt64 63)).toInt64)) &&& ((1085102592571150095 : Int64))))]) hx hb d_JL_bitCount_33 rfl hl (by decide) rfl (fun ls hl => ?_)
  refine lv_lload_n hx hb d_JL_bitCount_34 rfl (lv_at hl 0 rfl) ?_
  refine lv_lload_n hx hb d_JL_bitCount_35 rfl (lv_at hl 0 rfl) ?_
  refine z_bipush hx hb d_JL_bitCount_36 (by decide) ?_
  refine lv_lushr hx hb d_JL_bitCount_38 rfl ?_
  refine lv_ladd hx hb d_JL_bitCount_39 ?_
  refine lv_lstore_n (lv' := [(0, .long (((((((w) - ((((w).toUInt64 >>> ((iI (1)).toInt64.toUInt64 &&& Int64.toUInt64 63)).toInt64) &&& ((6148914691236517205 : Int64)))) &&& ((3689348814741910323 : Int64))) + (((((w) - ((((w).toUInt64 >>> ((iI (1)).toInt64.toUInt64 &&& Int64.toUInt64 63)).toInt64) &&& ((6148914691236517205 : Int64)))).toUInt64 >>> ((iI (2)).toInt64.toUInt64 &&& Int64.toUInt64 63)).toInt64) &&& ((3689348814741910323 : Int64)))) + ((((((w) - ((((w).toUInt64 >>> ((iI (1)).toInt64.toUInt64 &&& Int64.toUInt64 63)).toInt64) &&& ((6148914691236517205 : Int64)))) &&& ((3689348814741910323 : Int64))) + (((((w) - ((((w).toUInt64 >>> ((iI (1)).toInt64.toUInt64 &&& Int64.toUInt64 63)).toInt64) &&& ((6148914691236517205 : Int64)))).toUInt64 >>> ((iI (2)).toInt64.toUInt64 &&& Int64.toUInt64 63)).toInt64) &&& ((3689348814741910323 : Int64)))).toUInt64 >>> ((iI (4)).toInt64.toUInt64 &&& Int64.toUInt64 63)).toInt64)) &&& ((1085102592571150095 : Int64))) + ((((((((w) - ((((w).toUInt64 >>> ((iI (1)).toInt64.toUInt64 &&& Int64.toUInt64 63)).toInt64) &&& ((6148914691236517205 : Int64)))) &&& ((3689348814741910323 : Int64))) + (((((w) - ((((w).toUInt64 >>> ((iI (1)).toInt64.toUInt64 &&& Int64.toUInt64 63)).toInt64) &&& ((6148914691236517205 : Int64)))).toUInt64 >>> ((iI (2)).toInt64.toUInt64 &&& Int64.toUInt64 63)).toInt64) &&& ((3689348814741910323 : Int64)))) + ((((((w) - ((((w).toUInt64 >>> ((iI (1)).toInt64.toUInt64 &&& Int64.toUInt64 63)).toInt64) &&& ((6148914691236517205 : Int64)))) &&& ((3689348814741910323 : Int64))) + (((((w) - ((((w).toUInt64 >>> ((iI (1)).toInt64.toUInt64 &&& Int64.toUInt64 63)).toInt64) &&& ((6148914691236517205 : Int64)))).toUInt64 >>> ((iI (2)).toInt64.toUInt64 &&& Int64.toUInt64 63)).toInt64) &&& ((3689348814741910323 : Int64)))).toUInt64 >>> ((iI (4)).toInt64.toUInt64 &&& Int64.toUInt64 63)).toInt64)) &&& ((1085102592571150095 : Int64))).toUInt64 >>> ((iI (8)).toInt64.toUInt64 &&& Int64.toUInt64 63)).toInt64)))]) hx hb d_JL_bitCount_40 rfl hl (by decide) rfl (fun ls hl => ?_)
  refine lv_lload_n hx hb d_JL_bitCount_41 rfl (lv_at hl 0 rfl) ?_
  refine lv_lload_n hx hb d_JL_bitCount_42 rfl (lv_at hl 0 rfl) ?_
  refine z_bipush hx hb d_JL_bitCount_43 (by decide) ?_
  refine lv_lushr hx hb d_JL_bitCount_45 rfl ?_
  refine lv_ladd hx hb d_JL_bitCount_46 ?_
  refine lv_lstore_n (lv' := [(0, .long ((((((((w) - ((((w).toUInt64 >>> ((iI (1)).toInt64.toUInt64 &&& Int64.toUInt64 63)).toInt64) &&& ((6148914691236517205 : Int64)))) &&& ((3689348814741910323 : Int64))) + (((((w) - ((((w).toUInt64 >>> ((iI (1)).toInt64.toUInt64 &&& Int64.toUInt64 63)).toInt64) &&& ((6148914691236517205 : Int64)))).toUInt64 >>> ((iI (2)).toInt64.toUInt64 &&& Int64.toUInt64 63)).toInt64) &&& ((3689348814741910323 : Int64)))) + ((((((w) - ((((w).toUInt64 >>> ((iI (1)).toInt64.toUInt64 &&& Int64.toUInt64 63)).toInt64) &&& ((6148914691236517205 : Int64)))) &&& ((3689348814741910323 : Int64))) + (((((w) - ((((w).toUInt64 >>> ((iI (1)).toInt64.toUInt64 &&& Int64.toUInt64 63)).toInt64) &&& ((6148914691236517205 : Int64)))).toUInt64 >>> ((iI (2)).toInt64.toUInt64 &&& Int64.toUInt64 63)).toInt64) &&& ((3689348814741910323 : Int64)))).toUInt64 >>> ((iI (4)).toInt64.toUInt64 &&& Int64.toUInt64 63)).toInt64)) &&& ((1085102592571150095 : Int64))) + ((((((((w) - ((((w).toUInt64 >>> ((iI (1)).toInt64.toUInt64 &&& Int64.toUInt64 63)).toInt64) &&& ((6148914691236517205 : Int64)))) &&& ((3689348814741910323 : Int64))) + (((((w) - ((((w).toUInt64 >>> ((iI (1)).toInt64.toUInt64 &&& Int64.toUInt64 63)).toInt64) &&& ((6148914691236517205 : Int64)))).toUInt64 >>> ((iI (2)).toInt64.toUInt64 &&& Int64.toUInt64 63)).toInt64) &&& ((3689348814741910323 : Int64)))) + ((((((w) - ((((w).toUInt64 >>> ((iI (1)).toInt64.toUInt64 &&& Int64.toUInt64 63)).toInt64) &&& ((6148914691236517205 : Int64)))) &&& ((3689348814741910323 : Int64))) + (((((w) - ((((w).toUInt64 >>> ((iI (1)).toInt64.toUInt64 &&& Int64.toUInt64 63)).toInt64) &&& ((6148914691236517205 : Int64)))).toUInt64 >>> ((iI (2)).toInt64.toUInt64 &&& Int64.toUInt64 63)).toInt64) &&& ((3689348814741910323 : Int64)))).toUInt64 >>> ((iI (4)).toInt64.toUInt64 &&& Int64.toUInt64 63)).toInt64)) &&& ((1085102592571150095 : Int64))).toUInt64 >>> ((iI (8)).toInt64.toUInt64 &&& Int64.toUInt64 63)).toInt64)) + (((((((((w) - ((((w).toUInt64 >>> ((iI (1)).toInt64.toUInt64 &&& Int64.toUInt64 63)).toInt64) &&& ((6148914691236517205 : Int64)))) &&& ((3689348814741910323 : Int64))) + (((((w) - ((((w).toUInt64 >>> ((iI (1)).toInt64.toUInt64 &&& Int64.toUInt64 63)).toInt64) &&& ((6148914691236517205 : Int64)))).toUInt64 >>> ((iI (2)).toInt64.toUInt64 &&& Int64.toUInt64 63)).toInt64) &&& ((3689348814741910323 : Int64)))) + ((((((w) - ((((w).toUInt64 >>> ((iI (1)).toInt64.toUInt64 &&& Int64.toUInt64 63)).toInt64) &&& ((6148914691236517205 : Int64)))) &&& ((3689348814741910323 : Int64))) + (((((w) - ((((w).toUInt64 >>> ((iI (1)).toInt64.toUInt64 &&& Int64.toUInt64 63)).toInt64) &&& ((6148914691236517205 : Int64)))).toUInt64 >>> ((iI (2)).toInt64.toUInt64 &&& Int64.toUInt64 63)).toInt64) &&& ((3689348814741910323 : Int64)))).toUInt64 >>> ((iI (4)).toInt64.toUInt64 &&& Int64.toUInt64 63)).toInt64)) &&& ((1085102592571150095 : Int64))) + ((((((((w) - ((((w).toUInt64 >>> ((iI (1)).toInt64.toUInt64 &&& Int64.toUInt64 63)).toInt64) &&& ((6148914691236517205 : Int64)))) &&& ((3689348814741910323 : Int64))) + (((((w) - ((((w).toUInt64 >>> ((iI (1)).toInt64.toUInt64 &&& Int64.toUInt64 63)).toInt64) &&& ((6148914691236517205 : Int64)))).toUInt64 >>> ((iI (2)).toInt64.toUInt64 &&& Int64.toUInt64 63)).toInt64) &&& ((3689348814741910323 : Int64)))) + ((((((w) - ((((w).toUInt64 >>> ((iI (1)).toInt64.toUInt64 &&& Int64.toUInt64 63)).toInt64) &&& ((6148914691236517205 : Int64)))) &&& ((3689348814741910323 : Int64))) + (((((w) - ((((w).toUInt64 >>> ((iI (1)).toInt64.toUInt64 &&& Int64.toUInt64 63)).toInt64) &&& ((6148914691236517205 : Int64)))).toUInt64 >>> ((iI (2)).toInt64.toUInt64 &&& Int64.toUInt64 63)).toInt64) &&& ((3689348814741910323 : Int64)))).toUInt64 >>> ((iI (4)).toInt64.toUInt64 &&& Int64.toUInt64 63)).toInt64)) &&& ((1085102592571150095 : Int64))).toUInt64 >>> ((iI (8)).toInt64.toUInt64 &&& Int64.toUInt64 63)).toInt64)).toUInt64 >>> ((iI (16)).toInt64.toUInt64 &&& Int64.toUInt64 63)).toInt64)))]) hx hb d_JL_bitCount_47 rfl hl (by decide) rfl (fun ls hl => ?_)
  refine lv_lload_n hx hb d_JL_bitCount_48 rfl (lv_at hl 0 rfl) ?_
  refine lv_lload_n hx hb d_JL_bitCount_49 rfl (lv_at hl 0 rfl) ?_
  refine z_bipush hx hb d_JL_bitCount_50 (by decide) ?_
  refine lv_lushr hx hb d_JL_bitCount_52 rfl ?_
  refine lv_ladd hx hb d_JL_bitCount_53 ?_
  refine lv_lstore_n (lv' := [(0, .long (((((((((w) - ((((w).toUInt64 >>> ((iI (1)).toInt64.toUInt64 &&& Int64.toUInt64 63)).toInt64) &&& ((6148914691236517205 : Int64)))) &&& ((3689348814741910323 : Int64))) + (((((w) - ((((w).toUInt64 >>> ((iI (1)).toInt64.toUInt64 &&& Int64.toUInt64 63)).toInt64) &&& ((6148914691236517205 : Int64)))).toUInt64 >>> ((iI (2)).toInt64.toUInt64 &&& Int64.toUInt64 63)).toInt64) &&& ((3689348814741910323 : Int64)))) + ((((((w) - ((((w).toUInt64 >>> ((iI (1)).toInt64.toUInt64 &&& Int64.toUInt64 63)).toInt64) &&& ((6148914691236517205 : Int64)))) &&& ((3689348814741910323 : Int64))) + (((((w) - ((((w).toUInt64 >>> ((iI (1)).toInt64.toUInt64 &&& Int64.toUInt64 63)).toInt64) &&& ((6148914691236517205 : Int64)))).toUInt64 >>> ((iI (2)).toInt64.toUInt64 &&& Int64.toUInt64 63)).toInt64) &&& ((3689348814741910323 : Int64)))).toUInt64 >>> ((iI (4)).toInt64.toUInt64 &&& Int64.toUInt64 63)).toInt64)) &&& ((1085102592571150095 : Int64))) + ((((((((w) - ((((w).toUInt64 >>> ((iI (1)).toInt64.toUInt64 &&& Int64.toUInt64 63)).toInt64) &&& ((6148914691236517205 : Int64)))) &&& ((3689348814741910323 : Int64))) + (((((w) - ((((w).toUInt64 >>> ((iI (1)).toInt64.toUInt64 &&& Int64.toUInt64 63)).toInt64) &&& ((6148914691236517205 : Int64)))).toUInt64 >>> ((iI (2)).toInt64.toUInt64 &&& Int64.toUInt64 63)).toInt64) &&& ((3689348814741910323 : Int64)))) + ((((((w) - ((((w).toUInt64 >>> ((iI (1)).toInt64.toUInt64 &&& Int64.toUInt64 63)).toInt64) &&& ((6148914691236517205 : Int64)))) &&& ((3689348814741910323 : Int64))) + (((((w) - ((((w).toUInt64 >>> ((iI (1)).toInt64.toUInt64 &&& Int64.toUInt64 63)).toInt64) &&& ((6148914691236517205 : Int64)))).toUInt64 >>> ((iI (2)).toInt64.toUInt64 &&& Int64.toUInt64 63)).toInt64) &&& ((3689348814741910323 : Int64)))).toUInt64 >>> ((iI (4)).toInt64.toUInt64 &&& Int64.toUInt64 63)).toInt64)) &&& ((1085102592571150095 : Int64))).toUInt64 >>> ((iI (8)).toInt64.toUInt64 &&& Int64.toUInt64 63)).toInt64)) + (((((((((w) - ((((w).toUInt64 >>> ((iI (1)).toInt64.toUInt64 &&& Int64.toUInt64 63)).toInt64) &&& ((6148914691236517205 : Int64)))) &&& ((3689348814741910323 : Int64))) + (((((w) - ((((w).toUInt64 >>> ((iI (1)).toInt64.toUInt64 &&& Int64.toUInt64 63)).toInt64) &&& ((6148914691236517205 : Int64)))).toUInt64 >>> ((iI (2)).toInt64.toUInt64 &&& Int64.toUInt64 63)).toInt64) &&& ((3689348814741910323 : Int64)))) + ((((((w) - ((((w).toUInt64 >>> ((iI (1)).toInt64.toUInt64 &&& Int64.toUInt64 63)).toInt64) &&& ((6148914691236517205 : Int64)))) &&& ((3689348814741910323 : Int64))) + (((((w) - ((((w).toUInt64 >>> ((iI (1)).toInt64.toUInt64 &&& Int64.toUInt64 63)).toInt64) &&& ((6148914691236517205 : Int64)))).toUInt64 >>> ((iI (2)).toInt64.toUInt64 &&& Int64.toUInt64 63)).toInt64) &&& ((3689348814741910323 : Int64)))).toUInt64 >>> ((iI (4)).toInt64.toUInt64 &&& Int64.toUInt64 63)).toInt64)) &&& ((1085102592571150095 : Int64))) + ((((((((w) - ((((w).toUInt64 >>> ((iI (1)).toInt64.toUInt64 &&& Int64.toUInt64 63)).toInt64) &&& ((6148914691236517205 : Int64)))) &&& ((3689348814741910323 : Int64))) + (((((w) - ((((w).toUInt64 >>> ((iI (1)).toInt64.toUInt64 &&& Int64.toUInt64 63)).toInt64) &&& ((6148914691236517205 : Int64)))).toUInt64 >>> ((iI (2)).toInt64.toUInt64 &&& Int64.toUInt64 63)).toInt64) &&& ((3689348814741910323 : Int64)))) + ((((((w) - ((((w).toUInt64 >>> ((iI (1)).toInt64.toUInt64 &&& Int64.toUInt64 63)).toInt64) &&& ((6148914691236517205 : Int64)))) &&& ((3689348814741910323 : Int64))) + (((((w) - ((((w).toUInt64 >>> ((iI (1)).toInt64.toUInt64 &&& Int64.toUInt64 63)).toInt64) &&& ((6148914691236517205 : Int64)))).toUInt64 >>> ((iI (2)).toInt64.toUInt64 &&& Int64.toUInt64 63)).toInt64) &&& ((3689348814741910323 : Int64)))).toUInt64 >>> ((iI (4)).toInt64.toUInt64 &&& Int64.toUInt64 63)).toInt64)) &&& ((1085102592571150095 : Int64))).toUInt64 >>> ((iI (8)).toInt64.toUInt64 &&& Int64.toUInt64 63)).toInt64)).toUInt64 >>> ((iI (16)).toInt64.toUInt64 &&& Int64.toUInt64 63)).toInt64)) + ((((((((((w) - ((((w).toUInt64 >>> ((iI (1)).toInt64.toUInt64 &&& Int64.toUInt64 63)).toInt64) &&& ((6148914691236517205 : Int64)))) &&& ((3689348814741910323 : Int64))) + (((((w) - ((((w).toUInt64 >>> ((iI (1)).toInt64.toUInt64 &&& Int64.toUInt64 63)).toInt64) &&& ((6148914691236517205 : Int64)))).toUInt64 >>> ((iI (2)).toInt64.toUInt64 &&& Int64.toUInt64 63)).toInt64) &&& ((3689348814741910323 : Int64)))) + ((((((w) - ((((w).toUInt64 >>> ((iI (1)).toInt64.toUInt64 &&& Int64.toUInt64 63)).toInt64) &&& ((6148914691236517205 : Int64)))) &&& ((3689348814741910323 : Int64))) + (((((w) - ((((w).toUInt64 >>> ((iI (1)).toInt64.toUInt64 &&& Int64.toUInt64 63)).toInt64) &&& ((6148914691236517205 : Int64)))).toUInt64 >>> ((iI (2)).toInt64.toUInt64 &&& Int64.toUInt64 63)).toInt64) &&& ((3689348814741910323 : Int64)))).toUInt64 >>> ((iI (4)).toInt64.toUInt64 &&& Int64.toUInt64 63)).toInt64)) &&& ((1085102592571150095 : Int64))) + ((((((((w) - ((((w).toUInt64 >>> ((iI (1)).toInt64.toUInt64 &&& Int64.toUInt64 63)).toInt64) &&& ((6148914691236517205 : Int64)))) &&& ((3689348814741910323 : Int64))) + (((((w) - ((((w).toUInt64 >>> ((iI (1)).toInt64.toUInt64 &&& Int64.toUInt64 63)).toInt64) &&& ((6148914691236517205 : Int64)))).toUInt64 >>> ((iI (2)).toInt64.toUInt64 &&& Int64.toUInt64 63)).toInt64) &&& ((3689348814741910323 : Int64)))) + ((((((w) - ((((w).toUInt64 >>> ((iI (1)).toInt64.toUInt64 &&& Int64.toUInt64 63)).toInt64) &&& ((6148914691236517205 : Int64)))) &&& ((3689348814741910323 : Int64))) + (((((w) - ((((w).toUInt64 >>> ((iI (1)).toInt64.toUInt64 &&& Int64.toUInt64 63)).toInt64) &&& ((6148914691236517205 : Int64)))).toUInt64 >>> ((iI (2)).toInt64.toUInt64 &&& Int64.toUInt64 63)).toInt64) &&& ((3689348814741910323 : Int64)))).toUInt64 >>> ((iI (4)).toInt64.toUInt64 &&& Int64.toUInt64 63)).toInt64)) &&& ((1085102592571150095 : Int64))).toUInt64 >>> ((iI (8)).toInt64.toUInt64 &&& Int64.toUInt64 63)).toInt64)) + (((((((((w) - ((((w).toUInt64 >>> ((iI (1)).toInt64.toUInt64 &&& Int64.toUInt64 63)).toInt64) &&& ((6148914691236517205 : Int64)))) &&& ((3689348814741910323 : Int64))) + (((((w) - ((((w).toUInt64 >>> ((iI (1)).toInt64.toUInt64 &&& Int64.toUInt64 63)).toInt64) &&& ((6148914691236517205 : Int64)))).toUInt64 >>> ((iI (2)).toInt64.toUInt64 &&& Int64.toUInt64 63)).toInt64) &&& ((3689348814741910323 : Int64)))) + ((((((w) - ((((w).toUInt64 >>> ((iI (1)).toInt64.toUInt64 &&& Int64.toUInt64 63)).toInt64) &&& ((6148914691236517205 : Int64)))) &&& ((3689348814741910323 : Int64))) + (((((w) - ((((w).toUInt64 >>> ((iI (1)).toInt64.toUInt64 &&& Int64.toUInt64 63)).toInt64) &&& ((6148914691236517205 : Int64)))).toUInt64 >>> ((iI (2)).toInt64.toUInt64 &&& Int64.toUInt64 63)).toInt64) &&& ((3689348814741910323 : Int64)))).toUInt64 >>> ((iI (4)).toInt64.toUInt64 &&& Int64.toUInt64 63)).toInt64)) &&& ((1085102592571150095 : Int64))) + ((((((((w) - ((((w).toUInt64 >>> ((iI (1)).toInt64.toUInt64 &&& Int64.toUInt64 63)).toInt64) &&& ((6148914691236517205 : Int64)))) &&& ((3689348814741910323 : Int64))) + (((((w) - ((((w).toUInt64 >>> ((iI (1)).toInt64.toUInt64 &&& Int64.toUInt64 63)).toInt64) &&& ((6148914691236517205 : Int64)))).toUInt64 >>> ((iI (2)).toInt64.toUInt64 &&& Int64.toUInt64 63)).toInt64) &&& ((3689348814741910323 : Int64)))) + ((((((w) - ((((w).toUInt64 >>> ((iI (1)).toInt64.toUInt64 &&& Int64.toUInt64 63)).toInt64) &&& ((6148914691236517205 : Int64)))) &&& ((3689348814741910323 : Int64))) + (((((w) - ((((w).toUInt64 >>> ((iI (1)).toInt64.toUInt64 &&& Int64.toUInt64 63)).toInt64) &&& ((6148914691236517205 : Int64)))).toUInt64 >>> ((iI (2)).toInt64.toUInt64 &&& Int64.toUInt64 63)).toInt64) &&& ((3689348814741910323 : Int64)))).toUInt64 >>> ((iI (4)).toInt64.toUInt64 &&& Int64.toUInt64 63)).toInt64)) &&& ((1085102592571150095 : Int64))).toUInt64 >>> ((iI (8)).toInt64.toUInt64 &&& Int64.toUInt64 63)).toInt64)).toUInt64 >>> ((iI (16)).toInt64.toUInt64 &&& Int64.toUInt64 63)).toInt64)).toUInt64 >>> ((iI (32)).toInt64.toUInt64 &&& Int64.toUInt64 63)).toInt64)))]) hx hb d_JL_bitCount_54 rfl hl (by decide) rfl (fun ls hl => ?_)
  refine lv_lload_n hx hb d_JL_bitCount_55 rfl (lv_at hl 0 rfl) ?_
  refine lv_l2i hx hb d_JL_bitCount_56 rfl ?_
  refine z_bipush hx hb d_JL_bitCount_57 (by decide) ?_
  refine lv_iand hx hb d_JL_bitCount_59 ?_
  exact ret _ 60 (((((((((((w) - ((((w).toUInt64 >>> ((iI (1)).toInt64.toUInt64 &&& Int64.toUInt64 63)).toInt64) &&& ((6148914691236517205 : Int64)))) &&& ((3689348814741910323 : Int64))) + (((((w) - ((((w).toUInt64 >>> ((iI (1)).toInt64.toUInt64 &&& Int64.toUInt64 63)).toInt64) &&& ((6148914691236517205 : Int64)))).toUInt64 >>> ((iI (2)).toInt64.toUInt64 &&& Int64.toUInt64 63)).toInt64) &&& ((3689348814741910323 : Int64)))) + ((((((w) - ((((w).toUInt64 >>> ((iI (1)).toInt64.toUInt64 &&& Int64.toUInt64 63)).toInt64) &&& ((6148914691236517205 : Int64)))) &&& ((3689348814741910323 : Int64))) + (((((w) - ((((w).toUInt64 >>> ((iI (1)).toInt64.toUInt64 &&& Int64.toUInt64 63)).toInt64) &&& ((6148914691236517205 : Int64)))).toUInt64 >>> ((iI (2)).toInt64.toUInt64 &&& Int64.toUInt64 63)).toInt64) &&& ((3689348814741910323 : Int64)))).toUInt64 >>> ((iI (4)).toInt64.toUInt64 &&& Int64.toUInt64 63)).toInt64)) &&& ((1085102592571150095 : Int64))) + ((((((((w) - ((((w).toUInt64 >>> ((iI (1)).toInt64.toUInt64 &&& Int64.toUInt64 63)).toInt64) &&& ((6148914691236517205 : Int64)))) &&& ((3689348814741910323 : Int64))) + (((((w) - ((((w).toUInt64 >>> ((iI (1)).toInt64.toUInt64 &&& Int64.toUInt64 63)).toInt64) &&& ((6148914691236517205 : Int64)))).toUInt64 >>> ((iI (2)).toInt64.toUInt64 &&& Int64.toUInt64 63)).toInt64) &&& ((3689348814741910323 : Int64)))) + ((((((w) - ((((w).toUInt64 >>> ((iI (1)).toInt64.toUInt64 &&& Int64.toUInt64 63)).toInt64) &&& ((6148914691236517205 : Int64)))) &&& ((3689348814741910323 : Int64))) + (((((w) - ((((w).toUInt64 >>> ((iI (1)).toInt64.toUInt64 &&& Int64.toUInt64 63)).toInt64) &&& ((6148914691236517205 : Int64)))).toUInt64 >>> ((iI (2)).toInt64.toUInt64 &&& Int64.toUInt64 63)).toInt64) &&& ((3689348814741910323 : Int64)))).toUInt64 >>> ((iI (4)).toInt64.toUInt64 &&& Int64.toUInt64 63)).toInt64)) &&& ((1085102592571150095 : Int64))).toUInt64 >>> ((iI (8)).toInt64.toUInt64 &&& Int64.toUInt64 63)).toInt64)) + (((((((((w) - ((((w).toUInt64 >>> ((iI (1)).toInt64.toUInt64 &&& Int64.toUInt64 63)).toInt64) &&& ((6148914691236517205 : Int64)))) &&& ((3689348814741910323 : Int64))) + (((((w) - ((((w).toUInt64 >>> ((iI (1)).toInt64.toUInt64 &&& Int64.toUInt64 63)).toInt64) &&& ((6148914691236517205 : Int64)))).toUInt64 >>> ((iI (2)).toInt64.toUInt64 &&& Int64.toUInt64 63)).toInt64) &&& ((3689348814741910323 : Int64)))) + ((((((w) - ((((w).toUInt64 >>> ((iI (1)).toInt64.toUInt64 &&& Int64.toUInt64 63)).toInt64) &&& ((6148914691236517205 : Int64)))) &&& ((3689348814741910323 : Int64))) + (((((w) - ((((w).toUInt64 >>> ((iI (1)).toInt64.toUInt64 &&& Int64.toUInt64 63)).toInt64) &&& ((6148914691236517205 : Int64)))).toUInt64 >>> ((iI (2)).toInt64.toUInt64 &&& Int64.toUInt64 63)).toInt64) &&& ((3689348814741910323 : Int64)))).toUInt64 >>> ((iI (4)).toInt64.toUInt64 &&& Int64.toUInt64 63)).toInt64)) &&& ((1085102592571150095 : Int64))) + ((((((((w) - ((((w).toUInt64 >>> ((iI (1)).toInt64.toUInt64 &&& Int64.toUInt64 63)).toInt64) &&& ((6148914691236517205 : Int64)))) &&& ((3689348814741910323 : Int64))) + (((((w) - ((((w).toUInt64 >>> ((iI (1)).toInt64.toUInt64 &&& Int64.toUInt64 63)).toInt64) &&& ((6148914691236517205 : Int64)))).toUInt64 >>> ((iI (2)).toInt64.toUInt64 &&& Int64.toUInt64 63)).toInt64) &&& ((3689348814741910323 : Int64)))) + ((((((w) - ((((w).toUInt64 >>> ((iI (1)).toInt64.toUInt64 &&& Int64.toUInt64 63)).toInt64) &&& ((6148914691236517205 : Int64)))) &&& ((3689348814741910323 : Int64))) + (((((w) - ((((w).toUInt64 >>> ((iI (1)).toInt64.toUInt64 &&& Int64.toUInt64 63)).toInt64) &&& ((6148914691236517205 : Int64)))).toUInt64 >>> ((iI (2)).toInt64.toUInt64 &&& Int64.toUInt64 63)).toInt64) &&& ((3689348814741910323 : Int64)))).toUInt64 >>> ((iI (4)).toInt64.toUInt64 &&& Int64.toUInt64 63)).toInt64)) &&& ((1085102592571150095 : Int64))).toUInt64 >>> ((iI (8)).toInt64.toUInt64 &&& Int64.toUInt64 63)).toInt64)).toUInt64 >>> ((iI (16)).toInt64.toUInt64 &&& Int64.toUInt64 63)).toInt64)) + ((((((((((w) - ((((w).toUInt64 >>> ((iI (1)).toInt64.toUInt64 &&& Int64.toUInt64 63)).toInt64) &&& ((6148914691236517205 : Int64)))) &&& ((3689348814741910323 : Int64))) + (((((w) - ((((w).toUInt64 >>> ((iI (1)).toInt64.toUInt64 &&& Int64.toUInt64 63)).toInt64) &&& ((6148914691236517205 : Int64)))).toUInt64 >>> ((iI (2)).toInt64.toUInt64 &&& Int64.toUInt64 63)).toInt64) &&& ((3689348814741910323 : Int64)))) + ((((((w) - ((((w).toUInt64 >>> ((iI (1)).toInt64.toUInt64 &&& Int64.toUInt64 63)).toInt64) &&& ((6148914691236517205 : Int64)))) &&& ((3689348814741910323 : Int64))) + (((((w) - ((((w).toUInt64 >>> ((iI (1)).toInt64.toUInt64 &&& Int64.toUInt64 63)).toInt64) &&& ((6148914691236517205 : Int64)))).toUInt64 >>> ((iI (2)).toInt64.toUInt64 &&& Int64.toUInt64 63)).toInt64) &&& ((3689348814741910323 : Int64)))).toUInt64 >>> ((iI (4)).toInt64.toUInt64 &&& Int64.toUInt64 63)).toInt64)) &&& ((1085102592571150095 : Int64))) + ((((((((w) - ((((w).toUInt64 >>> ((iI (1)).toInt64.toUInt64 &&& Int64.toUInt64 63)).toInt64) &&& ((6148914691236517205 : Int64)))) &&& ((3689348814741910323 : Int64))) + (((((w) - ((((w).toUInt64 >>> ((iI (1)).toInt64.toUInt64 &&& Int64.toUInt64 63)).toInt64) &&& ((6148914691236517205 : Int64)))).toUInt64 >>> ((iI (2)).toInt64.toUInt64 &&& Int64.toUInt64 63)).toInt64) &&& ((3689348814741910323 : Int64)))) + ((((((w) - ((((w).toUInt64 >>> ((iI (1)).toInt64.toUInt64 &&& Int64.toUInt64 63)).toInt64) &&& ((6148914691236517205 : Int64)))) &&& ((3689348814741910323 : Int64))) + (((((w) - ((((w).toUInt64 >>> ((iI (1)).toInt64.toUInt64 &&& Int64.toUInt64 63)).toInt64) &&& ((6148914691236517205 : Int64)))).toUInt64 >>> ((iI (2)).toInt64.toUInt64 &&& Int64.toUInt64 63)).toInt64) &&& ((3689348814741910323 : Int64)))).toUInt64 >>> ((iI (4)).toInt64.toUInt64 &&& Int64.toUInt64 63)).toInt64)) &&& ((1085102592571150095 : Int64))).toUInt64 >>> ((iI (8)).toInt64.toUInt64 &&& Int64.toUInt64 63)).toInt64)) + (((((((((w) - ((((w).toUInt64 >>> ((iI (1)).toInt64.toUInt64 &&& Int64.toUInt64 63)).toInt64) &&& ((6148914691236517205 : Int64)))) &&& ((3689348814741910323 : Int64))) + (((((w) - ((((w).toUInt64 >>> ((iI (1)).toInt64.toUInt64 &&& Int64.toUInt64 63)).toInt64) &&& ((6148914691236517205 : Int64)))).toUInt64 >>> ((iI (2)).toInt64.toUInt64 &&& Int64.toUInt64 63)).toInt64) &&& ((3689348814741910323 : Int64)))) + ((((((w) - ((((w).toUInt64 >>> ((iI (1)).toInt64.toUInt64 &&& Int64.toUInt64 63)).toInt64) &&& ((6148914691236517205 : Int64)))) &&& ((3689348814741910323 : Int64))) + (((((w) - ((((w).toUInt64 >>> ((iI (1)).toInt64.toUInt64 &&& Int64.toUInt64 63)).toInt64) &&& ((6148914691236517205 : Int64)))).toUInt64 >>> ((iI (2)).toInt64.toUInt64 &&& Int64.toUInt64 63)).toInt64) &&& ((3689348814741910323 : Int64)))).toUInt64 >>> ((iI (4)).toInt64.toUInt64 &&& Int64.toUInt64 63)).toInt64)) &&& ((1085102592571150095 : Int64))) + ((((((((w) - ((((w).toUInt64 >>> ((iI (1)).toInt64.toUInt64 &&& Int64.toUInt64 63)).toInt64) &&& ((6148914691236517205 : Int64)))) &&& ((3689348814741910323 : Int64))) + (((((w) - ((((w).toUInt64 >>> ((iI (1)).toInt64.toUInt64 &&& Int64.toUInt64 63)).toInt64) &&& ((6148914691236517205 : Int64)))).toUInt64 >>> ((iI (2)).toInt64.toUInt64 &&& Int64.toUInt64 63)).toInt64) &&& ((3689348814741910323 : Int64)))) + ((((((w) - ((((w).toUInt64 >>> ((iI (1)).toInt64.toUInt64 &&& Int64.toUInt64 63)).toInt64) &&& ((6148914691236517205 : Int64)))) &&& ((3689348814741910323 : Int64))) + (((((w) - ((((w).toUInt64 >>> ((iI (1)).toInt64.toUInt64 &&& Int64.toUInt64 63)).toInt64) &&& ((6148914691236517205 : Int64)))).toUInt64 >>> ((iI (2)).toInt64.toUInt64 &&& Int64.toUInt64 63)).toInt64) &&& ((3689348814741910323 : Int64)))).toUInt64 >>> ((iI (4)).toInt64.toUInt64 &&& Int64.toUInt64 63)).toInt64)) &&& ((1085102592571150095 : Int64))).toUInt64 >>> ((iI (8)).toInt64.toUInt64 &&& Int64.toUInt64 63)).toInt64)).toUInt64 >>> ((iI (16)).toInt64.toUInt64 &&& Int64.toUInt64 63)).toInt64)).toUInt64 >>> ((iI (32)).toInt64.toUInt64 &&& Int64.toUInt64 63)).toInt64)).toInt32) &&& (iI (127))) d_JL_bitCount_60 (rfl)

set_option maxHeartbeats 4000000 in
set_option maxRecDepth 100000 in
theorem c_JA_fill (l : Launch) (D : va_G) (k : Nat → ClassId) (sz : Nat) (a0 : Nat) (f : Nat → Int64) (v : Int64) (n : Nat) (hn : n ≤ 100000) : Met l y_JA_fill wd_JA_fill rm_JA_fill (va_Pc [.ref a0, .long (v)] (PRW D k [(a0, .inl (k 1, n, .inr (.inl (f))))] sz)) (va_Qv (fun u : Unit => True) (fun _ t => BRW D [(a0, .inl (k 1, n, .inr (.inl (f))))] sz [(a0, .inl (k 1, n, .inr (.inl (fun _ => v))))] t) (va_A [(a0, .inl (k 1, n, .inr (.inl (f))))] sz)) 0 0 (va_A [(a0, .inl (k 1, n, .inr (.inl (f))))] sz) := by
  refine e_v (by decide) rfl (Nat.le_of_ble_eq_true rfl) ?_
  intro p e s m args below meth c Q ls hx hb hml hown hts hpre hl hin ret
  obtain ⟨hsz, hP, hK, hD0, hX⟩ := hpre
  subst hsz
  have hD := hD0.self (sz := s.heap.size)
  have hA : ∀ q : Nat, s.heap.size ≤ q → (va_A [(a0, .inl (k 1, n, .inr (.inl (f))))] s.heap.size) q := fun q h => Or.inr h
  have hS : va_S (va_A [(a0, .inl (k 1, n, .inr (.inl (f))))] s.heap.size) s.heap s.heap [] := va_S.rf
  have hl : lv_has ls 5 [(0, .ref a0), (1, .long (v))] := hl
  refine z_iconst hx hb d_JA_fill_0 ?_
  refine lv_istore_n (lv' := [(3, .int (iI (0))), (0, .ref a0), (1, .long (v))]) hx hb d_JA_fill_1 rfl hl (by decide) rfl (fun ls hl => ?_)
  refine lv_aload_n hx hb d_JA_fill_2 rfl (lv_at hl 1 rfl) ?_
  refine va_alen (v := iI ((n : Nat) : Int)) hx hb hK hP 0 1 rfl rfl (iI_nat _).symm d_JA_fill_3 ?_
  refine lv_istore (lv' := [(4, .int (iI ((n : Int)))), (3, .int (iI (0))), (0, .ref a0), (1, .long (v))]) hx hb d_JA_fill_4 hl (by decide) rfl (fun ls hl => ?_)
  have L6 : ∀ (fu : Nat) (i : Nat) (z : Int) (f2 : Nat → Int64) (ls : Array Slot) (H : Heap) (locs : List Loc), z = (i : Int) → i ≤ n → f2 = fillF f v i → n - i < fu → lv_has ls 5 [(0, .ref a0), (1, .long (v)), (3, .int (iI (z))), (4, .int (iI ((n : Int))))] → va_P D classes [(a0, .inl (k 1, n, .inr (.inl (f2))))] H → va_D (va_A [(a0, .inl (k 1, n, .inr (.inl (f))))] s.heap.size) [(a0, .inl (k 1, n, .inr (.inl (f2))))] → va_S (va_A [(a0, .inl (k 1, n, .inr (.inl (f))))] s.heap.size) s.heap H locs → W p l e rm_JA_fill s m args below meth c H locs 0 0 Q (F0 m 6 ls []) := by
    intro fu
    induction fu with
    | zero => intro i z f2 ls H locs hz hi hf hmu; exact absurd hmu (Nat.not_lt_zero _)
    | succ fu ih6 =>
      intro i z f2 ls H locs hz hi hf hmu hl hP hD hS
      refine lv_iload_n hx hb d_JA_fill_6 rfl (lv_at hl 2 rfl) ?_
      refine lv_iload hx hb d_JA_fill_7 (lv_at hl 3 rfl) ?_
      refine z_icmp_ge (tgt := 22) hx hb d_JA_fill_9 (by decide) ⟨by omega, by omega⟩ ⟨by omega, by omega⟩ (fun h9 => ?_) (fun h9 => ?_)
      · have hi9 : i = n := by omega
        subst hi9
        subst hf
        have hP := P_fill hP
        have hD := D_one (e' := .inl (k 1, i, .inr (.inl (fun _ => v)))) hD
        exact ret _ _ _ 22 () d_JA_fill_22 hS (trivial) (fun t ht _ => ⟨by rw [ht]; exact hP, hD⟩)
      · refine lv_aload_n hx hb d_JA_fill_12 rfl (lv_at hl 0 rfl) ?_
        refine lv_iload_n hx hb d_JA_fill_13 rfl (lv_at hl 2 rfl) ?_
        refine lv_lload_n hx hb d_JA_fill_14 rfl (lv_at hl 1 rfl) ?_
        refine x_last hx hb hK hP hD hS 0 1 rfl rfl (i) hz (by omega) (by omega) d_JA_fill_15 (fun H locs hP hD hS => ?_)
        have hP : va_P D classes [(a0, .inl (k 1, n, .inr (.inl (vp_updL (f2) (i) (v)))))] H := hP
        have hD : va_D (va_A [(a0, .inl (k 1, n, .inr (.inl (f))))] s.heap.size) [(a0, .inl (k 1, n, .inr (.inl (vp_updL (f2) (i) (v)))))] := hD
        refine z_iinc (k := 2) (a := z) (lv' := [(3, .int (iI (z + 1))), (0, .ref a0), (1, .long (v)), (4, .int (iI ((n : Int))))]) hx hb d_JA_fill_16 hl rfl (by decide) rfl (fun ls hl => ?_)
        refine lv_goto (tgt := 6) hx hb d_JA_fill_19 (by decide) ?_
        exact ih6 (i + 1) (z + 1) (vp_updL f2 (i) (v)) ls H locs (by omega) (by omega) (by rw [hf]; exact fillF_s f v i) (by omega) (lv_sub hl [1, 2, 0, 3] rfl) hP hD hS
  exact L6 (_) (0) (0) (f) ls s.heap [] (by omega) (by omega) (by exact (fillF_0 f v).symm) (Nat.lt_succ_self _) (lv_sub hl [2, 3, 1, 0] rfl) hP hD hS

set_option maxHeartbeats 4000000 in
set_option maxRecDepth 100000 in
theorem c_DS_clear (l : Launch) (D : va_G) (k : Nat → ClassId) (sz : Nat) (h0 a0 : Nat) (f : Nat → Int64) : Met l y_DS_clear wd_DS_clear rm_DS_clear (va_Pc [.ref h0] (PRW D k [(h0, .inr (4, [.ref a0])), (a0, .inl (k 1, 23, .inr (.inl (f))))] sz)) (va_Qv (fun u : Unit => True) (fun _ t => BRW D [(h0, .inr (4, [.ref a0])), (a0, .inl (k 1, 23, .inr (.inl (f))))] sz [(h0, .inr (4, [.ref a0])), (a0, .inl (k 1, 23, .inr (.inl (fun _ => (0 : Int64)))))] t) (va_A [(h0, .inr (4, [.ref a0])), (a0, .inl (k 1, 23, .inr (.inl (f))))] sz)) 0 0 (va_A [(h0, .inr (4, [.ref a0])), (a0, .inl (k 1, 23, .inr (.inl (f))))] sz) := by
  refine e_v (by decide) rfl (Nat.le_of_ble_eq_true rfl) ?_
  intro p e s m args below meth c Q ls hx hb hml hown hts hpre hl hin ret
  obtain ⟨hsz, hP, hK, hD0, hX⟩ := hpre
  subst hsz
  have hD := hD0.self (sz := s.heap.size)
  have hA : ∀ q : Nat, s.heap.size ≤ q → (va_A [(h0, .inr (4, [.ref a0])), (a0, .inl (k 1, 23, .inr (.inl (f))))] s.heap.size) q := fun q h => Or.inr h
  have hS : va_S (va_A [(h0, .inr (4, [.ref a0])), (a0, .inl (k 1, 23, .inr (.inl (f))))] s.heap.size) s.heap s.heap [] := va_S.rf
  have hl : lv_has ls 1 [(0, .ref h0)] := hl
  refine lv_aload_n hx hb d_DS_clear_0 rfl (lv_at hl 0 rfl) ?_
  refine va_get (D := D) (ci := 4) (v := .ref a0) (C := R_DS) (T := F_DS) (N := 1) hx hb hts in_DS hown hK hP 0 rfl rfl 0 (by decide) (hts _ k_147) (fun _ h9 => h9) rfl d_DS_clear_1 ?_
  refine lv_lconst (v := 0) hx hb d_DS_clear_4 (by decide) ?_
  have hPc := hP.sub (ws' := [(a0, .inl (k 1, 23, .inr (.inl (f))))]) [1] rfl
  have hDc := hD.sub (ws' := [(a0, .inl (k 1, 23, .inr (.inl (f))))]) [1] (by decide) rfl
  have hFc := va_free (wc := [(a0, .inl (k 1, 23, .inr (.inl (f))))]) hD hS hA [1] rfl
  refine va_callv (va_runS (As := [.ref a0, .long ((0 : Int64))]) (rest := []) ⟨hx, hb, hml, hown, hts⟩ (c_JA_fill l D k s.heap.size (a0) (f) ((0 : Int64)) (23) ((by omega))) ⟨callB_of 2 hts (good_JA_fill) rfl rfl rfl (hts _ k_72) (hts _ k_441) (by decide +kernel) ⟨Nat.le_of_ble_eq_true rfl, Nat.le_of_ble_eq_true rfl⟩, (hts _ k_414)⟩ ⟨fun a U g mk q => ⟨q.1, q.2.1, q.2.2.1, va_K.moved (u := U) (U := U.calling g mk a) (Vm.Alike.refl U.vm) q.2.2.2.1, q.2.2.2.2.1, q.2.2.2.2.2.calling⟩, fun U hU hW => ⟨rfl, by rw [hU], by rw [hU]; exact hPc, va_K.moved hW.alike hK, hDc.weaken (fun _ _ _ _ => trivial), by rw [hU]; exact (hX.mono hS hFc).warm hW⟩⟩ rfl rfl hl.1 rfl (lv_room (Nat.le_of_ble_eq_true rfl)) d_DS_clear_5 ⟨Nat.le_of_ble_eq_true rfl, Nat.le_of_ble_eq_true rfl⟩) hS (fun q _ h => hFc q h) hFc (fun xu_2 t H1 locs ht hvm h_xr_1 hB hz1 hk1 hS => ?_)
  obtain ⟨hP1, hD1⟩ := hB
  rw [ht] at hP1
  obtain ⟨hP, hD⟩ := va_join (wr := [(h0, .inr (4, [.ref a0]))]) (w1 := [(a0, .inl (k 1, 23, .inr (.inl (fun _ => ((0 : Int64))))))]) hP hD [1] [0] rfl rfl (by decide) (by decide) hk1 hFc hP1 hD1
  generalize H1 = H at hP hS ⊢
  have hP := hP.sub (ws' := [(h0, .inr (4, [.ref a0])), (a0, .inl (k 1, 23, .inr (.inl (fun _ => ((0 : Int64))))))]) [0, 1] rfl
  have hD := hD.sub (ws' := [(h0, .inr (4, [.ref a0])), (a0, .inl (k 1, 23, .inr (.inl (fun _ => ((0 : Int64))))))]) [0, 1] (by decide) rfl
  exact ret _ _ _ 8 () d_DS_clear_8 hS (trivial) (fun t ht _ => ⟨by rw [ht]; exact hP, hD⟩)

set_option maxHeartbeats 4000000 in
set_option maxRecDepth 100000 in
theorem c_DS_fill (l : Launch) (D : va_G) (k : Nat → ClassId) (sz : Nat) (h0 a0 : Nat) (f : Nat → Int64) : Met l y_DS_fill wd_DS_fill rm_DS_fill (va_Pc [.ref h0] (PRW D k [(h0, .inr (4, [.ref a0])), (a0, .inl (k 1, 23, .inr (.inl (f))))] sz)) (va_Qv (fun u : Unit => True) (fun _ t => BRW D [(h0, .inr (4, [.ref a0])), (a0, .inl (k 1, 23, .inr (.inl (f))))] sz [(h0, .inr (4, [.ref a0])), (a0, .inl (k 1, 23, .inr (.inl (fun _ => (-1 : Int64)))))] t) (va_A [(h0, .inr (4, [.ref a0])), (a0, .inl (k 1, 23, .inr (.inl (f))))] sz)) 0 0 (va_A [(h0, .inr (4, [.ref a0])), (a0, .inl (k 1, 23, .inr (.inl (f))))] sz) := by
  refine e_v (by decide) rfl (Nat.le_of_ble_eq_true rfl) ?_
  intro p e s m args below meth c Q ls hx hb hml hown hts hpre hl hin ret
  obtain ⟨hsz, hP, hK, hD0, hX⟩ := hpre
  subst hsz
  have hD := hD0.self (sz := s.heap.size)
  have hA : ∀ q : Nat, s.heap.size ≤ q → (va_A [(h0, .inr (4, [.ref a0])), (a0, .inl (k 1, 23, .inr (.inl (f))))] s.heap.size) q := fun q h => Or.inr h
  have hS : va_S (va_A [(h0, .inr (4, [.ref a0])), (a0, .inl (k 1, 23, .inr (.inl (f))))] s.heap.size) s.heap s.heap [] := va_S.rf
  have hl : lv_has ls 1 [(0, .ref h0)] := hl
  refine lv_aload_n hx hb d_DS_fill_0 rfl (lv_at hl 0 rfl) ?_
  refine va_get (D := D) (ci := 4) (v := .ref a0) (C := R_DS) (T := F_DS) (N := 1) hx hb hts in_DS hown hK hP 0 rfl rfl 0 (by decide) (hts _ k_147) (fun _ h9 => h9) rfl d_DS_fill_1 ?_
  refine W.ldc2 (v := -1) hx hb hown (hts _ k_440) rfl d_DS_fill_4 ?_
  refine W.eq (g2 := F0 m 7 ls (.long (-1) :: [.ref a0])) rfl ?_
  have hPc := hP.sub (ws' := [(a0, .inl (k 1, 23, .inr (.inl (f))))]) [1] rfl
  have hDc := hD.sub (ws' := [(a0, .inl (k 1, 23, .inr (.inl (f))))]) [1] (by decide) rfl
  have hFc := va_free (wc := [(a0, .inl (k 1, 23, .inr (.inl (f))))]) hD hS hA [1] rfl
  refine va_callv (va_runS (As := [.ref a0, .long ((-1 : Int64))]) (rest := []) ⟨hx, hb, hml, hown, hts⟩ (c_JA_fill l D k s.heap.size (a0) (f) ((-1 : Int64)) (23) ((by omega))) ⟨callB_of 2 hts (good_JA_fill) rfl rfl rfl (hts _ k_72) (hts _ k_441) (by decide +kernel) ⟨Nat.le_of_ble_eq_true rfl, Nat.le_of_ble_eq_true rfl⟩, (hts _ k_414)⟩ ⟨fun a U g mk q => ⟨q.1, q.2.1, q.2.2.1, va_K.moved (u := U) (U := U.calling g mk a) (Vm.Alike.refl U.vm) q.2.2.2.1, q.2.2.2.2.1, q.2.2.2.2.2.calling⟩, fun U hU hW => ⟨rfl, by rw [hU], by rw [hU]; exact hPc, va_K.moved hW.alike hK, hDc.weaken (fun _ _ _ _ => trivial), by rw [hU]; exact (hX.mono hS hFc).warm hW⟩⟩ rfl rfl hl.1 rfl (lv_room (Nat.le_of_ble_eq_true rfl)) d_DS_fill_7 ⟨Nat.le_of_ble_eq_true rfl, Nat.le_of_ble_eq_true rfl⟩) hS (fun q _ h => hFc q h) hFc (fun xu_2 t H1 locs ht hvm h_xr_1 hB hz1 hk1 hS => ?_)
  obtain ⟨hP1, hD1⟩ := hB
  rw [ht] at hP1
  obtain ⟨hP, hD⟩ := va_join (wr := [(h0, .inr (4, [.ref a0]))]) (w1 := [(a0, .inl (k 1, 23, .inr (.inl (fun _ => ((-1 : Int64))))))]) hP hD [1] [0] rfl rfl (by decide) (by decide) hk1 hFc hP1 hD1
  generalize H1 = H at hP hS ⊢
  have hP := hP.sub (ws' := [(h0, .inr (4, [.ref a0])), (a0, .inl (k 1, 23, .inr (.inl (fun _ => ((-1 : Int64))))))]) [0, 1] rfl
  have hD := hD.sub (ws' := [(h0, .inr (4, [.ref a0])), (a0, .inl (k 1, 23, .inr (.inl (fun _ => ((-1 : Int64))))))]) [0, 1] (by decide) rfl
  exact ret _ _ _ 10 () d_DS_fill_10 hS (trivial) (fun t ht _ => ⟨by rw [ht]; exact hP, hD⟩)

set_option maxHeartbeats 4000000 in
set_option maxRecDepth 100000 in
theorem c_CN_clear (l : Launch) (D : va_G) (k : Nat → ClassId) (sz : Nat) (h0 g0 r0 r1 r2 r3 : Nat) (m0 : Nat → Int64) (m1 : Nat → Int64) (m2 : Nat → Int64) (m3 : Nat → Int64) : Met l y_CN_clear wd_CN_clear rm_CN_clear (va_Pc [.ref h0] (PRW D k [(h0, .inr (3, [.ref g0])), (g0, .inl (k 4, 4, .inr (.inr (.inr (.inr (rws r0 r1 r2 r3)))))), (r0, .inl (k 1, 1461, .inr (.inl (m0)))), (r1, .inl (k 1, 1461, .inr (.inl (m1)))), (r2, .inl (k 1, 1461, .inr (.inl (m2)))), (r3, .inl (k 1, 1461, .inr (.inl (m3))))] sz)) (va_Qv (fun u : Unit => True) (fun _ t => BRW D [(h0, .inr (3, [.ref g0])), (g0, .inl (k 4, 4, .inr (.inr (.inr (.inr (rws r0 r1 r2 r3)))))), (r0, .inl (k 1, 1461, .inr (.inl (m0)))), (r1, .inl (k 1, 1461, .inr (.inl (m1)))), (r2, .inl (k 1, 1461, .inr (.inl (m2)))), (r3, .inl (k 1, 1461, .inr (.inl (m3))))] sz [(h0, .inr (3, [.ref g0])), (g0, .inl (k 4, 4, .inr (.inr (.inr (.inr (rws r0 r1 r2 r3)))))), (r0, .inl (k 1, 1461, .inr (.inl (fun _ => (0 : Int64))))), (r1, .inl (k 1, 1461, .inr (.inl (fun _ => (0 : Int64))))), (r2, .inl (k 1, 1461, .inr (.inl (fun _ => (0 : Int64))))), (r3, .inl (k 1, 1461, .inr (.inl (fun _ => (0 : Int64)))))] t) (va_A [(h0, .inr (3, [.ref g0])), (g0, .inl (k 4, 4, .inr (.inr (.inr (.inr (rws r0 r1 r2 r3)))))), (r0, .inl (k 1, 1461, .inr (.inl (m0)))), (r1, .inl (k 1, 1461, .inr (.inl (m1)))), (r2, .inl (k 1, 1461, .inr (.inl (m2)))), (r3, .inl (k 1, 1461, .inr (.inl (m3))))] sz)) 0 0 (va_A [(h0, .inr (3, [.ref g0])), (g0, .inl (k 4, 4, .inr (.inr (.inr (.inr (rws r0 r1 r2 r3)))))), (r0, .inl (k 1, 1461, .inr (.inl (m0)))), (r1, .inl (k 1, 1461, .inr (.inl (m1)))), (r2, .inl (k 1, 1461, .inr (.inl (m2)))), (r3, .inl (k 1, 1461, .inr (.inl (m3))))] sz) := by
  refine e_v (by decide) rfl (Nat.le_of_ble_eq_true rfl) ?_
  intro p e s m args below meth c Q ls hx hb hml hown hts hpre hl hin ret
  obtain ⟨hsz, hP, hK, hD0, hX⟩ := hpre
  subst hsz
  have hD := hD0.self (sz := s.heap.size)
  have hA : ∀ q : Nat, s.heap.size ≤ q → (va_A [(h0, .inr (3, [.ref g0])), (g0, .inl (k 4, 4, .inr (.inr (.inr (.inr (rws r0 r1 r2 r3)))))), (r0, .inl (k 1, 1461, .inr (.inl (m0)))), (r1, .inl (k 1, 1461, .inr (.inl (m1)))), (r2, .inl (k 1, 1461, .inr (.inl (m2)))), (r3, .inl (k 1, 1461, .inr (.inl (m3))))] s.heap.size) q := fun q h => Or.inr h
  have hS : va_S (va_A [(h0, .inr (3, [.ref g0])), (g0, .inl (k 4, 4, .inr (.inr (.inr (.inr (rws r0 r1 r2 r3)))))), (r0, .inl (k 1, 1461, .inr (.inl (m0)))), (r1, .inl (k 1, 1461, .inr (.inl (m1)))), (r2, .inl (k 1, 1461, .inr (.inl (m2)))), (r3, .inl (k 1, 1461, .inr (.inl (m3))))] s.heap.size) s.heap s.heap [] := va_S.rf
  have hl : lv_has ls 2 [(0, .ref h0)] := hl
  refine z_iconst hx hb d_CN_clear_0 ?_
  refine lv_istore_n (lv' := [(1, .int (iI (0))), (0, .ref h0)]) hx hb d_CN_clear_1 rfl hl (by decide) rfl (fun ls hl => ?_)
  refine lv_iload_n hx hb d_CN_clear_2 rfl (lv_at hl 0 rfl) ?_
  refine z_iconst hx hb d_CN_clear_3 ?_
  refine z_icmp_ge (tgt := 23) hx hb d_CN_clear_4 (by decide) ⟨by omega, by omega⟩ ⟨by omega, by omega⟩ (fun h4 => absurd h4 (by decide)) (fun h4 => ?_)
  refine lv_aload_n hx hb d_CN_clear_7 rfl (lv_at hl 1 rfl) ?_
  refine va_get (D := D) (ci := 3) (v := .ref g0) (C := R_CN) (T := F_CN) (N := 1) hx hb hts in_CN hown hK hP 0 rfl rfl 0 (by decide) (hts _ k_220) (fun _ h9 => h9) rfl d_CN_clear_8 ?_
  refine lv_iload_n hx hb d_CN_clear_11 rfl (lv_at hl 0 rfl) ?_
  refine x_aald hx hb hK hP 1 4 rfl rfl rfl (0) rfl (by decide) (by decide) (v := r0) rfl d_CN_clear_12 ?_
  refine lv_lconst (v := 0) hx hb d_CN_clear_13 (by decide) ?_
  have hPc := hP.sub (ws' := [(r0, .inl (k 1, 1461, .inr (.inl (m0))))]) [2] rfl
  have hDc := hD.sub (ws' := [(r0, .inl (k 1, 1461, .inr (.inl (m0))))]) [2] (by decide) rfl
  have hFc := va_free (wc := [(r0, .inl (k 1, 1461, .inr (.inl (m0))))]) hD hS hA [2] rfl
  refine va_callv (va_runS (As := [.ref r0, .long ((0 : Int64))]) (rest := []) ⟨hx, hb, hml, hown, hts⟩ (c_JA_fill l D k s.heap.size (r0) (m0) ((0 : Int64)) (1461) ((by omega))) ⟨callB_of 2 hts (good_JA_fill) rfl rfl rfl (hts _ k_72) (hts _ k_413) (by decide +kernel) ⟨Nat.le_of_ble_eq_true rfl, Nat.le_of_ble_eq_true rfl⟩, (hts _ k_414)⟩ ⟨fun a U g mk q => ⟨q.1, q.2.1, q.2.2.1, va_K.moved (u := U) (U := U.calling g mk a) (Vm.Alike.refl U.vm) q.2.2.2.1, q.2.2.2.2.1, q.2.2.2.2.2.calling⟩, fun U hU hW => ⟨rfl, by rw [hU], by rw [hU]; exact hPc, va_K.moved hW.alike hK, hDc.weaken (fun _ _ _ _ => trivial), by rw [hU]; exact (hX.mono hS hFc).warm hW⟩⟩ rfl rfl hl.1 rfl (lv_room (Nat.le_of_ble_eq_true rfl)) d_CN_clear_14 ⟨Nat.le_of_ble_eq_true rfl, Nat.le_of_ble_eq_true rfl⟩) hS (fun q _ h => hFc q h) hFc (fun xu_2 t H1 locs ht hvm h_xr_1 hB hz1 hk1 hS => ?_)
  obtain ⟨hP1, hD1⟩ := hB
  rw [ht] at hP1
  obtain ⟨hP, hD⟩ := va_join (wr := [(h0, .inr (3, [.ref g0])), (g0, .inl (k 4, 4, .inr (.inr (.inr (.inr (rws r0 r1 r2 r3)))))), (r1, .inl (k 1, 1461, .inr (.inl (m1)))), (r2, .inl (k 1, 1461, .inr (.inl (m2)))), (r3, .inl (k 1, 1461, .inr (.inl (m3))))]) (w1 := [(r0, .inl (k 1, 1461, .inr (.inl (fun _ => ((0 : Int64))))))]) hP hD [2] [0, 1, 3, 4, 5] rfl rfl (by decide) (by decide) hk1 hFc hP1 hD1
  generalize H1 = H at hP hS ⊢
  have hP := hP.sub (ws' := [(h0, .inr (3, [.ref g0])), (g0, .inl (k 4, 4, .inr (.inr (.inr (.inr (rws r0 r1 r2 r3)))))), (r0, .inl (k 1, 1461, .inr (.inl (fun _ => ((0 : Int64)))))), (r1, .inl (k 1, 1461, .inr (.inl (m1)))), (r2, .inl (k 1, 1461, .inr (.inl (m2)))), (r3, .inl (k 1, 1461, .inr (.inl (m3))))]) [0, 1, 5, 2, 3, 4] rfl
  have hD := hD.sub (ws' := [(h0, .inr (3, [.ref g0])), (g0, .inl (k 4, 4, .inr (.inr (.inr (.inr (rws r0 r1 r2 r3)))))), (r0, .inl (k 1, 1461, .inr (.inl (fun _ => ((0 : Int64)))))), (r1, .inl (k 1, 1461, .inr (.inl (m1)))), (r2, .inl (k 1, 1461, .inr (.inl (m2)))), (r3, .inl (k 1, 1461, .inr (.inl (m3))))]) [0, 1, 5, 2, 3, 4] (by decide) rfl
  refine z_iinc (k := 0) (a := 0) (lv' := [(1, .int (iI (1))), (0, .ref h0)]) hx hb d_CN_clear_17 hl rfl (by decide) rfl (fun ls hl => ?_)
  refine lv_goto (tgt := 2) hx hb d_CN_clear_20 (by decide) ?_
  refine lv_iload_n hx hb d_CN_clear_2 rfl (lv_at hl 0 rfl) ?_
  refine z_iconst hx hb d_CN_clear_3 ?_
  refine z_icmp_ge (tgt := 23) hx hb d_CN_clear_4 (by decide) ⟨by omega, by omega⟩ ⟨by omega, by omega⟩ (fun h4 => absurd h4 (by decide)) (fun h4 => ?_)
  refine lv_aload_n hx hb d_CN_clear_7 rfl (lv_at hl 1 rfl) ?_
  refine va_get (D := D) (ci := 3) (v := .ref g0) (C := R_CN) (T := F_CN) (N := 1) hx hb hts in_CN hown hK hP 0 rfl rfl 0 (by decide) (hts _ k_220) (fun _ h9 => h9) rfl d_CN_clear_8 ?_
  refine lv_iload_n hx hb d_CN_clear_11 rfl (lv_at hl 0 rfl) ?_
  refine x_aald hx hb hK hP 1 4 rfl rfl rfl (1) rfl (by decide) (by decide) (v := r1) rfl d_CN_clear_12 ?_
  refine lv_lconst (v := 0) hx hb d_CN_clear_13 (by decide) ?_
  have hPc := hP.sub (ws' := [(r1, .inl (k 1, 1461, .inr (.inl (m1))))]) [3] rfl
  have hDc := hD.sub (ws' := [(r1, .inl (k 1, 1461, .inr (.inl (m1))))]) [3] (by decide) rfl
  have hFc := va_free (wc := [(r1, .inl (k 1, 1461, .inr (.inl (m1))))]) hD hS hA [3] rfl
  refine va_callv (va_runS (As := [.ref r1, .long ((0 : Int64))]) (rest := []) ⟨hx, hb, hml, hown, hts⟩ (c_JA_fill l D k H.size (r1) (m1) ((0 : Int64)) (1461) ((by omega))) ⟨callB_of 2 hts (good_JA_fill) rfl rfl rfl (hts _ k_72) (hts _ k_413) (by decide +kernel) ⟨Nat.le_of_ble_eq_true rfl, Nat.le_of_ble_eq_true rfl⟩, (hts _ k_414)⟩ ⟨fun a U g mk q => ⟨q.1, q.2.1, q.2.2.1, va_K.moved (u := U) (U := U.calling g mk a) (Vm.Alike.refl U.vm) q.2.2.2.1, q.2.2.2.2.1, q.2.2.2.2.2.calling⟩, fun U hU hW => ⟨rfl, by rw [hU], by rw [hU]; exact hPc, va_K.moved hW.alike hK, hDc.weaken (fun _ _ _ _ => trivial), by rw [hU]; exact (hX.mono hS hFc).warm hW⟩⟩ rfl rfl hl.1 rfl (lv_room (Nat.le_of_ble_eq_true rfl)) d_CN_clear_14 ⟨Nat.le_of_ble_eq_true rfl, Nat.le_of_ble_eq_true rfl⟩) hS (fun q _ h => hFc q h) hFc (fun xu_4 t H1 locs ht hvm h_xr_3 hB hz1 hk1 hS => ?_)
  obtain ⟨hP1, hD1⟩ := hB
  rw [ht] at hP1
  obtain ⟨hP, hD⟩ := va_join (wr := [(h0, .inr (3, [.ref g0])), (g0, .inl (k 4, 4, .inr (.inr (.inr (.inr (rws r0 r1 r2 r3)))))), (r0, .inl (k 1, 1461, .inr (.inl (fun _ => ((0 : Int64)))))), (r2, .inl (k 1, 1461, .inr (.inl (m2)))), (r3, .inl (k 1, 1461, .inr (.inl (m3))))]) (w1 := [(r1, .inl (k 1, 1461, .inr (.inl (fun _ => ((0 : Int64))))))]) hP hD [3] [0, 1, 2, 4, 5] rfl rfl (by decide) (by decide) hk1 hFc hP1 hD1
  generalize H1 = H at hP hS ⊢
  have hP := hP.sub (ws' := [(h0, .inr (3, [.ref g0])), (g0, .inl (k 4, 4, .inr (.inr (.inr (.inr (rws r0 r1 r2 r3)))))), (r0, .inl (k 1, 1461, .inr (.inl (fun _ => ((0 : Int64)))))), (r1, .inl (k 1, 1461, .inr (.inl (fun _ => ((0 : Int64)))))), (r2, .inl (k 1, 1461, .inr (.inl (m2)))), (r3, .inl (k 1, 1461, .inr (.inl (m3))))]) [0, 1, 2, 5, 3, 4] rfl
  have hD := hD.sub (ws' := [(h0, .inr (3, [.ref g0])), (g0, .inl (k 4, 4, .inr (.inr (.inr (.inr (rws r0 r1 r2 r3)))))), (r0, .inl (k 1, 1461, .inr (.inl (fun _ => ((0 : Int64)))))), (r1, .inl (k 1, 1461, .inr (.inl (fun _ => ((0 : Int64)))))), (r2, .inl (k 1, 1461, .inr (.inl (m2)))), (r3, .inl (k 1, 1461, .inr (.inl (m3))))]) [0, 1, 2, 5, 3, 4] (by decide) rfl
  refine z_iinc (k := 0) (a := 1) (lv' := [(1, .int (iI (2))), (0, .ref h0)]) hx hb d_CN_clear_17 hl rfl (by decide) rfl (fun ls hl => ?_)
  refine lv_goto (tgt := 2) hx hb d_CN_clear_20 (by decide) ?_
  refine lv_iload_n hx hb d_CN_clear_2 rfl (lv_at hl 0 rfl) ?_
  refine z_iconst hx hb d_CN_clear_3 ?_
  refine z_icmp_ge (tgt := 23) hx hb d_CN_clear_4 (by decide) ⟨by omega, by omega⟩ ⟨by omega, by omega⟩ (fun h4 => absurd h4 (by decide)) (fun h4 => ?_)
  refine lv_aload_n hx hb d_CN_clear_7 rfl (lv_at hl 1 rfl) ?_
  refine va_get (D := D) (ci := 3) (v := .ref g0) (C := R_CN) (T := F_CN) (N := 1) hx hb hts in_CN hown hK hP 0 rfl rfl 0 (by decide) (hts _ k_220) (fun _ h9 => h9) rfl d_CN_clear_8 ?_
  refine lv_iload_n hx hb d_CN_clear_11 rfl (lv_at hl 0 rfl) ?_
  refine x_aald hx hb hK hP 1 4 rfl rfl rfl (2) rfl (by decide) (by decide) (v := r2) rfl d_CN_clear_12 ?_
  refine lv_lconst (v := 0) hx hb d_CN_clear_13 (by decide) ?_
  have hPc := hP.sub (ws' := [(r2, .inl (k 1, 1461, .inr (.inl (m2))))]) [4] rfl
  have hDc := hD.sub (ws' := [(r2, .inl (k 1, 1461, .inr (.inl (m2))))]) [4] (by decide) rfl
  have hFc := va_free (wc := [(r2, .inl (k 1, 1461, .inr (.inl (m2))))]) hD hS hA [4] rfl
  refine va_callv (va_runS (As := [.ref r2, .long ((0 : Int64))]) (rest := []) ⟨hx, hb, hml, hown, hts⟩ (c_JA_fill l D k H.size (r2) (m2) ((0 : Int64)) (1461) ((by omega))) ⟨callB_of 2 hts (good_JA_fill) rfl rfl rfl (hts _ k_72) (hts _ k_413) (by decide +kernel) ⟨Nat.le_of_ble_eq_true rfl, Nat.le_of_ble_eq_true rfl⟩, (hts _ k_414)⟩ ⟨fun a U g mk q => ⟨q.1, q.2.1, q.2.2.1, va_K.moved (u := U) (U := U.calling g mk a) (Vm.Alike.refl U.vm) q.2.2.2.1, q.2.2.2.2.1, q.2.2.2.2.2.calling⟩, fun U hU hW => ⟨rfl, by rw [hU], by rw [hU]; exact hPc, va_K.moved hW.alike hK, hDc.weaken (fun _ _ _ _ => trivial), by rw [hU]; exact (hX.mono hS hFc).warm hW⟩⟩ rfl rfl hl.1 rfl (lv_room (Nat.le_of_ble_eq_true rfl)) d_CN_clear_14 ⟨Nat.le_of_ble_eq_true rfl, Nat.le_of_ble_eq_true rfl⟩) hS (fun q _ h => hFc q h) hFc (fun xu_6 t H1 locs ht hvm h_xr_5 hB hz1 hk1 hS => ?_)
  obtain ⟨hP1, hD1⟩ := hB
  rw [ht] at hP1
  obtain ⟨hP, hD⟩ := va_join (wr := [(h0, .inr (3, [.ref g0])), (g0, .inl (k 4, 4, .inr (.inr (.inr (.inr (rws r0 r1 r2 r3)))))), (r0, .inl (k 1, 1461, .inr (.inl (fun _ => ((0 : Int64)))))), (r1, .inl (k 1, 1461, .inr (.inl (fun _ => ((0 : Int64)))))), (r3, .inl (k 1, 1461, .inr (.inl (m3))))]) (w1 := [(r2, .inl (k 1, 1461, .inr (.inl (fun _ => ((0 : Int64))))))]) hP hD [4] [0, 1, 2, 3, 5] rfl rfl (by decide) (by decide) hk1 hFc hP1 hD1
  generalize H1 = H at hP hS ⊢
  have hP := hP.sub (ws' := [(h0, .inr (3, [.ref g0])), (g0, .inl (k 4, 4, .inr (.inr (.inr (.inr (rws r0 r1 r2 r3)))))), (r0, .inl (k 1, 1461, .inr (.inl (fun _ => ((0 : Int64)))))), (r1, .inl (k 1, 1461, .inr (.inl (fun _ => ((0 : Int64)))))), (r2, .inl (k 1, 1461, .inr (.inl (fun _ => ((0 : Int64)))))), (r3, .inl (k 1, 1461, .inr (.inl (m3))))]) [0, 1, 2, 3, 5, 4] rfl
  have hD := hD.sub (ws' := [(h0, .inr (3, [.ref g0])), (g0, .inl (k 4, 4, .inr (.inr (.inr (.inr (rws r0 r1 r2 r3)))))), (r0, .inl (k 1, 1461, .inr (.inl (fun _ => ((0 : Int64)))))), (r1, .inl (k 1, 1461, .inr (.inl (fun _ => ((0 : Int64)))))), (r2, .inl (k 1, 1461, .inr (.inl (fun _ => ((0 : Int64)))))), (r3, .inl (k 1, 1461, .inr (.inl (m3))))]) [0, 1, 2, 3, 5, 4] (by decide) rfl
  refine z_iinc (k := 0) (a := 2) (lv' := [(1, .int (iI (3))), (0, .ref h0)]) hx hb d_CN_clear_17 hl rfl (by decide) rfl (fun ls hl => ?_)
  refine lv_goto (tgt := 2) hx hb d_CN_clear_20 (by decide) ?_
  refine lv_iload_n hx hb d_CN_clear_2 rfl (lv_at hl 0 rfl) ?_
  refine z_iconst hx hb d_CN_clear_3 ?_
  refine z_icmp_ge (tgt := 23) hx hb d_CN_clear_4 (by decide) ⟨by omega, by omega⟩ ⟨by omega, by omega⟩ (fun h4 => absurd h4 (by decide)) (fun h4 => ?_)
  refine lv_aload_n hx hb d_CN_clear_7 rfl (lv_at hl 1 rfl) ?_
  refine va_get (D := D) (ci := 3) (v := .ref g0) (C := R_CN) (T := F_CN) (N := 1) hx hb hts in_CN hown hK hP 0 rfl rfl 0 (by decide) (hts _ k_220) (fun _ h9 => h9) rfl d_CN_clear_8 ?_
  refine lv_iload_n hx hb d_CN_clear_11 rfl (lv_at hl 0 rfl) ?_
  refine x_aald hx hb hK hP 1 4 rfl rfl rfl (3) rfl (by decide) (by decide) (v := r3) rfl d_CN_clear_12 ?_
  refine lv_lconst (v := 0) hx hb d_CN_clear_13 (by decide) ?_
  have hPc := hP.sub (ws' := [(r3, .inl (k 1, 1461, .inr (.inl (m3))))]) [5] rfl
  have hDc := hD.sub (ws' := [(r3, .inl (k 1, 1461, .inr (.inl (m3))))]) [5] (by decide) rfl
  have hFc := va_free (wc := [(r3, .inl (k 1, 1461, .inr (.inl (m3))))]) hD hS hA [5] rfl
  refine va_callv (va_runS (As := [.ref r3, .long ((0 : Int64))]) (rest := []) ⟨hx, hb, hml, hown, hts⟩ (c_JA_fill l D k H.size (r3) (m3) ((0 : Int64)) (1461) ((by omega))) ⟨callB_of 2 hts (good_JA_fill) rfl rfl rfl (hts _ k_72) (hts _ k_413) (by decide +kernel) ⟨Nat.le_of_ble_eq_true rfl, Nat.le_of_ble_eq_true rfl⟩, (hts _ k_414)⟩ ⟨fun a U g mk q => ⟨q.1, q.2.1, q.2.2.1, va_K.moved (u := U) (U := U.calling g mk a) (Vm.Alike.refl U.vm) q.2.2.2.1, q.2.2.2.2.1, q.2.2.2.2.2.calling⟩, fun U hU hW => ⟨rfl, by rw [hU], by rw [hU]; exact hPc, va_K.moved hW.alike hK, hDc.weaken (fun _ _ _ _ => trivial), by rw [hU]; exact (hX.mono hS hFc).warm hW⟩⟩ rfl rfl hl.1 rfl (lv_room (Nat.le_of_ble_eq_true rfl)) d_CN_clear_14 ⟨Nat.le_of_ble_eq_true rfl, Nat.le_of_ble_eq_true rfl⟩) hS (fun q _ h => hFc q h) hFc (fun xu_8 t H1 locs ht hvm h_xr_7 hB hz1 hk1 hS => ?_)
  obtain ⟨hP1, hD1⟩ := hB
  rw [ht] at hP1
  obtain ⟨hP, hD⟩ := va_join (wr := [(h0, .inr (3, [.ref g0])), (g0, .inl (k 4, 4, .inr (.inr (.inr (.inr (rws r0 r1 r2 r3)))))), (r0, .inl (k 1, 1461, .inr (.inl (fun _ => ((0 : Int64)))))), (r1, .inl (k 1, 1461, .inr (.inl (fun _ => ((0 : Int64)))))), (r2, .inl (k 1, 1461, .inr (.inl (fun _ => ((0 : Int64))))))]) (w1 := [(r3, .inl (k 1, 1461, .inr (.inl (fun _ => ((0 : Int64))))))]) hP hD [5] [0, 1, 2, 3, 4] rfl rfl (by decide) (by decide) hk1 hFc hP1 hD1
  generalize H1 = H at hP hS ⊢
  have hP := hP.sub (ws' := [(h0, .inr (3, [.ref g0])), (g0, .inl (k 4, 4, .inr (.inr (.inr (.inr (rws r0 r1 r2 r3)))))), (r0, .inl (k 1, 1461, .inr (.inl (fun _ => ((0 : Int64)))))), (r1, .inl (k 1, 1461, .inr (.inl (fun _ => ((0 : Int64)))))), (r2, .inl (k 1, 1461, .inr (.inl (fun _ => ((0 : Int64)))))), (r3, .inl (k 1, 1461, .inr (.inl (fun _ => ((0 : Int64))))))]) [0, 1, 2, 3, 4, 5] rfl
  have hD := hD.sub (ws' := [(h0, .inr (3, [.ref g0])), (g0, .inl (k 4, 4, .inr (.inr (.inr (.inr (rws r0 r1 r2 r3)))))), (r0, .inl (k 1, 1461, .inr (.inl (fun _ => ((0 : Int64)))))), (r1, .inl (k 1, 1461, .inr (.inl (fun _ => ((0 : Int64)))))), (r2, .inl (k 1, 1461, .inr (.inl (fun _ => ((0 : Int64)))))), (r3, .inl (k 1, 1461, .inr (.inl (fun _ => ((0 : Int64))))))]) [0, 1, 2, 3, 4, 5] (by decide) rfl
  refine z_iinc (k := 0) (a := 3) (lv' := [(1, .int (iI (4))), (0, .ref h0)]) hx hb d_CN_clear_17 hl rfl (by decide) rfl (fun ls hl => ?_)
  refine lv_goto (tgt := 2) hx hb d_CN_clear_20 (by decide) ?_
  refine lv_iload_n hx hb d_CN_clear_2 rfl (lv_at hl 0 rfl) ?_
  refine z_iconst hx hb d_CN_clear_3 ?_
  refine z_icmp_ge (tgt := 23) hx hb d_CN_clear_4 (by decide) ⟨by omega, by omega⟩ ⟨by omega, by omega⟩ (fun h4 => ?_) (fun h4 => absurd h4 (by decide))
  exact ret _ _ _ 23 () d_CN_clear_23 hS (trivial) (fun t ht _ => ⟨by rw [ht]; exact hP, hD⟩)

set_option maxHeartbeats 4000000 in
set_option maxRecDepth 100000 in
theorem c_CN_put (l : Launch) (D : va_G) (k : Nat → ClassId) (sz : Nat) (h0 g0 r0 r1 r2 r3 : Nat) (m0 : Nat → Int64) (m1 : Nat → Int64) (m2 : Nat → Int64) (m3 : Nat → Int64) (d : Nat) (x : Int64) (n : Nat) (hd : d < 1461) (hn : n < 16) : Met l y_CN_put wd_CN_put rm_CN_put (va_Pc [.ref h0, .int (iI ((d : Int))), .long (x), .int (iI ((n : Int)))] (PRW D k [(h0, .inr (3, [.ref g0])), (g0, .inl (k 4, 4, .inr (.inr (.inr (.inr (rws r0 r1 r2 r3)))))), (r0, .inl (k 1, 1461, .inr (.inl (m0)))), (r1, .inl (k 1, 1461, .inr (.inl (m1)))), (r2, .inl (k 1, 1461, .inr (.inl (m2)))), (r3, .inl (k 1, 1461, .inr (.inl (m3))))] sz)) (va_Qv (fun u : Unit => True) (fun _ t => BRW D [(h0, .inr (3, [.ref g0])), (g0, .inl (k 4, 4, .inr (.inr (.inr (.inr (rws r0 r1 r2 r3)))))), (r0, .inl (k 1, 1461, .inr (.inl (m0)))), (r1, .inl (k 1, 1461, .inr (.inl (m1)))), (r2, .inl (k 1, 1461, .inr (.inl (m2)))), (r3, .inl (k 1, 1461, .inr (.inl (m3))))] sz [(h0, .inr (3, [.ref g0])), (g0, .inl (k 4, 4, .inr (.inr (.inr (.inr (rws r0 r1 r2 r3)))))), (r0, .inl (k 1, 1461, .inr (.inl (putF n 0 m0 d x)))), (r1, .inl (k 1, 1461, .inr (.inl (putF n 1 m1 d x)))), (r2, .inl (k 1, 1461, .inr (.inl (putF n 2 m2 d x)))), (r3, .inl (k 1, 1461, .inr (.inl (putF n 3 m3 d x))))] t) (va_A [(h0, .inr (3, [.ref g0])), (g0, .inl (k 4, 4, .inr (.inr (.inr (.inr (rws r0 r1 r2 r3)))))), (r0, .inl (k 1, 1461, .inr (.inl (m0)))), (r1, .inl (k 1, 1461, .inr (.inl (m1)))), (r2, .inl (k 1, 1461, .inr (.inl (m2)))), (r3, .inl (k 1, 1461, .inr (.inl (m3))))] sz)) 0 0 (va_A [(h0, .inr (3, [.ref g0])), (g0, .inl (k 4, 4, .inr (.inr (.inr (.inr (rws r0 r1 r2 r3)))))), (r0, .inl (k 1, 1461, .inr (.inl (m0)))), (r1, .inl (k 1, 1461, .inr (.inl (m1)))), (r2, .inl (k 1, 1461, .inr (.inl (m2)))), (r3, .inl (k 1, 1461, .inr (.inl (m3))))] sz) := by
  refine e_v (by decide) rfl (Nat.le_of_ble_eq_true rfl) ?_
  intro p e s m args below meth c Q ls hx hb hml hown hts hpre hl hin ret
  obtain ⟨hsz, hP, hK, hD0, hX⟩ := hpre
  subst hsz
  have hD := hD0.self (sz := s.heap.size)
  have hA : ∀ q : Nat, s.heap.size ≤ q → (va_A [(h0, .inr (3, [.ref g0])), (g0, .inl (k 4, 4, .inr (.inr (.inr (.inr (rws r0 r1 r2 r3)))))), (r0, .inl (k 1, 1461, .inr (.inl (m0)))), (r1, .inl (k 1, 1461, .inr (.inl (m1)))), (r2, .inl (k 1, 1461, .inr (.inl (m2)))), (r3, .inl (k 1, 1461, .inr (.inl (m3))))] s.heap.size) q := fun q h => Or.inr h
  have hS : va_S (va_A [(h0, .inr (3, [.ref g0])), (g0, .inl (k 4, 4, .inr (.inr (.inr (.inr (rws r0 r1 r2 r3)))))), (r0, .inl (k 1, 1461, .inr (.inl (m0)))), (r1, .inl (k 1, 1461, .inr (.inl (m1)))), (r2, .inl (k 1, 1461, .inr (.inl (m2)))), (r3, .inl (k 1, 1461, .inr (.inl (m3))))] s.heap.size) s.heap s.heap [] := va_S.rf
  have hl : lv_has ls 6 [(0, .ref h0), (1, .int (iI ((d : Int)))), (2, .long (x)), (4, .int (iI ((n : Int))))] := hl
  refine z_iconst hx hb d_CN_put_0 ?_
  refine lv_istore (lv' := [(5, .int (iI (0))), (0, .ref h0), (1, .int (iI ((d : Int)))), (2, .long (x)), (4, .int (iI ((n : Int))))]) hx hb d_CN_put_1 hl (by decide) rfl (fun ls hl => ?_)
  refine lv_iload hx hb d_CN_put_3 (lv_at hl 0 rfl) ?_
  refine z_iconst hx hb d_CN_put_5 ?_
  refine z_icmp_ge (tgt := 58) hx hb d_CN_put_6 (by decide) ⟨by omega, by omega⟩ ⟨by omega, by omega⟩ (fun h6 => absurd h6 (by decide)) (fun h6 => ?_)
  refine lv_iload hx hb d_CN_put_9 (lv_at hl 4 rfl) ?_
  refine lv_iload hx hb d_CN_put_11 (lv_at hl 0 rfl) ?_
  refine lv_ishr hx hb d_CN_put_13 ?_
  refine z_iconst hx hb d_CN_put_14 ?_
  refine lv_iand hx hb d_CN_put_15 ?_
  refine z_top (show (((iI ((n : Int))) >>> ((iI (0)) &&& 31)) &&& (iI (1))) = (iI (((n / 2 ^ 0 % 2 : Nat) : Int))) from (iI_bit n 0 0 (by decide) (by omega))) ?_
  have J16_1 : ∀ (ls : Array Slot) (H : Heap) (locs : List Loc), lv_has ls 6 [(5, .int (iI (0))), (0, .ref h0), (1, .int (iI ((d : Int)))), (2, .long (x)), (4, .int (iI ((n : Int))))] → va_P D classes [(h0, .inr (3, [.ref g0])), (g0, .inl (k 4, 4, .inr (.inr (.inr (.inr (rws r0 r1 r2 r3)))))), (r0, .inl (k 1, 1461, .inr (.inl (putF n 0 m0 d x)))), (r1, .inl (k 1, 1461, .inr (.inl (m1)))), (r2, .inl (k 1, 1461, .inr (.inl (m2)))), (r3, .inl (k 1, 1461, .inr (.inl (m3))))] H → va_D (va_A [(h0, .inr (3, [.ref g0])), (g0, .inl (k 4, 4, .inr (.inr (.inr (.inr (rws r0 r1 r2 r3)))))), (r0, .inl (k 1, 1461, .inr (.inl (m0)))), (r1, .inl (k 1, 1461, .inr (.inl (m1)))), (r2, .inl (k 1, 1461, .inr (.inl (m2)))), (r3, .inl (k 1, 1461, .inr (.inl (m3))))] s.heap.size) [(h0, .inr (3, [.ref g0])), (g0, .inl (k 4, 4, .inr (.inr (.inr (.inr (rws r0 r1 r2 r3)))))), (r0, .inl (k 1, 1461, .inr (.inl (putF n 0 m0 d x)))), (r1, .inl (k 1, 1461, .inr (.inl (m1)))), (r2, .inl (k 1, 1461, .inr (.inl (m2)))), (r3, .inl (k 1, 1461, .inr (.inl (m3))))] → va_S (va_A [(h0, .inr (3, [.ref g0])), (g0, .inl (k 4, 4, .inr (.inr (.inr (.inr (rws r0 r1 r2 r3)))))), (r0, .inl (k 1, 1461, .inr (.inl (m0)))), (r1, .inl (k 1, 1461, .inr (.inl (m1)))), (r2, .inl (k 1, 1461, .inr (.inl (m2)))), (r3, .inl (k 1, 1461, .inr (.inl (m3))))] s.heap.size) s.heap H locs → W p l e rm_CN_put s m args below meth c H locs 0 0 Q (F0 m 52 ls []) := by
    intro ls H locs hl hP hD hS
    refine z_iinc (k := 0) (a := 0) (lv' := [(5, .int (iI (1))), (0, .ref h0), (1, .int (iI ((d : Int)))), (2, .long (x)), (4, .int (iI ((n : Int))))]) hx hb d_CN_put_52 hl rfl (by decide) rfl (fun ls hl => ?_)
    refine lv_goto (tgt := 3) hx hb d_CN_put_55 (by decide) ?_
    refine lv_iload hx hb d_CN_put_3 (lv_at hl 0 rfl) ?_
    refine z_iconst hx hb d_CN_put_5 ?_
    refine z_icmp_ge (tgt := 58) hx hb d_CN_put_6 (by decide) ⟨by omega, by omega⟩ ⟨by omega, by omega⟩ (fun h6 => absurd h6 (by decide)) (fun h6 => ?_)
    refine lv_iload hx hb d_CN_put_9 (lv_at hl 4 rfl) ?_
    refine lv_iload hx hb d_CN_put_11 (lv_at hl 0 rfl) ?_
    refine lv_ishr hx hb d_CN_put_13 ?_
    refine z_iconst hx hb d_CN_put_14 ?_
    refine lv_iand hx hb d_CN_put_15 ?_
    refine z_top (show (((iI ((n : Int))) >>> ((iI (1)) &&& 31)) &&& (iI (1))) = (iI (((n / 2 ^ 1 % 2 : Nat) : Int))) from (iI_bit n 1 1 (by decide) (by omega))) ?_
    have J16_2 : ∀ (ls : Array Slot) (H : Heap) (locs : List Loc), lv_has ls 6 [(5, .int (iI (1))), (0, .ref h0), (1, .int (iI ((d : Int)))), (2, .long (x)), (4, .int (iI ((n : Int))))] → va_P D classes [(h0, .inr (3, [.ref g0])), (g0, .inl (k 4, 4, .inr (.inr (.inr (.inr (rws r0 r1 r2 r3)))))), (r0, .inl (k 1, 1461, .inr (.inl (putF n 0 m0 d x)))), (r1, .inl (k 1, 1461, .inr (.inl (putF n 1 m1 d x)))), (r2, .inl (k 1, 1461, .inr (.inl (m2)))), (r3, .inl (k 1, 1461, .inr (.inl (m3))))] H → va_D (va_A [(h0, .inr (3, [.ref g0])), (g0, .inl (k 4, 4, .inr (.inr (.inr (.inr (rws r0 r1 r2 r3)))))), (r0, .inl (k 1, 1461, .inr (.inl (m0)))), (r1, .inl (k 1, 1461, .inr (.inl (m1)))), (r2, .inl (k 1, 1461, .inr (.inl (m2)))), (r3, .inl (k 1, 1461, .inr (.inl (m3))))] s.heap.size) [(h0, .inr (3, [.ref g0])), (g0, .inl (k 4, 4, .inr (.inr (.inr (.inr (rws r0 r1 r2 r3)))))), (r0, .inl (k 1, 1461, .inr (.inl (putF n 0 m0 d x)))), (r1, .inl (k 1, 1461, .inr (.inl (putF n 1 m1 d x)))), (r2, .inl (k 1, 1461, .inr (.inl (m2)))), (r3, .inl (k 1, 1461, .inr (.inl (m3))))] → va_S (va_A [(h0, .inr (3, [.ref g0])), (g0, .inl (k 4, 4, .inr (.inr (.inr (.inr (rws r0 r1 r2 r3)))))), (r0, .inl (k 1, 1461, .inr (.inl (m0)))), (r1, .inl (k 1, 1461, .inr (.inl (m1)))), (r2, .inl (k 1, 1461, .inr (.inl (m2)))), (r3, .inl (k 1, 1461, .inr (.inl (m3))))] s.heap.size) s.heap H locs → W p l e rm_CN_put s m args below meth c H locs 0 0 Q (F0 m 52 ls []) := by
      intro ls H locs hl hP hD hS
      refine z_iinc (k := 0) (a := 1) (lv' := [(5, .int (iI (2))), (0, .ref h0), (1, .int (iI ((d : Int)))), (2, .long (x)), (4, .int (iI ((n : Int))))]) hx hb d_CN_put_52 hl rfl (by decide) rfl (fun ls hl => ?_)
      refine lv_goto (tgt := 3) hx hb d_CN_put_55 (by decide) ?_
      refine lv_iload hx hb d_CN_put_3 (lv_at hl 0 rfl) ?_
      refine z_iconst hx hb d_CN_put_5 ?_
      refine z_icmp_ge (tgt := 58) hx hb d_CN_put_6 (by decide) ⟨by omega, by omega⟩ ⟨by omega, by omega⟩ (fun h6 => absurd h6 (by decide)) (fun h6 => ?_)
      refine lv_iload hx hb d_CN_put_9 (lv_at hl 4 rfl) ?_
      refine lv_iload hx hb d_CN_put_11 (lv_at hl 0 rfl) ?_
      refine lv_ishr hx hb d_CN_put_13 ?_
      refine z_iconst hx hb d_CN_put_14 ?_
      refine lv_iand hx hb d_CN_put_15 ?_
      refine z_top (show (((iI ((n : Int))) >>> ((iI (2)) &&& 31)) &&& (iI (1))) = (iI (((n / 2 ^ 2 % 2 : Nat) : Int))) from (iI_bit n 2 2 (by decide) (by omega))) ?_
      have J16_3 : ∀ (ls : Array Slot) (H : Heap) (locs : List Loc), lv_has ls 6 [(5, .int (iI (2))), (0, .ref h0), (1, .int (iI ((d : Int)))), (2, .long (x)), (4, .int (iI ((n : Int))))] → va_P D classes [(h0, .inr (3, [.ref g0])), (g0, .inl (k 4, 4, .inr (.inr (.inr (.inr (rws r0 r1 r2 r3)))))), (r0, .inl (k 1, 1461, .inr (.inl (putF n 0 m0 d x)))), (r1, .inl (k 1, 1461, .inr (.inl (putF n 1 m1 d x)))), (r2, .inl (k 1, 1461, .inr (.inl (putF n 2 m2 d x)))), (r3, .inl (k 1, 1461, .inr (.inl (m3))))] H → va_D (va_A [(h0, .inr (3, [.ref g0])), (g0, .inl (k 4, 4, .inr (.inr (.inr (.inr (rws r0 r1 r2 r3)))))), (r0, .inl (k 1, 1461, .inr (.inl (m0)))), (r1, .inl (k 1, 1461, .inr (.inl (m1)))), (r2, .inl (k 1, 1461, .inr (.inl (m2)))), (r3, .inl (k 1, 1461, .inr (.inl (m3))))] s.heap.size) [(h0, .inr (3, [.ref g0])), (g0, .inl (k 4, 4, .inr (.inr (.inr (.inr (rws r0 r1 r2 r3)))))), (r0, .inl (k 1, 1461, .inr (.inl (putF n 0 m0 d x)))), (r1, .inl (k 1, 1461, .inr (.inl (putF n 1 m1 d x)))), (r2, .inl (k 1, 1461, .inr (.inl (putF n 2 m2 d x)))), (r3, .inl (k 1, 1461, .inr (.inl (m3))))] → va_S (va_A [(h0, .inr (3, [.ref g0])), (g0, .inl (k 4, 4, .inr (.inr (.inr (.inr (rws r0 r1 r2 r3)))))), (r0, .inl (k 1, 1461, .inr (.inl (m0)))), (r1, .inl (k 1, 1461, .inr (.inl (m1)))), (r2, .inl (k 1, 1461, .inr (.inl (m2)))), (r3, .inl (k 1, 1461, .inr (.inl (m3))))] s.heap.size) s.heap H locs → W p l e rm_CN_put s m args below meth c H locs 0 0 Q (F0 m 52 ls []) := by
        intro ls H locs hl hP hD hS
        refine z_iinc (k := 0) (a := 2) (lv' := [(5, .int (iI (3))), (0, .ref h0), (1, .int (iI ((d : Int)))), (2, .long (x)), (4, .int (iI ((n : Int))))]) hx hb d_CN_put_52 hl rfl (by decide) rfl (fun ls hl => ?_)
        refine lv_goto (tgt := 3) hx hb d_CN_put_55 (by decide) ?_
        refine lv_iload hx hb d_CN_put_3 (lv_at hl 0 rfl) ?_
        refine z_iconst hx hb d_CN_put_5 ?_
        refine z_icmp_ge (tgt := 58) hx hb d_CN_put_6 (by decide) ⟨by omega, by omega⟩ ⟨by omega, by omega⟩ (fun h6 => absurd h6 (by decide)) (fun h6 => ?_)
        refine lv_iload hx hb d_CN_put_9 (lv_at hl 4 rfl) ?_
        refine lv_iload hx hb d_CN_put_11 (lv_at hl 0 rfl) ?_
        refine lv_ishr hx hb d_CN_put_13 ?_
        refine z_iconst hx hb d_CN_put_14 ?_
        refine lv_iand hx hb d_CN_put_15 ?_
        refine z_top (show (((iI ((n : Int))) >>> ((iI (3)) &&& 31)) &&& (iI (1))) = (iI (((n / 2 ^ 3 % 2 : Nat) : Int))) from (iI_bit n 3 3 (by decide) (by omega))) ?_
        have J16_4 : ∀ (ls : Array Slot) (H : Heap) (locs : List Loc), lv_has ls 6 [(5, .int (iI (3))), (0, .ref h0), (1, .int (iI ((d : Int)))), (2, .long (x)), (4, .int (iI ((n : Int))))] → va_P D classes [(h0, .inr (3, [.ref g0])), (g0, .inl (k 4, 4, .inr (.inr (.inr (.inr (rws r0 r1 r2 r3)))))), (r0, .inl (k 1, 1461, .inr (.inl (putF n 0 m0 d x)))), (r1, .inl (k 1, 1461, .inr (.inl (putF n 1 m1 d x)))), (r2, .inl (k 1, 1461, .inr (.inl (putF n 2 m2 d x)))), (r3, .inl (k 1, 1461, .inr (.inl (putF n 3 m3 d x))))] H → va_D (va_A [(h0, .inr (3, [.ref g0])), (g0, .inl (k 4, 4, .inr (.inr (.inr (.inr (rws r0 r1 r2 r3)))))), (r0, .inl (k 1, 1461, .inr (.inl (m0)))), (r1, .inl (k 1, 1461, .inr (.inl (m1)))), (r2, .inl (k 1, 1461, .inr (.inl (m2)))), (r3, .inl (k 1, 1461, .inr (.inl (m3))))] s.heap.size) [(h0, .inr (3, [.ref g0])), (g0, .inl (k 4, 4, .inr (.inr (.inr (.inr (rws r0 r1 r2 r3)))))), (r0, .inl (k 1, 1461, .inr (.inl (putF n 0 m0 d x)))), (r1, .inl (k 1, 1461, .inr (.inl (putF n 1 m1 d x)))), (r2, .inl (k 1, 1461, .inr (.inl (putF n 2 m2 d x)))), (r3, .inl (k 1, 1461, .inr (.inl (putF n 3 m3 d x))))] → va_S (va_A [(h0, .inr (3, [.ref g0])), (g0, .inl (k 4, 4, .inr (.inr (.inr (.inr (rws r0 r1 r2 r3)))))), (r0, .inl (k 1, 1461, .inr (.inl (m0)))), (r1, .inl (k 1, 1461, .inr (.inl (m1)))), (r2, .inl (k 1, 1461, .inr (.inl (m2)))), (r3, .inl (k 1, 1461, .inr (.inl (m3))))] s.heap.size) s.heap H locs → W p l e rm_CN_put s m args below meth c H locs 0 0 Q (F0 m 52 ls []) := by
          intro ls H locs hl hP hD hS
          refine z_iinc (k := 0) (a := 3) (lv' := [(5, .int (iI (4))), (0, .ref h0), (1, .int (iI ((d : Int)))), (2, .long (x)), (4, .int (iI ((n : Int))))]) hx hb d_CN_put_52 hl rfl (by decide) rfl (fun ls hl => ?_)
          refine lv_goto (tgt := 3) hx hb d_CN_put_55 (by decide) ?_
          refine lv_iload hx hb d_CN_put_3 (lv_at hl 0 rfl) ?_
          refine z_iconst hx hb d_CN_put_5 ?_
          refine z_icmp_ge (tgt := 58) hx hb d_CN_put_6 (by decide) ⟨by omega, by omega⟩ ⟨by omega, by omega⟩ (fun h6 => ?_) (fun h6 => absurd h6 (by decide))
          exact ret _ _ _ 58 () d_CN_put_58 hS (trivial) (fun t ht _ => ⟨by rw [ht]; exact hP, hD⟩)
        refine z_if_eq (tgt := 35) hx hb d_CN_put_16 (by decide) ⟨by omega, by omega⟩ (fun h16 => ?_) (fun h16 => ?_)
        · refine lv_aload_n hx hb d_CN_put_35 rfl (lv_at hl 1 rfl) ?_
          refine va_get (D := D) (ci := 3) (v := .ref g0) (C := R_CN) (T := F_CN) (N := 1) hx hb hts in_CN hown hK hP 0 rfl rfl 0 (by decide) (hts _ k_220) (fun _ h9 => h9) rfl d_CN_put_36 ?_
          refine lv_iload hx hb d_CN_put_39 (lv_at hl 0 rfl) ?_
          refine x_aald hx hb hK hP 1 4 rfl rfl rfl (3) rfl (by decide) (by decide) (v := r3) rfl d_CN_put_41 ?_
          refine lv_iload_n hx hb d_CN_put_42 rfl (lv_at hl 2 rfl) ?_
          refine lv_dup2_11 hx hb d_CN_put_43 rfl rfl ?_
          refine x_lald hx hb hK hP 5 1 rfl rfl (d) rfl hd (by omega) d_CN_put_44 ?_
          refine lv_lload_n hx hb d_CN_put_45 rfl (lv_at hl 3 rfl) ?_
          refine W.ldc2 (v := -1) hx hb hown (hts _ k_560) rfl d_CN_put_46 ?_
          refine W.eq (g2 := F0 m 49 ls (.long (-1) :: [.long (x), .long (m3 (d)), .int (iI ((d : Int))), .ref r3])) rfl ?_
          refine lv_lxor hx hb d_CN_put_49 ?_
          refine lv_land hx hb d_CN_put_50 ?_
          refine x_last hx hb hK hP hD hS 5 1 rfl rfl (d) rfl hd (by omega) d_CN_put_51 (fun H locs hP hD hS => ?_)
          have hP : va_P D classes [(h0, .inr (3, [.ref g0])), (g0, .inl (k 4, 4, .inr (.inr (.inr (.inr (rws r0 r1 r2 r3)))))), (r0, .inl (k 1, 1461, .inr (.inl (putF n 0 m0 d x)))), (r1, .inl (k 1, 1461, .inr (.inl (putF n 1 m1 d x)))), (r2, .inl (k 1, 1461, .inr (.inl (putF n 2 m2 d x)))), (r3, .inl (k 1, 1461, .inr (.inl (vp_updL (m3) (d) ((m3 (d)) &&& ((x) ^^^ ((-1 : Int64))))))))] H := hP
          have hD : va_D (va_A [(h0, .inr (3, [.ref g0])), (g0, .inl (k 4, 4, .inr (.inr (.inr (.inr (rws r0 r1 r2 r3)))))), (r0, .inl (k 1, 1461, .inr (.inl (m0)))), (r1, .inl (k 1, 1461, .inr (.inl (m1)))), (r2, .inl (k 1, 1461, .inr (.inl (m2)))), (r3, .inl (k 1, 1461, .inr (.inl (m3))))] s.heap.size) [(h0, .inr (3, [.ref g0])), (g0, .inl (k 4, 4, .inr (.inr (.inr (.inr (rws r0 r1 r2 r3)))))), (r0, .inl (k 1, 1461, .inr (.inl (putF n 0 m0 d x)))), (r1, .inl (k 1, 1461, .inr (.inl (putF n 1 m1 d x)))), (r2, .inl (k 1, 1461, .inr (.inl (putF n 2 m2 d x)))), (r3, .inl (k 1, 1461, .inr (.inl (vp_updL (m3) (d) ((m3 (d)) &&& ((x) ^^^ ((-1 : Int64))))))))] := hD
          exact J16_4 ls H locs (lv_sub hl [0, 1, 2, 3, 4] rfl) (by (first | rw [putF_0 (n := n) (b := 3) h16] | rw [putF_1 (n := n) (b := 3) h16]); exact hP) (by (first | rw [putF_0 (n := n) (b := 3) h16] | rw [putF_1 (n := n) (b := 3) h16]); exact hD) hS
        · refine lv_aload_n hx hb d_CN_put_19 rfl (lv_at hl 1 rfl) ?_
          refine va_get (D := D) (ci := 3) (v := .ref g0) (C := R_CN) (T := F_CN) (N := 1) hx hb hts in_CN hown hK hP 0 rfl rfl 0 (by decide) (hts _ k_220) (fun _ h9 => h9) rfl d_CN_put_20 ?_
          refine lv_iload hx hb d_CN_put_23 (lv_at hl 0 rfl) ?_
          refine x_aald hx hb hK hP 1 4 rfl rfl rfl (3) rfl (by decide) (by decide) (v := r3) rfl d_CN_put_25 ?_
          refine lv_iload_n hx hb d_CN_put_26 rfl (lv_at hl 2 rfl) ?_
          refine lv_dup2_11 hx hb d_CN_put_27 rfl rfl ?_
          refine x_lald hx hb hK hP 5 1 rfl rfl (d) rfl hd (by omega) d_CN_put_28 ?_
          refine lv_lload_n hx hb d_CN_put_29 rfl (lv_at hl 3 rfl) ?_
          refine lv_lor hx hb d_CN_put_30 ?_
          refine x_last hx hb hK hP hD hS 5 1 rfl rfl (d) rfl hd (by omega) d_CN_put_31 (fun H locs hP hD hS => ?_)
          have hP : va_P D classes [(h0, .inr (3, [.ref g0])), (g0, .inl (k 4, 4, .inr (.inr (.inr (.inr (rws r0 r1 r2 r3)))))), (r0, .inl (k 1, 1461, .inr (.inl (putF n 0 m0 d x)))), (r1, .inl (k 1, 1461, .inr (.inl (putF n 1 m1 d x)))), (r2, .inl (k 1, 1461, .inr (.inl (putF n 2 m2 d x)))), (r3, .inl (k 1, 1461, .inr (.inl (vp_updL (m3) (d) ((m3 (d)) ||| (x))))))] H := hP
          have hD : va_D (va_A [(h0, .inr (3, [.ref g0])), (g0, .inl (k 4, 4, .inr (.inr (.inr (.inr (rws r0 r1 r2 r3)))))), (r0, .inl (k 1, 1461, .inr (.inl (m0)))), (r1, .inl (k 1, 1461, .inr (.inl (m1)))), (r2, .inl (k 1, 1461, .inr (.inl (m2)))), (r3, .inl (k 1, 1461, .inr (.inl (m3))))] s.heap.size) [(h0, .inr (3, [.ref g0])), (g0, .inl (k 4, 4, .inr (.inr (.inr (.inr (rws r0 r1 r2 r3)))))), (r0, .inl (k 1, 1461, .inr (.inl (putF n 0 m0 d x)))), (r1, .inl (k 1, 1461, .inr (.inl (putF n 1 m1 d x)))), (r2, .inl (k 1, 1461, .inr (.inl (putF n 2 m2 d x)))), (r3, .inl (k 1, 1461, .inr (.inl (vp_updL (m3) (d) ((m3 (d)) ||| (x))))))] := hD
          refine lv_goto (tgt := 52) hx hb d_CN_put_32 (by decide) ?_
          exact J16_4 ls H locs (lv_sub hl [0, 1, 2, 3, 4] rfl) (by (first | rw [putF_0 (n := n) (b := 3) h16] | rw [putF_1 (n := n) (b := 3) h16]); exact hP) (by (first | rw [putF_0 (n := n) (b := 3) h16] | rw [putF_1 (n := n) (b := 3) h16]); exact hD) hS
      refine z_if_eq (tgt := 35) hx hb d_CN_put_16 (by decide) ⟨by omega, by omega⟩ (fun h16 => ?_) (fun h16 => ?_)
      · refine lv_aload_n hx hb d_CN_put_35 rfl (lv_at hl 1 rfl) ?_
        refine va_get (D := D) (ci := 3) (v := .ref g0) (C := R_CN) (T := F_CN) (N := 1) hx hb hts in_CN hown hK hP 0 rfl rfl 0 (by decide) (hts _ k_220) (fun _ h9 => h9) rfl d_CN_put_36 ?_
        refine lv_iload hx hb d_CN_put_39 (lv_at hl 0 rfl) ?_
        refine x_aald hx hb hK hP 1 4 rfl rfl rfl (2) rfl (by decide) (by decide) (v := r2) rfl d_CN_put_41 ?_
        refine lv_iload_n hx hb d_CN_put_42 rfl (lv_at hl 2 rfl) ?_
        refine lv_dup2_11 hx hb d_CN_put_43 rfl rfl ?_
        refine x_lald hx hb hK hP 4 1 rfl rfl (d) rfl hd (by omega) d_CN_put_44 ?_
        refine lv_lload_n hx hb d_CN_put_45 rfl (lv_at hl 3 rfl) ?_
        refine W.ldc2 (v := -1) hx hb hown (hts _ k_560) rfl d_CN_put_46 ?_
        refine W.eq (g2 := F0 m 49 ls (.long (-1) :: [.long (x), .long (m2 (d)), .int (iI ((d : Int))), .ref r2])) rfl ?_
        refine lv_lxor hx hb d_CN_put_49 ?_
        refine lv_land hx hb d_CN_put_50 ?_
        refine x_last hx hb hK hP hD hS 4 1 rfl rfl (d) rfl hd (by omega) d_CN_put_51 (fun H locs hP hD hS => ?_)
        have hP : va_P D classes [(h0, .inr (3, [.ref g0])), (g0, .inl (k 4, 4, .inr (.inr (.inr (.inr (rws r0 r1 r2 r3)))))), (r0, .inl (k 1, 1461, .inr (.inl (putF n 0 m0 d x)))), (r1, .inl (k 1, 1461, .inr (.inl (putF n 1 m1 d x)))), (r2, .inl (k 1, 1461, .inr (.inl (vp_updL (m2) (d) ((m2 (d)) &&& ((x) ^^^ ((-1 : Int64)))))))), (r3, .inl (k 1, 1461, .inr (.inl (m3))))] H := hP
        have hD : va_D (va_A [(h0, .inr (3, [.ref g0])), (g0, .inl (k 4, 4, .inr (.inr (.inr (.inr (rws r0 r1 r2 r3)))))), (r0, .inl (k 1, 1461, .inr (.inl (m0)))), (r1, .inl (k 1, 1461, .inr (.inl (m1)))), (r2, .inl (k 1, 1461, .inr (.inl (m2)))), (r3, .inl (k 1, 1461, .inr (.inl (m3))))] s.heap.size) [(h0, .inr (3, [.ref g0])), (g0, .inl (k 4, 4, .inr (.inr (.inr (.inr (rws r0 r1 r2 r3)))))), (r0, .inl (k 1, 1461, .inr (.inl (putF n 0 m0 d x)))), (r1, .inl (k 1, 1461, .inr (.inl (putF n 1 m1 d x)))), (r2, .inl (k 1, 1461, .inr (.inl (vp_updL (m2) (d) ((m2 (d)) &&& ((x) ^^^ ((-1 : Int64)))))))), (r3, .inl (k 1, 1461, .inr (.inl (m3))))] := hD
        exact J16_3 ls H locs (lv_sub hl [0, 1, 2, 3, 4] rfl) (by (first | rw [putF_0 (n := n) (b := 2) h16] | rw [putF_1 (n := n) (b := 2) h16]); exact hP) (by (first | rw [putF_0 (n := n) (b := 2) h16] | rw [putF_1 (n := n) (b := 2) h16]); exact hD) hS
      · refine lv_aload_n hx hb d_CN_put_19 rfl (lv_at hl 1 rfl) ?_
        refine va_get (D := D) (ci := 3) (v := .ref g0) (C := R_CN) (T := F_CN) (N := 1) hx hb hts in_CN hown hK hP 0 rfl rfl 0 (by decide) (hts _ k_220) (fun _ h9 => h9) rfl d_CN_put_20 ?_
        refine lv_iload hx hb d_CN_put_23 (lv_at hl 0 rfl) ?_
        refine x_aald hx hb hK hP 1 4 rfl rfl rfl (2) rfl (by decide) (by decide) (v := r2) rfl d_CN_put_25 ?_
        refine lv_iload_n hx hb d_CN_put_26 rfl (lv_at hl 2 rfl) ?_
        refine lv_dup2_11 hx hb d_CN_put_27 rfl rfl ?_
        refine x_lald hx hb hK hP 4 1 rfl rfl (d) rfl hd (by omega) d_CN_put_28 ?_
        refine lv_lload_n hx hb d_CN_put_29 rfl (lv_at hl 3 rfl) ?_
        refine lv_lor hx hb d_CN_put_30 ?_
        refine x_last hx hb hK hP hD hS 4 1 rfl rfl (d) rfl hd (by omega) d_CN_put_31 (fun H locs hP hD hS => ?_)
        have hP : va_P D classes [(h0, .inr (3, [.ref g0])), (g0, .inl (k 4, 4, .inr (.inr (.inr (.inr (rws r0 r1 r2 r3)))))), (r0, .inl (k 1, 1461, .inr (.inl (putF n 0 m0 d x)))), (r1, .inl (k 1, 1461, .inr (.inl (putF n 1 m1 d x)))), (r2, .inl (k 1, 1461, .inr (.inl (vp_updL (m2) (d) ((m2 (d)) ||| (x)))))), (r3, .inl (k 1, 1461, .inr (.inl (m3))))] H := hP
        have hD : va_D (va_A [(h0, .inr (3, [.ref g0])), (g0, .inl (k 4, 4, .inr (.inr (.inr (.inr (rws r0 r1 r2 r3)))))), (r0, .inl (k 1, 1461, .inr (.inl (m0)))), (r1, .inl (k 1, 1461, .inr (.inl (m1)))), (r2, .inl (k 1, 1461, .inr (.inl (m2)))), (r3, .inl (k 1, 1461, .inr (.inl (m3))))] s.heap.size) [(h0, .inr (3, [.ref g0])), (g0, .inl (k 4, 4, .inr (.inr (.inr (.inr (rws r0 r1 r2 r3)))))), (r0, .inl (k 1, 1461, .inr (.inl (putF n 0 m0 d x)))), (r1, .inl (k 1, 1461, .inr (.inl (putF n 1 m1 d x)))), (r2, .inl (k 1, 1461, .inr (.inl (vp_updL (m2) (d) ((m2 (d)) ||| (x)))))), (r3, .inl (k 1, 1461, .inr (.inl (m3))))] := hD
        refine lv_goto (tgt := 52) hx hb d_CN_put_32 (by decide) ?_
        exact J16_3 ls H locs (lv_sub hl [0, 1, 2, 3, 4] rfl) (by (first | rw [putF_0 (n := n) (b := 2) h16] | rw [putF_1 (n := n) (b := 2) h16]); exact hP) (by (first | rw [putF_0 (n := n) (b := 2) h16] | rw [putF_1 (n := n) (b := 2) h16]); exact hD) hS
    refine z_if_eq (tgt := 35) hx hb d_CN_put_16 (by decide) ⟨by omega, by omega⟩ (fun h16 => ?_) (fun h16 => ?_)
    · refine lv_aload_n hx hb d_CN_put_35 rfl (lv_at hl 1 rfl) ?_
      refine va_get (D := D) (ci := 3) (v := .ref g0) (C := R_CN) (T := F_CN) (N := 1) hx hb hts in_CN hown hK hP 0 rfl rfl 0 (by decide) (hts _ k_220) (fun _ h9 => h9) rfl d_CN_put_36 ?_
      refine lv_iload hx hb d_CN_put_39 (lv_at hl 0 rfl) ?_
      refine x_aald hx hb hK hP 1 4 rfl rfl rfl (1) rfl (by decide) (by decide) (v := r1) rfl d_CN_put_41 ?_
      refine lv_iload_n hx hb d_CN_put_42 rfl (lv_at hl 2 rfl) ?_
      refine lv_dup2_11 hx hb d_CN_put_43 rfl rfl ?_
      refine x_lald hx hb hK hP 3 1 rfl rfl (d) rfl hd (by omega) d_CN_put_44 ?_
      refine lv_lload_n hx hb d_CN_put_45 rfl (lv_at hl 3 rfl) ?_
      refine W.ldc2 (v := -1) hx hb hown (hts _ k_560) rfl d_CN_put_46 ?_
      refine W.eq (g2 := F0 m 49 ls (.long (-1) :: [.long (x), .long (m1 (d)), .int (iI ((d : Int))), .ref r1])) rfl ?_
      refine lv_lxor hx hb d_CN_put_49 ?_
      refine lv_land hx hb d_CN_put_50 ?_
      refine x_last hx hb hK hP hD hS 3 1 rfl rfl (d) rfl hd (by omega) d_CN_put_51 (fun H locs hP hD hS => ?_)
      have hP : va_P D classes [(h0, .inr (3, [.ref g0])), (g0, .inl (k 4, 4, .inr (.inr (.inr (.inr (rws r0 r1 r2 r3)))))), (r0, .inl (k 1, 1461, .inr (.inl (putF n 0 m0 d x)))), (r1, .inl (k 1, 1461, .inr (.inl (vp_updL (m1) (d) ((m1 (d)) &&& ((x) ^^^ ((-1 : Int64)))))))), (r2, .inl (k 1, 1461, .inr (.inl (m2)))), (r3, .inl (k 1, 1461, .inr (.inl (m3))))] H := hP
      have hD : va_D (va_A [(h0, .inr (3, [.ref g0])), (g0, .inl (k 4, 4, .inr (.inr (.inr (.inr (rws r0 r1 r2 r3)))))), (r0, .inl (k 1, 1461, .inr (.inl (m0)))), (r1, .inl (k 1, 1461, .inr (.inl (m1)))), (r2, .inl (k 1, 1461, .inr (.inl (m2)))), (r3, .inl (k 1, 1461, .inr (.inl (m3))))] s.heap.size) [(h0, .inr (3, [.ref g0])), (g0, .inl (k 4, 4, .inr (.inr (.inr (.inr (rws r0 r1 r2 r3)))))), (r0, .inl (k 1, 1461, .inr (.inl (putF n 0 m0 d x)))), (r1, .inl (k 1, 1461, .inr (.inl (vp_updL (m1) (d) ((m1 (d)) &&& ((x) ^^^ ((-1 : Int64)))))))), (r2, .inl (k 1, 1461, .inr (.inl (m2)))), (r3, .inl (k 1, 1461, .inr (.inl (m3))))] := hD
      exact J16_2 ls H locs (lv_sub hl [0, 1, 2, 3, 4] rfl) (by (first | rw [putF_0 (n := n) (b := 1) h16] | rw [putF_1 (n := n) (b := 1) h16]); exact hP) (by (first | rw [putF_0 (n := n) (b := 1) h16] | rw [putF_1 (n := n) (b := 1) h16]); exact hD) hS
    · refine lv_aload_n hx hb d_CN_put_19 rfl (lv_at hl 1 rfl) ?_
      refine va_get (D := D) (ci := 3) (v := .ref g0) (C := R_CN) (T := F_CN) (N := 1) hx hb hts in_CN hown hK hP 0 rfl rfl 0 (by decide) (hts _ k_220) (fun _ h9 => h9) rfl d_CN_put_20 ?_
      refine lv_iload hx hb d_CN_put_23 (lv_at hl 0 rfl) ?_
      refine x_aald hx hb hK hP 1 4 rfl rfl rfl (1) rfl (by decide) (by decide) (v := r1) rfl d_CN_put_25 ?_
      refine lv_iload_n hx hb d_CN_put_26 rfl (lv_at hl 2 rfl) ?_
      refine lv_dup2_11 hx hb d_CN_put_27 rfl rfl ?_
      refine x_lald hx hb hK hP 3 1 rfl rfl (d) rfl hd (by omega) d_CN_put_28 ?_
      refine lv_lload_n hx hb d_CN_put_29 rfl (lv_at hl 3 rfl) ?_
      refine lv_lor hx hb d_CN_put_30 ?_
      refine x_last hx hb hK hP hD hS 3 1 rfl rfl (d) rfl hd (by omega) d_CN_put_31 (fun H locs hP hD hS => ?_)
      have hP : va_P D classes [(h0, .inr (3, [.ref g0])), (g0, .inl (k 4, 4, .inr (.inr (.inr (.inr (rws r0 r1 r2 r3)))))), (r0, .inl (k 1, 1461, .inr (.inl (putF n 0 m0 d x)))), (r1, .inl (k 1, 1461, .inr (.inl (vp_updL (m1) (d) ((m1 (d)) ||| (x)))))), (r2, .inl (k 1, 1461, .inr (.inl (m2)))), (r3, .inl (k 1, 1461, .inr (.inl (m3))))] H := hP
      have hD : va_D (va_A [(h0, .inr (3, [.ref g0])), (g0, .inl (k 4, 4, .inr (.inr (.inr (.inr (rws r0 r1 r2 r3)))))), (r0, .inl (k 1, 1461, .inr (.inl (m0)))), (r1, .inl (k 1, 1461, .inr (.inl (m1)))), (r2, .inl (k 1, 1461, .inr (.inl (m2)))), (r3, .inl (k 1, 1461, .inr (.inl (m3))))] s.heap.size) [(h0, .inr (3, [.ref g0])), (g0, .inl (k 4, 4, .inr (.inr (.inr (.inr (rws r0 r1 r2 r3)))))), (r0, .inl (k 1, 1461, .inr (.inl (putF n 0 m0 d x)))), (r1, .inl (k 1, 1461, .inr (.inl (vp_updL (m1) (d) ((m1 (d)) ||| (x)))))), (r2, .inl (k 1, 1461, .inr (.inl (m2)))), (r3, .inl (k 1, 1461, .inr (.inl (m3))))] := hD
      refine lv_goto (tgt := 52) hx hb d_CN_put_32 (by decide) ?_
      exact J16_2 ls H locs (lv_sub hl [0, 1, 2, 3, 4] rfl) (by (first | rw [putF_0 (n := n) (b := 1) h16] | rw [putF_1 (n := n) (b := 1) h16]); exact hP) (by (first | rw [putF_0 (n := n) (b := 1) h16] | rw [putF_1 (n := n) (b := 1) h16]); exact hD) hS
  refine z_if_eq (tgt := 35) hx hb d_CN_put_16 (by decide) ⟨by omega, by omega⟩ (fun h16 => ?_) (fun h16 => ?_)
  · refine lv_aload_n hx hb d_CN_put_35 rfl (lv_at hl 1 rfl) ?_
    refine va_get (D := D) (ci := 3) (v := .ref g0) (C := R_CN) (T := F_CN) (N := 1) hx hb hts in_CN hown hK hP 0 rfl rfl 0 (by decide) (hts _ k_220) (fun _ h9 => h9) rfl d_CN_put_36 ?_
    refine lv_iload hx hb d_CN_put_39 (lv_at hl 0 rfl) ?_
    refine x_aald hx hb hK hP 1 4 rfl rfl rfl (0) rfl (by decide) (by decide) (v := r0) rfl d_CN_put_41 ?_
    refine lv_iload_n hx hb d_CN_put_42 rfl (lv_at hl 2 rfl) ?_
    refine lv_dup2_11 hx hb d_CN_put_43 rfl rfl ?_
    refine x_lald hx hb hK hP 2 1 rfl rfl (d) rfl hd (by omega) d_CN_put_44 ?_
    refine lv_lload_n hx hb d_CN_put_45 rfl (lv_at hl 3 rfl) ?_
    refine W.ldc2 (v := -1) hx hb hown (hts _ k_560) rfl d_CN_put_46 ?_
    refine W.eq (g2 := F0 m 49 ls (.long (-1) :: [.long (x), .long (m0 (d)), .int (iI ((d : Int))), .ref r0])) rfl ?_
    refine lv_lxor hx hb d_CN_put_49 ?_
    refine lv_land hx hb d_CN_put_50 ?_
    refine x_last hx hb hK hP hD hS 2 1 rfl rfl (d) rfl hd (by omega) d_CN_put_51 (fun H locs hP hD hS => ?_)
    have hP : va_P D classes [(h0, .inr (3, [.ref g0])), (g0, .inl (k 4, 4, .inr (.inr (.inr (.inr (rws r0 r1 r2 r3)))))), (r0, .inl (k 1, 1461, .inr (.inl (vp_updL (m0) (d) ((m0 (d)) &&& ((x) ^^^ ((-1 : Int64)))))))), (r1, .inl (k 1, 1461, .inr (.inl (m1)))), (r2, .inl (k 1, 1461, .inr (.inl (m2)))), (r3, .inl (k 1, 1461, .inr (.inl (m3))))] H := hP
    have hD : va_D (va_A [(h0, .inr (3, [.ref g0])), (g0, .inl (k 4, 4, .inr (.inr (.inr (.inr (rws r0 r1 r2 r3)))))), (r0, .inl (k 1, 1461, .inr (.inl (m0)))), (r1, .inl (k 1, 1461, .inr (.inl (m1)))), (r2, .inl (k 1, 1461, .inr (.inl (m2)))), (r3, .inl (k 1, 1461, .inr (.inl (m3))))] s.heap.size) [(h0, .inr (3, [.ref g0])), (g0, .inl (k 4, 4, .inr (.inr (.inr (.inr (rws r0 r1 r2 r3)))))), (r0, .inl (k 1, 1461, .inr (.inl (vp_updL (m0) (d) ((m0 (d)) &&& ((x) ^^^ ((-1 : Int64)))))))), (r1, .inl (k 1, 1461, .inr (.inl (m1)))), (r2, .inl (k 1, 1461, .inr (.inl (m2)))), (r3, .inl (k 1, 1461, .inr (.inl (m3))))] := hD
    exact J16_1 ls H locs (lv_sub hl [0, 1, 2, 3, 4] rfl) (by (first | rw [putF_0 (n := n) (b := 0) h16] | rw [putF_1 (n := n) (b := 0) h16]); exact hP) (by (first | rw [putF_0 (n := n) (b := 0) h16] | rw [putF_1 (n := n) (b := 0) h16]); exact hD) hS
  · refine lv_aload_n hx hb d_CN_put_19 rfl (lv_at hl 1 rfl) ?_
    refine va_get (D := D) (ci := 3) (v := .ref g0) (C := R_CN) (T := F_CN) (N := 1) hx hb hts in_CN hown hK hP 0 rfl rfl 0 (by decide) (hts _ k_220) (fun _ h9 => h9) rfl d_CN_put_20 ?_
    refine lv_iload hx hb d_CN_put_23 (lv_at hl 0 rfl) ?_
    refine x_aald hx hb hK hP 1 4 rfl rfl rfl (0) rfl (by decide) (by decide) (v := r0) rfl d_CN_put_25 ?_
    refine lv_iload_n hx hb d_CN_put_26 rfl (lv_at hl 2 rfl) ?_
    refine lv_dup2_11 hx hb d_CN_put_27 rfl rfl ?_
    refine x_lald hx hb hK hP 2 1 rfl rfl (d) rfl hd (by omega) d_CN_put_28 ?_
    refine lv_lload_n hx hb d_CN_put_29 rfl (lv_at hl 3 rfl) ?_
    refine lv_lor hx hb d_CN_put_30 ?_
    refine x_last hx hb hK hP hD hS 2 1 rfl rfl (d) rfl hd (by omega) d_CN_put_31 (fun H locs hP hD hS => ?_)
    have hP : va_P D classes [(h0, .inr (3, [.ref g0])), (g0, .inl (k 4, 4, .inr (.inr (.inr (.inr (rws r0 r1 r2 r3)))))), (r0, .inl (k 1, 1461, .inr (.inl (vp_updL (m0) (d) ((m0 (d)) ||| (x)))))), (r1, .inl (k 1, 1461, .inr (.inl (m1)))), (r2, .inl (k 1, 1461, .inr (.inl (m2)))), (r3, .inl (k 1, 1461, .inr (.inl (m3))))] H := hP
    have hD : va_D (va_A [(h0, .inr (3, [.ref g0])), (g0, .inl (k 4, 4, .inr (.inr (.inr (.inr (rws r0 r1 r2 r3)))))), (r0, .inl (k 1, 1461, .inr (.inl (m0)))), (r1, .inl (k 1, 1461, .inr (.inl (m1)))), (r2, .inl (k 1, 1461, .inr (.inl (m2)))), (r3, .inl (k 1, 1461, .inr (.inl (m3))))] s.heap.size) [(h0, .inr (3, [.ref g0])), (g0, .inl (k 4, 4, .inr (.inr (.inr (.inr (rws r0 r1 r2 r3)))))), (r0, .inl (k 1, 1461, .inr (.inl (vp_updL (m0) (d) ((m0 (d)) ||| (x)))))), (r1, .inl (k 1, 1461, .inr (.inl (m1)))), (r2, .inl (k 1, 1461, .inr (.inl (m2)))), (r3, .inl (k 1, 1461, .inr (.inl (m3))))] := hD
    refine lv_goto (tgt := 52) hx hb d_CN_put_32 (by decide) ?_
    exact J16_1 ls H locs (lv_sub hl [0, 1, 2, 3, 4] rfl) (by (first | rw [putF_0 (n := n) (b := 0) h16] | rw [putF_1 (n := n) (b := 0) h16]); exact hP) (by (first | rw [putF_0 (n := n) (b := 0) h16] | rw [putF_1 (n := n) (b := 0) h16]); exact hD) hS

set_option maxHeartbeats 4000000 in
set_option maxRecDepth 100000 in
theorem c_SH_timesOf (l : Launch) (D : va_G) (k : Nat → ClassId) (h0 a0 a1 : Nat) (on : Bool) (d : Nat) (w : Int64) (hd : d < 1461) : Met l y_SH_timesOf wd_SH_timesOf rm_SH_timesOf (va_Pc [.ref h0, .int (iI ((d : Int))), .long (w)] (PRO D k [(h0, .inr (7, [.ref a0, .ref a1, .int (bI (on))])), (a0, .inl (k 0, 4, .inl (aZ (losZ)))), (a1, .inl (k 0, 4, .inl (aZ (dblZ))))])) (QRi (fun r : Int32 => r = (tmsRaw on d w))) 0 0 nA := by
  refine r_i (by decide) rfl (Nat.le_of_ble_eq_true rfl) ?_
  intro p e s m args below meth c Q ls hx hb hml hown hts hpre hl ret
  obtain ⟨hP, hK, hX⟩ := hpre
  have hS : va_S nA s.heap s.heap [] := va_S.rf
  have hl : lv_has ls 5 [(0, .ref h0), (1, .int (iI ((d : Int)))), (2, .long (w))] := hl
  refine lv_lload_n hx hb d_SH_timesOf_0 rfl (lv_at hl 2 rfl) ?_
  refine lv_aload_n hx hb d_SH_timesOf_1 rfl (lv_at hl 0 rfl) ?_
  refine lv_iload_n hx hb d_SH_timesOf_2 rfl (lv_at hl 1 rfl) ?_
  refine rc_l (va_runV (As := [.int (iI ((d : Int)))]) (rest := [.long (w)]) (b := h0) ⟨hx, hb, hml, hown, hts⟩ (c_SH_cellsOf l D k (h0) (a0) (a1) (on) (d) (hd)) ⟨callB_of 1 hts (good_SH_cellsOf) rfl rfl rfl (hts _ k_60) (hts _ k_624) (by decide +kernel) ⟨Nat.le_of_ble_eq_true rfl, Nat.le_of_ble_eq_true rfl⟩, (hts _ k_625), (hts _ k_626)⟩ ⟨fun a U g mk q => ⟨q.1, q.2.1, va_K.moved (u := U) (U := U.calling g mk a) (Vm.Alike.refl U.vm) q.2.2.1, q.2.2.2.calling⟩, (va_recv (q0 := 0) hK hP rfl rfl), fun U hU hW => ⟨rfl, by rw [hU]; exact hP, va_K.moved hW.alike hK, by rw [hU]; exact hX.warm hW⟩⟩ rfl rfl hl.1 rfl (lv_room (Nat.le_of_ble_eq_true rfl)) d_SH_timesOf_3 ⟨Nat.le_of_ble_eq_true rfl, Nat.le_of_ble_eq_true rfl⟩) (fun xr_1 h_xr_1 => ?_)
  subst h_xr_1
  refine lv_land hx hb d_SH_timesOf_6 ?_
  refine rc_i (va_runS (As := [.long ((w) &&& (cOf on d))]) (rest := []) ⟨hx, hb, hml, hown, hts⟩ (c_JL_bitCount l D k (w &&& cOf on d)) ⟨callB_of 1 hts (good_JL_bitCount) rfl rfl rfl (hts _ k_74) (hts _ k_665) (by decide +kernel) ⟨Nat.le_of_ble_eq_true rfl, Nat.le_of_ble_eq_true rfl⟩, (hts _ k_644)⟩ ⟨fun a U g mk q => ⟨q.1, q.2.1, va_K.moved (u := U) (U := U.calling g mk a) (Vm.Alike.refl U.vm) q.2.2.1, q.2.2.2.calling⟩, fun U hU hW => ⟨rfl, by rw [hU]; exact (hP.sub (ws' := []) [] rfl), va_K.moved hW.alike hK, by rw [hU]; exact hX.warm hW⟩⟩ rfl rfl hl.1 rfl (lv_room (Nat.le_of_ble_eq_true rfl)) d_SH_timesOf_7 ⟨Nat.le_of_ble_eq_true rfl, Nat.le_of_ble_eq_true rfl⟩) (fun xr_2 h_xr_2 => ?_)
  subst h_xr_2
  refine lv_istore (lv' := [(4, .int (bcRaw (w &&& cOf on d))), (0, .ref h0), (1, .int (iI ((d : Int)))), (2, .long (w))]) hx hb d_SH_timesOf_10 hl (by decide) rfl (fun ls hl => ?_)
  refine lv_aload_n hx hb d_SH_timesOf_12 rfl (lv_at hl 1 rfl) ?_
  refine lv_iload_n hx hb d_SH_timesOf_13 rfl (lv_at hl 2 rfl) ?_
  refine rc_i (va_runV (As := [.int (iI ((d : Int)))]) (rest := []) (b := h0) ⟨hx, hb, hml, hown, hts⟩ (c_SH_doubles l D k (h0) (a0) (a1) (on) (d) (hd)) ⟨callB_of 1 hts (good_SH_doubles) rfl rfl rfl (hts _ k_60) (hts _ k_314) (by decide +kernel) ⟨Nat.le_of_ble_eq_true rfl, Nat.le_of_ble_eq_true rfl⟩, (hts _ k_315), (hts _ k_316)⟩ ⟨fun a U g mk q => ⟨q.1, q.2.1, va_K.moved (u := U) (U := U.calling g mk a) (Vm.Alike.refl U.vm) q.2.2.1, q.2.2.2.calling⟩, (va_recv (q0 := 0) hK hP rfl rfl), fun U hU hW => ⟨rfl, by rw [hU]; exact hP, va_K.moved hW.alike hK, by rw [hU]; exact hX.warm hW⟩⟩ rfl rfl hl.1 rfl (lv_room (Nat.le_of_ble_eq_true rfl)) d_SH_timesOf_14 ⟨Nat.le_of_ble_eq_true rfl, Nat.le_of_ble_eq_true rfl⟩) (fun xr_3 h_xr_3 => ?_)
  subst h_xr_3
  refine b_if_eq (tgt := 34) hx hb d_SH_timesOf_17 (by decide) (fun h17 => ?_) (fun h17 => ?_)
  · refine lv_iload hx hb d_SH_timesOf_34 (lv_at hl 0 rfl) ?_
    exact ret _ 36 (bcRaw (w &&& cOf on d)) d_SH_timesOf_36 (by unfold tmsRaw; rw [h17]; rfl)
  · refine lv_iload hx hb d_SH_timesOf_20 (lv_at hl 0 rfl) ?_
    refine lv_lload_n hx hb d_SH_timesOf_22 rfl (lv_at hl 3 rfl) ?_
    refine W.ldc2 (v := 48) hx hb hown (hts _ k_632) rfl d_SH_timesOf_23 ?_
    refine W.eq (g2 := F0 m 26 ls (.long (48) :: [.long (w), .int (bcRaw (w &&& cOf on d))])) rfl ?_
    refine lv_land hx hb d_SH_timesOf_26 ?_
    refine rc_i (va_runS (As := [.long ((w) &&& ((48 : Int64)))]) (rest := [.int (bcRaw (w &&& cOf on d))]) ⟨hx, hb, hml, hown, hts⟩ (c_JL_bitCount l D k (w &&& 48)) ⟨callB_of 1 hts (good_JL_bitCount) rfl rfl rfl (hts _ k_74) (hts _ k_665) (by decide +kernel) ⟨Nat.le_of_ble_eq_true rfl, Nat.le_of_ble_eq_true rfl⟩, (hts _ k_644)⟩ ⟨fun a U g mk q => ⟨q.1, q.2.1, va_K.moved (u := U) (U := U.calling g mk a) (Vm.Alike.refl U.vm) q.2.2.1, q.2.2.2.calling⟩, fun U hU hW => ⟨rfl, by rw [hU]; exact (hP.sub (ws' := []) [] rfl), va_K.moved hW.alike hK, by rw [hU]; exact hX.warm hW⟩⟩ rfl rfl hl.1 rfl (lv_room (Nat.le_of_ble_eq_true rfl)) d_SH_timesOf_27 ⟨Nat.le_of_ble_eq_true rfl, Nat.le_of_ble_eq_true rfl⟩) (fun xr_4 h_xr_4 => ?_)
    subst h_xr_4
    refine lv_iadd hx hb d_SH_timesOf_30 ?_
    refine lv_goto (tgt := 36) hx hb d_SH_timesOf_31 (by decide) ?_
    exact ret _ 36 ((bcRaw (w &&& cOf on d)) + (bcRaw (w &&& 48))) d_SH_timesOf_36 (by unfold tmsRaw; rw [h17]; rfl)

set_option maxHeartbeats 4000000 in
set_option maxRecDepth 100000 in
theorem c_SH_tell (l : Launch) (D : va_G) (k : Nat → ClassId) (h0 a0 a1 : Nat) (on : Bool) (z : Int) (hz : 0 ≤ z ∧ z < 70128) : Met l y_SH_tell wd_SH_tell rm_SH_tell (va_Pc [.ref h0, .int (iI (z))] (PRO D k [(h0, .inr (7, [.ref a0, .ref a1, .int (bI (on))])), (a0, .inl (k 0, 4, .inl (aZ (losZ)))), (a1, .inl (k 0, 4, .inl (aZ (dblZ))))])) (QRi (fun r : Int32 => r = (iI (tellQ on (tellD on z) (z - stZ on (tellD on z)))))) 0 0 nA := by
  refine r_i (by decide) rfl (Nat.le_of_ble_eq_true rfl) ?_
  intro p e s m args below meth c Q ls hx hb hml hown hts hpre hl ret
  obtain ⟨hP, hK, hX⟩ := hpre
  have hS : va_S nA s.heap s.heap [] := va_S.rf
  have hl : lv_has ls 4 [(0, .ref h0), (1, .int (iI (z)))] := hl
  refine lv_iload_n hx hb d_SH_tell_0 rfl (lv_at hl 1 rfl) ?_
  refine z_bipush hx hb d_SH_tell_1 (by decide) ?_
  refine z_idiv hx hb d_SH_tell_3 ⟨by omega, by omega⟩ (by omega) ⟨by omega, by omega⟩ (by omega) ?_
  obtain ⟨dd, hdd⟩ : ∃ dd : Nat, (dd : Int) = z / 48 := ⟨(z / 48).toNat, by omega⟩
  have hdt : (z / 48).toNat = dd := by omega
  refine z_top (show (iI ((z) / (48))) = (iI ((dd : Int))) from congrArg iI hdd.symm) ?_
  refine lv_istore_n (lv' := [(2, .int (iI ((dd : Int)))), (0, .ref h0), (1, .int (iI (z)))]) hx hb d_SH_tell_4 rfl hl (by decide) rfl (fun ls hl => ?_)
  have L26 : ∀ (dv : Nat) (zv : Int) (ls : Array Slot), zv = (dv : Int) → dv = tellD on z → dv < 1461 → lv_has ls 4 [(0, .ref h0), (1, .int (iI (z))), (2, .int (iI (zv)))] → W p l e rm_SH_tell s m args below meth c s.heap [] 0 0 Q (F0 m 26 ls []) := by
    intro dv zv ls hzv hdv hd1 hl
    subst hzv
    refine lv_iload_n hx hb d_SH_tell_26 rfl (lv_at hl 1 rfl) ?_
    refine lv_aload_n hx hb d_SH_tell_27 rfl (lv_at hl 0 rfl) ?_
    refine lv_iload_n hx hb d_SH_tell_28 rfl (lv_at hl 2 rfl) ?_
    refine rc_i (va_runV (As := [.int (iI ((dv : Int)))]) (rest := [.int (iI (z))]) (b := h0) ⟨hx, hb, hml, hown, hts⟩ (c_SH_startOf l D k (h0) (a0) (a1) (on) (dv) ((by omega))) ⟨callB_of 1 hts (good_SH_startOf) rfl rfl rfl (hts _ k_60) (hts _ k_305) (by decide +kernel) ⟨Nat.le_of_ble_eq_true rfl, Nat.le_of_ble_eq_true rfl⟩, (hts _ k_306), (hts _ k_307)⟩ ⟨fun a U g mk q => ⟨q.1, q.2.1, va_K.moved (u := U) (U := U.calling g mk a) (Vm.Alike.refl U.vm) q.2.2.1, q.2.2.2.calling⟩, (va_recv (q0 := 0) hK hP rfl rfl), fun U hU hW => ⟨rfl, by rw [hU]; exact hP, va_K.moved hW.alike hK, by rw [hU]; exact hX.warm hW⟩⟩ rfl rfl hl.1 rfl (lv_room (Nat.le_of_ble_eq_true rfl)) d_SH_tell_29 ⟨Nat.le_of_ble_eq_true rfl, Nat.le_of_ble_eq_true rfl⟩) (fun xr_1 h_xr_1 => ?_)
    subst h_xr_1
    have hb8 := stZ_bd (on := on) (d := dv)
    refine z_isub hx hb d_SH_tell_32 ?_
    obtain ⟨q, h_q⟩ : ∃ q : Int, q = z - (stZ on dv) := ⟨_, rfl⟩
    refine z_top (show iI (z - (stZ on dv)) = iI q from by rw [h_q]) ?_
    refine lv_istore_n (lv' := [(3, .int (iI (q))), (0, .ref h0), (1, .int (iI (z))), (2, .int (iI ((dv : Int))))]) hx hb d_SH_tell_33 rfl hl (by decide) rfl (fun ls hl => ?_)
    refine lv_aload_n hx hb d_SH_tell_34 rfl (lv_at hl 1 rfl) ?_
    refine lv_iload_n hx hb d_SH_tell_35 rfl (lv_at hl 3 rfl) ?_
    refine rc_i (va_runV (As := [.int (iI ((dv : Int)))]) (rest := []) (b := h0) ⟨hx, hb, hml, hown, hts⟩ (c_SH_loses l D k (h0) (a0) (a1) (on) (dv) ((by omega))) ⟨callB_of 1 hts (good_SH_loses) rfl rfl rfl (hts _ k_60) (hts _ k_310) (by decide +kernel) ⟨Nat.le_of_ble_eq_true rfl, Nat.le_of_ble_eq_true rfl⟩, (hts _ k_311), (hts _ k_312)⟩ ⟨fun a U g mk q => ⟨q.1, q.2.1, va_K.moved (u := U) (U := U.calling g mk a) (Vm.Alike.refl U.vm) q.2.2.1, q.2.2.2.calling⟩, (va_recv (q0 := 0) hK hP rfl rfl), fun U hU hW => ⟨rfl, by rw [hU]; exact hP, va_K.moved hW.alike hK, by rw [hU]; exact hX.warm hW⟩⟩ rfl rfl hl.1 rfl (lv_room (Nat.le_of_ble_eq_true rfl)) d_SH_tell_36 ⟨Nat.le_of_ble_eq_true rfl, Nat.le_of_ble_eq_true rfl⟩) (fun xr_2 h_xr_2 => ?_)
    subst h_xr_2
    refine b_if_eq (tgt := 60) hx hb d_SH_tell_39 (by decide) (fun h39 => ?_) (fun h39 => ?_)
    · refine lv_aload_n hx hb d_SH_tell_60 rfl (lv_at hl 1 rfl) ?_
      refine lv_iload_n hx hb d_SH_tell_61 rfl (lv_at hl 3 rfl) ?_
      refine rc_i (va_runV (As := [.int (iI ((dv : Int)))]) (rest := []) (b := h0) ⟨hx, hb, hml, hown, hts⟩ (c_SH_doubles l D k (h0) (a0) (a1) (on) (dv) ((by omega))) ⟨callB_of 1 hts (good_SH_doubles) rfl rfl rfl (hts _ k_60) (hts _ k_314) (by decide +kernel) ⟨Nat.le_of_ble_eq_true rfl, Nat.le_of_ble_eq_true rfl⟩, (hts _ k_315), (hts _ k_316)⟩ ⟨fun a U g mk q => ⟨q.1, q.2.1, va_K.moved (u := U) (U := U.calling g mk a) (Vm.Alike.refl U.vm) q.2.2.1, q.2.2.2.calling⟩, (va_recv (q0 := 0) hK hP rfl rfl), fun U hU hW => ⟨rfl, by rw [hU]; exact hP, va_K.moved hW.alike hK, by rw [hU]; exact hX.warm hW⟩⟩ rfl rfl hl.1 rfl (lv_room (Nat.le_of_ble_eq_true rfl)) d_SH_tell_62 ⟨Nat.le_of_ble_eq_true rfl, Nat.le_of_ble_eq_true rfl⟩) (fun xr_3 h_xr_3 => ?_)
      subst h_xr_3
      refine b_if_eq (tgt := 73) hx hb d_SH_tell_65 (by decide) (fun h65 => ?_) (fun h65 => ?_)
      · refine z_sipush hx hb d_SH_tell_73 (by decide) ?_
        refine lv_iload_n hx hb d_SH_tell_76 rfl (lv_at hl 3 rfl) ?_
        refine z_imul hx hb d_SH_tell_77 ?_
        refine z_bipush hx hb d_SH_tell_78 (by decide) ?_
        refine lv_iload_n hx hb d_SH_tell_80 rfl (lv_at hl 0 rfl) ?_
        refine z_imul hx hb d_SH_tell_81 ?_
        refine z_iadd hx hb d_SH_tell_82 ?_
        exact ret _ 83 (iI ((1000 * ((dv : Int))) + (10 * q))) d_SH_tell_83 (by rw [← hdv, ← h_q]; unfold tellQ; rw [if_neg (by first | (rw [h39]; simp; done) | omega), if_pos (by first | (rw [h65]; simp; done) | omega)])
      · refine lv_iload_n hx hb d_SH_tell_68 rfl (lv_at hl 0 rfl) ?_
        refine z_iconst hx hb d_SH_tell_69 ?_
        refine z_icmp_ge (tgt := 84) hx hb d_SH_tell_70 (by decide) ⟨by omega, by omega⟩ ⟨by omega, by omega⟩ (fun h70 => ?_) (fun h70 => ?_)
        · refine lv_iload_n hx hb d_SH_tell_84 rfl (lv_at hl 0 rfl) ?_
          refine z_bipush hx hb d_SH_tell_85 (by decide) ?_
          refine z_icmp_ge (tgt := 103) hx hb d_SH_tell_87 (by decide) ⟨by omega, by omega⟩ ⟨by omega, by omega⟩ (fun h87 => ?_) (fun h87 => ?_)
          · refine z_sipush hx hb d_SH_tell_103 (by decide) ?_
            refine lv_iload_n hx hb d_SH_tell_106 rfl (lv_at hl 3 rfl) ?_
            refine z_imul hx hb d_SH_tell_107 ?_
            refine z_bipush hx hb d_SH_tell_108 (by decide) ?_
            refine lv_iload_n hx hb d_SH_tell_110 rfl (lv_at hl 0 rfl) ?_
            refine z_iconst hx hb d_SH_tell_111 ?_
            refine z_isub hx hb d_SH_tell_112 ?_
            refine z_imul hx hb d_SH_tell_113 ?_
            refine z_iadd hx hb d_SH_tell_114 ?_
            refine lv_aload_n hx hb d_SH_tell_115 rfl (lv_at hl 1 rfl) ?_
            refine lv_iload_n hx hb d_SH_tell_116 rfl (lv_at hl 0 rfl) ?_
            refine z_iconst hx hb d_SH_tell_117 ?_
            refine z_isub hx hb d_SH_tell_118 ?_
            refine rc_i (va_runV (As := [.int (iI (q - 2))]) (rest := [.int (iI ((1000 * ((dv : Int))) + (10 * (q - 2))))]) (b := h0) ⟨hx, hb, hml, hown, hts⟩ (c_SH_isShifted l D k (h0) (a0) (a1) (on) (q - 2) (⟨by omega, by omega⟩)) ⟨callB_of 1 hts (good_SH_isShifted) rfl rfl rfl (hts _ k_60) (hts _ k_318) (by decide +kernel) ⟨Nat.le_of_ble_eq_true rfl, Nat.le_of_ble_eq_true rfl⟩, (hts _ k_319), (hts _ k_320)⟩ ⟨fun a U g mk q => ⟨q.1, q.2.1, va_K.moved (u := U) (U := U.calling g mk a) (Vm.Alike.refl U.vm) q.2.2.1, q.2.2.2.calling⟩, (va_recv (q0 := 0) hK hP rfl rfl), fun U hU hW => ⟨rfl, by rw [hU]; exact (hP.sub (ws' := [(h0, .inr (7, [.ref a0, .ref a1, .int (bI (on))]))]) [0] rfl), va_K.moved hW.alike hK, by rw [hU]; exact hX.warm hW⟩⟩ rfl rfl hl.1 rfl (lv_room (Nat.le_of_ble_eq_true rfl)) d_SH_tell_119 ⟨Nat.le_of_ble_eq_true rfl, Nat.le_of_ble_eq_true rfl⟩) (fun xr_4 h_xr_4 => ?_)
            subst h_xr_4
            have J122_1 : W p l e rm_SH_tell s m args below meth c s.heap [] 0 0 Q (F0 m 130 ls [.int (iI (if shf (q - 2) then 2 else 0)), .int (iI ((1000 * ((dv : Int))) + (10 * (q - 2))))]) := by
              refine z_iadd hx hb d_SH_tell_130 ?_
              exact ret _ 131 (iI (((1000 * ((dv : Int))) + (10 * (q - 2))) + (if shf (q - 2) then 2 else 0))) d_SH_tell_131 (by rw [← hdv, ← h_q]; exact congrArg iI (tellQ_4 (by first | (rw [h39]; simp; done) | omega) (by rw [h65]; simp; omega) (by omega)).symm)
            refine b_if_eq (tgt := 129) hx hb d_SH_tell_122 (by decide) (fun h122 => ?_) (fun h122 => ?_)
            · refine z_iconst hx hb d_SH_tell_129 ?_
              exact z_top (show (iI (0)) = (iI (if shf (q - 2) then 2 else 0)) from (by rw [h122]; rfl)) J122_1
            · refine z_iconst hx hb d_SH_tell_125 ?_
              refine lv_goto (tgt := 130) hx hb d_SH_tell_126 (by decide) ?_
              exact z_top (show (iI (2)) = (iI (if shf (q - 2) then 2 else 0)) from (by rw [h122]; rfl)) J122_1
          · refine z_sipush hx hb d_SH_tell_90 (by decide) ?_
            refine lv_iload_n hx hb d_SH_tell_93 rfl (lv_at hl 3 rfl) ?_
            refine z_imul hx hb d_SH_tell_94 ?_
            refine z_bipush hx hb d_SH_tell_95 (by decide) ?_
            refine lv_iload_n hx hb d_SH_tell_97 rfl (lv_at hl 0 rfl) ?_
            refine z_imul hx hb d_SH_tell_98 ?_
            refine z_iadd hx hb d_SH_tell_99 ?_
            refine z_iconst hx hb d_SH_tell_100 ?_
            refine z_iadd hx hb d_SH_tell_101 ?_
            exact ret _ 102 (iI (((1000 * ((dv : Int))) + (10 * q)) + 1)) d_SH_tell_102 (by rw [← hdv, ← h_q]; unfold tellQ; rw [if_neg (by first | (rw [h39]; simp; done) | omega), if_neg (by rw [h65]; simp; omega), if_pos (by omega)])
        · refine z_sipush hx hb d_SH_tell_73 (by decide) ?_
          refine lv_iload_n hx hb d_SH_tell_76 rfl (lv_at hl 3 rfl) ?_
          refine z_imul hx hb d_SH_tell_77 ?_
          refine z_bipush hx hb d_SH_tell_78 (by decide) ?_
          refine lv_iload_n hx hb d_SH_tell_80 rfl (lv_at hl 0 rfl) ?_
          refine z_imul hx hb d_SH_tell_81 ?_
          refine z_iadd hx hb d_SH_tell_82 ?_
          exact ret _ 83 (iI ((1000 * ((dv : Int))) + (10 * q))) d_SH_tell_83 (by rw [← hdv, ← h_q]; unfold tellQ; rw [if_neg (by first | (rw [h39]; simp; done) | omega), if_pos (by first | (rw [h65]; simp; done) | omega)])
    · refine lv_iload_n hx hb d_SH_tell_42 rfl (lv_at hl 0 rfl) ?_
      refine z_iconst hx hb d_SH_tell_43 ?_
      refine z_icmp_lt (tgt := 60) hx hb d_SH_tell_44 (by decide) ⟨by omega, by omega⟩ ⟨by omega, by omega⟩ (fun h44 => ?_) (fun h44 => ?_)
      · refine lv_aload_n hx hb d_SH_tell_60 rfl (lv_at hl 1 rfl) ?_
        refine lv_iload_n hx hb d_SH_tell_61 rfl (lv_at hl 3 rfl) ?_
        refine rc_i (va_runV (As := [.int (iI ((dv : Int)))]) (rest := []) (b := h0) ⟨hx, hb, hml, hown, hts⟩ (c_SH_doubles l D k (h0) (a0) (a1) (on) (dv) ((by omega))) ⟨callB_of 1 hts (good_SH_doubles) rfl rfl rfl (hts _ k_60) (hts _ k_314) (by decide +kernel) ⟨Nat.le_of_ble_eq_true rfl, Nat.le_of_ble_eq_true rfl⟩, (hts _ k_315), (hts _ k_316)⟩ ⟨fun a U g mk q => ⟨q.1, q.2.1, va_K.moved (u := U) (U := U.calling g mk a) (Vm.Alike.refl U.vm) q.2.2.1, q.2.2.2.calling⟩, (va_recv (q0 := 0) hK hP rfl rfl), fun U hU hW => ⟨rfl, by rw [hU]; exact hP, va_K.moved hW.alike hK, by rw [hU]; exact hX.warm hW⟩⟩ rfl rfl hl.1 rfl (lv_room (Nat.le_of_ble_eq_true rfl)) d_SH_tell_62 ⟨Nat.le_of_ble_eq_true rfl, Nat.le_of_ble_eq_true rfl⟩) (fun xr_5 h_xr_5 => ?_)
        subst h_xr_5
        refine b_if_eq (tgt := 73) hx hb d_SH_tell_65 (by decide) (fun h65 => ?_) (fun h65 => ?_)
        · refine z_sipush hx hb d_SH_tell_73 (by decide) ?_
          refine lv_iload_n hx hb d_SH_tell_76 rfl (lv_at hl 3 rfl) ?_
          refine z_imul hx hb d_SH_tell_77 ?_
          refine z_bipush hx hb d_SH_tell_78 (by decide) ?_
          refine lv_iload_n hx hb d_SH_tell_80 rfl (lv_at hl 0 rfl) ?_
          refine z_imul hx hb d_SH_tell_81 ?_
          refine z_iadd hx hb d_SH_tell_82 ?_
          exact ret _ 83 (iI ((1000 * ((dv : Int))) + (10 * q))) d_SH_tell_83 (by rw [← hdv, ← h_q]; unfold tellQ; rw [if_neg (by first | (rw [h39]; simp; done) | omega), if_pos (by first | (rw [h65]; simp; done) | omega)])
        · refine lv_iload_n hx hb d_SH_tell_68 rfl (lv_at hl 0 rfl) ?_
          refine z_iconst hx hb d_SH_tell_69 ?_
          refine z_icmp_ge (tgt := 84) hx hb d_SH_tell_70 (by decide) ⟨by omega, by omega⟩ ⟨by omega, by omega⟩ (fun h70 => ?_) (fun h70 => ?_)
          · refine lv_iload_n hx hb d_SH_tell_84 rfl (lv_at hl 0 rfl) ?_
            refine z_bipush hx hb d_SH_tell_85 (by decide) ?_
            refine z_icmp_ge (tgt := 103) hx hb d_SH_tell_87 (by decide) ⟨by omega, by omega⟩ ⟨by omega, by omega⟩ (fun h87 => ?_) (fun h87 => ?_)
            · refine z_sipush hx hb d_SH_tell_103 (by decide) ?_
              refine lv_iload_n hx hb d_SH_tell_106 rfl (lv_at hl 3 rfl) ?_
              refine z_imul hx hb d_SH_tell_107 ?_
              refine z_bipush hx hb d_SH_tell_108 (by decide) ?_
              refine lv_iload_n hx hb d_SH_tell_110 rfl (lv_at hl 0 rfl) ?_
              refine z_iconst hx hb d_SH_tell_111 ?_
              refine z_isub hx hb d_SH_tell_112 ?_
              refine z_imul hx hb d_SH_tell_113 ?_
              refine z_iadd hx hb d_SH_tell_114 ?_
              refine lv_aload_n hx hb d_SH_tell_115 rfl (lv_at hl 1 rfl) ?_
              refine lv_iload_n hx hb d_SH_tell_116 rfl (lv_at hl 0 rfl) ?_
              refine z_iconst hx hb d_SH_tell_117 ?_
              refine z_isub hx hb d_SH_tell_118 ?_
              refine rc_i (va_runV (As := [.int (iI (q - 2))]) (rest := [.int (iI ((1000 * ((dv : Int))) + (10 * (q - 2))))]) (b := h0) ⟨hx, hb, hml, hown, hts⟩ (c_SH_isShifted l D k (h0) (a0) (a1) (on) (q - 2) (⟨by omega, by omega⟩)) ⟨callB_of 1 hts (good_SH_isShifted) rfl rfl rfl (hts _ k_60) (hts _ k_318) (by decide +kernel) ⟨Nat.le_of_ble_eq_true rfl, Nat.le_of_ble_eq_true rfl⟩, (hts _ k_319), (hts _ k_320)⟩ ⟨fun a U g mk q => ⟨q.1, q.2.1, va_K.moved (u := U) (U := U.calling g mk a) (Vm.Alike.refl U.vm) q.2.2.1, q.2.2.2.calling⟩, (va_recv (q0 := 0) hK hP rfl rfl), fun U hU hW => ⟨rfl, by rw [hU]; exact (hP.sub (ws' := [(h0, .inr (7, [.ref a0, .ref a1, .int (bI (on))]))]) [0] rfl), va_K.moved hW.alike hK, by rw [hU]; exact hX.warm hW⟩⟩ rfl rfl hl.1 rfl (lv_room (Nat.le_of_ble_eq_true rfl)) d_SH_tell_119 ⟨Nat.le_of_ble_eq_true rfl, Nat.le_of_ble_eq_true rfl⟩) (fun xr_6 h_xr_6 => ?_)
              subst h_xr_6
              have J122_2 : W p l e rm_SH_tell s m args below meth c s.heap [] 0 0 Q (F0 m 130 ls [.int (iI (if shf (q - 2) then 2 else 0)), .int (iI ((1000 * ((dv : Int))) + (10 * (q - 2))))]) := by
                refine z_iadd hx hb d_SH_tell_130 ?_
                exact ret _ 131 (iI (((1000 * ((dv : Int))) + (10 * (q - 2))) + (if shf (q - 2) then 2 else 0))) d_SH_tell_131 (by rw [← hdv, ← h_q]; exact congrArg iI (tellQ_4 (by first | (rw [h39]; simp; done) | omega) (by rw [h65]; simp; omega) (by omega)).symm)
              refine b_if_eq (tgt := 129) hx hb d_SH_tell_122 (by decide) (fun h122 => ?_) (fun h122 => ?_)
              · refine z_iconst hx hb d_SH_tell_129 ?_
                exact z_top (show (iI (0)) = (iI (if shf (q - 2) then 2 else 0)) from (by rw [h122]; rfl)) J122_2
              · refine z_iconst hx hb d_SH_tell_125 ?_
                refine lv_goto (tgt := 130) hx hb d_SH_tell_126 (by decide) ?_
                exact z_top (show (iI (2)) = (iI (if shf (q - 2) then 2 else 0)) from (by rw [h122]; rfl)) J122_2
            · refine z_sipush hx hb d_SH_tell_90 (by decide) ?_
              refine lv_iload_n hx hb d_SH_tell_93 rfl (lv_at hl 3 rfl) ?_
              refine z_imul hx hb d_SH_tell_94 ?_
              refine z_bipush hx hb d_SH_tell_95 (by decide) ?_
              refine lv_iload_n hx hb d_SH_tell_97 rfl (lv_at hl 0 rfl) ?_
              refine z_imul hx hb d_SH_tell_98 ?_
              refine z_iadd hx hb d_SH_tell_99 ?_
              refine z_iconst hx hb d_SH_tell_100 ?_
              refine z_iadd hx hb d_SH_tell_101 ?_
              exact ret _ 102 (iI (((1000 * ((dv : Int))) + (10 * q)) + 1)) d_SH_tell_102 (by rw [← hdv, ← h_q]; unfold tellQ; rw [if_neg (by first | (rw [h39]; simp; done) | omega), if_neg (by rw [h65]; simp; omega), if_pos (by omega)])
          · refine z_sipush hx hb d_SH_tell_73 (by decide) ?_
            refine lv_iload_n hx hb d_SH_tell_76 rfl (lv_at hl 3 rfl) ?_
            refine z_imul hx hb d_SH_tell_77 ?_
            refine z_bipush hx hb d_SH_tell_78 (by decide) ?_
            refine lv_iload_n hx hb d_SH_tell_80 rfl (lv_at hl 0 rfl) ?_
            refine z_imul hx hb d_SH_tell_81 ?_
            refine z_iadd hx hb d_SH_tell_82 ?_
            exact ret _ 83 (iI ((1000 * ((dv : Int))) + (10 * q))) d_SH_tell_83 (by rw [← hdv, ← h_q]; unfold tellQ; rw [if_neg (by first | (rw [h39]; simp; done) | omega), if_pos (by first | (rw [h65]; simp; done) | omega)])
      · refine z_sipush hx hb d_SH_tell_47 (by decide) ?_
        refine lv_iload_n hx hb d_SH_tell_50 rfl (lv_at hl 3 rfl) ?_
        refine z_imul hx hb d_SH_tell_51 ?_
        refine z_bipush hx hb d_SH_tell_52 (by decide) ?_
        refine lv_iload_n hx hb d_SH_tell_54 rfl (lv_at hl 0 rfl) ?_
        refine z_iconst hx hb d_SH_tell_55 ?_
        refine z_iadd hx hb d_SH_tell_56 ?_
        refine z_imul hx hb d_SH_tell_57 ?_
        refine z_iadd hx hb d_SH_tell_58 ?_
        exact ret _ 59 (iI ((1000 * ((dv : Int))) + (10 * (q + 2)))) d_SH_tell_59 (by rw [← hdv, ← h_q]; unfold tellQ; rw [if_pos ⟨h39, by omega⟩])
  refine lv_iload_n hx hb d_SH_tell_5 rfl (lv_at hl 0 rfl) ?_
  refine z_sipush hx hb d_SH_tell_6 (by decide) ?_
  refine z_icmp_ge (tgt := 26) hx hb d_SH_tell_9 (by decide) ⟨by omega, by omega⟩ ⟨by omega, by omega⟩ (fun h9 => ?_) (fun h9 => ?_)
  · exact L26 (dd) ((dd : Int)) ls (by omega) (by unfold tellD; rw [hdt, if_neg (by omega)]) (by omega) (lv_sub hl [1, 2, 0] rfl)
  · refine lv_aload_n hx hb d_SH_tell_12 rfl (lv_at hl 1 rfl) ?_
    refine lv_iload_n hx hb d_SH_tell_13 rfl (lv_at hl 0 rfl) ?_
    refine z_iconst hx hb d_SH_tell_14 ?_
    refine z_iadd hx hb d_SH_tell_15 ?_
    refine z_top (show (iI (((dd : Int)) + 1)) = (iI (((dd + 1 : Nat) : Int))) from congrArg iI (by omega)) ?_
    refine rc_i (va_runV (As := [.int (iI (((dd + 1 : Nat) : Int)))]) (rest := []) (b := h0) ⟨hx, hb, hml, hown, hts⟩ (c_SH_startOf l D k (h0) (a0) (a1) (on) (dd + 1) ((by omega))) ⟨callB_of 1 hts (good_SH_startOf) rfl rfl rfl (hts _ k_60) (hts _ k_305) (by decide +kernel) ⟨Nat.le_of_ble_eq_true rfl, Nat.le_of_ble_eq_true rfl⟩, (hts _ k_306), (hts _ k_307)⟩ ⟨fun a U g mk q => ⟨q.1, q.2.1, va_K.moved (u := U) (U := U.calling g mk a) (Vm.Alike.refl U.vm) q.2.2.1, q.2.2.2.calling⟩, (va_recv (q0 := 0) hK hP rfl rfl), fun U hU hW => ⟨rfl, by rw [hU]; exact hP, va_K.moved hW.alike hK, by rw [hU]; exact hX.warm hW⟩⟩ rfl rfl hl.1 rfl (lv_room (Nat.le_of_ble_eq_true rfl)) d_SH_tell_16 ⟨Nat.le_of_ble_eq_true rfl, Nat.le_of_ble_eq_true rfl⟩) (fun xr_7 h_xr_7 => ?_)
    subst h_xr_7
    have hb8 := stZ_bd (on := on) (d := dd + 1)
    refine lv_iload_n hx hb d_SH_tell_19 rfl (lv_at hl 2 rfl) ?_
    refine z_icmp_gt (tgt := 26) hx hb d_SH_tell_20 (by decide) ⟨by omega, by omega⟩ ⟨by omega, by omega⟩ (fun h20 => ?_) (fun h20 => ?_)
    · exact L26 (dd) ((dd : Int)) ls (by omega) (by unfold tellD; rw [hdt, if_neg (by omega)]) (by omega) (lv_sub hl [1, 2, 0] rfl)
    · refine z_iinc (k := 0) (a := (dd : Int)) (lv' := [(2, .int (iI (((dd : Int)) + 1))), (0, .ref h0), (1, .int (iI (z)))]) hx hb d_SH_tell_23 hl rfl (by decide) rfl (fun ls hl => ?_)
      exact L26 (dd + 1) ((dd : Int) + 1) ls (by omega) (by unfold tellD; rw [hdt, if_pos (by omega)]) (by omega) (lv_sub hl [1, 2, 0] rfl)
