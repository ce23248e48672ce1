set_option maxHeartbeats 4000000 in
set_option maxRecDepth 100000 in
theorem c_DS_has (l : Launch) (D : va_G) (k : Nat → ClassId) (h0 a0 : Nat) (f : Nat → Int64) (d : Nat) (hd : d < 1472) : Met l y_DS_has wd_DS_has rm_DS_has (va_Pc [.ref h0, .int (iI ((d : Int)))] (PRO D k [(h0, .inr (4, [.ref a0])), (a0, .inl (k 1, 23, .inr (.inl (f))))])) (QRi (fun r : Int32 => r = (bI (dsb f d)))) 0 0 nA := by
  refine r_z (by decide) rfl (Nat.le_of_ble_eq_true rfl) ?_
  intro p e s m args below meth c Q ls hx hb hml hown hts hpre hl ret
  obtain ⟨hP, hK, hX⟩ := hpre
  have hS : va_S nA s.heap s.heap [] := va_S.rf
  have hl : lv_has ls 2 [(0, .ref h0), (1, .int (iI ((d : Int))))] := hl
  refine lv_aload_n hx hb d_DS_has_0 rfl (lv_at hl 0 rfl) ?_
  refine va_get (D := D) (ci := 4) (v := .ref a0) (C := R_DS) (T := F_DS) (N := 1) hx hb hts in_DS hown hK hP 0 rfl rfl 0 (by decide) (hts _ k_147) (fun _ h9 => h9) rfl d_DS_has_1 ?_
  refine lv_iload_n hx hb d_DS_has_4 rfl (lv_at hl 1 rfl) ?_
  refine z_bipush hx hb d_DS_has_5 (by decide) ?_
  refine lv_ishr hx hb d_DS_has_7 ?_
  refine z_top (show ((iI ((d : Int))) >>> ((iI (6)) &&& 31)) = (iI (((d / 64 : Nat) : Int))) from (iI_shr d 6 6 64 (by decide) rfl (by omega))) ?_
  refine x_lald hx hb hK hP 1 1 rfl rfl (d / 64) rfl (by omega) (by omega) d_DS_has_8 ?_
  refine lv_iload_n hx hb d_DS_has_9 rfl (lv_at hl 1 rfl) ?_
  refine z_bipush hx hb d_DS_has_10 (by decide) ?_
  refine lv_iand hx hb d_DS_has_12 ?_
  refine z_top (show ((iI ((d : Int))) &&& (iI (63))) = (iI (((d % 64 : Nat) : Int))) from (iI_and d 63 6 64 (by decide) rfl (by omega))) ?_
  refine lv_lushr hx hb d_DS_has_13 rfl ?_
  refine lv_lconst (v := 1) hx hb d_DS_has_14 (by decide) ?_
  refine lv_land hx hb d_DS_has_15 ?_
  refine lv_lconst (v := 0) hx hb d_DS_has_16 (by decide) ?_
  refine l_eq (tgt := 25) hx hb d_DS_has_17 d_DS_has_18 (by decide) (fun h17 => ?_) (fun h17 => ?_)
  · refine z_iconst hx hb d_DS_has_25 ?_
    exact ret _ 26 false d_DS_has_26 (congrArg bI (dsb_f f d h17).symm)
  · refine z_iconst hx hb d_DS_has_21 ?_
    refine lv_goto (tgt := 26) hx hb d_DS_has_22 (by decide) ?_
    exact ret _ 26 true d_DS_has_26 (congrArg bI (dsb_t f d h17).symm)

set_option maxHeartbeats 4000000 in
set_option maxRecDepth 100000 in
theorem c_DS_add (l : Launch) (D : va_G) (k : Nat → ClassId) (sz : Nat) (h0 a0 : Nat) (f : Nat → Int64) (d : Nat) (hd : d < 1472) : Met l y_DS_add wd_DS_add rm_DS_add (va_Pc [.ref h0, .int (iI ((d : Int)))] (PRW D k [(h0, .inr (4, [.ref a0])), (a0, .inl (k 1, 23, .inr (.inl (f))))] sz)) (va_Qv (fun u : Unit => True) (fun _ t => BRW D [(h0, .inr (4, [.ref a0])), (a0, .inl (k 1, 23, .inr (.inl (f))))] sz [(h0, .inr (4, [.ref a0])), (a0, .inl (k 1, 23, .inr (.inl (dsAdd f d))))] t) (va_A [(h0, .inr (4, [.ref a0])), (a0, .inl (k 1, 23, .inr (.inl (f))))] sz)) 0 0 (va_A [(h0, .inr (4, [.ref a0])), (a0, .inl (k 1, 23, .inr (.inl (f))))] sz) := by
  refine e_v (by decide) rfl (Nat.le_of_ble_eq_true rfl) ?_
  intro p e s m args below meth c Q ls hx hb hml hown hts hpre hl hin ret
  obtain ⟨hsz, hP, hK, hD0, hX⟩ := hpre
  subst hsz
  have hD := hD0.self (sz := s.heap.size)
  have hA : ∀ q : Nat, s.heap.size ≤ q → (va_A [(h0, .inr (4, [.ref a0])), (a0, .inl (k 1, 23, .inr (.inl (f))))] s.heap.size) q := fun q h => Or.inr h
  have hS : va_S (va_A [(h0, .inr (4, [.ref a0])), (a0, .inl (k 1, 23, .inr (.inl (f))))] s.heap.size) s.heap s.heap [] := va_S.rf
  have hl : lv_has ls 2 [(0, .ref h0), (1, .int (iI ((d : Int))))] := hl
  refine lv_aload_n hx hb d_DS_add_0 rfl (lv_at hl 0 rfl) ?_
  refine va_get (D := D) (ci := 4) (v := .ref a0) (C := R_DS) (T := F_DS) (N := 1) hx hb hts in_DS hown hK hP 0 rfl rfl 0 (by decide) (hts _ k_147) (fun _ h9 => h9) rfl d_DS_add_1 ?_
  refine lv_iload_n hx hb d_DS_add_4 rfl (lv_at hl 1 rfl) ?_
  refine z_bipush hx hb d_DS_add_5 (by decide) ?_
  refine lv_ishr hx hb d_DS_add_7 ?_
  refine z_top (show ((iI ((d : Int))) >>> ((iI (6)) &&& 31)) = (iI (((d / 64 : Nat) : Int))) from (iI_shr d 6 6 64 (by decide) rfl (by omega))) ?_
  refine lv_dup2_11 hx hb d_DS_add_8 rfl rfl ?_
  refine x_lald hx hb hK hP 1 1 rfl rfl (d / 64) rfl (by omega) (by omega) d_DS_add_9 ?_
  refine lv_lconst (v := 1) hx hb d_DS_add_10 (by decide) ?_
  refine lv_iload_n hx hb d_DS_add_11 rfl (lv_at hl 1 rfl) ?_
  refine z_bipush hx hb d_DS_add_12 (by decide) ?_
  refine lv_iand hx hb d_DS_add_14 ?_
  refine z_top (show ((iI ((d : Int))) &&& (iI (63))) = (iI (((d % 64 : Nat) : Int))) from (iI_and d 63 6 64 (by decide) rfl (by omega))) ?_
  refine lv_lshl hx hb d_DS_add_15 rfl ?_
  refine lv_lor hx hb d_DS_add_16 ?_
  refine x_last hx hb hK hP hD hS 1 1 rfl rfl (d / 64) rfl (by omega) (by omega) d_DS_add_17 (fun H locs hP hD hS => ?_)
  have hP : va_P D classes [(h0, .inr (4, [.ref a0])), (a0, .inl (k 1, 23, .inr (.inl (vp_updL (f) (d / 64) ((f (d / 64)) ||| (((1 : Int64)) <<< ((iI (((d % 64 : Nat) : Int))).toInt64 &&& 63)))))))] H := hP
  have hD : va_D (va_A [(h0, .inr (4, [.ref a0])), (a0, .inl (k 1, 23, .inr (.inl (f))))] s.heap.size) [(h0, .inr (4, [.ref a0])), (a0, .inl (k 1, 23, .inr (.inl (vp_updL (f) (d / 64) ((f (d / 64)) ||| (((1 : Int64)) <<< ((iI (((d % 64 : Nat) : Int))).toInt64 &&& 63)))))))] := hD
  exact ret _ _ _ 18 () d_DS_add_18 hS (trivial) (fun t ht _ => ⟨by rw [ht]; exact hP, hD⟩)

set_option maxHeartbeats 4000000 in
set_option maxRecDepth 100000 in
theorem c_DS_join (l : Launch) (D : va_G) (k : Nat → ClassId) (sz : Nat) (h0 a0 h1 a1 : Nat) (f : Nat → Int64) (g : Nat → Int64) : Met l y_DS_join wd_DS_join rm_DS_join (va_Pc [.ref h0, .ref h1] (PRW D k [(h0, .inr (4, [.ref a0])), (a0, .inl (k 1, 23, .inr (.inl (f)))), (h1, .inr (4, [.ref a1])), (a1, .inl (k 1, 23, .inr (.inl (g))))] sz)) (va_Qv (fun u : Unit => True) (fun _ t => BRW D [(h0, .inr (4, [.ref a0])), (a0, .inl (k 1, 23, .inr (.inl (f)))), (h1, .inr (4, [.ref a1])), (a1, .inl (k 1, 23, .inr (.inl (g))))] sz [(h0, .inr (4, [.ref a0])), (a0, .inl (k 1, 23, .inr (.inl (dsJoin f g 23)))), (h1, .inr (4, [.ref a1])), (a1, .inl (k 1, 23, .inr (.inl (g))))] t) (va_A [(h0, .inr (4, [.ref a0])), (a0, .inl (k 1, 23, .inr (.inl (f)))), (h1, .inr (4, [.ref a1])), (a1, .inl (k 1, 23, .inr (.inl (g))))] sz)) 0 0 (va_A [(h0, .inr (4, [.ref a0])), (a0, .inl (k 1, 23, .inr (.inl (f)))), (h1, .inr (4, [.ref a1])), (a1, .inl (k 1, 23, .inr (.inl (g))))] sz) := by
  refine e_v (by decide) rfl (Nat.le_of_ble_eq_true rfl) ?_
  intro p e s m args below meth c Q ls hx hb hml hown hts hpre hl hin ret
  obtain ⟨hsz, hP, hK, hD0, hX⟩ := hpre
  subst hsz
  have hD := hD0.self (sz := s.heap.size)
  have hA : ∀ q : Nat, s.heap.size ≤ q → (va_A [(h0, .inr (4, [.ref a0])), (a0, .inl (k 1, 23, .inr (.inl (f)))), (h1, .inr (4, [.ref a1])), (a1, .inl (k 1, 23, .inr (.inl (g))))] s.heap.size) q := fun q h => Or.inr h
  have hS : va_S (va_A [(h0, .inr (4, [.ref a0])), (a0, .inl (k 1, 23, .inr (.inl (f)))), (h1, .inr (4, [.ref a1])), (a1, .inl (k 1, 23, .inr (.inl (g))))] s.heap.size) s.heap s.heap [] := va_S.rf
  have hl : lv_has ls 3 [(0, .ref h0), (1, .ref h1)] := hl
  refine z_iconst hx hb d_DS_join_0 ?_
  refine lv_istore_n (lv' := [(2, .int (iI (0))), (0, .ref h0), (1, .ref h1)]) hx hb d_DS_join_1 rfl hl (by decide) rfl (fun ls hl => ?_)
  have L2 : ∀ (fu : Nat) (i : Nat) (z : Int) (f2 : Nat → Int64) (ls : Array Slot) (H : Heap) (locs : List Loc), z = (i : Int) → i ≤ 23 → f2 = dsJoin f g i → 23 - i < fu → lv_has ls 3 [(0, .ref h0), (1, .ref h1), (2, .int (iI (z)))] → va_P D classes [(h0, .inr (4, [.ref a0])), (a0, .inl (k 1, 23, .inr (.inl (f2)))), (h1, .inr (4, [.ref a1])), (a1, .inl (k 1, 23, .inr (.inl (g))))] H → va_D (va_A [(h0, .inr (4, [.ref a0])), (a0, .inl (k 1, 23, .inr (.inl (f)))), (h1, .inr (4, [.ref a1])), (a1, .inl (k 1, 23, .inr (.inl (g))))] s.heap.size) [(h0, .inr (4, [.ref a0])), (a0, .inl (k 1, 23, .inr (.inl (f2)))), (h1, .inr (4, [.ref a1])), (a1, .inl (k 1, 23, .inr (.inl (g))))] → va_S (va_A [(h0, .inr (4, [.ref a0])), (a0, .inl (k 1, 23, .inr (.inl (f)))), (h1, .inr (4, [.ref a1])), (a1, .inl (k 1, 23, .inr (.inl (g))))] s.heap.size) s.heap H locs → W p l e rm_DS_join s m args below meth c H locs 0 0 Q (F0 m 2 ls []) := by
    intro fu
    induction fu with
    | zero => intro i z f2 ls H locs hz hi hf hmu; exact absurd hmu (Nat.not_lt_zero _)
    | succ fu ih2 =>
      intro i z f2 ls H locs hz hi hf hmu hl hP hD hS
      refine lv_iload_n hx hb d_DS_join_2 rfl (lv_at hl 2 rfl) ?_
      refine lv_aload_n hx hb d_DS_join_3 rfl (lv_at hl 0 rfl) ?_
      refine va_get (D := D) (ci := 4) (v := .ref a0) (C := R_DS) (T := F_DS) (N := 1) hx hb hts in_DS hown hK hP 0 rfl rfl 0 (by decide) (hts _ k_147) (fun _ h9 => h9) rfl d_DS_join_4 ?_
      refine va_alen (v := iI 23) hx hb hK hP 1 1 rfl rfl (by rfl) d_DS_join_7 ?_
      refine z_icmp_ge (tgt := 32) hx hb d_DS_join_8 (by decide) ⟨by omega, by omega⟩ ⟨by omega, by omega⟩ (fun h8 => ?_) (fun h8 => ?_)
      · have hi9 : i = 23 := by omega
        subst hi9
        subst hf
        exact ret _ _ _ 32 () d_DS_join_32 hS (trivial) (fun t ht _ => ⟨by rw [ht]; exact hP, hD⟩)
      · refine lv_aload_n hx hb d_DS_join_11 rfl (lv_at hl 0 rfl) ?_
        refine va_get (D := D) (ci := 4) (v := .ref a0) (C := R_DS) (T := F_DS) (N := 1) hx hb hts in_DS hown hK hP 0 rfl rfl 0 (by decide) (hts _ k_147) (fun _ h9 => h9) rfl d_DS_join_12 ?_
        refine lv_iload_n hx hb d_DS_join_15 rfl (lv_at hl 2 rfl) ?_
        refine lv_dup2_11 hx hb d_DS_join_16 rfl rfl ?_
        refine x_lald hx hb hK hP 1 1 rfl rfl (i) hz (by omega) (by omega) d_DS_join_17 ?_
        refine lv_aload_n hx hb d_DS_join_18 rfl (lv_at hl 1 rfl) ?_
        refine va_get (D := D) (ci := 4) (v := .ref a1) (C := R_DS) (T := F_DS) (N := 1) hx hb hts in_DS hown hK hP 2 rfl rfl 0 (by decide) (hts _ k_147) (fun _ h9 => h9) rfl d_DS_join_19 ?_
        refine lv_iload_n hx hb d_DS_join_22 rfl (lv_at hl 2 rfl) ?_
        refine x_lald hx hb hK hP 3 1 rfl rfl (i) hz (by omega) (by omega) d_DS_join_23 ?_
        refine lv_lor hx hb d_DS_join_24 ?_
        refine x_last hx hb hK hP hD hS 1 1 rfl rfl (i) hz (by omega) (by omega) d_DS_join_25 (fun H locs hP hD hS => ?_)
        have hP : va_P D classes [(h0, .inr (4, [.ref a0])), (a0, .inl (k 1, 23, .inr (.inl (vp_updL (f2) (i) ((f2 (i)) ||| (g (i))))))), (h1, .inr (4, [.ref a1])), (a1, .inl (k 1, 23, .inr (.inl (g))))] H := hP
        have hD : va_D (va_A [(h0, .inr (4, [.ref a0])), (a0, .inl (k 1, 23, .inr (.inl (f)))), (h1, .inr (4, [.ref a1])), (a1, .inl (k 1, 23, .inr (.inl (g))))] s.heap.size) [(h0, .inr (4, [.ref a0])), (a0, .inl (k 1, 23, .inr (.inl (vp_updL (f2) (i) ((f2 (i)) ||| (g (i))))))), (h1, .inr (4, [.ref a1])), (a1, .inl (k 1, 23, .inr (.inl (g))))] := hD
        refine z_iinc (k := 2) (a := z) (lv' := [(2, .int (iI (z + 1))), (0, .ref h0), (1, .ref h1)]) hx hb d_DS_join_26 hl rfl (by decide) rfl (fun ls hl => ?_)
        refine lv_goto (tgt := 2) hx hb d_DS_join_29 (by decide) ?_
        exact ih2 (i + 1) (z + 1) (vp_updL f2 (i) ((f2 (i)) ||| (g (i)))) ls H locs (by omega) (by omega) (by rw [hf]; exact dsJoin_s f g i) (by omega) (lv_sub hl [1, 2, 0] rfl) hP hD hS
  exact L2 (_) (0) (0) (f) ls s.heap [] (by omega) (by omega) (by exact (dsJoin_0 f g).symm) (Nat.lt_succ_self _) (lv_sub hl [1, 2, 0] rfl) hP hD hS

set_option maxHeartbeats 4000000 in
set_option maxRecDepth 100000 in
theorem c_DS_keep (l : Launch) (D : va_G) (k : Nat → ClassId) (sz : Nat) (h0 a0 h1 a1 : Nat) (f : Nat → Int64) (g : Nat → Int64) (b : Bool) : Met l y_DS_keep wd_DS_keep rm_DS_keep (va_Pc [.ref h0, .ref h1, .int (bI (b))] (PRW D k [(h0, .inr (4, [.ref a0])), (a0, .inl (k 1, 23, .inr (.inl (f)))), (h1, .inr (4, [.ref a1])), (a1, .inl (k 1, 23, .inr (.inl (g))))] sz)) (va_Qv (fun u : Unit => True) (fun _ t => BRW D [(h0, .inr (4, [.ref a0])), (a0, .inl (k 1, 23, .inr (.inl (f)))), (h1, .inr (4, [.ref a1])), (a1, .inl (k 1, 23, .inr (.inl (g))))] sz [(h0, .inr (4, [.ref a0])), (a0, .inl (k 1, 23, .inr (.inl (dsKeep f g b 23)))), (h1, .inr (4, [.ref a1])), (a1, .inl (k 1, 23, .inr (.inl (g))))] t) (va_A [(h0, .inr (4, [.ref a0])), (a0, .inl (k 1, 23, .inr (.inl (f)))), (h1, .inr (4, [.ref a1])), (a1, .inl (k 1, 23, .inr (.inl (g))))] sz)) 0 0 (va_A [(h0, .inr (4, [.ref a0])), (a0, .inl (k 1, 23, .inr (.inl (f)))), (h1, .inr (4, [.ref a1])), (a1, .inl (k 1, 23, .inr (.inl (g))))] sz) := by
  refine e_v (by decide) rfl (Nat.le_of_ble_eq_true rfl) ?_
  intro p e s m args below meth c Q ls hx hb hml hown hts hpre hl hin ret
  obtain ⟨hsz, hP, hK, hD0, hX⟩ := hpre
  subst hsz
  have hD := hD0.self (sz := s.heap.size)
  have hA : ∀ q : Nat, s.heap.size ≤ q → (va_A [(h0, .inr (4, [.ref a0])), (a0, .inl (k 1, 23, .inr (.inl (f)))), (h1, .inr (4, [.ref a1])), (a1, .inl (k 1, 23, .inr (.inl (g))))] s.heap.size) q := fun q h => Or.inr h
  have hS : va_S (va_A [(h0, .inr (4, [.ref a0])), (a0, .inl (k 1, 23, .inr (.inl (f)))), (h1, .inr (4, [.ref a1])), (a1, .inl (k 1, 23, .inr (.inl (g))))] s.heap.size) s.heap s.heap [] := va_S.rf
  have hl : lv_has ls 4 [(0, .ref h0), (1, .ref h1), (2, .int (bI (b)))] := hl
  refine z_iconst hx hb d_DS_keep_0 ?_
  refine lv_istore_n (lv' := [(3, .int (iI (0))), (0, .ref h0), (1, .ref h1), (2, .int (bI (b)))]) hx hb d_DS_keep_1 rfl hl (by decide) rfl (fun ls hl => ?_)
  have L2 : ∀ (fu : Nat) (i : Nat) (z : Int) (f2 : Nat → Int64) (ls : Array Slot) (H : Heap) (locs : List Loc), z = (i : Int) → i ≤ 23 → f2 = dsKeep f g b i → 23 - i < fu → lv_has ls 4 [(0, .ref h0), (1, .ref h1), (2, .int (bI (b))), (3, .int (iI (z)))] → va_P D classes [(h0, .inr (4, [.ref a0])), (a0, .inl (k 1, 23, .inr (.inl (f2)))), (h1, .inr (4, [.ref a1])), (a1, .inl (k 1, 23, .inr (.inl (g))))] H → va_D (va_A [(h0, .inr (4, [.ref a0])), (a0, .inl (k 1, 23, .inr (.inl (f)))), (h1, .inr (4, [.ref a1])), (a1, .inl (k 1, 23, .inr (.inl (g))))] s.heap.size) [(h0, .inr (4, [.ref a0])), (a0, .inl (k 1, 23, .inr (.inl (f2)))), (h1, .inr (4, [.ref a1])), (a1, .inl (k 1, 23, .inr (.inl (g))))] → va_S (va_A [(h0, .inr (4, [.ref a0])), (a0, .inl (k 1, 23, .inr (.inl (f)))), (h1, .inr (4, [.ref a1])), (a1, .inl (k 1, 23, .inr (.inl (g))))] s.heap.size) s.heap H locs → W p l e rm_DS_keep s m args below meth c H locs 0 0 Q (F0 m 2 ls []) := by
    intro fu
    induction fu with
    | zero => intro i z f2 ls H locs hz hi hf hmu; exact absurd hmu (Nat.not_lt_zero _)
    | succ fu ih2 =>
      intro i z f2 ls H locs hz hi hf hmu hl hP hD hS
      refine lv_iload_n hx hb d_DS_keep_2 rfl (lv_at hl 3 rfl) ?_
      refine lv_aload_n hx hb d_DS_keep_3 rfl (lv_at hl 0 rfl) ?_
      refine va_get (D := D) (ci := 4) (v := .ref a0) (C := R_DS) (T := F_DS) (N := 1) hx hb hts in_DS hown hK hP 0 rfl rfl 0 (by decide) (hts _ k_147) (fun _ h9 => h9) rfl d_DS_keep_4 ?_
      refine va_alen (v := iI 23) hx hb hK hP 1 1 rfl rfl (by rfl) d_DS_keep_7 ?_
      refine z_icmp_ge (tgt := 49) hx hb d_DS_keep_8 (by decide) ⟨by omega, by omega⟩ ⟨by omega, by omega⟩ (fun h8 => ?_) (fun h8 => ?_)
      · have hi9 : i = 23 := by omega
        subst hi9
        subst hf
        exact ret _ _ _ 49 () d_DS_keep_49 hS (trivial) (fun t ht _ => ⟨by rw [ht]; exact hP, hD⟩)
      · refine lv_aload_n hx hb d_DS_keep_11 rfl (lv_at hl 0 rfl) ?_
        refine va_get (D := D) (ci := 4) (v := .ref a0) (C := R_DS) (T := F_DS) (N := 1) hx hb hts in_DS hown hK hP 0 rfl rfl 0 (by decide) (hts _ k_147) (fun _ h9 => h9) rfl d_DS_keep_12 ?_
        refine lv_iload_n hx hb d_DS_keep_15 rfl (lv_at hl 3 rfl) ?_
        refine lv_dup2_11 hx hb d_DS_keep_16 rfl rfl ?_
        refine x_lald hx hb hK hP 1 1 rfl rfl (i) hz (by omega) (by omega) d_DS_keep_17 ?_
        refine lv_iload_n hx hb d_DS_keep_18 rfl (lv_at hl 2 rfl) ?_
        have J19_1 : W p l e rm_DS_keep s m args below meth c H locs 0 0 Q (F0 m 41 ls [.long (ngL b (g (i))), .long (f2 (i)), .int (iI (z)), .ref a0]) := by
          refine lv_land hx hb d_DS_keep_41 ?_
          refine x_last hx hb hK hP hD hS 1 1 rfl rfl (i) hz (by omega) (by omega) d_DS_keep_42 (fun H locs hP hD hS => ?_)
          have hP : va_P D classes [(h0, .inr (4, [.ref a0])), (a0, .inl (k 1, 23, .inr (.inl (vp_updL (f2) (i) ((f2 (i)) &&& (ngL b (g (i)))))))), (h1, .inr (4, [.ref a1])), (a1, .inl (k 1, 23, .inr (.inl (g))))] H := hP
          have hD : va_D (va_A [(h0, .inr (4, [.ref a0])), (a0, .inl (k 1, 23, .inr (.inl (f)))), (h1, .inr (4, [.ref a1])), (a1, .inl (k 1, 23, .inr (.inl (g))))] s.heap.size) [(h0, .inr (4, [.ref a0])), (a0, .inl (k 1, 23, .inr (.inl (vp_updL (f2) (i) ((f2 (i)) &&& (ngL b (g (i)))))))), (h1, .inr (4, [.ref a1])), (a1, .inl (k 1, 23, .inr (.inl (g))))] := hD
          refine z_iinc (k := 3) (a := z) (lv' := [(3, .int (iI (z + 1))), (0, .ref h0), (1, .ref h1), (2, .int (bI (b)))]) hx hb d_DS_keep_43 hl rfl (by decide) rfl (fun ls hl => ?_)
          refine lv_goto (tgt := 2) hx hb d_DS_keep_46 (by decide) ?_
          exact ih2 (i + 1) (z + 1) (vp_updL f2 (i) ((f2 (i)) &&& (ngL b (g (i))))) ls H locs (by omega) (by omega) (by rw [hf]; exact dsKeep_s f g b i) (by omega) (lv_sub hl [1, 2, 3, 0] rfl) hP hD hS
        refine b_if_eq (tgt := 35) hx hb d_DS_keep_19 (by decide) (fun h19 => ?_) (fun h19 => ?_)
        · refine lv_aload_n hx hb d_DS_keep_35 rfl (lv_at hl 1 rfl) ?_
          refine va_get (D := D) (ci := 4) (v := .ref a1) (C := R_DS) (T := F_DS) (N := 1) hx hb hts in_DS hown hK hP 2 rfl rfl 0 (by decide) (hts _ k_147) (fun _ h9 => h9) rfl d_DS_keep_36 ?_
          refine lv_iload_n hx hb d_DS_keep_39 rfl (lv_at hl 3 rfl) ?_
          refine x_lald hx hb hK hP 3 1 rfl rfl (i) hz (by omega) (by omega) d_DS_keep_40 ?_
          exact z_topl (show g (i) = ngL b (g (i)) from (by rw [h19]; rfl)) J19_1
        · refine lv_aload_n hx hb d_DS_keep_22 rfl (lv_at hl 1 rfl) ?_
          refine va_get (D := D) (ci := 4) (v := .ref a1) (C := R_DS) (T := F_DS) (N := 1) hx hb hts in_DS hown hK hP 2 rfl rfl 0 (by decide) (hts _ k_147) (fun _ h9 => h9) rfl d_DS_keep_23 ?_
          refine lv_iload_n hx hb d_DS_keep_26 rfl (lv_at hl 3 rfl) ?_
          refine x_lald hx hb hK hP 3 1 rfl rfl (i) hz (by omega) (by omega) d_DS_keep_27 ?_
          refine W.ldc2 (v := -1) hx hb hown (hts _ k_440) rfl d_DS_keep_28 ?_
          refine W.eq (g2 := F0 m 31 ls (.long (-1) :: [.long (g (i)), .long (f2 (i)), .int (iI (z)), .ref a0])) rfl ?_
          refine lv_lxor hx hb d_DS_keep_31 ?_
          refine lv_goto (tgt := 41) hx hb d_DS_keep_32 (by decide) ?_
          exact z_topl (show (g (i)) ^^^ ((-1 : Int64)) = ngL b (g (i)) from (by rw [h19]; rfl)) J19_1
  exact L2 (_) (0) (0) (f) ls s.heap [] (by omega) (by omega) (by exact (dsKeep_0 f g b).symm) (Nat.lt_succ_self _) (lv_sub hl [1, 2, 3, 0] rfl) hP hD hS

set_option maxHeartbeats 4000000 in
set_option maxRecDepth 100000 in
theorem c_CN_get (l : Launch) (D : va_G) (k : Nat → ClassId) (h0 g0 r0 r1 r2 r3 : Nat) (m0 : Nat → Int64) (m1 : Nat → Int64) (m2 : Nat → Int64) (m3 : Nat → Int64) (d : Nat) (q : Nat) (hd : d < 1461) (hq : q < 64) : Met l y_CN_get wd_CN_get rm_CN_get (va_Pc [.ref h0, .int (iI ((d : Int))), .int (iI ((q : Int)))] (PRO D k [(h0, .inr (3, [.ref g0])), (g0, .inl (k 4, 4, .inr (.inr (.inr (.inr (rws r0 r1 r2 r3)))))), (r0, .inl (k 1, 1461, .inr (.inl (m0)))), (r1, .inl (k 1, 1461, .inr (.inl (m1)))), (r2, .inl (k 1, 1461, .inr (.inl (m2)))), (r3, .inl (k 1, 1461, .inr (.inl (m3))))])) (QRi (fun r : Int32 => r = (iI (cnGet (m0 d) (m1 d) (m2 d) (m3 d) q)))) 0 0 nA := by
  refine r_i (by decide) rfl (Nat.le_of_ble_eq_true rfl) ?_
  intro p e s m args below meth c Q ls hx hb hml hown hts hpre hl ret
  obtain ⟨hP, hK, hX⟩ := hpre
  have hS : va_S nA s.heap s.heap [] := va_S.rf
  have hl : lv_has ls 5 [(0, .ref h0), (1, .int (iI ((d : Int)))), (2, .int (iI ((q : Int))))] := hl
  refine z_iconst hx hb d_CN_get_0 ?_
  refine lv_istore_n (lv' := [(3, .int (iI (0))), (0, .ref h0), (1, .int (iI ((d : Int)))), (2, .int (iI ((q : Int))))]) hx hb d_CN_get_1 rfl hl (by decide) rfl (fun ls hl => ?_)
  refine z_iconst hx hb d_CN_get_2 ?_
  refine lv_istore (lv' := [(4, .int (iI (0))), (3, .int (iI (0))), (0, .ref h0), (1, .int (iI ((d : Int)))), (2, .int (iI ((q : Int))))]) hx hb d_CN_get_3 hl (by decide) rfl (fun ls hl => ?_)
  refine lv_iload hx hb d_CN_get_5 (lv_at hl 0 rfl) ?_
  refine z_iconst hx hb d_CN_get_7 ?_
  refine z_icmp_ge (tgt := 37) hx hb d_CN_get_8 (by decide) ⟨by omega, by omega⟩ ⟨by omega, by omega⟩ (fun h8 => absurd h8 (by decide)) (fun h8 => ?_)
  refine lv_iload_n hx hb d_CN_get_11 rfl (lv_at hl 1 rfl) ?_
  refine lv_aload_n hx hb d_CN_get_12 rfl (lv_at hl 2 rfl) ?_
  refine va_get (D := D) (ci := 3) (v := .ref g0) (C := R_CN) (T := F_CN) (N := 1) hx hb hts in_CN hown hK hP 0 rfl rfl 0 (by decide) (hts _ k_220) (fun _ h9 => h9) rfl d_CN_get_13 ?_
  refine lv_iload hx hb d_CN_get_16 (lv_at hl 0 rfl) ?_
  refine x_aald hx hb hK hP 1 4 rfl rfl rfl (0) rfl (by decide) (by decide) (v := r0) rfl d_CN_get_18 ?_
  refine lv_iload_n hx hb d_CN_get_19 rfl (lv_at hl 3 rfl) ?_
  refine x_lald hx hb hK hP 2 1 rfl rfl (d) rfl hd (by omega) d_CN_get_20 ?_
  refine lv_iload_n hx hb d_CN_get_21 rfl (lv_at hl 4 rfl) ?_
  refine lv_lushr hx hb d_CN_get_22 rfl ?_
  refine lv_lconst (v := 1) hx hb d_CN_get_23 (by decide) ?_
  refine lv_land hx hb d_CN_get_24 ?_
  refine lv_l2i hx hb d_CN_get_25 rfl ?_
  refine lv_iload hx hb d_CN_get_26 (lv_at hl 0 rfl) ?_
  refine lv_ishl hx hb d_CN_get_28 ?_
  refine lv_ior hx hb d_CN_get_29 ?_
  refine lv_istore_n (lv' := [(3, .int ((iI (0)) ||| ((((((m0 (d)).toUInt64 >>> ((iI ((q : Int))).toInt64.toUInt64 &&& Int64.toUInt64 63)).toInt64) &&& ((1 : Int64))).toInt32) <<< ((iI (0)) &&& 31)))), (4, .int (iI (0))), (0, .ref h0), (1, .int (iI ((d : Int)))), (2, .int (iI ((q : Int))))]) hx hb d_CN_get_30 rfl hl (by decide) rfl (fun ls hl => ?_)
  refine z_iinc (k := 1) (a := 0) (lv' := [(4, .int (iI (1))), (3, .int ((iI (0)) ||| ((((((m0 (d)).toUInt64 >>> ((iI ((q : Int))).toInt64.toUInt64 &&& Int64.toUInt64 63)).toInt64) &&& ((1 : Int64))).toInt32) <<< ((iI (0)) &&& 31)))), (0, .ref h0), (1, .int (iI ((d : Int)))), (2, .int (iI ((q : Int))))]) hx hb d_CN_get_31 hl rfl (by decide) rfl (fun ls hl => ?_)
  refine lv_goto (tgt := 5) hx hb d_CN_get_34 (by decide) ?_
  refine lv_iload hx hb d_CN_get_5 (lv_at hl 0 rfl) ?_
  refine z_iconst hx hb d_CN_get_7 ?_
  refine z_icmp_ge (tgt := 37) hx hb d_CN_get_8 (by decide) ⟨by omega, by omega⟩ ⟨by omega, by omega⟩ (fun h8 => absurd h8 (by decide)) (fun h8 => ?_)
  refine lv_iload_n hx hb d_CN_get_11 rfl (lv_at hl 1 rfl) ?_
  refine lv_aload_n hx hb d_CN_get_12 rfl (lv_at hl 2 rfl) ?_
  refine va_get (D := D) (ci := 3) (v := .ref g0) (C := R_CN) (T := F_CN) (N := 1) hx hb hts in_CN hown hK hP 0 rfl rfl 0 (by decide) (hts _ k_220) (fun _ h9 => h9) rfl d_CN_get_13 ?_
  refine lv_iload hx hb d_CN_get_16 (lv_at hl 0 rfl) ?_
  refine x_aald hx hb hK hP 1 4 rfl rfl rfl (1) rfl (by decide) (by decide) (v := r1) rfl d_CN_get_18 ?_
  refine lv_iload_n hx hb d_CN_get_19 rfl (lv_at hl 3 rfl) ?_
  refine x_lald hx hb hK hP 3 1 rfl rfl (d) rfl hd (by omega) d_CN_get_20 ?_
  refine lv_iload_n hx hb d_CN_get_21 rfl (lv_at hl 4 rfl) ?_
  refine lv_lushr hx hb d_CN_get_22 rfl ?_
  refine lv_lconst (v := 1) hx hb d_CN_get_23 (by decide) ?_
  refine lv_land hx hb d_CN_get_24 ?_
  refine lv_l2i hx hb d_CN_get_25 rfl ?_
  refine lv_iload hx hb d_CN_get_26 (lv_at hl 0 rfl) ?_
  refine lv_ishl hx hb d_CN_get_28 ?_
  refine lv_ior hx hb d_CN_get_29 ?_
  refine lv_istore_n (lv' := [(3, .int (((iI (0)) ||| ((((((m0 (d)).toUInt64 >>> ((iI ((q : Int))).toInt64.toUInt64 &&& Int64.toUInt64 63)).toInt64) &&& ((1 : Int64))).toInt32) <<< ((iI (0)) &&& 31))) ||| ((((((m1 (d)).toUInt64 >>> ((iI ((q : Int))).toInt64.toUInt64 &&& Int64.toUInt64 63)).toInt64) &&& ((1 : Int64))).toInt32) <<< ((iI (1)) &&& 31)))), (4, .int (iI (1))), (0, .ref h0), (1, .int (iI ((d : Int)))), (2, .int (iI ((q : Int))))]) hx hb d_CN_get_30 rfl hl (by decide) rfl (fun ls hl => ?_)
  refine z_iinc (k := 1) (a := 1) (lv' := [(4, .int (iI (2))), (3, .int (((iI (0)) ||| ((((((m0 (d)).toUInt64 >>> ((iI ((q : Int))).toInt64.toUInt64 &&& Int64.toUInt64 63)).toInt64) &&& ((1 : Int64))).toInt32) <<< ((iI (0)) &&& 31))) ||| ((((((m1 (d)).toUInt64 >>> ((iI ((q : Int))).toInt64.toUInt64 &&& Int64.toUInt64 63)).toInt64) &&& ((1 : Int64))).toInt32) <<< ((iI (1)) &&& 31)))), (0, .ref h0), (1, .int (iI ((d : Int)))), (2, .int (iI ((q : Int))))]) hx hb d_CN_get_31 hl rfl (by decide) rfl (fun ls hl => ?_)
  refine lv_goto (tgt := 5) hx hb d_CN_get_34 (by decide) ?_
  refine lv_iload hx hb d_CN_get_5 (lv_at hl 0 rfl) ?_
  refine z_iconst hx hb d_CN_get_7 ?_
  refine z_icmp_ge (tgt := 37) hx hb d_CN_get_8 (by decide) ⟨by omega, by omega⟩ ⟨by omega, by omega⟩ (fun h8 => absurd h8 (by decide)) (fun h8 => ?_)
  refine lv_iload_n hx hb d_CN_get_11 rfl (lv_at hl 1 rfl) ?_
  refine lv_aload_n hx hb d_CN_get_12 rfl (lv_at hl 2 rfl) ?_
  refine va_get (D := D) (ci := 3) (v := .ref g0) (C := R_CN) (T := F_CN) (N := 1) hx hb hts in_CN hown hK hP 0 rfl rfl 0 (by decide) (hts _ k_220) (fun _ h9 => h9) rfl d_CN_get_13 ?_
  refine lv_iload hx hb d_CN_get_16 (lv_at hl 0 rfl) ?_
  refine x_aald hx hb hK hP 1 4 rfl rfl rfl (2) rfl (by decide) (by decide) (v := r2) rfl d_CN_get_18 ?_
  refine lv_iload_n hx hb d_CN_get_19 rfl (lv_at hl 3 rfl) ?_
  refine x_lald hx hb hK hP 4 1 rfl rfl (d) rfl hd (by omega) d_CN_get_20 ?_
  refine lv_iload_n hx hb d_CN_get_21 rfl (lv_at hl 4 rfl) ?_
  refine lv_lushr hx hb d_CN_get_22 rfl ?_
  refine lv_lconst (v := 1) hx hb d_CN_get_23 (by decide) ?_
  refine lv_land hx hb d_CN_get_24 ?_
  refine lv_l2i hx hb d_CN_get_25 rfl ?_
  refine lv_iload hx hb d_CN_get_26 (lv_at hl 0 rfl) ?_
  refine lv_ishl hx hb d_CN_get_28 ?_
  refine lv_ior hx hb d_CN_get_29 ?_
  refine lv_istore_n (lv' := [(3, .int ((((iI (0)) ||| ((((((m0 (d)).toUInt64 >>> ((iI ((q : Int))).toInt64.toUInt64 &&& Int64.toUInt64 63)).toInt64) &&& ((1 : Int64))).toInt32) <<< ((iI (0)) &&& 31))) ||| ((((((m1 (d)).toUInt64 >>> ((iI ((q : Int))).toInt64.toUInt64 &&& Int64.toUInt64 63)).toInt64) &&& ((1 : Int64))).toInt32) <<< ((iI (1)) &&& 31))) ||| ((((((m2 (d)).toUInt64 >>> ((iI ((q : Int))).toInt64.toUInt64 &&& Int64.toUInt64 63)).toInt64) &&& ((1 : Int64))).toInt32) <<< ((iI (2)) &&& 31)))), (4, .int (iI (2))), (0, .ref h0), (1, .int (iI ((d : Int)))), (2, .int (iI ((q : Int))))]) hx hb d_CN_get_30 rfl hl (by decide) rfl (fun ls hl => ?_)
  refine z_iinc (k := 1) (a := 2) (lv' := [(4, .int (iI (3))), (3, .int ((((iI (0)) ||| ((((((m0 (d)).toUInt64 >>> ((iI ((q : Int))).toInt64.toUInt64 &&& Int64.toUInt64 63)).toInt64) &&& ((1 : Int64))).toInt32) <<< ((iI (0)) &&& 31))) ||| ((((((m1 (d)).toUInt64 >>> ((iI ((q : Int))).toInt64.toUInt64 &&& Int64.toUInt64 63)).toInt64) &&& ((1 : Int64))).toInt32) <<< ((iI (1)) &&& 31))) ||| ((((((m2 (d)).toUInt64 >>> ((iI ((q : Int))).toInt64.toUInt64 &&& Int64.toUInt64 63)).toInt64) &&& ((1 : Int64))).toInt32) <<< ((iI (2)) &&& 31)))), (0, .ref h0), (1, .int (iI ((d : Int)))), (2, .int (iI ((q : Int))))]) hx hb d_CN_get_31 hl rfl (by decide) rfl (fun ls hl => ?_)
  refine lv_goto (tgt := 5) hx hb d_CN_get_34 (by decide) ?_
  refine lv_iload hx hb d_CN_get_5 (lv_at hl 0 rfl) ?_
  refine z_iconst hx hb d_CN_get_7 ?_
  refine z_icmp_ge (tgt := 37) hx hb d_CN_get_8 (by decide) ⟨by omega, by omega⟩ ⟨by omega, by omega⟩ (fun h8 => absurd h8 (by decide)) (fun h8 => ?_)
  refine lv_iload_n hx hb d_CN_get_11 rfl (lv_at hl 1 rfl) ?_
  refine lv_aload_n hx hb d_CN_get_12 rfl (lv_at hl 2 rfl) ?_
  refine va_get (D := D) (ci := 3) (v := .ref g0) (C := R_CN) (T := F_CN) (N := 1) hx hb hts in_CN hown hK hP 0 rfl rfl 0 (by decide) (hts _ k_220) (fun _ h9 => h9) rfl d_CN_get_13 ?_
  refine lv_iload hx hb d_CN_get_16 (lv_at hl 0 rfl) ?_
  refine x_aald hx hb hK hP 1 4 rfl rfl rfl (3) rfl (by decide) (by decide) (v := r3) rfl d_CN_get_18 ?_
  refine lv_iload_n hx hb d_CN_get_19 rfl (lv_at hl 3 rfl) ?_
  refine x_lald hx hb hK hP 5 1 rfl rfl (d) rfl hd (by omega) d_CN_get_20 ?_
  refine lv_iload_n hx hb d_CN_get_21 rfl (lv_at hl 4 rfl) ?_
  refine lv_lushr hx hb d_CN_get_22 rfl ?_
  refine lv_lconst (v := 1) hx hb d_CN_get_23 (by decide) ?_
  refine lv_land hx hb d_CN_get_24 ?_
  refine lv_l2i hx hb d_CN_get_25 rfl ?_
  refine lv_iload hx hb d_CN_get_26 (lv_at hl 0 rfl) ?_
  refine lv_ishl hx hb d_CN_get_28 ?_
  refine lv_ior hx hb d_CN_get_29 ?_
  refine lv_istore_n (lv' := [(3, .int (((((iI (0)) ||| ((((((m0 (d)).toUInt64 >>> ((iI ((q : Int))).toInt64.toUInt64 &&& Int64.toUInt64 63)).toInt64) &&& ((1 : Int64))).toInt32) <<< ((iI (0)) &&& 31))) ||| ((((((m1 (d)).toUInt64 >>> ((iI ((q : Int))).toInt64.toUInt64 &&& Int64.toUInt64 63)).toInt64) &&& ((1 : Int64))).toInt32) <<< ((iI (1)) &&& 31))) ||| ((((((m2 (d)).toUInt64 >>> ((iI ((q : Int))).toInt64.toUInt64 &&& Int64.toUInt64 63)).toInt64) &&& ((1 : Int64))).toInt32) <<< ((iI (2)) &&& 31))) ||| ((((((m3 (d)).toUInt64 >>> ((iI ((q : Int))).toInt64.toUInt64 &&& Int64.toUInt64 63)).toInt64) &&& ((1 : Int64))).toInt32) <<< ((iI (3)) &&& 31)))), (4, .int (iI (3))), (0, .ref h0), (1, .int (iI ((d : Int)))), (2, .int (iI ((q : Int))))]) hx hb d_CN_get_30 rfl hl (by decide) rfl (fun ls hl => ?_)
  refine z_iinc (k := 1) (a := 3) (lv' := [(4, .int (iI (4))), (3, .int (((((iI (0)) ||| ((((((m0 (d)).toUInt64 >>> ((iI ((q : Int))).toInt64.toUInt64 &&& Int64.toUInt64 63)).toInt64) &&& ((1 : Int64))).toInt32) <<< ((iI (0)) &&& 31))) ||| ((((((m1 (d)).toUInt64 >>> ((iI ((q : Int))).toInt64.toUInt64 &&& Int64.toUInt64 63)).toInt64) &&& ((1 : Int64))).toInt32) <<< ((iI (1)) &&& 31))) ||| ((((((m2 (d)).toUInt64 >>> ((iI ((q : Int))).toInt64.toUInt64 &&& Int64.toUInt64 63)).toInt64) &&& ((1 : Int64))).toInt32) <<< ((iI (2)) &&& 31))) ||| ((((((m3 (d)).toUInt64 >>> ((iI ((q : Int))).toInt64.toUInt64 &&& Int64.toUInt64 63)).toInt64) &&& ((1 : Int64))).toInt32) <<< ((iI (3)) &&& 31)))), (0, .ref h0), (1, .int (iI ((d : Int)))), (2, .int (iI ((q : Int))))]) hx hb d_CN_get_31 hl rfl (by decide) rfl (fun ls hl => ?_)
  refine lv_goto (tgt := 5) hx hb d_CN_get_34 (by decide) ?_
  refine lv_iload hx hb d_CN_get_5 (lv_at hl 0 rfl) ?_
  refine z_iconst hx hb d_CN_get_7 ?_
  refine z_icmp_ge (tgt := 37) hx hb d_CN_get_8 (by decide) ⟨by omega, by omega⟩ ⟨by omega, by omega⟩ (fun h8 => ?_) (fun h8 => absurd h8 (by decide))
  refine lv_iload_n hx hb d_CN_get_37 rfl (lv_at hl 1 rfl) ?_
  exact ret _ 38 (((((iI (0)) ||| ((((((m0 (d)).toUInt64 >>> ((iI ((q : Int))).toInt64.toUInt64 &&& Int64.toUInt64 63)).toInt64) &&& ((1 : Int64))).toInt32) <<< ((iI (0)) &&& 31))) ||| ((((((m1 (d)).toUInt64 >>> ((iI ((q : Int))).toInt64.toUInt64 &&& Int64.toUInt64 63)).toInt64) &&& ((1 : Int64))).toInt32) <<< ((iI (1)) &&& 31))) ||| ((((((m2 (d)).toUInt64 >>> ((iI ((q : Int))).toInt64.toUInt64 &&& Int64.toUInt64 63)).toInt64) &&& ((1 : Int64))).toInt32) <<< ((iI (2)) &&& 31))) ||| ((((((m3 (d)).toUInt64 >>> ((iI ((q : Int))).toInt64.toUInt64 &&& Int64.toUInt64 63)).toInt64) &&& ((1 : Int64))).toInt32) <<< ((iI (3)) &&& 31))) d_CN_get_38 (cn_get_raw (m0 d) (m1 d) (m2 d) (m3 d) q hq)

set_option maxHeartbeats 4000000 in
set_option maxRecDepth 100000 in
theorem c_CN_cellsWith (l : Launch) (D : va_G) (k : Nat → ClassId) (h0 g0 r0 r1 r2 r3 : Nat) (m0 : Nat → Int64) (m1 : Nat → Int64) (m2 : Nat → Int64) (m3 : Nat → Int64) (d : Nat) (n : Nat) (hd : d < 1461) (hn : n < 16) : Met l y_CN_cellsWith wd_CN_cellsWith rm_CN_cellsWith (va_Pc [.ref h0, .int (iI ((d : Int))), .int (iI ((n : Int)))] (PRO D k [(h0, .inr (3, [.ref g0])), (g0, .inl (k 4, 4, .inr (.inr (.inr (.inr (rws r0 r1 r2 r3)))))), (r0, .inl (k 1, 1461, .inr (.inl (m0)))), (r1, .inl (k 1, 1461, .inr (.inl (m1)))), (r2, .inl (k 1, 1461, .inr (.inl (m2)))), (r3, .inl (k 1, 1461, .inr (.inl (m3))))])) (QRl (fun r : Int64 => r = (cnWith (m0 d) (m1 d) (m2 d) (m3 d) n))) 0 0 nA := by
  refine r_l (by decide) rfl (Nat.le_of_ble_eq_true rfl) ?_
  intro p e s m args below meth c Q ls hx hb hml hown hts hpre hl ret
  obtain ⟨hP, hK, hX⟩ := hpre
  have hS : va_S nA s.heap s.heap [] := va_S.rf
  have hl : lv_has ls 6 [(0, .ref h0), (1, .int (iI ((d : Int)))), (2, .int (iI ((n : Int))))] := hl
  refine W.ldc2 (v := 281474976710655) hx hb hown (hts _ k_637) rfl d_CN_cellsWith_0 ?_
  refine W.eq (g2 := F0 m 3 ls (.long (281474976710655) :: [])) rfl ?_
  refine lv_lstore_n (lv' := [(3, .long ((281474976710655 : Int64))), (0, .ref h0), (1, .int (iI ((d : Int)))), (2, .int (iI ((n : Int))))]) hx hb d_CN_cellsWith_3 rfl hl (by decide) rfl (fun ls hl => ?_)
  refine z_iconst hx hb d_CN_cellsWith_4 ?_
  refine lv_istore (lv' := [(5, .int (iI (0))), (3, .long ((281474976710655 : Int64))), (0, .ref h0), (1, .int (iI ((d : Int)))), (2, .int (iI ((n : Int))))]) hx hb d_CN_cellsWith_5 hl (by decide) rfl (fun ls hl => ?_)
  refine lv_iload hx hb d_CN_cellsWith_7 (lv_at hl 0 rfl) ?_
  refine z_iconst hx hb d_CN_cellsWith_9 ?_
  refine z_icmp_ge (tgt := 56) hx hb d_CN_cellsWith_10 (by decide) ⟨by omega, by omega⟩ ⟨by omega, by omega⟩ (fun h10 => absurd h10 (by decide)) (fun h10 => ?_)
  refine lv_lload_n hx hb d_CN_cellsWith_13 rfl (lv_at hl 1 rfl) ?_
  refine lv_iload_n hx hb d_CN_cellsWith_14 rfl (lv_at hl 4 rfl) ?_
  refine lv_iload hx hb d_CN_cellsWith_15 (lv_at hl 0 rfl) ?_
  refine lv_ishr hx hb d_CN_cellsWith_17 ?_
  refine z_iconst hx hb d_CN_cellsWith_18 ?_
  refine lv_iand hx hb d_CN_cellsWith_19 ?_
  refine z_top (show (((iI ((n : Int))) >>> ((iI (0)) &&& 31)) &&& (iI (1))) = (iI (((n / 2 ^ 0 % 2 : Nat) : Int))) from (iI_bit n 0 0 (by decide) (by omega))) ?_
  have J20_1 : W p l e rm_CN_cellsWith s m args below meth c s.heap [] 0 0 Q (F0 m 48 ls [.long (pk n 0 (m0 (d))), .long ((281474976710655 : Int64))]) := by
    refine lv_land hx hb d_CN_cellsWith_48 ?_
    refine lv_lstore_n (lv' := [(3, .long (((281474976710655 : Int64)) &&& (pk n 0 (m0 (d))))), (5, .int (iI (0))), (0, .ref h0), (1, .int (iI ((d : Int)))), (2, .int (iI ((n : Int))))]) hx hb d_CN_cellsWith_49 rfl hl (by decide) rfl (fun ls hl => ?_)
    refine z_iinc (k := 1) (a := 0) (lv' := [(5, .int (iI (1))), (3, .long (((281474976710655 : Int64)) &&& (pk n 0 (m0 (d))))), (0, .ref h0), (1, .int (iI ((d : Int)))), (2, .int (iI ((n : Int))))]) hx hb d_CN_cellsWith_50 hl rfl (by decide) rfl (fun ls hl => ?_)
    refine lv_goto (tgt := 7) hx hb d_CN_cellsWith_53 (by decide) ?_
    refine lv_iload hx hb d_CN_cellsWith_7 (lv_at hl 0 rfl) ?_
    refine z_iconst hx hb d_CN_cellsWith_9 ?_
    refine z_icmp_ge (tgt := 56) hx hb d_CN_cellsWith_10 (by decide) ⟨by omega, by omega⟩ ⟨by omega, by omega⟩ (fun h10 => absurd h10 (by decide)) (fun h10 => ?_)
    refine lv_lload_n hx hb d_CN_cellsWith_13 rfl (lv_at hl 1 rfl) ?_
    refine lv_iload_n hx hb d_CN_cellsWith_14 rfl (lv_at hl 4 rfl) ?_
    refine lv_iload hx hb d_CN_cellsWith_15 (lv_at hl 0 rfl) ?_
    refine lv_ishr hx hb d_CN_cellsWith_17 ?_
    refine z_iconst hx hb d_CN_cellsWith_18 ?_
    refine lv_iand hx hb d_CN_cellsWith_19 ?_
    refine z_top (show (((iI ((n : Int))) >>> ((iI (1)) &&& 31)) &&& (iI (1))) = (iI (((n / 2 ^ 1 % 2 : Nat) : Int))) from (iI_bit n 1 1 (by decide) (by omega))) ?_
    have J20_2 : W p l e rm_CN_cellsWith s m args below meth c s.heap [] 0 0 Q (F0 m 48 ls [.long (pk n 1 (m1 (d))), .long (((281474976710655 : Int64)) &&& (pk n 0 (m0 (d))))]) := by
      refine lv_land hx hb d_CN_cellsWith_48 ?_
      refine lv_lstore_n (lv' := [(3, .long ((((281474976710655 : Int64)) &&& (pk n 0 (m0 (d)))) &&& (pk n 1 (m1 (d))))), (5, .int (iI (1))), (0, .ref h0), (1, .int (iI ((d : Int)))), (2, .int (iI ((n : Int))))]) hx hb d_CN_cellsWith_49 rfl hl (by decide) rfl (fun ls hl => ?_)
      refine z_iinc (k := 1) (a := 1) (lv' := [(5, .int (iI (2))), (3, .long ((((281474976710655 : Int64)) &&& (pk n 0 (m0 (d)))) &&& (pk n 1 (m1 (d))))), (0, .ref h0), (1, .int (iI ((d : Int)))), (2, .int (iI ((n : Int))))]) hx hb d_CN_cellsWith_50 hl rfl (by decide) rfl (fun ls hl => ?_)
      refine lv_goto (tgt := 7) hx hb d_CN_cellsWith_53 (by decide) ?_
      refine lv_iload hx hb d_CN_cellsWith_7 (lv_at hl 0 rfl) ?_
      refine z_iconst hx hb d_CN_cellsWith_9 ?_
      refine z_icmp_ge (tgt := 56) hx hb d_CN_cellsWith_10 (by decide) ⟨by omega, by omega⟩ ⟨by omega, by omega⟩ (fun h10 => absurd h10 (by decide)) (fun h10 => ?_)
      refine lv_lload_n hx hb d_CN_cellsWith_13 rfl (lv_at hl 1 rfl) ?_
      refine lv_iload_n hx hb d_CN_cellsWith_14 rfl (lv_at hl 4 rfl) ?_
      refine lv_iload hx hb d_CN_cellsWith_15 (lv_at hl 0 rfl) ?_
      refine lv_ishr hx hb d_CN_cellsWith_17 ?_
      refine z_iconst hx hb d_CN_cellsWith_18 ?_
      refine lv_iand hx hb d_CN_cellsWith_19 ?_
      refine z_top (show (((iI ((n : Int))) >>> ((iI (2)) &&& 31)) &&& (iI (1))) = (iI (((n / 2 ^ 2 % 2 : Nat) : Int))) from (iI_bit n 2 2 (by decide) (by omega))) ?_
      have J20_3 : W p l e rm_CN_cellsWith s m args below meth c s.heap [] 0 0 Q (F0 m 48 ls [.long (pk n 2 (m2 (d))), .long ((((281474976710655 : Int64)) &&& (pk n 0 (m0 (d)))) &&& (pk n 1 (m1 (d))))]) := by
        refine lv_land hx hb d_CN_cellsWith_48 ?_
        refine lv_lstore_n (lv' := [(3, .long (((((281474976710655 : Int64)) &&& (pk n 0 (m0 (d)))) &&& (pk n 1 (m1 (d)))) &&& (pk n 2 (m2 (d))))), (5, .int (iI (2))), (0, .ref h0), (1, .int (iI ((d : Int)))), (2, .int (iI ((n : Int))))]) hx hb d_CN_cellsWith_49 rfl hl (by decide) rfl (fun ls hl => ?_)
        refine z_iinc (k := 1) (a := 2) (lv' := [(5, .int (iI (3))), (3, .long (((((281474976710655 : Int64)) &&& (pk n 0 (m0 (d)))) &&& (pk n 1 (m1 (d)))) &&& (pk n 2 (m2 (d))))), (0, .ref h0), (1, .int (iI ((d : Int)))), (2, .int (iI ((n : Int))))]) hx hb d_CN_cellsWith_50 hl rfl (by decide) rfl (fun ls hl => ?_)
        refine lv_goto (tgt := 7) hx hb d_CN_cellsWith_53 (by decide) ?_
        refine lv_iload hx hb d_CN_cellsWith_7 (lv_at hl 0 rfl) ?_
        refine z_iconst hx hb d_CN_cellsWith_9 ?_
        refine z_icmp_ge (tgt := 56) hx hb d_CN_cellsWith_10 (by decide) ⟨by omega, by omega⟩ ⟨by omega, by omega⟩ (fun h10 => absurd h10 (by decide)) (fun h10 => ?_)
        refine lv_lload_n hx hb d_CN_cellsWith_13 rfl (lv_at hl 1 rfl) ?_
        refine lv_iload_n hx hb d_CN_cellsWith_14 rfl (lv_at hl 4 rfl) ?_
        refine lv_iload hx hb d_CN_cellsWith_15 (lv_at hl 0 rfl) ?_
        refine lv_ishr hx hb d_CN_cellsWith_17 ?_
        refine z_iconst hx hb d_CN_cellsWith_18 ?_
        refine lv_iand hx hb d_CN_cellsWith_19 ?_
        refine z_top (show (((iI ((n : Int))) >>> ((iI (3)) &&& 31)) &&& (iI (1))) = (iI (((n / 2 ^ 3 % 2 : Nat) : Int))) from (iI_bit n 3 3 (by decide) (by omega))) ?_
        have J20_4 : W p l e rm_CN_cellsWith s m args below meth c s.heap [] 0 0 Q (F0 m 48 ls [.long (pk n 3 (m3 (d))), .long (((((281474976710655 : Int64)) &&& (pk n 0 (m0 (d)))) &&& (pk n 1 (m1 (d)))) &&& (pk n 2 (m2 (d))))]) := by
          refine lv_land hx hb d_CN_cellsWith_48 ?_
          refine lv_lstore_n (lv' := [(3, .long ((((((281474976710655 : Int64)) &&& (pk n 0 (m0 (d)))) &&& (pk n 1 (m1 (d)))) &&& (pk n 2 (m2 (d)))) &&& (pk n 3 (m3 (d))))), (5, .int (iI (3))), (0, .ref h0), (1, .int (iI ((d : Int)))), (2, .int (iI ((n : Int))))]) hx hb d_CN_cellsWith_49 rfl hl (by decide) rfl (fun ls hl => ?_)
          refine z_iinc (k := 1) (a := 3) (lv' := [(5, .int (iI (4))), (3, .long ((((((281474976710655 : Int64)) &&& (pk n 0 (m0 (d)))) &&& (pk n 1 (m1 (d)))) &&& (pk n 2 (m2 (d)))) &&& (pk n 3 (m3 (d))))), (0, .ref h0), (1, .int (iI ((d : Int)))), (2, .int (iI ((n : Int))))]) hx hb d_CN_cellsWith_50 hl rfl (by decide) rfl (fun ls hl => ?_)
          refine lv_goto (tgt := 7) hx hb d_CN_cellsWith_53 (by decide) ?_
          refine lv_iload hx hb d_CN_cellsWith_7 (lv_at hl 0 rfl) ?_
          refine z_iconst hx hb d_CN_cellsWith_9 ?_
          refine z_icmp_ge (tgt := 56) hx hb d_CN_cellsWith_10 (by decide) ⟨by omega, by omega⟩ ⟨by omega, by omega⟩ (fun h10 => ?_) (fun h10 => absurd h10 (by decide))
          refine lv_lload_n hx hb d_CN_cellsWith_56 rfl (lv_at hl 1 rfl) ?_
          exact ret _ 57 ((((((281474976710655 : Int64)) &&& (pk n 0 (m0 (d)))) &&& (pk n 1 (m1 (d)))) &&& (pk n 2 (m2 (d)))) &&& (pk n 3 (m3 (d)))) d_CN_cellsWith_57 (rfl)
        refine z_if_eq (tgt := 35) hx hb d_CN_cellsWith_20 (by decide) ⟨by omega, by omega⟩ (fun h20 => ?_) (fun h20 => ?_)
        · refine lv_aload_n hx hb d_CN_cellsWith_35 rfl (lv_at hl 2 rfl) ?_
          refine va_get (D := D) (ci := 3) (v := .ref g0) (C := R_CN) (T := F_CN) (N := 1) hx hb hts in_CN hown hK hP 0 rfl rfl 0 (by decide) (hts _ k_220) (fun _ h9 => h9) rfl d_CN_cellsWith_36 ?_
          refine lv_iload hx hb d_CN_cellsWith_39 (lv_at hl 0 rfl) ?_
          refine x_aald hx hb hK hP 1 4 rfl rfl rfl (3) rfl (by decide) (by decide) (v := r3) rfl d_CN_cellsWith_41 ?_
          refine lv_iload_n hx hb d_CN_cellsWith_42 rfl (lv_at hl 3 rfl) ?_
          refine x_lald hx hb hK hP 5 1 rfl rfl (d) rfl hd (by omega) d_CN_cellsWith_43 ?_
          refine W.ldc2 (v := -1) hx hb hown (hts _ k_560) rfl d_CN_cellsWith_44 ?_
          refine W.eq (g2 := F0 m 47 ls (.long (-1) :: [.long (m3 (d)), .long (((((281474976710655 : Int64)) &&& (pk n 0 (m0 (d)))) &&& (pk n 1 (m1 (d)))) &&& (pk n 2 (m2 (d))))])) rfl ?_
          refine lv_lxor hx hb d_CN_cellsWith_47 ?_
          exact z_topl (show (m3 (d)) ^^^ ((-1 : Int64)) = pk n 3 (m3 (d)) from (by first | exact (pk_t h20).symm | exact (pk_f h20).symm)) J20_4
        · refine lv_aload_n hx hb d_CN_cellsWith_23 rfl (lv_at hl 2 rfl) ?_
          refine va_get (D := D) (ci := 3) (v := .ref g0) (C := R_CN) (T := F_CN) (N := 1) hx hb hts in_CN hown hK hP 0 rfl rfl 0 (by decide) (hts _ k_220) (fun _ h9 => h9) rfl d_CN_cellsWith_24 ?_
          refine lv_iload hx hb d_CN_cellsWith_27 (lv_at hl 0 rfl) ?_
          refine x_aald hx hb hK hP 1 4 rfl rfl rfl (3) rfl (by decide) (by decide) (v := r3) rfl d_CN_cellsWith_29 ?_
          refine lv_iload_n hx hb d_CN_cellsWith_30 rfl (lv_at hl 3 rfl) ?_
          refine x_lald hx hb hK hP 5 1 rfl rfl (d) rfl hd (by omega) d_CN_cellsWith_31 ?_
          refine lv_goto (tgt := 48) hx hb d_CN_cellsWith_32 (by decide) ?_
          exact z_topl (show m3 (d) = pk n 3 (m3 (d)) from (by first | exact (pk_t h20).symm | exact (pk_f h20).symm)) J20_4
      refine z_if_eq (tgt := 35) hx hb d_CN_cellsWith_20 (by decide) ⟨by omega, by omega⟩ (fun h20 => ?_) (fun h20 => ?_)
      · refine lv_aload_n hx hb d_CN_cellsWith_35 rfl (lv_at hl 2 rfl) ?_
        refine va_get (D := D) (ci := 3) (v := .ref g0) (C := R_CN) (T := F_CN) (N := 1) hx hb hts in_CN hown hK hP 0 rfl rfl 0 (by decide) (hts _ k_220) (fun _ h9 => h9) rfl d_CN_cellsWith_36 ?_
        refine lv_iload hx hb d_CN_cellsWith_39 (lv_at hl 0 rfl) ?_
        refine x_aald hx hb hK hP 1 4 rfl rfl rfl (2) rfl (by decide) (by decide) (v := r2) rfl d_CN_cellsWith_41 ?_
        refine lv_iload_n hx hb d_CN_cellsWith_42 rfl (lv_at hl 3 rfl) ?_
        refine x_lald hx hb hK hP 4 1 rfl rfl (d) rfl hd (by omega) d_CN_cellsWith_43 ?_
        refine W.ldc2 (v := -1) hx hb hown (hts _ k_560) rfl d_CN_cellsWith_44 ?_
        refine W.eq (g2 := F0 m 47 ls (.long (-1) :: [.long (m2 (d)), .long ((((281474976710655 : Int64)) &&& (pk n 0 (m0 (d)))) &&& (pk n 1 (m1 (d))))])) rfl ?_
        refine lv_lxor hx hb d_CN_cellsWith_47 ?_
        exact z_topl (show (m2 (d)) ^^^ ((-1 : Int64)) = pk n 2 (m2 (d)) from (by first | exact (pk_t h20).symm | exact (pk_f h20).symm)) J20_3
      · refine lv_aload_n hx hb d_CN_cellsWith_23 rfl (lv_at hl 2 rfl) ?_
        refine va_get (D := D) (ci := 3) (v := .ref g0) (C := R_CN) (T := F_CN) (N := 1) hx hb hts in_CN hown hK hP 0 rfl rfl 0 (by decide) (hts _ k_220) (fun _ h9 => h9) rfl d_CN_cellsWith_24 ?_
        refine lv_iload hx hb d_CN_cellsWith_27 (lv_at hl 0 rfl) ?_
        refine x_aald hx hb hK hP 1 4 rfl rfl rfl (2) rfl (by decide) (by decide) (v := r2) rfl d_CN_cellsWith_29 ?_
        refine lv_iload_n hx hb d_CN_cellsWith_30 rfl (lv_at hl 3 rfl) ?_
        refine x_lald hx hb hK hP 4 1 rfl rfl (d) rfl hd (by omega) d_CN_cellsWith_31 ?_
        refine lv_goto (tgt := 48) hx hb d_CN_cellsWith_32 (by decide) ?_
        exact z_topl (show m2 (d) = pk n 2 (m2 (d)) from (by first | exact (pk_t h20).symm | exact (pk_f h20).symm)) J20_3
    refine z_if_eq (tgt := 35) hx hb d_CN_cellsWith_20 (by decide) ⟨by omega, by omega⟩ (fun h20 => ?_) (fun h20 => ?_)
    · refine lv_aload_n hx hb d_CN_cellsWith_35 rfl (lv_at hl 2 rfl) ?_
      refine va_get (D := D) (ci := 3) (v := .ref g0) (C := R_CN) (T := F_CN) (N := 1) hx hb hts in_CN hown hK hP 0 rfl rfl 0 (by decide) (hts _ k_220) (fun _ h9 => h9) rfl d_CN_cellsWith_36 ?_
      refine lv_iload hx hb d_CN_cellsWith_39 (lv_at hl 0 rfl) ?_
      refine x_aald hx hb hK hP 1 4 rfl rfl rfl (1) rfl (by decide) (by decide) (v := r1) rfl d_CN_cellsWith_41 ?_
      refine lv_iload_n hx hb d_CN_cellsWith_42 rfl (lv_at hl 3 rfl) ?_
      refine x_lald hx hb hK hP 3 1 rfl rfl (d) rfl hd (by omega) d_CN_cellsWith_43 ?_
      refine W.ldc2 (v := -1) hx hb hown (hts _ k_560) rfl d_CN_cellsWith_44 ?_
      refine W.eq (g2 := F0 m 47 ls (.long (-1) :: [.long (m1 (d)), .long (((281474976710655 : Int64)) &&& (pk n 0 (m0 (d))))])) rfl ?_
      refine lv_lxor hx hb d_CN_cellsWith_47 ?_
      exact z_topl (show (m1 (d)) ^^^ ((-1 : Int64)) = pk n 1 (m1 (d)) from (by first | exact (pk_t h20).symm | exact (pk_f h20).symm)) J20_2
    · refine lv_aload_n hx hb d_CN_cellsWith_23 rfl (lv_at hl 2 rfl) ?_
      refine va_get (D := D) (ci := 3) (v := .ref g0) (C := R_CN) (T := F_CN) (N := 1) hx hb hts in_CN hown hK hP 0 rfl rfl 0 (by decide) (hts _ k_220) (fun _ h9 => h9) rfl d_CN_cellsWith_24 ?_
      refine lv_iload hx hb d_CN_cellsWith_27 (lv_at hl 0 rfl) ?_
      refine x_aald hx hb hK hP 1 4 rfl rfl rfl (1) rfl (by decide) (by decide) (v := r1) rfl d_CN_cellsWith_29 ?_
      refine lv_iload_n hx hb d_CN_cellsWith_30 rfl (lv_at hl 3 rfl) ?_
      refine x_lald hx hb hK hP 3 1 rfl rfl (d) rfl hd (by omega) d_CN_cellsWith_31 ?_
      refine lv_goto (tgt := 48) hx hb d_CN_cellsWith_32 (by decide) ?_
      exact z_topl (show m1 (d) = pk n 1 (m1 (d)) from (by first | exact (pk_t h20).symm | exact (pk_f h20).symm)) J20_2
  refine z_if_eq (tgt := 35) hx hb d_CN_cellsWith_20 (by decide) ⟨by omega, by omega⟩ (fun h20 => ?_) (fun h20 => ?_)
  · refine lv_aload_n hx hb d_CN_cellsWith_35 rfl (lv_at hl 2 rfl) ?_
    refine va_get (D := D) (ci := 3) (v := .ref g0) (C := R_CN) (T := F_CN) (N := 1) hx hb hts in_CN hown hK hP 0 rfl rfl 0 (by decide) (hts _ k_220) (fun _ h9 => h9) rfl d_CN_cellsWith_36 ?_
    refine lv_iload hx hb d_CN_cellsWith_39 (lv_at hl 0 rfl) ?_
    refine x_aald hx hb hK hP 1 4 rfl rfl rfl (0) rfl (by decide) (by decide) (v := r0) rfl d_CN_cellsWith_41 ?_
    refine lv_iload_n hx hb d_CN_cellsWith_42 rfl (lv_at hl 3 rfl) ?_
    refine x_lald hx hb hK hP 2 1 rfl rfl (d) rfl hd (by omega) d_CN_cellsWith_43 ?_
    refine W.ldc2 (v := -1) hx hb hown (hts _ k_560) rfl d_CN_cellsWith_44 ?_
    refine W.eq (g2 := F0 m 47 ls (.long (-1) :: [.long (m0 (d)), .long ((281474976710655 : Int64))])) rfl ?_
    refine lv_lxor hx hb d_CN_cellsWith_47 ?_
    exact z_topl (show (m0 (d)) ^^^ ((-1 : Int64)) = pk n 0 (m0 (d)) from (by first | exact (pk_t h20).symm | exact (pk_f h20).symm)) J20_1
  · refine lv_aload_n hx hb d_CN_cellsWith_23 rfl (lv_at hl 2 rfl) ?_
    refine va_get (D := D) (ci := 3) (v := .ref g0) (C := R_CN) (T := F_CN) (N := 1) hx hb hts in_CN hown hK hP 0 rfl rfl 0 (by decide) (hts _ k_220) (fun _ h9 => h9) rfl d_CN_cellsWith_24 ?_
    refine lv_iload hx hb d_CN_cellsWith_27 (lv_at hl 0 rfl) ?_
    refine x_aald hx hb hK hP 1 4 rfl rfl rfl (0) rfl (by decide) (by decide) (v := r0) rfl d_CN_cellsWith_29 ?_
    refine lv_iload_n hx hb d_CN_cellsWith_30 rfl (lv_at hl 3 rfl) ?_
    refine x_lald hx hb hK hP 2 1 rfl rfl (d) rfl hd (by omega) d_CN_cellsWith_31 ?_
    refine lv_goto (tgt := 48) hx hb d_CN_cellsWith_32 (by decide) ?_
    exact z_topl (show m0 (d) = pk n 0 (m0 (d)) from (by first | exact (pk_t h20).symm | exact (pk_f h20).symm)) J20_1

set_option maxHeartbeats 4000000 in
set_option maxRecDepth 100000 in
theorem c_CN_cellsAboveZero (l : Launch) (D : va_G) (k : Nat → ClassId) (h0 g0 r0 r1 r2 r3 : Nat) (m0 : Nat → Int64) (m1 : Nat → Int64) (m2 : Nat → Int64) (m3 : Nat → Int64) (d : Nat) (hd : d < 1461) : Met l y_CN_cellsAboveZero wd_CN_cellsAboveZero rm_CN_cellsAboveZero (va_Pc [.ref h0, .int (iI ((d : Int)))] (PRO D k [(h0, .inr (3, [.ref g0])), (g0, .inl (k 4, 4, .inr (.inr (.inr (.inr (rws r0 r1 r2 r3)))))), (r0, .inl (k 1, 1461, .inr (.inl (m0)))), (r1, .inl (k 1, 1461, .inr (.inl (m1)))), (r2, .inl (k 1, 1461, .inr (.inl (m2)))), (r3, .inl (k 1, 1461, .inr (.inl (m3))))])) (QRl (fun r : Int64 => r = (cnAny (m0 d) (m1 d) (m2 d) (m3 d)))) 0 0 nA := by
  refine r_l (by decide) rfl (Nat.le_of_ble_eq_true rfl) ?_
  intro p e s m args below meth c Q ls hx hb hml hown hts hpre hl ret
  obtain ⟨hP, hK, hX⟩ := hpre
  have hS : va_S nA s.heap s.heap [] := va_S.rf
  have hl : lv_has ls 5 [(0, .ref h0), (1, .int (iI ((d : Int))))] := hl
  refine lv_lconst (v := 0) hx hb d_CN_cellsAboveZero_0 (by decide) ?_
  refine lv_lstore_n (lv' := [(2, .long ((0 : Int64))), (0, .ref h0), (1, .int (iI ((d : Int))))]) hx hb d_CN_cellsAboveZero_1 rfl hl (by decide) rfl (fun ls hl => ?_)
  refine z_iconst hx hb d_CN_cellsAboveZero_2 ?_
  refine lv_istore (lv' := [(4, .int (iI (0))), (2, .long ((0 : Int64))), (0, .ref h0), (1, .int (iI ((d : Int))))]) hx hb d_CN_cellsAboveZero_3 hl (by decide) rfl (fun ls hl => ?_)
  refine lv_iload hx hb d_CN_cellsAboveZero_5 (lv_at hl 0 rfl) ?_
  refine z_iconst hx hb d_CN_cellsAboveZero_7 ?_
  refine z_icmp_ge (tgt := 29) hx hb d_CN_cellsAboveZero_8 (by decide) ⟨by omega, by omega⟩ ⟨by omega, by omega⟩ (fun h8 => absurd h8 (by decide)) (fun h8 => ?_)
  refine lv_lload_n hx hb d_CN_cellsAboveZero_11 rfl (lv_at hl 1 rfl) ?_
  refine lv_aload_n hx hb d_CN_cellsAboveZero_12 rfl (lv_at hl 2 rfl) ?_
  refine va_get (D := D) (ci := 3) (v := .ref g0) (C := R_CN) (T := F_CN) (N := 1) hx hb hts in_CN hown hK hP 0 rfl rfl 0 (by decide) (hts _ k_220) (fun _ h9 => h9) rfl d_CN_cellsAboveZero_13 ?_
  refine lv_iload hx hb d_CN_cellsAboveZero_16 (lv_at hl 0 rfl) ?_
  refine x_aald hx hb hK hP 1 4 rfl rfl rfl (0) rfl (by decide) (by decide) (v := r0) rfl d_CN_cellsAboveZero_18 ?_
  refine lv_iload_n hx hb d_CN_cellsAboveZero_19 rfl (lv_at hl 3 rfl) ?_
  refine x_lald hx hb hK hP 2 1 rfl rfl (d) rfl hd (by omega) d_CN_cellsAboveZero_20 ?_
  refine lv_lor hx hb d_CN_cellsAboveZero_21 ?_
  refine lv_lstore_n (lv' := [(2, .long (((0 : Int64)) ||| (m0 (d)))), (4, .int (iI (0))), (0, .ref h0), (1, .int (iI ((d : Int))))]) hx hb d_CN_cellsAboveZero_22 rfl hl (by decide) rfl (fun ls hl => ?_)
  refine z_iinc (k := 1) (a := 0) (lv' := [(4, .int (iI (1))), (2, .long (((0 : Int64)) ||| (m0 (d)))), (0, .ref h0), (1, .int (iI ((d : Int))))]) hx hb d_CN_cellsAboveZero_23 hl rfl (by decide) rfl (fun ls hl => ?_)
  refine lv_goto (tgt := 5) hx hb d_CN_cellsAboveZero_26 (by decide) ?_
  refine lv_iload hx hb d_CN_cellsAboveZero_5 (lv_at hl 0 rfl) ?_
  refine z_iconst hx hb d_CN_cellsAboveZero_7 ?_
  refine z_icmp_ge (tgt := 29) hx hb d_CN_cellsAboveZero_8 (by decide) ⟨by omega, by omega⟩ ⟨by omega, by omega⟩ (fun h8 => absurd h8 (by decide)) (fun h8 => ?_)
  refine lv_lload_n hx hb d_CN_cellsAboveZero_11 rfl (lv_at hl 1 rfl) ?_
  refine lv_aload_n hx hb d_CN_cellsAboveZero_12 rfl (lv_at hl 2 rfl) ?_
  refine va_get (D := D) (ci := 3) (v := .ref g0) (C := R_CN) (T := F_CN) (N := 1) hx hb hts in_CN hown hK hP 0 rfl rfl 0 (by decide) (hts _ k_220) (fun _ h9 => h9) rfl d_CN_cellsAboveZero_13 ?_
  refine lv_iload hx hb d_CN_cellsAboveZero_16 (lv_at hl 0 rfl) ?_
  refine x_aald hx hb hK hP 1 4 rfl rfl rfl (1) rfl (by decide) (by decide) (v := r1) rfl d_CN_cellsAboveZero_18 ?_
  refine lv_iload_n hx hb d_CN_cellsAboveZero_19 rfl (lv_at hl 3 rfl) ?_
  refine x_lald hx hb hK hP 3 1 rfl rfl (d) rfl hd (by omega) d_CN_cellsAboveZero_20 ?_
  refine lv_lor hx hb d_CN_cellsAboveZero_21 ?_
  refine lv_lstore_n (lv' := [(2, .long ((((0 : Int64)) ||| (m0 (d))) ||| (m1 (d)))), (4, .int (iI (1))), (0, .ref h0), (1, .int (iI ((d : Int))))]) hx hb d_CN_cellsAboveZero_22 rfl hl (by decide) rfl (fun ls hl => ?_)
  refine z_iinc (k := 1) (a := 1) (lv' := [(4, .int (iI (2))), (2, .long ((((0 : Int64)) ||| (m0 (d))) ||| (m1 (d)))), (0, .ref h0), (1, .int (iI ((d : Int))))]) hx hb d_CN_cellsAboveZero_23 hl rfl (by decide) rfl (fun ls hl => ?_)
  refine lv_goto (tgt := 5) hx hb d_CN_cellsAboveZero_26 (by decide) ?_
  refine lv_iload hx hb d_CN_cellsAboveZero_5 (lv_at hl 0 rfl) ?_
  refine z_iconst hx hb d_CN_cellsAboveZero_7 ?_
  refine z_icmp_ge (tgt := 29) hx hb d_CN_cellsAboveZero_8 (by decide) ⟨by omega, by omega⟩ ⟨by omega, by omega⟩ (fun h8 => absurd h8 (by decide)) (fun h8 => ?_)
  refine lv_lload_n hx hb d_CN_cellsAboveZero_11 rfl (lv_at hl 1 rfl) ?_
  refine lv_aload_n hx hb d_CN_cellsAboveZero_12 rfl (lv_at hl 2 rfl) ?_
  refine va_get (D := D) (ci := 3) (v := .ref g0) (C := R_CN) (T := F_CN) (N := 1) hx hb hts in_CN hown hK hP 0 rfl rfl 0 (by decide) (hts _ k_220) (fun _ h9 => h9) rfl d_CN_cellsAboveZero_13 ?_
  refine lv_iload hx hb d_CN_cellsAboveZero_16 (lv_at hl 0 rfl) ?_
  refine x_aald hx hb hK hP 1 4 rfl rfl rfl (2) rfl (by decide) (by decide) (v := r2) rfl d_CN_cellsAboveZero_18 ?_
  refine lv_iload_n hx hb d_CN_cellsAboveZero_19 rfl (lv_at hl 3 rfl) ?_
  refine x_lald hx hb hK hP 4 1 rfl rfl (d) rfl hd (by omega) d_CN_cellsAboveZero_20 ?_
  refine lv_lor hx hb d_CN_cellsAboveZero_21 ?_
  refine lv_lstore_n (lv' := [(2, .long (((((0 : Int64)) ||| (m0 (d))) ||| (m1 (d))) ||| (m2 (d)))), (4, .int (iI (2))), (0, .ref h0), (1, .int (iI ((d : Int))))]) hx hb d_CN_cellsAboveZero_22 rfl hl (by decide) rfl (fun ls hl => ?_)
  refine z_iinc (k := 1) (a := 2) (lv' := [(4, .int (iI (3))), (2, .long (((((0 : Int64)) ||| (m0 (d))) ||| (m1 (d))) ||| (m2 (d)))), (0, .ref h0), (1, .int (iI ((d : Int))))]) hx hb d_CN_cellsAboveZero_23 hl rfl (by decide) rfl (fun ls hl => ?_)
  refine lv_goto (tgt := 5) hx hb d_CN_cellsAboveZero_26 (by decide) ?_
  refine lv_iload hx hb d_CN_cellsAboveZero_5 (lv_at hl 0 rfl) ?_
  refine z_iconst hx hb d_CN_cellsAboveZero_7 ?_
  refine z_icmp_ge (tgt := 29) hx hb d_CN_cellsAboveZero_8 (by decide) ⟨by omega, by omega⟩ ⟨by omega, by omega⟩ (fun h8 => absurd h8 (by decide)) (fun h8 => ?_)
  refine lv_lload_n hx hb d_CN_cellsAboveZero_11 rfl (lv_at hl 1 rfl) ?_
  refine lv_aload_n hx hb d_CN_cellsAboveZero_12 rfl (lv_at hl 2 rfl) ?_
  refine va_get (D := D) (ci := 3) (v := .ref g0) (C := R_CN) (T := F_CN) (N := 1) hx hb hts in_CN hown hK hP 0 rfl rfl 0 (by decide) (hts _ k_220) (fun _ h9 => h9) rfl d_CN_cellsAboveZero_13 ?_
  refine lv_iload hx hb d_CN_cellsAboveZero_16 (lv_at hl 0 rfl) ?_
  refine x_aald hx hb hK hP 1 4 rfl rfl rfl (3) rfl (by decide) (by decide) (v := r3) rfl d_CN_cellsAboveZero_18 ?_
  refine lv_iload_n hx hb d_CN_cellsAboveZero_19 rfl (lv_at hl 3 rfl) ?_
  refine x_lald hx hb hK hP 5 1 rfl rfl (d) rfl hd (by omega) d_CN_cellsAboveZero_20 ?_
  refine lv_lor hx hb d_CN_cellsAboveZero_21 ?_
  refine lv_lstore_n (lv' := [(2, .long ((((((0 : Int64)) ||| (m0 (d))) ||| (m1 (d))) ||| (m2 (d))) ||| (m3 (d)))), (4, .int (iI (3))), (0, .ref h0), (1, .int (iI ((d : Int))))]) hx hb d_CN_cellsAboveZero_22 rfl hl (by decide) rfl (fun ls hl => ?_)
  refine z_iinc (k := 1) (a := 3) (lv' := [(4, .int (iI (4))), (2, .long ((((((0 : Int64)) ||| (m0 (d))) ||| (m1 (d))) ||| (m2 (d))) ||| (m3 (d)))), (0, .ref h0), (1, .int (iI ((d : Int))))]) hx hb d_CN_cellsAboveZero_23 hl rfl (by decide) rfl (fun ls hl => ?_)
  refine lv_goto (tgt := 5) hx hb d_CN_cellsAboveZero_26 (by decide) ?_
  refine lv_iload hx hb d_CN_cellsAboveZero_5 (lv_at hl 0 rfl) ?_
  refine z_iconst hx hb d_CN_cellsAboveZero_7 ?_
  refine z_icmp_ge (tgt := 29) hx hb d_CN_cellsAboveZero_8 (by decide) ⟨by omega, by omega⟩ ⟨by omega, by omega⟩ (fun h8 => ?_) (fun h8 => absurd h8 (by decide))
  refine lv_lload_n hx hb d_CN_cellsAboveZero_29 rfl (lv_at hl 1 rfl) ?_
  exact ret _ 30 ((((((0 : Int64)) ||| (m0 (d))) ||| (m1 (d))) ||| (m2 (d))) ||| (m3 (d))) d_CN_cellsAboveZero_30 (rfl)

set_option maxHeartbeats 4000000 in
set_option maxRecDepth 100000 in
theorem c_CN_cellsUnlike (l : Launch) (D : va_G) (k : Nat → ClassId) (h0 g0 r0 r1 r2 r3 h1 g1 q0 q1 q2 q3 : Nat) (m0 : Nat → Int64) (m1 : Nat → Int64) (m2 : Nat → Int64) (m3 : Nat → Int64) (n0 : Nat → Int64) (n1 : Nat → Int64) (n2 : Nat → Int64) (n3 : Nat → Int64) (d : Nat) (hd : d < 1461) : Met l y_CN_cellsUnlike wd_CN_cellsUnlike rm_CN_cellsUnlike (va_Pc [.ref h0, .ref h1, .int (iI ((d : Int)))] (PRO D k [(h0, .inr (3, [.ref g0])), (g0, .inl (k 4, 4, .inr (.inr (.inr (.inr (rws r0 r1 r2 r3)))))), (r0, .inl (k 1, 1461, .inr (.inl (m0)))), (r1, .inl (k 1, 1461, .inr (.inl (m1)))), (r2, .inl (k 1, 1461, .inr (.inl (m2)))), (r3, .inl (k 1, 1461, .inr (.inl (m3)))), (h1, .inr (3, [.ref g1])), (g1, .inl (k 4, 4, .inr (.inr (.inr (.inr (rws q0 q1 q2 q3)))))), (q0, .inl (k 1, 1461, .inr (.inl (n0)))), (q1, .inl (k 1, 1461, .inr (.inl (n1)))), (q2, .inl (k 1, 1461, .inr (.inl (n2)))), (q3, .inl (k 1, 1461, .inr (.inl (n3))))])) (QRl (fun r : Int64 => r = (cnAny (m0 d ^^^ n0 d) (m1 d ^^^ n1 d) (m2 d ^^^ n2 d) (m3 d ^^^ n3 d)))) 0 0 nA := by
  refine r_l (by decide) rfl (Nat.le_of_ble_eq_true rfl) ?_
  intro p e s m args below meth c Q ls hx hb hml hown hts hpre hl ret
  obtain ⟨hP, hK, hX⟩ := hpre
  have hS : va_S nA s.heap s.heap [] := va_S.rf
  have hl : lv_has ls 6 [(0, .ref h0), (1, .ref h1), (2, .int (iI ((d : Int))))] := hl
  refine lv_lconst (v := 0) hx hb d_CN_cellsUnlike_0 (by decide) ?_
  refine lv_lstore_n (lv' := [(3, .long ((0 : Int64))), (0, .ref h0), (1, .ref h1), (2, .int (iI ((d : Int))))]) hx hb d_CN_cellsUnlike_1 rfl hl (by decide) rfl (fun ls hl => ?_)
  refine z_iconst hx hb d_CN_cellsUnlike_2 ?_
  refine lv_istore (lv' := [(5, .int (iI (0))), (3, .long ((0 : Int64))), (0, .ref h0), (1, .ref h1), (2, .int (iI ((d : Int))))]) hx hb d_CN_cellsUnlike_3 hl (by decide) rfl (fun ls hl => ?_)
  refine lv_iload hx hb d_CN_cellsUnlike_5 (lv_at hl 0 rfl) ?_
  refine z_iconst hx hb d_CN_cellsUnlike_7 ?_
  refine z_icmp_ge (tgt := 39) hx hb d_CN_cellsUnlike_8 (by decide) ⟨by omega, by omega⟩ ⟨by omega, by omega⟩ (fun h8 => absurd h8 (by decide)) (fun h8 => ?_)
  refine lv_lload_n hx hb d_CN_cellsUnlike_11 rfl (lv_at hl 1 rfl) ?_
  refine lv_aload_n hx hb d_CN_cellsUnlike_12 rfl (lv_at hl 2 rfl) ?_
  refine va_get (D := D) (ci := 3) (v := .ref g0) (C := R_CN) (T := F_CN) (N := 1) hx hb hts in_CN hown hK hP 0 rfl rfl 0 (by decide) (hts _ k_220) (fun _ h9 => h9) rfl d_CN_cellsUnlike_13 ?_
  refine lv_iload hx hb d_CN_cellsUnlike_16 (lv_at hl 0 rfl) ?_
  refine x_aald hx hb hK hP 1 4 rfl rfl rfl (0) rfl (by decide) (by decide) (v := r0) rfl d_CN_cellsUnlike_18 ?_
  refine lv_iload_n hx hb d_CN_cellsUnlike_19 rfl (lv_at hl 4 rfl) ?_
  refine x_lald hx hb hK hP 2 1 rfl rfl (d) rfl hd (by omega) d_CN_cellsUnlike_20 ?_
  refine lv_aload_n hx hb d_CN_cellsUnlike_21 rfl (lv_at hl 3 rfl) ?_
  refine va_get (D := D) (ci := 3) (v := .ref g1) (C := R_CN) (T := F_CN) (N := 1) hx hb hts in_CN hown hK hP 6 rfl rfl 0 (by decide) (hts _ k_220) (fun _ h9 => h9) rfl d_CN_cellsUnlike_22 ?_
  refine lv_iload hx hb d_CN_cellsUnlike_25 (lv_at hl 0 rfl) ?_
  refine x_aald hx hb hK hP 7 4 rfl rfl rfl (0) rfl (by decide) (by decide) (v := q0) rfl d_CN_cellsUnlike_27 ?_
  refine lv_iload_n hx hb d_CN_cellsUnlike_28 rfl (lv_at hl 4 rfl) ?_
  refine x_lald hx hb hK hP 8 1 rfl rfl (d) rfl hd (by omega) d_CN_cellsUnlike_29 ?_
  refine lv_lxor hx hb d_CN_cellsUnlike_30 ?_
  refine lv_lor hx hb d_CN_cellsUnlike_31 ?_
  refine lv_lstore_n (lv' := [(3, .long (((0 : Int64)) ||| ((m0 (d)) ^^^ (n0 (d))))), (5, .int (iI (0))), (0, .ref h0), (1, .ref h1), (2, .int (iI ((d : Int))))]) hx hb d_CN_cellsUnlike_32 rfl hl (by decide) rfl (fun ls hl => ?_)
  refine z_iinc (k := 1) (a := 0) (lv' := [(5, .int (iI (1))), (3, .long (((0 : Int64)) ||| ((m0 (d)) ^^^ (n0 (d))))), (0, .ref h0), (1, .ref h1), (2, .int (iI ((d : Int))))]) hx hb d_CN_cellsUnlike_33 hl rfl (by decide) rfl (fun ls hl => ?_)
  refine lv_goto (tgt := 5) hx hb d_CN_cellsUnlike_36 (by decide) ?_
  refine lv_iload hx hb d_CN_cellsUnlike_5 (lv_at hl 0 rfl) ?_
  refine z_iconst hx hb d_CN_cellsUnlike_7 ?_
  refine z_icmp_ge (tgt := 39) hx hb d_CN_cellsUnlike_8 (by decide) ⟨by omega, by omega⟩ ⟨by omega, by omega⟩ (fun h8 => absurd h8 (by decide)) (fun h8 => ?_)
  refine lv_lload_n hx hb d_CN_cellsUnlike_11 rfl (lv_at hl 1 rfl) ?_
  refine lv_aload_n hx hb d_CN_cellsUnlike_12 rfl (lv_at hl 2 rfl) ?_
  refine va_get (D := D) (ci := 3) (v := .ref g0) (C := R_CN) (T := F_CN) (N := 1) hx hb hts in_CN hown hK hP 0 rfl rfl 0 (by decide) (hts _ k_220) (fun _ h9 => h9) rfl d_CN_cellsUnlike_13 ?_
  refine lv_iload hx hb d_CN_cellsUnlike_16 (lv_at hl 0 rfl) ?_
  refine x_aald hx hb hK hP 1 4 rfl rfl rfl (1) rfl (by decide) (by decide) (v := r1) rfl d_CN_cellsUnlike_18 ?_
  refine lv_iload_n hx hb d_CN_cellsUnlike_19 rfl (lv_at hl 4 rfl) ?_
  refine x_lald hx hb hK hP 3 1 rfl rfl (d) rfl hd (by omega) d_CN_cellsUnlike_20 ?_
  refine lv_aload_n hx hb d_CN_cellsUnlike_21 rfl (lv_at hl 3 rfl) ?_
  refine va_get (D := D) (ci := 3) (v := .ref g1) (C := R_CN) (T := F_CN) (N := 1) hx hb hts in_CN hown hK hP 6 rfl rfl 0 (by decide) (hts _ k_220) (fun _ h9 => h9) rfl d_CN_cellsUnlike_22 ?_
  refine lv_iload hx hb d_CN_cellsUnlike_25 (lv_at hl 0 rfl) ?_
  refine x_aald hx hb hK hP 7 4 rfl rfl rfl (1) rfl (by decide) (by decide) (v := q1) rfl d_CN_cellsUnlike_27 ?_
  refine lv_iload_n hx hb d_CN_cellsUnlike_28 rfl (lv_at hl 4 rfl) ?_
  refine x_lald hx hb hK hP 9 1 rfl rfl (d) rfl hd (by omega) d_CN_cellsUnlike_29 ?_
  refine lv_lxor hx hb d_CN_cellsUnlike_30 ?_
  refine lv_lor hx hb d_CN_cellsUnlike_31 ?_
  refine lv_lstore_n (lv' := [(3, .long ((((0 : Int64)) ||| ((m0 (d)) ^^^ (n0 (d)))) ||| ((m1 (d)) ^^^ (n1 (d))))), (5, .int (iI (1))), (0, .ref h0), (1, .ref h1), (2, .int (iI ((d : Int))))]) hx hb d_CN_cellsUnlike_32 rfl hl (by decide) rfl (fun ls hl => ?_)
  refine z_iinc (k := 1) (a := 1) (lv' := [(5, .int (iI (2))), (3, .long ((((0 : Int64)) ||| ((m0 (d)) ^^^ (n0 (d)))) ||| ((m1 (d)) ^^^ (n1 (d))))), (0, .ref h0), (1, .ref h1), (2, .int (iI ((d : Int))))]) hx hb d_CN_cellsUnlike_33 hl rfl (by decide) rfl (fun ls hl => ?_)
  refine lv_goto (tgt := 5) hx hb d_CN_cellsUnlike_36 (by decide) ?_
  refine lv_iload hx hb d_CN_cellsUnlike_5 (lv_at hl 0 rfl) ?_
  refine z_iconst hx hb d_CN_cellsUnlike_7 ?_
  refine z_icmp_ge (tgt := 39) hx hb d_CN_cellsUnlike_8 (by decide) ⟨by omega, by omega⟩ ⟨by omega, by omega⟩ (fun h8 => absurd h8 (by decide)) (fun h8 => ?_)
  refine lv_lload_n hx hb d_CN_cellsUnlike_11 rfl (lv_at hl 1 rfl) ?_
  refine lv_aload_n hx hb d_CN_cellsUnlike_12 rfl (lv_at hl 2 rfl) ?_
  refine va_get (D := D) (ci := 3) (v := .ref g0) (C := R_CN) (T := F_CN) (N := 1) hx hb hts in_CN hown hK hP 0 rfl rfl 0 (by decide) (hts _ k_220) (fun _ h9 => h9) rfl d_CN_cellsUnlike_13 ?_
  refine lv_iload hx hb d_CN_cellsUnlike_16 (lv_at hl 0 rfl) ?_
  refine x_aald hx hb hK hP 1 4 rfl rfl rfl (2) rfl (by decide) (by decide) (v := r2) rfl d_CN_cellsUnlike_18 ?_
  refine lv_iload_n hx hb d_CN_cellsUnlike_19 rfl (lv_at hl 4 rfl) ?_
  refine x_lald hx hb hK hP 4 1 rfl rfl (d) rfl hd (by omega) d_CN_cellsUnlike_20 ?_
  refine lv_aload_n hx hb d_CN_cellsUnlike_21 rfl (lv_at hl 3 rfl) ?_
  refine va_get (D := D) (ci := 3) (v := .ref g1) (C := R_CN) (T := F_CN) (N := 1) hx hb hts in_CN hown hK hP 6 rfl rfl 0 (by decide) (hts _ k_220) (fun _ h9 => h9) rfl d_CN_cellsUnlike_22 ?_
  refine lv_iload hx hb d_CN_cellsUnlike_25 (lv_at hl 0 rfl) ?_
  refine x_aald hx hb hK hP 7 4 rfl rfl rfl (2) rfl (by decide) (by decide) (v := q2) rfl d_CN_cellsUnlike_27 ?_
  refine lv_iload_n hx hb d_CN_cellsUnlike_28 rfl (lv_at hl 4 rfl) ?_
  refine x_lald hx hb hK hP 10 1 rfl rfl (d) rfl hd (by omega) d_CN_cellsUnlike_29 ?_
  refine lv_lxor hx hb d_CN_cellsUnlike_30 ?_
  refine lv_lor hx hb d_CN_cellsUnlike_31 ?_
  refine lv_lstore_n (lv' := [(3, .long (((((0 : Int64)) ||| ((m0 (d)) ^^^ (n0 (d)))) ||| ((m1 (d)) ^^^ (n1 (d)))) ||| ((m2 (d)) ^^^ (n2 (d))))), (5, .int (iI (2))), (0, .ref h0), (1, .ref h1), (2, .int (iI ((d : Int))))]) hx hb d_CN_cellsUnlike_32 rfl hl (by decide) rfl (fun ls hl => ?_)
  refine z_iinc (k := 1) (a := 2) (lv' := [(5, .int (iI (3))), (3, .long (((((0 : Int64)) ||| ((m0 (d)) ^^^ (n0 (d)))) ||| ((m1 (d)) ^^^ (n1 (d)))) ||| ((m2 (d)) ^^^ (n2 (d))))), (0, .ref h0), (1, .ref h1), (2, .int (iI ((d : Int))))]) hx hb d_CN_cellsUnlike_33 hl rfl (by decide) rfl (fun ls hl => ?_)
  refine lv_goto (tgt := 5) hx hb d_CN_cellsUnlike_36 (by decide) ?_
  refine lv_iload hx hb d_CN_cellsUnlike_5 (lv_at hl 0 rfl) ?_
  refine z_iconst hx hb d_CN_cellsUnlike_7 ?_
  refine z_icmp_ge (tgt := 39) hx hb d_CN_cellsUnlike_8 (by decide) ⟨by omega, by omega⟩ ⟨by omega, by omega⟩ (fun h8 => absurd h8 (by decide)) (fun h8 => ?_)
  refine lv_lload_n hx hb d_CN_cellsUnlike_11 rfl (lv_at hl 1 rfl) ?_
  refine lv_aload_n hx hb d_CN_cellsUnlike_12 rfl (lv_at hl 2 rfl) ?_
  refine va_get (D := D) (ci := 3) (v := .ref g0) (C := R_CN) (T := F_CN) (N := 1) hx hb hts in_CN hown hK hP 0 rfl rfl 0 (by decide) (hts _ k_220) (fun _ h9 => h9) rfl d_CN_cellsUnlike_13 ?_
  refine lv_iload hx hb d_CN_cellsUnlike_16 (lv_at hl 0 rfl) ?_
  refine x_aald hx hb hK hP 1 4 rfl rfl rfl (3) rfl (by decide) (by decide) (v := r3) rfl d_CN_cellsUnlike_18 ?_
  refine lv_iload_n hx hb d_CN_cellsUnlike_19 rfl (lv_at hl 4 rfl) ?_
  refine x_lald hx hb hK hP 5 1 rfl rfl (d) rfl hd (by omega) d_CN_cellsUnlike_20 ?_
  refine lv_aload_n hx hb d_CN_cellsUnlike_21 rfl (lv_at hl 3 rfl) ?_
  refine va_get (D := D) (ci := 3) (v := .ref g1) (C := R_CN) (T := F_CN) (N := 1) hx hb hts in_CN hown hK hP 6 rfl rfl 0 (by decide) (hts _ k_220) (fun _ h9 => h9) rfl d_CN_cellsUnlike_22 ?_
  refine lv_iload hx hb d_CN_cellsUnlike_25 (lv_at hl 0 rfl) ?_
  refine x_aald hx hb hK hP 7 4 rfl rfl rfl (3) rfl (by decide) (by decide) (v := q3) rfl d_CN_cellsUnlike_27 ?_
  refine lv_iload_n hx hb d_CN_cellsUnlike_28 rfl (lv_at hl 4 rfl) ?_
  refine x_lald hx hb hK hP 11 1 rfl rfl (d) rfl hd (by omega) d_CN_cellsUnlike_29 ?_
  refine lv_lxor hx hb d_CN_cellsUnlike_30 ?_
  refine lv_lor hx hb d_CN_cellsUnlike_31 ?_
  refine lv_lstore_n (lv' := [(3, .long ((((((0 : Int64)) ||| ((m0 (d)) ^^^ (n0 (d)))) ||| ((m1 (d)) ^^^ (n1 (d)))) ||| ((m2 (d)) ^^^ (n2 (d)))) ||| ((m3 (d)) ^^^ (n3 (d))))), (5, .int (iI (3))), (0, .ref h0), (1, .ref h1), (2, .int (iI ((d : Int))))]) hx hb d_CN_cellsUnlike_32 rfl hl (by decide) rfl (fun ls hl => ?_)
  refine z_iinc (k := 1) (a := 3) (lv' := [(5, .int (iI (4))), (3, .long ((((((0 : Int64)) ||| ((m0 (d)) ^^^ (n0 (d)))) ||| ((m1 (d)) ^^^ (n1 (d)))) ||| ((m2 (d)) ^^^ (n2 (d)))) ||| ((m3 (d)) ^^^ (n3 (d))))), (0, .ref h0), (1, .ref h1), (2, .int (iI ((d : Int))))]) hx hb d_CN_cellsUnlike_33 hl rfl (by decide) rfl (fun ls hl => ?_)
  refine lv_goto (tgt := 5) hx hb d_CN_cellsUnlike_36 (by decide) ?_
  refine lv_iload hx hb d_CN_cellsUnlike_5 (lv_at hl 0 rfl) ?_
  refine z_iconst hx hb d_CN_cellsUnlike_7 ?_
  refine z_icmp_ge (tgt := 39) hx hb d_CN_cellsUnlike_8 (by decide) ⟨by omega, by omega⟩ ⟨by omega, by omega⟩ (fun h8 => ?_) (fun h8 => absurd h8 (by decide))
  refine lv_lload_n hx hb d_CN_cellsUnlike_39 rfl (lv_at hl 1 rfl) ?_
  exact ret _ 40 ((((((0 : Int64)) ||| ((m0 (d)) ^^^ (n0 (d)))) ||| ((m1 (d)) ^^^ (n1 (d)))) ||| ((m2 (d)) ^^^ (n2 (d)))) ||| ((m3 (d)) ^^^ (n3 (d)))) d_CN_cellsUnlike_40 (rfl)
