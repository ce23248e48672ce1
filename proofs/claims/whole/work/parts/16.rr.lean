theorem ite_P {α : Type} {c : Prop} [Decidable c] {P : α → Prop} {a b : α} (h1 : c → P a) (h2 : ¬ c → P b) : P (if c then a else b) := by
  by_cases h : c
  · rw [if_pos h]; exact h1 h
  · rw [if_neg h]; exact h2 h
def Pbd (n : Nat) (lo hi : Int) (q : Int × Int) : Prop := 0 ≤ q.2 ∧ q.2 ≤ (n : Int) ∧ -1 ≤ q.1 ∧ (q.1 = -1 ∨ (0 ≤ q.1 ∧ lo ≤ q.1 ∧ q.1 ≤ hi))

def tkF (tx : Nat → Int) (n : Nat) (pl : Int) (ch : Int) : Bool × Int := (if (n : Int) ≤ pl then (false, pl) else (if tx ((pl).toNat) = ch then (true, pl + 1) else (false, pl)))
set_option maxHeartbeats 4000000 in
set_option maxRecDepth 100000 in
theorem c_RR_take (l : Launch) (D : va_G) (k : Nat → ClassId) (sz : Nat) (h0 b0 g0 n0 e0 z0 t0 : Nat) (tx : Nat → Int) (n : Nat) (pl : Int) (fr : Int) (to1 : Int) (ch : Int) (hn : n ≤ 100) (hpl : 0 ≤ pl ∧ pl ≤ (n : Int)) (htx : ∀ j, 0 ≤ tx j ∧ tx j ≤ 65535) (hch : 0 ≤ ch ∧ ch ≤ 65535) : Met l y_RR_take wd_RR_take rm_RR_take (va_Pc [.ref h0, .int (iI (ch))] (PRW D k [(h0, .inr (6, [.ref b0, .ref g0, .ref n0, .ref e0, .ref z0, .ref t0, .int (iI ((n : Int))), .int (iI (pl)), .int (iI (fr)), .int (iI (to1))])), (t0, .inl (k 2, 100, .inl (aZ (tx))))] sz)) (va_Qi (fun (r : Int32) (u : Unit) => r = (bI ((tkF tx n pl ch).1))) (fun _ t => BRW D [(h0, .inr (6, [.ref b0, .ref g0, .ref n0, .ref e0, .ref z0, .ref t0, .int (iI ((n : Int))), .int (iI (pl)), .int (iI (fr)), .int (iI (to1))])), (t0, .inl (k 2, 100, .inl (aZ (tx))))] sz [(h0, .inr (6, [.ref b0, .ref g0, .ref n0, .ref e0, .ref z0, .ref t0, .int (iI ((n : Int))), .int (iI ((tkF tx n pl ch).2)), .int (iI (fr)), .int (iI (to1))])), (t0, .inl (k 2, 100, .inl (aZ (tx))))] t) (va_A [(h0, .inr (6, [.ref b0, .ref g0, .ref n0, .ref e0, .ref z0, .ref t0, .int (iI ((n : Int))), .int (iI (pl)), .int (iI (fr)), .int (iI (to1))])), (t0, .inl (k 2, 100, .inl (aZ (tx))))] sz)) 0 0 (va_A [(h0, .inr (6, [.ref b0, .ref g0, .ref n0, .ref e0, .ref z0, .ref t0, .int (iI ((n : Int))), .int (iI (pl)), .int (iI (fr)), .int (iI (to1))])), (t0, .inl (k 2, 100, .inl (aZ (tx))))] sz) := by
  refine e_z (by decide) rfl (Nat.le_of_ble_eq_true rfl) ?_
  intro p e s m args below meth c Q ls hx hb hml hown hts hpre hl ret
  obtain ⟨hsz, hP, hK, hD0, hX⟩ := hpre
  subst hsz
  have hD := hD0.self (sz := s.heap.size)
  have hA : ∀ q : Nat, s.heap.size ≤ q → (va_A [(h0, .inr (6, [.ref b0, .ref g0, .ref n0, .ref e0, .ref z0, .ref t0, .int (iI ((n : Int))), .int (iI (pl)), .int (iI (fr)), .int (iI (to1))])), (t0, .inl (k 2, 100, .inl (aZ (tx))))] s.heap.size) q := fun q h => Or.inr h
  have hS : va_S (va_A [(h0, .inr (6, [.ref b0, .ref g0, .ref n0, .ref e0, .ref z0, .ref t0, .int (iI ((n : Int))), .int (iI (pl)), .int (iI (fr)), .int (iI (to1))])), (t0, .inl (k 2, 100, .inl (aZ (tx))))] s.heap.size) s.heap s.heap [] := va_S.rf
  have hl : lv_has ls 2 [(0, .ref h0), (1, .int (iI (ch)))] := hl
  refine lv_aload_n hx hb d_RR_take_0 rfl (lv_at hl 0 rfl) ?_
  refine va_get (D := D) (ci := 6) (v := .int (iI (pl))) (C := R_RR) (T := F_RR) (N := 10) hx hb hts in_RR hown hK hP 0 rfl rfl 7 (by decide) (hts _ k_180) (fun _ h9 => h9) rfl d_RR_take_1 ?_
  refine lv_aload_n hx hb d_RR_take_4 rfl (lv_at hl 0 rfl) ?_
  refine va_get (D := D) (ci := 6) (v := .int (iI ((n : Int)))) (C := R_RR) (T := F_RR) (N := 10) hx hb hts in_RR hown hK hP 0 rfl rfl 6 (by decide) (hts _ k_179) (fun _ h9 => h9) rfl d_RR_take_5 ?_
  refine z_icmp_ge (tgt := 24) hx hb d_RR_take_8 (by decide) ⟨by omega, by omega⟩ ⟨by omega, by omega⟩ (fun h8 => ?_) (fun h8 => ?_)
  · refine z_iconst hx hb d_RR_take_24 ?_
    have e9 : tkF tx n pl ch = (false, pl) := by unfold tkF; rw [if_pos h8]
    exact ret _ _ _ 25 false () d_RR_take_25 hS ((congrArg (fun q9 => bI q9.1) e9).symm) (fun t ht _ => ⟨by rw [e9, ht]; exact hP, by rw [e9]; exact hD⟩)
  · refine lv_aload_n hx hb d_RR_take_11 rfl (lv_at hl 0 rfl) ?_
    refine va_get (D := D) (ci := 6) (v := .ref t0) (C := R_RR) (T := F_RR) (N := 10) hx hb hts in_RR hown hK hP 0 rfl rfl 5 (by decide) (hts _ k_178) (fun _ h9 => h9) rfl d_RR_take_12 ?_
    refine lv_aload_n hx hb d_RR_take_15 rfl (lv_at hl 0 rfl) ?_
    refine va_get (D := D) (ci := 6) (v := .int (iI (pl))) (C := R_RR) (T := F_RR) (N := 10) hx hb hts in_RR hown hK hP 0 rfl rfl 7 (by decide) (hts _ k_180) (fun _ h9 => h9) rfl d_RR_take_16 ?_
    refine x_cald hx hb hK hP 1 2 rfl rfl ((pl).toNat) (by omega) (by omega) (by omega) d_RR_take_19 ?_
    refine z_top (show _ = iI (tx ((pl).toNat)) from rfl) ?_
    have hbd1 := htx ((pl).toNat)
    refine lv_iload_n hx hb d_RR_take_20 rfl (lv_at hl 1 rfl) ?_
    refine z_icmp_eq (tgt := 26) hx hb d_RR_take_21 (by decide) ⟨by omega, by omega⟩ ⟨by omega, by omega⟩ (fun h21 => ?_) (fun h21 => ?_)
    · refine lv_aload_n hx hb d_RR_take_26 rfl (lv_at hl 0 rfl) ?_
      refine lv_dup hx hb d_RR_take_27 rfl ?_
      refine va_get (D := D) (ci := 6) (v := .int (iI (pl))) (C := R_RR) (T := F_RR) (N := 10) hx hb hts in_RR hown hK hP 0 rfl rfl 7 (by decide) (hts _ k_180) (fun _ h9 => h9) rfl d_RR_take_28 ?_
      refine z_iconst hx hb d_RR_take_31 ?_
      refine z_iadd hx hb d_RR_take_32 ?_
      refine va_put (D := D) (ci := 6) (v := .int (iI (pl + 1))) (ty := .int) (C := R_RR) (T := F_RR) (N := 10) hx hb hts in_RR t_RR t_RR_ok n_RR hown hK hP hD hS 0 rfl rfl 7 (by decide) (hts _ k_180) (fun _ h9 => h9) rfl (by decide +kernel) rfl rfl (Nat.le_of_ble_eq_true rfl) d_RR_take_33 (fun H locs hP hD hS => ?_)
      have hP : va_P D classes [(h0, .inr (6, [.ref b0, .ref g0, .ref n0, .ref e0, .ref z0, .ref t0, .int (iI ((n : Int))), .int (iI (pl + 1)), .int (iI (fr)), .int (iI (to1))])), (t0, .inl (k 2, 100, .inl (aZ (tx))))] H := hP
      have hD : va_D (va_A [(h0, .inr (6, [.ref b0, .ref g0, .ref n0, .ref e0, .ref z0, .ref t0, .int (iI ((n : Int))), .int (iI (pl)), .int (iI (fr)), .int (iI (to1))])), (t0, .inl (k 2, 100, .inl (aZ (tx))))] s.heap.size) [(h0, .inr (6, [.ref b0, .ref g0, .ref n0, .ref e0, .ref z0, .ref t0, .int (iI ((n : Int))), .int (iI (pl + 1)), .int (iI (fr)), .int (iI (to1))])), (t0, .inl (k 2, 100, .inl (aZ (tx))))] := hD
      refine z_iconst hx hb d_RR_take_36 ?_
      have e9 : tkF tx n pl ch = (true, pl + 1) := by unfold tkF; rw [if_neg h8, if_pos h21]
      exact ret _ _ _ 37 true () d_RR_take_37 hS ((congrArg (fun q9 => bI q9.1) e9).symm) (fun t ht _ => ⟨by rw [e9, ht]; exact hP, by rw [e9]; exact hD⟩)
    · refine z_iconst hx hb d_RR_take_24 ?_
      have e9 : tkF tx n pl ch = (false, pl) := by unfold tkF; rw [if_neg h8, if_neg h21]
      exact ret _ _ _ 25 false () d_RR_take_25 hS ((congrArg (fun q9 => bI q9.1) e9).symm) (fun t ht _ => ⟨by rw [e9, ht]; exact hP, by rw [e9]; exact hD⟩)

theorem tkF_bd {tx : Nat → Int} {n : Nat} {pl ch : Int} (hn : n ≤ 100) (h : 0 ≤ pl ∧ pl ≤ (n : Int)) : 0 ≤ (tkF tx n pl ch).2 ∧ (tkF tx n pl ch).2 ≤ (n : Int) := by
  unfold tkF
  split
  · exact h
  · split
    · constructor <;> simp <;> omega
    · exact h

def tn1 (tx : Nat → Int) (n : Nat) (pl : Int) (lo : Int) (hi : Int) : Int × Int := (if (n : Int) ≤ pl then (-1, pl) else (if tx ((pl).toNat) < 48 then (-1, pl) else (if tx ((pl).toNat) ≤ 57 then (if hi < 0 + (((tx ((pl).toNat)) - 48) * 1) then (-1, pl) else (if lo ≤ ((0 + (((tx ((pl).toNat)) - 48) * 1)) + 1) - 1 then (0 + (((tx ((pl).toNat)) - 48) * 1), pl + 1) else (-1, pl))) else (-1, pl))))
set_option maxHeartbeats 4000000 in
set_option maxRecDepth 100000 in
theorem c_RR_takeNumber_1 (l : Launch) (D : va_G) (k : Nat → ClassId) (sz : Nat) (h0 b0 g0 n0 e0 z0 t0 : Nat) (tx : Nat → Int) (n : Nat) (pl : Int) (fr : Int) (to1 : Int) (lo : Int) (hi : Int) (hn : n ≤ 100) (hpl : 0 ≤ pl ∧ pl ≤ (n : Int)) (htx : ∀ j, 0 ≤ tx j ∧ tx j ≤ 65535) (hlo : -5 ≤ lo ∧ lo ≤ 10000) (hhi : -5 ≤ hi ∧ hi ≤ 10000) : Met l y_RR_takeNumber wd_RR_takeNumber rm_RR_takeNumber (va_Pc [.ref h0, .int (iI (1)), .int (iI (lo)), .int (iI (hi))] (PRW D k [(h0, .inr (6, [.ref b0, .ref g0, .ref n0, .ref e0, .ref z0, .ref t0, .int (iI ((n : Int))), .int (iI (pl)), .int (iI (fr)), .int (iI (to1))])), (t0, .inl (k 2, 100, .inl (aZ (tx))))] sz)) (va_Qi (fun (r : Int32) (u : Unit) => r = (iI ((tn1 tx n pl lo hi).1))) (fun _ t => BRW D [(h0, .inr (6, [.ref b0, .ref g0, .ref n0, .ref e0, .ref z0, .ref t0, .int (iI ((n : Int))), .int (iI (pl)), .int (iI (fr)), .int (iI (to1))])), (t0, .inl (k 2, 100, .inl (aZ (tx))))] sz [(h0, .inr (6, [.ref b0, .ref g0, .ref n0, .ref e0, .ref z0, .ref t0, .int (iI ((n : Int))), .int (iI ((tn1 tx n pl lo hi).2)), .int (iI (fr)), .int (iI (to1))])), (t0, .inl (k 2, 100, .inl (aZ (tx))))] t) (va_A [(h0, .inr (6, [.ref b0, .ref g0, .ref n0, .ref e0, .ref z0, .ref t0, .int (iI ((n : Int))), .int (iI (pl)), .int (iI (fr)), .int (iI (to1))])), (t0, .inl (k 2, 100, .inl (aZ (tx))))] sz)) 0 0 (va_A [(h0, .inr (6, [.ref b0, .ref g0, .ref n0, .ref e0, .ref z0, .ref t0, .int (iI ((n : Int))), .int (iI (pl)), .int (iI (fr)), .int (iI (to1))])), (t0, .inl (k 2, 100, .inl (aZ (tx))))] sz) := by
  refine e_i (by decide) rfl (Nat.le_of_ble_eq_true rfl) ?_
  intro p e s m args below meth c Q ls hx hb hml hown hts hpre hl ret
  obtain ⟨hsz, hP, hK, hD0, hX⟩ := hpre
  subst hsz
  have hD := hD0.self (sz := s.heap.size)
  have hA : ∀ q : Nat, s.heap.size ≤ q → (va_A [(h0, .inr (6, [.ref b0, .ref g0, .ref n0, .ref e0, .ref z0, .ref t0, .int (iI ((n : Int))), .int (iI (pl)), .int (iI (fr)), .int (iI (to1))])), (t0, .inl (k 2, 100, .inl (aZ (tx))))] s.heap.size) q := fun q h => Or.inr h
  have hS : va_S (va_A [(h0, .inr (6, [.ref b0, .ref g0, .ref n0, .ref e0, .ref z0, .ref t0, .int (iI ((n : Int))), .int (iI (pl)), .int (iI (fr)), .int (iI (to1))])), (t0, .inl (k 2, 100, .inl (aZ (tx))))] s.heap.size) s.heap s.heap [] := va_S.rf
  have hl : lv_has ls 6 [(0, .ref h0), (1, .int (iI (1))), (2, .int (iI (lo))), (3, .int (iI (hi)))] := hl
  refine z_iconst hx hb d_RR_takeNumber_0 ?_
  refine lv_istore (lv' := [(4, .int (iI (0))), (0, .ref h0), (1, .int (iI (1))), (2, .int (iI (lo))), (3, .int (iI (hi)))]) hx hb d_RR_takeNumber_1 hl (by decide) rfl (fun ls hl => ?_)
  refine lv_iload_n hx hb d_RR_takeNumber_3 rfl (lv_at hl 2 rfl) ?_
  refine lv_istore (lv' := [(5, .int (iI (1))), (4, .int (iI (0))), (0, .ref h0), (1, .int (iI (1))), (2, .int (iI (lo))), (3, .int (iI (hi)))]) hx hb d_RR_takeNumber_4 hl (by decide) rfl (fun ls hl => ?_)
  refine lv_iload hx hb d_RR_takeNumber_6 (lv_at hl 0 rfl) ?_
  refine z_if_le (tgt := 111) hx hb d_RR_takeNumber_8 (by decide) ⟨by omega, by omega⟩ (fun h8 => absurd h8 (by decide)) (fun h8 => ?_)
  refine lv_aload_n hx hb d_RR_takeNumber_11 rfl (lv_at hl 2 rfl) ?_
  refine va_get (D := D) (ci := 6) (v := .int (iI (pl))) (C := R_RR) (T := F_RR) (N := 10) hx hb hts in_RR hown hK hP 0 rfl rfl 7 (by decide) (hts _ k_180) (fun _ h9 => h9) rfl d_RR_takeNumber_12 ?_
  refine lv_aload_n hx hb d_RR_takeNumber_15 rfl (lv_at hl 2 rfl) ?_
  refine va_get (D := D) (ci := 6) (v := .int (iI ((n : Int)))) (C := R_RR) (T := F_RR) (N := 10) hx hb hts in_RR hown hK hP 0 rfl rfl 6 (by decide) (hts _ k_179) (fun _ h9 => h9) rfl d_RR_takeNumber_16 ?_
  refine z_icmp_ge (tgt := 50) hx hb d_RR_takeNumber_19 (by decide) ⟨by omega, by omega⟩ ⟨by omega, by omega⟩ (fun h19 => ?_) (fun h19 => ?_)
  · refine z_iconst hx hb d_RR_takeNumber_50 ?_
    have e9 : tn1 tx n pl lo hi = (-1, pl) := by unfold tn1; rw [if_pos h19]
    exact ret _ _ _ 51 (iI (-1)) () d_RR_takeNumber_51 hS ((congrArg (fun q9 => iI q9.1) e9).symm) (fun t ht _ => ⟨by rw [e9, ht]; exact hP, by rw [e9]; exact hD⟩)
  · refine lv_aload_n hx hb d_RR_takeNumber_22 rfl (lv_at hl 2 rfl) ?_
    refine va_get (D := D) (ci := 6) (v := .ref t0) (C := R_RR) (T := F_RR) (N := 10) hx hb hts in_RR hown hK hP 0 rfl rfl 5 (by decide) (hts _ k_178) (fun _ h9 => h9) rfl d_RR_takeNumber_23 ?_
    refine lv_aload_n hx hb d_RR_takeNumber_26 rfl (lv_at hl 2 rfl) ?_
    refine va_get (D := D) (ci := 6) (v := .int (iI (pl))) (C := R_RR) (T := F_RR) (N := 10) hx hb hts in_RR hown hK hP 0 rfl rfl 7 (by decide) (hts _ k_180) (fun _ h9 => h9) rfl d_RR_takeNumber_27 ?_
    refine x_cald hx hb hK hP 1 2 rfl rfl ((pl).toNat) (by omega) (by omega) (by omega) d_RR_takeNumber_30 ?_
    refine z_top (show _ = iI (tx ((pl).toNat)) from rfl) ?_
    have hbd1 := htx ((pl).toNat)
    refine z_bipush hx hb d_RR_takeNumber_31 (by decide) ?_
    refine z_icmp_lt (tgt := 50) hx hb d_RR_takeNumber_33 (by decide) ⟨by omega, by omega⟩ ⟨by omega, by omega⟩ (fun h33 => ?_) (fun h33 => ?_)
    · refine z_iconst hx hb d_RR_takeNumber_50 ?_
      have e9 : tn1 tx n pl lo hi = (-1, pl) := by unfold tn1; rw [if_neg h19, if_pos h33]
      exact ret _ _ _ 51 (iI (-1)) () d_RR_takeNumber_51 hS ((congrArg (fun q9 => iI q9.1) e9).symm) (fun t ht _ => ⟨by rw [e9, ht]; exact hP, by rw [e9]; exact hD⟩)
    · refine lv_aload_n hx hb d_RR_takeNumber_36 rfl (lv_at hl 2 rfl) ?_
      refine va_get (D := D) (ci := 6) (v := .ref t0) (C := R_RR) (T := F_RR) (N := 10) hx hb hts in_RR hown hK hP 0 rfl rfl 5 (by decide) (hts _ k_178) (fun _ h9 => h9) rfl d_RR_takeNumber_37 ?_
      refine lv_aload_n hx hb d_RR_takeNumber_40 rfl (lv_at hl 2 rfl) ?_
      refine va_get (D := D) (ci := 6) (v := .int (iI (pl))) (C := R_RR) (T := F_RR) (N := 10) hx hb hts in_RR hown hK hP 0 rfl rfl 7 (by decide) (hts _ k_180) (fun _ h9 => h9) rfl d_RR_takeNumber_41 ?_
      refine x_cald hx hb hK hP 1 2 rfl rfl ((pl).toNat) (by omega) (by omega) (by omega) d_RR_takeNumber_44 ?_
      refine z_top (show _ = iI (tx ((pl).toNat)) from rfl) ?_
      have hbd2 := htx ((pl).toNat)
      refine z_bipush hx hb d_RR_takeNumber_45 (by decide) ?_
      refine z_icmp_le (tgt := 52) hx hb d_RR_takeNumber_47 (by decide) ⟨by omega, by omega⟩ ⟨by omega, by omega⟩ (fun h47 => ?_) (fun h47 => ?_)
      · refine lv_iload hx hb d_RR_takeNumber_52 (lv_at hl 1 rfl) ?_
        refine lv_aload_n hx hb d_RR_takeNumber_54 rfl (lv_at hl 2 rfl) ?_
        refine va_get (D := D) (ci := 6) (v := .ref t0) (C := R_RR) (T := F_RR) (N := 10) hx hb hts in_RR hown hK hP 0 rfl rfl 5 (by decide) (hts _ k_178) (fun _ h9 => h9) rfl d_RR_takeNumber_55 ?_
        refine lv_aload_n hx hb d_RR_takeNumber_58 rfl (lv_at hl 2 rfl) ?_
        refine va_get (D := D) (ci := 6) (v := .int (iI (pl))) (C := R_RR) (T := F_RR) (N := 10) hx hb hts in_RR hown hK hP 0 rfl rfl 7 (by decide) (hts _ k_180) (fun _ h9 => h9) rfl d_RR_takeNumber_59 ?_
        refine x_cald hx hb hK hP 1 2 rfl rfl ((pl).toNat) (by omega) (by omega) (by omega) d_RR_takeNumber_62 ?_
        refine z_top (show _ = iI (tx ((pl).toNat)) from rfl) ?_
        have hbd3 := htx ((pl).toNat)
        refine z_bipush hx hb d_RR_takeNumber_63 (by decide) ?_
        refine z_isub hx hb d_RR_takeNumber_65 ?_
        refine lv_iload hx hb d_RR_takeNumber_66 (lv_at hl 0 rfl) ?_
        refine z_imul hx hb d_RR_takeNumber_68 ?_
        refine z_iadd hx hb d_RR_takeNumber_69 ?_
        refine lv_istore (lv' := [(4, .int (iI (0 + (((tx ((pl).toNat)) - 48) * 1)))), (5, .int (iI (1))), (0, .ref h0), (1, .int (iI (1))), (2, .int (iI (lo))), (3, .int (iI (hi)))]) hx hb d_RR_takeNumber_70 hl (by decide) rfl (fun ls hl => ?_)
        refine lv_iload hx hb d_RR_takeNumber_72 (lv_at hl 0 rfl) ?_
        refine lv_iload_n hx hb d_RR_takeNumber_74 rfl (lv_at hl 5 rfl) ?_
        refine z_icmp_gt (tgt := 89) hx hb d_RR_takeNumber_75 (by decide) ⟨by omega, by omega⟩ ⟨by omega, by omega⟩ (fun h75 => ?_) (fun h75 => ?_)
        · refine z_iconst hx hb d_RR_takeNumber_89 ?_
          have e9 : tn1 tx n pl lo hi = (-1, pl) := by unfold tn1; rw [if_neg h19, if_neg h33, if_pos h47, if_pos h75]
          exact ret _ _ _ 90 (iI (-1)) () d_RR_takeNumber_90 hS ((congrArg (fun q9 => iI q9.1) e9).symm) (fun t ht _ => ⟨by rw [e9, ht]; exact hP, by rw [e9]; exact hD⟩)
        · refine lv_iload hx hb d_RR_takeNumber_78 (lv_at hl 0 rfl) ?_
          refine lv_iload hx hb d_RR_takeNumber_80 (lv_at hl 1 rfl) ?_
          refine z_iadd hx hb d_RR_takeNumber_82 ?_
          refine z_iconst hx hb d_RR_takeNumber_83 ?_
          refine z_isub hx hb d_RR_takeNumber_84 ?_
          refine lv_iload_n hx hb d_RR_takeNumber_85 rfl (lv_at hl 4 rfl) ?_
          refine z_icmp_ge (tgt := 91) hx hb d_RR_takeNumber_86 (by decide) ⟨by omega, by omega⟩ ⟨by omega, by omega⟩ (fun h86 => ?_) (fun h86 => ?_)
          · refine lv_aload_n hx hb d_RR_takeNumber_91 rfl (lv_at hl 2 rfl) ?_
            refine lv_dup hx hb d_RR_takeNumber_92 rfl ?_
            refine va_get (D := D) (ci := 6) (v := .int (iI (pl))) (C := R_RR) (T := F_RR) (N := 10) hx hb hts in_RR hown hK hP 0 rfl rfl 7 (by decide) (hts _ k_180) (fun _ h9 => h9) rfl d_RR_takeNumber_93 ?_
            refine z_iconst hx hb d_RR_takeNumber_96 ?_
            refine z_iadd hx hb d_RR_takeNumber_97 ?_
            refine va_put (D := D) (ci := 6) (v := .int (iI (pl + 1))) (ty := .int) (C := R_RR) (T := F_RR) (N := 10) hx hb hts in_RR t_RR t_RR_ok n_RR hown hK hP hD hS 0 rfl rfl 7 (by decide) (hts _ k_180) (fun _ h9 => h9) rfl (by decide +kernel) rfl rfl (Nat.le_of_ble_eq_true rfl) d_RR_takeNumber_98 (fun H locs hP hD hS => ?_)
            have hP : va_P D classes [(h0, .inr (6, [.ref b0, .ref g0, .ref n0, .ref e0, .ref z0, .ref t0, .int (iI ((n : Int))), .int (iI (pl + 1)), .int (iI (fr)), .int (iI (to1))])), (t0, .inl (k 2, 100, .inl (aZ (tx))))] H := hP
            have hD : va_D (va_A [(h0, .inr (6, [.ref b0, .ref g0, .ref n0, .ref e0, .ref z0, .ref t0, .int (iI ((n : Int))), .int (iI (pl)), .int (iI (fr)), .int (iI (to1))])), (t0, .inl (k 2, 100, .inl (aZ (tx))))] s.heap.size) [(h0, .inr (6, [.ref b0, .ref g0, .ref n0, .ref e0, .ref z0, .ref t0, .int (iI ((n : Int))), .int (iI (pl + 1)), .int (iI (fr)), .int (iI (to1))])), (t0, .inl (k 2, 100, .inl (aZ (tx))))] := hD
            refine lv_iload hx hb d_RR_takeNumber_101 (lv_at hl 1 rfl) ?_
            refine z_bipush hx hb d_RR_takeNumber_103 (by decide) ?_
            refine z_idiv hx hb d_RR_takeNumber_105 ⟨by decide, by decide⟩ (by decide) ⟨by decide, by decide⟩ (by decide) ?_
            refine lv_istore (lv' := [(5, .int (iI (0))), (4, .int (iI (0 + (((tx ((pl).toNat)) - 48) * 1)))), (0, .ref h0), (1, .int (iI (1))), (2, .int (iI (lo))), (3, .int (iI (hi)))]) hx hb d_RR_takeNumber_106 hl (by decide) rfl (fun ls hl => ?_)
            refine lv_goto (tgt := 6) hx hb d_RR_takeNumber_108 (by decide) ?_
            refine lv_iload hx hb d_RR_takeNumber_6 (lv_at hl 0 rfl) ?_
            refine z_if_le (tgt := 111) hx hb d_RR_takeNumber_8 (by decide) ⟨by omega, by omega⟩ (fun h8 => ?_) (fun h8 => absurd h8 (by decide))
            refine lv_iload hx hb d_RR_takeNumber_111 (lv_at hl 1 rfl) ?_
            have e9 : tn1 tx n pl lo hi = (0 + (((tx ((pl).toNat)) - 48) * 1), pl + 1) := by unfold tn1; rw [if_neg h19, if_neg h33, if_pos h47, if_neg h75, if_pos h86]
            exact ret _ _ _ 113 (iI (0 + (((tx ((pl).toNat)) - 48) * 1))) () d_RR_takeNumber_113 hS ((congrArg (fun q9 => iI q9.1) e9).symm) (fun t ht _ => ⟨by rw [e9, ht]; exact hP, by rw [e9]; exact hD⟩)
          · refine z_iconst hx hb d_RR_takeNumber_89 ?_
            have e9 : tn1 tx n pl lo hi = (-1, pl) := by unfold tn1; rw [if_neg h19, if_neg h33, if_pos h47, if_neg h75, if_neg h86]
            exact ret _ _ _ 90 (iI (-1)) () d_RR_takeNumber_90 hS ((congrArg (fun q9 => iI q9.1) e9).symm) (fun t ht _ => ⟨by rw [e9, ht]; exact hP, by rw [e9]; exact hD⟩)
      · refine z_iconst hx hb d_RR_takeNumber_50 ?_
        have e9 : tn1 tx n pl lo hi = (-1, pl) := by unfold tn1; rw [if_neg h19, if_neg h33, if_neg h47]
        exact ret _ _ _ 51 (iI (-1)) () d_RR_takeNumber_51 hS ((congrArg (fun q9 => iI q9.1) e9).symm) (fun t ht _ => ⟨by rw [e9, ht]; exact hP, by rw [e9]; exact hD⟩)

theorem tn1_bd {tx : Nat → Int} {n : Nat} {pl lo hi : Int} (hn : n ≤ 100) (h : 0 ≤ pl ∧ pl ≤ (n : Int)) : 0 ≤ (tn1 tx n pl lo hi).2 ∧ (tn1 tx n pl lo hi).2 ≤ (n : Int) ∧ -1 ≤ (tn1 tx n pl lo hi).1 ∧ ((tn1 tx n pl lo hi).1 = -1 ∨ (0 ≤ (tn1 tx n pl lo hi).1 ∧ lo ≤ (tn1 tx n pl lo hi).1 ∧ (tn1 tx n pl lo hi).1 ≤ hi)) := by
  show Pbd n lo hi (tn1 tx n pl lo hi)
  unfold tn1
  repeat' (refine ite_P (fun _ => ?_) (fun _ => ?_))
  all_goals (unfold Pbd; dsimp only; omega)

def tn10 (tx : Nat → Int) (n : Nat) (pl : Int) (lo : Int) (hi : Int) : Int × Int := (if (n : Int) ≤ pl then (-1, pl) else (if tx ((pl).toNat) < 48 then (-1, pl) else (if tx ((pl).toNat) ≤ 57 then (if hi < 0 + (((tx ((pl).toNat)) - 48) * 10) then (-1, pl) else (if lo ≤ ((0 + (((tx ((pl).toNat)) - 48) * 10)) + 10) - 1 then (if (n : Int) ≤ pl + 1 then (-1, pl + 1) else (if tx ((pl + 1).toNat) < 48 then (-1, pl + 1) else (if tx ((pl + 1).toNat) ≤ 57 then (if hi < (0 + (((tx ((pl).toNat)) - 48) * 10)) + (((tx ((pl + 1).toNat)) - 48) * 1) then (-1, pl + 1) else (if lo ≤ (((0 + (((tx ((pl).toNat)) - 48) * 10)) + (((tx ((pl + 1).toNat)) - 48) * 1)) + 1) - 1 then ((0 + (((tx ((pl).toNat)) - 48) * 10)) + (((tx ((pl + 1).toNat)) - 48) * 1), (pl + 1) + 1) else (-1, pl + 1))) else (-1, pl + 1)))) else (-1, pl))) else (-1, pl))))
set_option maxHeartbeats 4000000 in
set_option maxRecDepth 100000 in
theorem c_RR_takeNumber_10 (l : Launch) (D : va_G) (k : Nat → ClassId) (sz : Nat) (h0 b0 g0 n0 e0 z0 t0 : Nat) (tx : Nat → Int) (n : Nat) (pl : Int) (fr : Int) (to1 : Int) (lo : Int) (hi : Int) (hn : n ≤ 100) (hpl : 0 ≤ pl ∧ pl ≤ (n : Int)) (htx : ∀ j, 0 ≤ tx j ∧ tx j ≤ 65535) (hlo : -5 ≤ lo ∧ lo ≤ 10000) (hhi : -5 ≤ hi ∧ hi ≤ 10000) : Met l y_RR_takeNumber wd_RR_takeNumber rm_RR_takeNumber (va_Pc [.ref h0, .int (iI (10)), .int (iI (lo)), .int (iI (hi))] (PRW D k [(h0, .inr (6, [.ref b0, .ref g0, .ref n0, .ref e0, .ref z0, .ref t0, .int (iI ((n : Int))), .int (iI (pl)), .int (iI (fr)), .int (iI (to1))])), (t0, .inl (k 2, 100, .inl (aZ (tx))))] sz)) (va_Qi (fun (r : Int32) (u : Unit) => r = (iI ((tn10 tx n pl lo hi).1))) (fun _ t => BRW D [(h0, .inr (6, [.ref b0, .ref g0, .ref n0, .ref e0, .ref z0, .ref t0, .int (iI ((n : Int))), .int (iI (pl)), .int (iI (fr)), .int (iI (to1))])), (t0, .inl (k 2, 100, .inl (aZ (tx))))] sz [(h0, .inr (6, [.ref b0, .ref g0, .ref n0, .ref e0, .ref z0, .ref t0, .int (iI ((n : Int))), .int (iI ((tn10 tx n pl lo hi).2)), .int (iI (fr)), .int (iI (to1))])), (t0, .inl (k 2, 100, .inl (aZ (tx))))] t) (va_A [(h0, .inr (6, [.ref b0, .ref g0, .ref n0, .ref e0, .ref z0, .ref t0, .int (iI ((n : Int))), .int (iI (pl)), .int (iI (fr)), .int (iI (to1))])), (t0, .inl (k 2, 100, .inl (aZ (tx))))] sz)) 0 0 (va_A [(h0, .inr (6, [.ref b0, .ref g0, .ref n0, .ref e0, .ref z0, .ref t0, .int (iI ((n : Int))), .int (iI (pl)), .int (iI (fr)), .int (iI (to1))])), (t0, .inl (k 2, 100, .inl (aZ (tx))))] sz) := by
  refine e_i (by decide) rfl (Nat.le_of_ble_eq_true rfl) ?_
  intro p e s m args below meth c Q ls hx hb hml hown hts hpre hl ret
  obtain ⟨hsz, hP, hK, hD0, hX⟩ := hpre
  subst hsz
  have hD := hD0.self (sz := s.heap.size)
  have hA : ∀ q : Nat, s.heap.size ≤ q → (va_A [(h0, .inr (6, [.ref b0, .ref g0, .ref n0, .ref e0, .ref z0, .ref t0, .int (iI ((n : Int))), .int (iI (pl)), .int (iI (fr)), .int (iI (to1))])), (t0, .inl (k 2, 100, .inl (aZ (tx))))] s.heap.size) q := fun q h => Or.inr h
  have hS : va_S (va_A [(h0, .inr (6, [.ref b0, .ref g0, .ref n0, .ref e0, .ref z0, .ref t0, .int (iI ((n : Int))), .int (iI (pl)), .int (iI (fr)), .int (iI (to1))])), (t0, .inl (k 2, 100, .inl (aZ (tx))))] s.heap.size) s.heap s.heap [] := va_S.rf
  have hl : lv_has ls 6 [(0, .ref h0), (1, .int (iI (10))), (2, .int (iI (lo))), (3, .int (iI (hi)))] := hl
  refine z_iconst hx hb d_RR_takeNumber_0 ?_
  refine lv_istore (lv' := [(4, .int (iI (0))), (0, .ref h0), (1, .int (iI (10))), (2, .int (iI (lo))), (3, .int (iI (hi)))]) hx hb d_RR_takeNumber_1 hl (by decide) rfl (fun ls hl => ?_)
  refine lv_iload_n hx hb d_RR_takeNumber_3 rfl (lv_at hl 2 rfl) ?_
  refine lv_istore (lv' := [(5, .int (iI (10))), (4, .int (iI (0))), (0, .ref h0), (1, .int (iI (10))), (2, .int (iI (lo))), (3, .int (iI (hi)))]) hx hb d_RR_takeNumber_4 hl (by decide) rfl (fun ls hl => ?_)
  refine lv_iload hx hb d_RR_takeNumber_6 (lv_at hl 0 rfl) ?_
  refine z_if_le (tgt := 111) hx hb d_RR_takeNumber_8 (by decide) ⟨by omega, by omega⟩ (fun h8 => absurd h8 (by decide)) (fun h8 => ?_)
  refine lv_aload_n hx hb d_RR_takeNumber_11 rfl (lv_at hl 2 rfl) ?_
  refine va_get (D := D) (ci := 6) (v := .int (iI (pl))) (C := R_RR) (T := F_RR) (N := 10) hx hb hts in_RR hown hK hP 0 rfl rfl 7 (by decide) (hts _ k_180) (fun _ h9 => h9) rfl d_RR_takeNumber_12 ?_
  refine lv_aload_n hx hb d_RR_takeNumber_15 rfl (lv_at hl 2 rfl) ?_
  refine va_get (D := D) (ci := 6) (v := .int (iI ((n : Int)))) (C := R_RR) (T := F_RR) (N := 10) hx hb hts in_RR hown hK hP 0 rfl rfl 6 (by decide) (hts _ k_179) (fun _ h9 => h9) rfl d_RR_takeNumber_16 ?_
  refine z_icmp_ge (tgt := 50) hx hb d_RR_takeNumber_19 (by decide) ⟨by omega, by omega⟩ ⟨by omega, by omega⟩ (fun h19 => ?_) (fun h19 => ?_)
  · refine z_iconst hx hb d_RR_takeNumber_50 ?_
    have e9 : tn10 tx n pl lo hi = (-1, pl) := by unfold tn10; rw [if_pos h19]
    exact ret _ _ _ 51 (iI (-1)) () d_RR_takeNumber_51 hS ((congrArg (fun q9 => iI q9.1) e9).symm) (fun t ht _ => ⟨by rw [e9, ht]; exact hP, by rw [e9]; exact hD⟩)
  · refine lv_aload_n hx hb d_RR_takeNumber_22 rfl (lv_at hl 2 rfl) ?_
    refine va_get (D := D) (ci := 6) (v := .ref t0) (C := R_RR) (T := F_RR) (N := 10) hx hb hts in_RR hown hK hP 0 rfl rfl 5 (by decide) (hts _ k_178) (fun _ h9 => h9) rfl d_RR_takeNumber_23 ?_
    refine lv_aload_n hx hb d_RR_takeNumber_26 rfl (lv_at hl 2 rfl) ?_
    refine va_get (D := D) (ci := 6) (v := .int (iI (pl))) (C := R_RR) (T := F_RR) (N := 10) hx hb hts in_RR hown hK hP 0 rfl rfl 7 (by decide) (hts _ k_180) (fun _ h9 => h9) rfl d_RR_takeNumber_27 ?_
    refine x_cald hx hb hK hP 1 2 rfl rfl ((pl).toNat) (by omega) (by omega) (by omega) d_RR_takeNumber_30 ?_
    refine z_top (show _ = iI (tx ((pl).toNat)) from rfl) ?_
    have hbd1 := htx ((pl).toNat)
    refine z_bipush hx hb d_RR_takeNumber_31 (by decide) ?_
    refine z_icmp_lt (tgt := 50) hx hb d_RR_takeNumber_33 (by decide) ⟨by omega, by omega⟩ ⟨by omega, by omega⟩ (fun h33 => ?_) (fun h33 => ?_)
    · refine z_iconst hx hb d_RR_takeNumber_50 ?_
      have e9 : tn10 tx n pl lo hi = (-1, pl) := by unfold tn10; rw [if_neg h19, if_pos h33]
      exact ret _ _ _ 51 (iI (-1)) () d_RR_takeNumber_51 hS ((congrArg (fun q9 => iI q9.1) e9).symm) (fun t ht _ => ⟨by rw [e9, ht]; exact hP, by rw [e9]; exact hD⟩)
    · refine lv_aload_n hx hb d_RR_takeNumber_36 rfl (lv_at hl 2 rfl) ?_
      refine va_get (D := D) (ci := 6) (v := .ref t0) (C := R_RR) (T := F_RR) (N := 10) hx hb hts in_RR hown hK hP 0 rfl rfl 5 (by decide) (hts _ k_178) (fun _ h9 => h9) rfl d_RR_takeNumber_37 ?_
      refine lv_aload_n hx hb d_RR_takeNumber_40 rfl (lv_at hl 2 rfl) ?_
      refine va_get (D := D) (ci := 6) (v := .int (iI (pl))) (C := R_RR) (T := F_RR) (N := 10) hx hb hts in_RR hown hK hP 0 rfl rfl 7 (by decide) (hts _ k_180) (fun _ h9 => h9) rfl d_RR_takeNumber_41 ?_
      refine x_cald hx hb hK hP 1 2 rfl rfl ((pl).toNat) (by omega) (by omega) (by omega) d_RR_takeNumber_44 ?_
      refine z_top (show _ = iI (tx ((pl).toNat)) from rfl) ?_
      have hbd2 := htx ((pl).toNat)
      refine z_bipush hx hb d_RR_takeNumber_45 (by decide) ?_
      refine z_icmp_le (tgt := 52) hx hb d_RR_takeNumber_47 (by decide) ⟨by omega, by omega⟩ ⟨by omega, by omega⟩ (fun h47 => ?_) (fun h47 => ?_)
      · refine lv_iload hx hb d_RR_takeNumber_52 (lv_at hl 1 rfl) ?_
        refine lv_aload_n hx hb d_RR_takeNumber_54 rfl (lv_at hl 2 rfl) ?_
        refine va_get (D := D) (ci := 6) (v := .ref t0) (C := R_RR) (T := F_RR) (N := 10) hx hb hts in_RR hown hK hP 0 rfl rfl 5 (by decide) (hts _ k_178) (fun _ h9 => h9) rfl d_RR_takeNumber_55 ?_
        refine lv_aload_n hx hb d_RR_takeNumber_58 rfl (lv_at hl 2 rfl) ?_
        refine va_get (D := D) (ci := 6) (v := .int (iI (pl))) (C := R_RR) (T := F_RR) (N := 10) hx hb hts in_RR hown hK hP 0 rfl rfl 7 (by decide) (hts _ k_180) (fun _ h9 => h9) rfl d_RR_takeNumber_59 ?_
        refine x_cald hx hb hK hP 1 2 rfl rfl ((pl).toNat) (by omega) (by omega) (by omega) d_RR_takeNumber_62 ?_
        refine z_top (show _ = iI (tx ((pl).toNat)) from rfl) ?_
        have hbd3 := htx ((pl).toNat)
        refine z_bipush hx hb d_RR_takeNumber_63 (by decide) ?_
        refine z_isub hx hb d_RR_takeNumber_65 ?_
        refine lv_iload hx hb d_RR_takeNumber_66 (lv_at hl 0 rfl) ?_
        refine z_imul hx hb d_RR_takeNumber_68 ?_
        refine z_iadd hx hb d_RR_takeNumber_69 ?_
        refine lv_istore (lv' := [(4, .int (iI (0 + (((tx ((pl).toNat)) - 48) * 10)))), (5, .int (iI (10))), (0, .ref h0), (1, .int (iI (10))), (2, .int (iI (lo))), (3, .int (iI (hi)))]) hx hb d_RR_takeNumber_70 hl (by decide) rfl (fun ls hl => ?_)
        refine lv_iload hx hb d_RR_takeNumber_72 (lv_at hl 0 rfl) ?_
        refine lv_iload_n hx hb d_RR_takeNumber_74 rfl (lv_at hl 5 rfl) ?_
        refine z_icmp_gt (tgt := 89) hx hb d_RR_takeNumber_75 (by decide) ⟨by omega, by omega⟩ ⟨by omega, by omega⟩ (fun h75 => ?_) (fun h75 => ?_)
        · refine z_iconst hx hb d_RR_takeNumber_89 ?_
          have e9 : tn10 tx n pl lo hi = (-1, pl) := by unfold tn10; rw [if_neg h19, if_neg h33, if_pos h47, if_pos h75]
          exact ret _ _ _ 90 (iI (-1)) () d_RR_takeNumber_90 hS ((congrArg (fun q9 => iI q9.1) e9).symm) (fun t ht _ => ⟨by rw [e9, ht]; exact hP, by rw [e9]; exact hD⟩)
        · refine lv_iload hx hb d_RR_takeNumber_78 (lv_at hl 0 rfl) ?_
          refine lv_iload hx hb d_RR_takeNumber_80 (lv_at hl 1 rfl) ?_
          refine z_iadd hx hb d_RR_takeNumber_82 ?_
          refine z_iconst hx hb d_RR_takeNumber_83 ?_
          refine z_isub hx hb d_RR_takeNumber_84 ?_
          refine lv_iload_n hx hb d_RR_takeNumber_85 rfl (lv_at hl 4 rfl) ?_
          refine z_icmp_ge (tgt := 91) hx hb d_RR_takeNumber_86 (by decide) ⟨by omega, by omega⟩ ⟨by omega, by omega⟩ (fun h86 => ?_) (fun h86 => ?_)
          · refine lv_aload_n hx hb d_RR_takeNumber_91 rfl (lv_at hl 2 rfl) ?_
            refine lv_dup hx hb d_RR_takeNumber_92 rfl ?_
            refine va_get (D := D) (ci := 6) (v := .int (iI (pl))) (C := R_RR) (T := F_RR) (N := 10) hx hb hts in_RR hown hK hP 0 rfl rfl 7 (by decide) (hts _ k_180) (fun _ h9 => h9) rfl d_RR_takeNumber_93 ?_
            refine z_iconst hx hb d_RR_takeNumber_96 ?_
            refine z_iadd hx hb d_RR_takeNumber_97 ?_
            refine va_put (D := D) (ci := 6) (v := .int (iI (pl + 1))) (ty := .int) (C := R_RR) (T := F_RR) (N := 10) hx hb hts in_RR t_RR t_RR_ok n_RR hown hK hP hD hS 0 rfl rfl 7 (by decide) (hts _ k_180) (fun _ h9 => h9) rfl (by decide +kernel) rfl rfl (Nat.le_of_ble_eq_true rfl) d_RR_takeNumber_98 (fun H locs hP hD hS => ?_)
            have hP : va_P D classes [(h0, .inr (6, [.ref b0, .ref g0, .ref n0, .ref e0, .ref z0, .ref t0, .int (iI ((n : Int))), .int (iI (pl + 1)), .int (iI (fr)), .int (iI (to1))])), (t0, .inl (k 2, 100, .inl (aZ (tx))))] H := hP
            have hD : va_D (va_A [(h0, .inr (6, [.ref b0, .ref g0, .ref n0, .ref e0, .ref z0, .ref t0, .int (iI ((n : Int))), .int (iI (pl)), .int (iI (fr)), .int (iI (to1))])), (t0, .inl (k 2, 100, .inl (aZ (tx))))] s.heap.size) [(h0, .inr (6, [.ref b0, .ref g0, .ref n0, .ref e0, .ref z0, .ref t0, .int (iI ((n : Int))), .int (iI (pl + 1)), .int (iI (fr)), .int (iI (to1))])), (t0, .inl (k 2, 100, .inl (aZ (tx))))] := hD
            refine lv_iload hx hb d_RR_takeNumber_101 (lv_at hl 1 rfl) ?_
            refine z_bipush hx hb d_RR_takeNumber_103 (by decide) ?_
            refine z_idiv hx hb d_RR_takeNumber_105 ⟨by decide, by decide⟩ (by decide) ⟨by decide, by decide⟩ (by decide) ?_
            refine lv_istore (lv' := [(5, .int (iI (1))), (4, .int (iI (0 + (((tx ((pl).toNat)) - 48) * 10)))), (0, .ref h0), (1, .int (iI (10))), (2, .int (iI (lo))), (3, .int (iI (hi)))]) hx hb d_RR_takeNumber_106 hl (by decide) rfl (fun ls hl => ?_)
            refine lv_goto (tgt := 6) hx hb d_RR_takeNumber_108 (by decide) ?_
            refine lv_iload hx hb d_RR_takeNumber_6 (lv_at hl 0 rfl) ?_
            refine z_if_le (tgt := 111) hx hb d_RR_takeNumber_8 (by decide) ⟨by omega, by omega⟩ (fun h8 => absurd h8 (by decide)) (fun h8 => ?_)
            refine lv_aload_n hx hb d_RR_takeNumber_11 rfl (lv_at hl 2 rfl) ?_
            refine va_get (D := D) (ci := 6) (v := .int (iI (pl + 1))) (C := R_RR) (T := F_RR) (N := 10) hx hb hts in_RR hown hK hP 0 rfl rfl 7 (by decide) (hts _ k_180) (fun _ h9 => h9) rfl d_RR_takeNumber_12 ?_
            refine lv_aload_n hx hb d_RR_takeNumber_15 rfl (lv_at hl 2 rfl) ?_
            refine va_get (D := D) (ci := 6) (v := .int (iI ((n : Int)))) (C := R_RR) (T := F_RR) (N := 10) hx hb hts in_RR hown hK hP 0 rfl rfl 6 (by decide) (hts _ k_179) (fun _ h9 => h9) rfl d_RR_takeNumber_16 ?_
            refine z_icmp_ge (tgt := 50) hx hb d_RR_takeNumber_19 (by decide) ⟨by omega, by omega⟩ ⟨by omega, by omega⟩ (fun h19_2 => ?_) (fun h19_2 => ?_)
            · refine z_iconst hx hb d_RR_takeNumber_50 ?_
              have e9 : tn10 tx n pl lo hi = (-1, pl + 1) := by unfold tn10; rw [if_neg h19, if_neg h33, if_pos h47, if_neg h75, if_pos h86, if_pos h19_2]
              exact ret _ _ _ 51 (iI (-1)) () d_RR_takeNumber_51 hS ((congrArg (fun q9 => iI q9.1) e9).symm) (fun t ht _ => ⟨by rw [e9, ht]; exact hP, by rw [e9]; exact hD⟩)
            · refine lv_aload_n hx hb d_RR_takeNumber_22 rfl (lv_at hl 2 rfl) ?_
              refine va_get (D := D) (ci := 6) (v := .ref t0) (C := R_RR) (T := F_RR) (N := 10) hx hb hts in_RR hown hK hP 0 rfl rfl 5 (by decide) (hts _ k_178) (fun _ h9 => h9) rfl d_RR_takeNumber_23 ?_
              refine lv_aload_n hx hb d_RR_takeNumber_26 rfl (lv_at hl 2 rfl) ?_
              refine va_get (D := D) (ci := 6) (v := .int (iI (pl + 1))) (C := R_RR) (T := F_RR) (N := 10) hx hb hts in_RR hown hK hP 0 rfl rfl 7 (by decide) (hts _ k_180) (fun _ h9 => h9) rfl d_RR_takeNumber_27 ?_
              refine x_cald hx hb hK hP 1 2 rfl rfl ((pl + 1).toNat) (by omega) (by omega) (by omega) d_RR_takeNumber_30 ?_
              refine z_top (show _ = iI (tx ((pl + 1).toNat)) from rfl) ?_
              have hbd4 := htx ((pl + 1).toNat)
              refine z_bipush hx hb d_RR_takeNumber_31 (by decide) ?_
              refine z_icmp_lt (tgt := 50) hx hb d_RR_takeNumber_33 (by decide) ⟨by omega, by omega⟩ ⟨by omega, by omega⟩ (fun h33_2 => ?_) (fun h33_2 => ?_)
              · refine z_iconst hx hb d_RR_takeNumber_50 ?_
                have e9 : tn10 tx n pl lo hi = (-1, pl + 1) := by unfold tn10; rw [if_neg h19, if_neg h33, if_pos h47, if_neg h75, if_pos h86, if_neg h19_2, if_pos h33_2]
                exact ret _ _ _ 51 (iI (-1)) () d_RR_takeNumber_51 hS ((congrArg (fun q9 => iI q9.1) e9).symm) (fun t ht _ => ⟨by rw [e9, ht]; exact hP, by rw [e9]; exact hD⟩)
              · refine lv_aload_n hx hb d_RR_takeNumber_36 rfl (lv_at hl 2 rfl) ?_
                refine va_get (D := D) (ci := 6) (v := .ref t0) (C := R_RR) (T := F_RR) (N := 10) hx hb hts in_RR hown hK hP 0 rfl rfl 5 (by decide) (hts _ k_178) (fun _ h9 => h9) rfl d_RR_takeNumber_37 ?_
                refine lv_aload_n hx hb d_RR_takeNumber_40 rfl (lv_at hl 2 rfl) ?_
                refine va_get (D := D) (ci := 6) (v := .int (iI (pl + 1))) (C := R_RR) (T := F_RR) (N := 10) hx hb hts in_RR hown hK hP 0 rfl rfl 7 (by decide) (hts _ k_180) (fun _ h9 => h9) rfl d_RR_takeNumber_41 ?_
                refine x_cald hx hb hK hP 1 2 rfl rfl ((pl + 1).toNat) (by omega) (by omega) (by omega) d_RR_takeNumber_44 ?_
                refine z_top (show _ = iI (tx ((pl + 1).toNat)) from rfl) ?_
                have hbd5 := htx ((pl + 1).toNat)
                refine z_bipush hx hb d_RR_takeNumber_45 (by decide) ?_
                refine z_icmp_le (tgt := 52) hx hb d_RR_takeNumber_47 (by decide) ⟨by omega, by omega⟩ ⟨by omega, by omega⟩ (fun h47_2 => ?_) (fun h47_2 => ?_)
                · refine lv_iload hx hb d_RR_takeNumber_52 (lv_at hl 1 rfl) ?_
                  refine lv_aload_n hx hb d_RR_takeNumber_54 rfl (lv_at hl 2 rfl) ?_
                  refine va_get (D := D) (ci := 6) (v := .ref t0) (C := R_RR) (T := F_RR) (N := 10) hx hb hts in_RR hown hK hP 0 rfl rfl 5 (by decide) (hts _ k_178) (fun _ h9 => h9) rfl d_RR_takeNumber_55 ?_
                  refine lv_aload_n hx hb d_RR_takeNumber_58 rfl (lv_at hl 2 rfl) ?_
                  refine va_get (D := D) (ci := 6) (v := .int (iI (pl + 1))) (C := R_RR) (T := F_RR) (N := 10) hx hb hts in_RR hown hK hP 0 rfl rfl 7 (by decide) (hts _ k_180) (fun _ h9 => h9) rfl d_RR_takeNumber_59 ?_
                  refine x_cald hx hb hK hP 1 2 rfl rfl ((pl + 1).toNat) (by omega) (by omega) (by omega) d_RR_takeNumber_62 ?_
                  refine z_top (show _ = iI (tx ((pl + 1).toNat)) from rfl) ?_
                  have hbd6 := htx ((pl + 1).toNat)
                  refine z_bipush hx hb d_RR_takeNumber_63 (by decide) ?_
                  refine z_isub hx hb d_RR_takeNumber_65 ?_
                  refine lv_iload hx hb d_RR_takeNumber_66 (lv_at hl 0 rfl) ?_
                  refine z_imul hx hb d_RR_takeNumber_68 ?_
                  refine z_iadd hx hb d_RR_takeNumber_69 ?_
                  refine lv_istore (lv' := [(4, .int (iI ((0 + (((tx ((pl).toNat)) - 48) * 10)) + (((tx ((pl + 1).toNat)) - 48) * 1)))), (5, .int (iI (1))), (0, .ref h0), (1, .int (iI (10))), (2, .int (iI (lo))), (3, .int (iI (hi)))]) hx hb d_RR_takeNumber_70 hl (by decide) rfl (fun ls hl => ?_)
                  refine lv_iload hx hb d_RR_takeNumber_72 (lv_at hl 0 rfl) ?_
                  refine lv_iload_n hx hb d_RR_takeNumber_74 rfl (lv_at hl 5 rfl) ?_
                  refine z_icmp_gt (tgt := 89) hx hb d_RR_takeNumber_75 (by decide) ⟨by omega, by omega⟩ ⟨by omega, by omega⟩ (fun h75_2 => ?_) (fun h75_2 => ?_)
                  · refine z_iconst hx hb d_RR_takeNumber_89 ?_
                    have e9 : tn10 tx n pl lo hi = (-1, pl + 1) := by unfold tn10; rw [if_neg h19, if_neg h33, if_pos h47, if_neg h75, if_pos h86, if_neg h19_2, if_neg h33_2, if_pos h47_2, if_pos h75_2]
                    exact ret _ _ _ 90 (iI (-1)) () d_RR_takeNumber_90 hS ((congrArg (fun q9 => iI q9.1) e9).symm) (fun t ht _ => ⟨by rw [e9, ht]; exact hP, by rw [e9]; exact hD⟩)
                  · refine lv_iload hx hb d_RR_takeNumber_78 (lv_at hl 0 rfl) ?_
                    refine lv_iload hx hb d_RR_takeNumber_80 (lv_at hl 1 rfl) ?_
                    refine z_iadd hx hb d_RR_takeNumber_82 ?_
                    refine z_iconst hx hb d_RR_takeNumber_83 ?_
                    refine z_isub hx hb d_RR_takeNumber_84 ?_
                    refine lv_iload_n hx hb d_RR_takeNumber_85 rfl (lv_at hl 4 rfl) ?_
                    refine z_icmp_ge (tgt := 91) hx hb d_RR_takeNumber_86 (by decide) ⟨by omega, by omega⟩ ⟨by omega, by omega⟩ (fun h86_2 => ?_) (fun h86_2 => ?_)
                    · refine lv_aload_n hx hb d_RR_takeNumber_91 rfl (lv_at hl 2 rfl) ?_
                      refine lv_dup hx hb d_RR_takeNumber_92 rfl ?_
                      refine va_get (D := D) (ci := 6) (v := .int (iI (pl + 1))) (C := R_RR) (T := F_RR) (N := 10) hx hb hts in_RR hown hK hP 0 rfl rfl 7 (by decide) (hts _ k_180) (fun _ h9 => h9) rfl d_RR_takeNumber_93 ?_
                      refine z_iconst hx hb d_RR_takeNumber_96 ?_
                      refine z_iadd hx hb d_RR_takeNumber_97 ?_
                      refine va_put (D := D) (ci := 6) (v := .int (iI ((pl + 1) + 1))) (ty := .int) (C := R_RR) (T := F_RR) (N := 10) hx hb hts in_RR t_RR t_RR_ok n_RR hown hK hP hD hS 0 rfl rfl 7 (by decide) (hts _ k_180) (fun _ h9 => h9) rfl (by decide +kernel) rfl rfl (Nat.le_of_ble_eq_true rfl) d_RR_takeNumber_98 (fun H locs hP hD hS => ?_)
                      have hP : va_P D classes [(h0, .inr (6, [.ref b0, .ref g0, .ref n0, .ref e0, .ref z0, .ref t0, .int (iI ((n : Int))), .int (iI ((pl + 1) + 1)), .int (iI (fr)), .int (iI (to1))])), (t0, .inl (k 2, 100, .inl (aZ (tx))))] H := hP
                      have hD : va_D (va_A [(h0, .inr (6, [.ref b0, .ref g0, .ref n0, .ref e0, .ref z0, .ref t0, .int (iI ((n : Int))), .int (iI (pl)), .int (iI (fr)), .int (iI (to1))])), (t0, .inl (k 2, 100, .inl (aZ (tx))))] s.heap.size) [(h0, .inr (6, [.ref b0, .ref g0, .ref n0, .ref e0, .ref z0, .ref t0, .int (iI ((n : Int))), .int (iI ((pl + 1) + 1)), .int (iI (fr)), .int (iI (to1))])), (t0, .inl (k 2, 100, .inl (aZ (tx))))] := hD
                      refine lv_iload hx hb d_RR_takeNumber_101 (lv_at hl 1 rfl) ?_
                      refine z_bipush hx hb d_RR_takeNumber_103 (by decide) ?_
                      refine z_idiv hx hb d_RR_takeNumber_105 ⟨by decide, by decide⟩ (by decide) ⟨by decide, by decide⟩ (by decide) ?_
                      refine lv_istore (lv' := [(5, .int (iI (0))), (4, .int (iI ((0 + (((tx ((pl).toNat)) - 48) * 10)) + (((tx ((pl + 1).toNat)) - 48) * 1)))), (0, .ref h0), (1, .int (iI (10))), (2, .int (iI (lo))), (3, .int (iI (hi)))]) hx hb d_RR_takeNumber_106 hl (by decide) rfl (fun ls hl => ?_)
                      refine lv_goto (tgt := 6) hx hb d_RR_takeNumber_108 (by decide) ?_
                      refine lv_iload hx hb d_RR_takeNumber_6 (lv_at hl 0 rfl) ?_
                      refine z_if_le (tgt := 111) hx hb d_RR_takeNumber_8 (by decide) ⟨by omega, by omega⟩ (fun h8 => ?_) (fun h8 => absurd h8 (by decide))
                      refine lv_iload hx hb d_RR_takeNumber_111 (lv_at hl 1 rfl) ?_
                      have e9 : tn10 tx n pl lo hi = ((0 + (((tx ((pl).toNat)) - 48) * 10)) + (((tx ((pl + 1).toNat)) - 48) * 1), (pl + 1) + 1) := by unfold tn10; rw [if_neg h19, if_neg h33, if_pos h47, if_neg h75, if_pos h86, if_neg h19_2, if_neg h33_2, if_pos h47_2, if_neg h75_2, if_pos h86_2]
                      exact ret _ _ _ 113 (iI ((0 + (((tx ((pl).toNat)) - 48) * 10)) + (((tx ((pl + 1).toNat)) - 48) * 1))) () d_RR_takeNumber_113 hS ((congrArg (fun q9 => iI q9.1) e9).symm) (fun t ht _ => ⟨by rw [e9, ht]; exact hP, by rw [e9]; exact hD⟩)
                    · refine z_iconst hx hb d_RR_takeNumber_89 ?_
                      have e9 : tn10 tx n pl lo hi = (-1, pl + 1) := by unfold tn10; rw [if_neg h19, if_neg h33, if_pos h47, if_neg h75, if_pos h86, if_neg h19_2, if_neg h33_2, if_pos h47_2, if_neg h75_2, if_neg h86_2]
                      exact ret _ _ _ 90 (iI (-1)) () d_RR_takeNumber_90 hS ((congrArg (fun q9 => iI q9.1) e9).symm) (fun t ht _ => ⟨by rw [e9, ht]; exact hP, by rw [e9]; exact hD⟩)
                · refine z_iconst hx hb d_RR_takeNumber_50 ?_
                  have e9 : tn10 tx n pl lo hi = (-1, pl + 1) := by unfold tn10; rw [if_neg h19, if_neg h33, if_pos h47, if_neg h75, if_pos h86, if_neg h19_2, if_neg h33_2, if_neg h47_2]
                  exact ret _ _ _ 51 (iI (-1)) () d_RR_takeNumber_51 hS ((congrArg (fun q9 => iI q9.1) e9).symm) (fun t ht _ => ⟨by rw [e9, ht]; exact hP, by rw [e9]; exact hD⟩)
          · refine z_iconst hx hb d_RR_takeNumber_89 ?_
            have e9 : tn10 tx n pl lo hi = (-1, pl) := by unfold tn10; rw [if_neg h19, if_neg h33, if_pos h47, if_neg h75, if_neg h86]
            exact ret _ _ _ 90 (iI (-1)) () d_RR_takeNumber_90 hS ((congrArg (fun q9 => iI q9.1) e9).symm) (fun t ht _ => ⟨by rw [e9, ht]; exact hP, by rw [e9]; exact hD⟩)
      · refine z_iconst hx hb d_RR_takeNumber_50 ?_
        have e9 : tn10 tx n pl lo hi = (-1, pl) := by unfold tn10; rw [if_neg h19, if_neg h33, if_neg h47]
        exact ret _ _ _ 51 (iI (-1)) () d_RR_takeNumber_51 hS ((congrArg (fun q9 => iI q9.1) e9).symm) (fun t ht _ => ⟨by rw [e9, ht]; exact hP, by rw [e9]; exact hD⟩)

theorem tn10_bd {tx : Nat → Int} {n : Nat} {pl lo hi : Int} (hn : n ≤ 100) (h : 0 ≤ pl ∧ pl ≤ (n : Int)) : 0 ≤ (tn10 tx n pl lo hi).2 ∧ (tn10 tx n pl lo hi).2 ≤ (n : Int) ∧ -1 ≤ (tn10 tx n pl lo hi).1 ∧ ((tn10 tx n pl lo hi).1 = -1 ∨ (0 ≤ (tn10 tx n pl lo hi).1 ∧ lo ≤ (tn10 tx n pl lo hi).1 ∧ (tn10 tx n pl lo hi).1 ≤ hi)) := by
  show Pbd n lo hi (tn10 tx n pl lo hi)
  unfold tn10
  repeat' (refine ite_P (fun _ => ?_) (fun _ => ?_))
  all_goals (unfold Pbd; dsimp only; omega)

def tn1000 (tx : Nat → Int) (n : Nat) (pl : Int) (lo : Int) (hi : Int) : Int × Int := (if (n : Int) ≤ pl then (-1, pl) else (if tx ((pl).toNat) < 48 then (-1, pl) else (if tx ((pl).toNat) ≤ 57 then (if hi < 0 + (((tx ((pl).toNat)) - 48) * 1000) then (-1, pl) else (if lo ≤ ((0 + (((tx ((pl).toNat)) - 48) * 1000)) + 1000) - 1 then (if (n : Int) ≤ pl + 1 then (-1, pl + 1) else (if tx ((pl + 1).toNat) < 48 then (-1, pl + 1) else (if tx ((pl + 1).toNat) ≤ 57 then (if hi < (0 + (((tx ((pl).toNat)) - 48) * 1000)) + (((tx ((pl + 1).toNat)) - 48) * 100) then (-1, pl + 1) else (if lo ≤ (((0 + (((tx ((pl).toNat)) - 48) * 1000)) + (((tx ((pl + 1).toNat)) - 48) * 100)) + 100) - 1 then (if (n : Int) ≤ (pl + 1) + 1 then (-1, (pl + 1) + 1) else (if tx (((pl + 1) + 1).toNat) < 48 then (-1, (pl + 1) + 1) else (if tx (((pl + 1) + 1).toNat) ≤ 57 then (if hi < ((0 + (((tx ((pl).toNat)) - 48) * 1000)) + (((tx ((pl + 1).toNat)) - 48) * 100)) + (((tx (((pl + 1) + 1).toNat)) - 48) * 10) then (-1, (pl + 1) + 1) else (if lo ≤ ((((0 + (((tx ((pl).toNat)) - 48) * 1000)) + (((tx ((pl + 1).toNat)) - 48) * 100)) + (((tx (((pl + 1) + 1).toNat)) - 48) * 10)) + 10) - 1 then (if (n : Int) ≤ ((pl + 1) + 1) + 1 then (-1, ((pl + 1) + 1) + 1) else (if tx ((((pl + 1) + 1) + 1).toNat) < 48 then (-1, ((pl + 1) + 1) + 1) else (if tx ((((pl + 1) + 1) + 1).toNat) ≤ 57 then (if hi < (((0 + (((tx ((pl).toNat)) - 48) * 1000)) + (((tx ((pl + 1).toNat)) - 48) * 100)) + (((tx (((pl + 1) + 1).toNat)) - 48) * 10)) + (((tx ((((pl + 1) + 1) + 1).toNat)) - 48) * 1) then (-1, ((pl + 1) + 1) + 1) else (if lo ≤ (((((0 + (((tx ((pl).toNat)) - 48) * 1000)) + (((tx ((pl + 1).toNat)) - 48) * 100)) + (((tx (((pl + 1) + 1).toNat)) - 48) * 10)) + (((tx ((((pl + 1) + 1) + 1).toNat)) - 48) * 1)) + 1) - 1 then ((((0 + (((tx ((pl).toNat)) - 48) * 1000)) + (((tx ((pl + 1).toNat)) - 48) * 100)) + (((tx (((pl + 1) + 1).toNat)) - 48) * 10)) + (((tx ((((pl + 1) + 1) + 1).toNat)) - 48) * 1), (((pl + 1) + 1) + 1) + 1) else (-1, ((pl + 1) + 1) + 1))) else (-1, ((pl + 1) + 1) + 1)))) else (-1, (pl + 1) + 1))) else (-1, (pl + 1) + 1)))) else (-1, pl + 1))) else (-1, pl + 1)))) else (-1, pl))) else (-1, pl))))
set_option maxHeartbeats 4000000 in
set_option maxRecDepth 100000 in
theorem c_RR_takeNumber_1000 (l : Launch) (D : va_G) (k : Nat → ClassId) (sz : Nat) (h0 b0 g0 n0 e0 z0 t0 : Nat) (tx : Nat → Int) (n : Nat) (pl : Int) (fr : Int) (to1 : Int) (lo : Int) (hi : Int) (hn : n ≤ 100) (hpl : 0 ≤ pl ∧ pl ≤ (n : Int)) (htx : ∀ j, 0 ≤ tx j ∧ tx j ≤ 65535) (hlo : -5 ≤ lo ∧ lo ≤ 10000) (hhi : -5 ≤ hi ∧ hi ≤ 10000) : Met l y_RR_takeNumber wd_RR_takeNumber rm_RR_takeNumber (va_Pc [.ref h0, .int (iI (1000)), .int (iI (lo)), .int (iI (hi))] (PRW D k [(h0, .inr (6, [.ref b0, .ref g0, .ref n0, .ref e0, .ref z0, .ref t0, .int (iI ((n : Int))), .int (iI (pl)), .int (iI (fr)), .int (iI (to1))])), (t0, .inl (k 2, 100, .inl (aZ (tx))))] sz)) (va_Qi (fun (r : Int32) (u : Unit) => r = (iI ((tn1000 tx n pl lo hi).1))) (fun _ t => BRW D [(h0, .inr (6, [.ref b0, .ref g0, .ref n0, .ref e0, .ref z0, .ref t0, .int (iI ((n : Int))), .int (iI (pl)), .int (iI (fr)), .int (iI (to1))])), (t0, .inl (k 2, 100, .inl (aZ (tx))))] sz [(h0, .inr (6, [.ref b0, .ref g0, .ref n0, .ref e0, .ref z0, .ref t0, .int (iI ((n : Int))), .int (iI ((tn1000 tx n pl lo hi).2)), .int (iI (fr)), .int (iI (to1))])), (t0, .inl (k 2, 100, .inl (aZ (tx))))] t) (va_A [(h0, .inr (6, [.ref b0, .ref g0, .ref n0, .ref e0, .ref z0, .ref t0, .int (iI ((n : Int))), .int (iI (pl)), .int (iI (fr)), .int (iI (to1))])), (t0, .inl (k 2, 100, .inl (aZ (tx))))] sz)) 0 0 (va_A [(h0, .inr (6, [.ref b0, .ref g0, .ref n0, .ref e0, .ref z0, .ref t0, .int (iI ((n : Int))), .int (iI (pl)), .int (iI (fr)), .int (iI (to1))])), (t0, .inl (k 2, 100, .inl (aZ (tx))))] sz) := by
  refine e_i (by decide) rfl (Nat.le_of_ble_eq_true rfl) ?_
  intro p e s m args below meth c Q ls hx hb hml hown hts hpre hl ret
  obtain ⟨hsz, hP, hK, hD0, hX⟩ := hpre
  subst hsz
  have hD := hD0.self (sz := s.heap.size)
  have hA : ∀ q : Nat, s.heap.size ≤ q → (va_A [(h0, .inr (6, [.ref b0, .ref g0, .ref n0, .ref e0, .ref z0, .ref t0, .int (iI ((n : Int))), .int (iI (pl)), .int (iI (fr)), .int (iI (to1))])), (t0, .inl (k 2, 100, .inl (aZ (tx))))] s.heap.size) q := fun q h => Or.inr h
  have hS : va_S (va_A [(h0, .inr (6, [.ref b0, .ref g0, .ref n0, .ref e0, .ref z0, .ref t0, .int (iI ((n : Int))), .int (iI (pl)), .int (iI (fr)), .int (iI (to1))])), (t0, .inl (k 2, 100, .inl (aZ (tx))))] s.heap.size) s.heap s.heap [] := va_S.rf
  have hl : lv_has ls 6 [(0, .ref h0), (1, .int (iI (1000))), (2, .int (iI (lo))), (3, .int (iI (hi)))] := hl
  refine z_iconst hx hb d_RR_takeNumber_0 ?_
  refine lv_istore (lv' := [(4, .int (iI (0))), (0, .ref h0), (1, .int (iI (1000))), (2, .int (iI (lo))), (3, .int (iI (hi)))]) hx hb d_RR_takeNumber_1 hl (by decide) rfl (fun ls hl => ?_)
  refine lv_iload_n hx hb d_RR_takeNumber_3 rfl (lv_at hl 2 rfl) ?_
  refine lv_istore (lv' := [(5, .int (iI (1000))), (4, .int (iI (0))), (0, .ref h0), (1, .int (iI (1000))), (2, .int (iI (lo))), (3, .int (iI (hi)))]) hx hb d_RR_takeNumber_4 hl (by decide) rfl (fun ls hl => ?_)
  refine lv_iload hx hb d_RR_takeNumber_6 (lv_at hl 0 rfl) ?_
  refine z_if_le (tgt := 111) hx hb d_RR_takeNumber_8 (by decide) ⟨by omega, by omega⟩ (fun h8 => absurd h8 (by decide)) (fun h8 => ?_)
  refine lv_aload_n hx hb d_RR_takeNumber_11 rfl (lv_at hl 2 rfl) ?_
  refine va_get (D := D) (ci := 6) (v := .int (iI (pl))) (C := R_RR) (T := F_RR) (N := 10) hx hb hts in_RR hown hK hP 0 rfl rfl 7 (by decide) (hts _ k_180) (fun _ h9 => h9) rfl d_RR_takeNumber_12 ?_
  refine lv_aload_n hx hb d_RR_takeNumber_15 rfl (lv_at hl 2 rfl) ?_
  refine va_get (D := D) (ci := 6) (v := .int (iI ((n : Int)))) (C := R_RR) (T := F_RR) (N := 10) hx hb hts in_RR hown hK hP 0 rfl rfl 6 (by decide) (hts _ k_179) (fun _ h9 => h9) rfl d_RR_takeNumber_16 ?_
  refine z_icmp_ge (tgt := 50) hx hb d_RR_takeNumber_19 (by decide) ⟨by omega, by omega⟩ ⟨by omega, by omega⟩ (fun h19 => ?_) (fun h19 => ?_)
  · refine z_iconst hx hb d_RR_takeNumber_50 ?_
    have e9 : tn1000 tx n pl lo hi = (-1, pl) := by unfold tn1000; rw [if_pos h19]
    exact ret _ _ _ 51 (iI (-1)) () d_RR_takeNumber_51 hS ((congrArg (fun q9 => iI q9.1) e9).symm) (fun t ht _ => ⟨by rw [e9, ht]; exact hP, by rw [e9]; exact hD⟩)
  · refine lv_aload_n hx hb d_RR_takeNumber_22 rfl (lv_at hl 2 rfl) ?_
    refine va_get (D := D) (ci := 6) (v := .ref t0) (C := R_RR) (T := F_RR) (N := 10) hx hb hts in_RR hown hK hP 0 rfl rfl 5 (by decide) (hts _ k_178) (fun _ h9 => h9) rfl d_RR_takeNumber_23 ?_
    refine lv_aload_n hx hb d_RR_takeNumber_26 rfl (lv_at hl 2 rfl) ?_
    refine va_get (D := D) (ci := 6) (v := .int (iI (pl))) (C := R_RR) (T := F_RR) (N := 10) hx hb hts in_RR hown hK hP 0 rfl rfl 7 (by decide) (hts _ k_180) (fun _ h9 => h9) rfl d_RR_takeNumber_27 ?_
    refine x_cald hx hb hK hP 1 2 rfl rfl ((pl).toNat) (by omega) (by omega) (by omega) d_RR_takeNumber_30 ?_
    refine z_top (show _ = iI (tx ((pl).toNat)) from rfl) ?_
    have hbd1 := htx ((pl).toNat)
    refine z_bipush hx hb d_RR_takeNumber_31 (by decide) ?_
    refine z_icmp_lt (tgt := 50) hx hb d_RR_takeNumber_33 (by decide) ⟨by omega, by omega⟩ ⟨by omega, by omega⟩ (fun h33 => ?_) (fun h33 => ?_)
    · refine z_iconst hx hb d_RR_takeNumber_50 ?_
      have e9 : tn1000 tx n pl lo hi = (-1, pl) := by unfold tn1000; rw [if_neg h19, if_pos h33]
      exact ret _ _ _ 51 (iI (-1)) () d_RR_takeNumber_51 hS ((congrArg (fun q9 => iI q9.1) e9).symm) (fun t ht _ => ⟨by rw [e9, ht]; exact hP, by rw [e9]; exact hD⟩)
    · refine lv_aload_n hx hb d_RR_takeNumber_36 rfl (lv_at hl 2 rfl) ?_
      refine va_get (D := D) (ci := 6) (v := .ref t0) (C := R_RR) (T := F_RR) (N := 10) hx hb hts in_RR hown hK hP 0 rfl rfl 5 (by decide) (hts _ k_178) (fun _ h9 => h9) rfl d_RR_takeNumber_37 ?_
      refine lv_aload_n hx hb d_RR_takeNumber_40 rfl (lv_at hl 2 rfl) ?_
      refine va_get (D := D) (ci := 6) (v := .int (iI (pl))) (C := R_RR) (T := F_RR) (N := 10) hx hb hts in_RR hown hK hP 0 rfl rfl 7 (by decide) (hts _ k_180) (fun _ h9 => h9) rfl d_RR_takeNumber_41 ?_
      refine x_cald hx hb hK hP 1 2 rfl rfl ((pl).toNat) (by omega) (by omega) (by omega) d_RR_takeNumber_44 ?_
      refine z_top (show _ = iI (tx ((pl).toNat)) from rfl) ?_
      have hbd2 := htx ((pl).toNat)
      refine z_bipush hx hb d_RR_takeNumber_45 (by decide) ?_
      refine z_icmp_le (tgt := 52) hx hb d_RR_takeNumber_47 (by decide) ⟨by omega, by omega⟩ ⟨by omega, by omega⟩ (fun h47 => ?_) (fun h47 => ?_)
      · refine lv_iload hx hb d_RR_takeNumber_52 (lv_at hl 1 rfl) ?_
        refine lv_aload_n hx hb d_RR_takeNumber_54 rfl (lv_at hl 2 rfl) ?_
        refine va_get (D := D) (ci := 6) (v := .ref t0) (C := R_RR) (T := F_RR) (N := 10) hx hb hts in_RR hown hK hP 0 rfl rfl 5 (by decide) (hts _ k_178) (fun _ h9 => h9) rfl d_RR_takeNumber_55 ?_
        refine lv_aload_n hx hb d_RR_takeNumber_58 rfl (lv_at hl 2 rfl) ?_
        refine va_get (D := D) (ci := 6) (v := .int (iI (pl))) (C := R_RR) (T := F_RR) (N := 10) hx hb hts in_RR hown hK hP 0 rfl rfl 7 (by decide) (hts _ k_180) (fun _ h9 => h9) rfl d_RR_takeNumber_59 ?_
        refine x_cald hx hb hK hP 1 2 rfl rfl ((pl).toNat) (by omega) (by omega) (by omega) d_RR_takeNumber_62 ?_
        refine z_top (show _ = iI (tx ((pl).toNat)) from rfl) ?_
        have hbd3 := htx ((pl).toNat)
        refine z_bipush hx hb d_RR_takeNumber_63 (by decide) ?_
        refine z_isub hx hb d_RR_takeNumber_65 ?_
        refine lv_iload hx hb d_RR_takeNumber_66 (lv_at hl 0 rfl) ?_
        refine z_imul hx hb d_RR_takeNumber_68 ?_
        refine z_iadd hx hb d_RR_takeNumber_69 ?_
        refine lv_istore (lv' := [(4, .int (iI (0 + (((tx ((pl).toNat)) - 48) * 1000)))), (5, .int (iI (1000))), (0, .ref h0), (1, .int (iI (1000))), (2, .int (iI (lo))), (3, .int (iI (hi)))]) hx hb d_RR_takeNumber_70 hl (by decide) rfl (fun ls hl => ?_)
        refine lv_iload hx hb d_RR_takeNumber_72 (lv_at hl 0 rfl) ?_
        refine lv_iload_n hx hb d_RR_takeNumber_74 rfl (lv_at hl 5 rfl) ?_
        refine z_icmp_gt (tgt := 89) hx hb d_RR_takeNumber_75 (by decide) ⟨by omega, by omega⟩ ⟨by omega, by omega⟩ (fun h75 => ?_) (fun h75 => ?_)
        · refine z_iconst hx hb d_RR_takeNumber_89 ?_
          have e9 : tn1000 tx n pl lo hi = (-1, pl) := by unfold tn1000; rw [if_neg h19, if_neg h33, if_pos h47, if_pos h75]
          exact ret _ _ _ 90 (iI (-1)) () d_RR_takeNumber_90 hS ((congrArg (fun q9 => iI q9.1) e9).symm) (fun t ht _ => ⟨by rw [e9, ht]; exact hP, by rw [e9]; exact hD⟩)
        · refine lv_iload hx hb d_RR_takeNumber_78 (lv_at hl 0 rfl) ?_
          refine lv_iload hx hb d_RR_takeNumber_80 (lv_at hl 1 rfl) ?_
          refine z_iadd hx hb d_RR_takeNumber_82 ?_
          refine z_iconst hx hb d_RR_takeNumber_83 ?_
          refine z_isub hx hb d_RR_takeNumber_84 ?_
          refine lv_iload_n hx hb d_RR_takeNumber_85 rfl (lv_at hl 4 rfl) ?_
          refine z_icmp_ge (tgt := 91) hx hb d_RR_takeNumber_86 (by decide) ⟨by omega, by omega⟩ ⟨by omega, by omega⟩ (fun h86 => ?_) (fun h86 => ?_)
          · refine lv_aload_n hx hb d_RR_takeNumber_91 rfl (lv_at hl 2 rfl) ?_
            refine lv_dup hx hb d_RR_takeNumber_92 rfl ?_
            refine va_get (D := D) (ci := 6) (v := .int (iI (pl))) (C := R_RR) (T := F_RR) (N := 10) hx hb hts in_RR hown hK hP 0 rfl rfl 7 (by decide) (hts _ k_180) (fun _ h9 => h9) rfl d_RR_takeNumber_93 ?_
            refine z_iconst hx hb d_RR_takeNumber_96 ?_
            refine z_iadd hx hb d_RR_takeNumber_97 ?_
            refine va_put (D := D) (ci := 6) (v := .int (iI (pl + 1))) (ty := .int) (C := R_RR) (T := F_RR) (N := 10) hx hb hts in_RR t_RR t_RR_ok n_RR hown hK hP hD hS 0 rfl rfl 7 (by decide) (hts _ k_180) (fun _ h9 => h9) rfl (by decide +kernel) rfl rfl (Nat.le_of_ble_eq_true rfl) d_RR_takeNumber_98 (fun H locs hP hD hS => ?_)
            have hP : va_P D classes [(h0, .inr (6, [.ref b0, .ref g0, .ref n0, .ref e0, .ref z0, .ref t0, .int (iI ((n : Int))), .int (iI (pl + 1)), .int (iI (fr)), .int (iI (to1))])), (t0, .inl (k 2, 100, .inl (aZ (tx))))] H := hP
            have hD : va_D (va_A [(h0, .inr (6, [.ref b0, .ref g0, .ref n0, .ref e0, .ref z0, .ref t0, .int (iI ((n : Int))), .int (iI (pl)), .int (iI (fr)), .int (iI (to1))])), (t0, .inl (k 2, 100, .inl (aZ (tx))))] s.heap.size) [(h0, .inr (6, [.ref b0, .ref g0, .ref n0, .ref e0, .ref z0, .ref t0, .int (iI ((n : Int))), .int (iI (pl + 1)), .int (iI (fr)), .int (iI (to1))])), (t0, .inl (k 2, 100, .inl (aZ (tx))))] := hD
            refine lv_iload hx hb d_RR_takeNumber_101 (lv_at hl 1 rfl) ?_
            refine z_bipush hx hb d_RR_takeNumber_103 (by decide) ?_
            refine z_idiv hx hb d_RR_takeNumber_105 ⟨by decide, by decide⟩ (by decide) ⟨by decide, by decide⟩ (by decide) ?_
            refine lv_istore (lv' := [(5, .int (iI (100))), (4, .int (iI (0 + (((tx ((pl).toNat)) - 48) * 1000)))), (0, .ref h0), (1, .int (iI (1000))), (2, .int (iI (lo))), (3, .int (iI (hi)))]) hx hb d_RR_takeNumber_106 hl (by decide) rfl (fun ls hl => ?_)
            refine lv_goto (tgt := 6) hx hb d_RR_takeNumber_108 (by decide) ?_
            refine lv_iload hx hb d_RR_takeNumber_6 (lv_at hl 0 rfl) ?_
            refine z_if_le (tgt := 111) hx hb d_RR_takeNumber_8 (by decide) ⟨by omega, by omega⟩ (fun h8 => absurd h8 (by decide)) (fun h8 => ?_)
            refine lv_aload_n hx hb d_RR_takeNumber_11 rfl (lv_at hl 2 rfl) ?_
            refine va_get (D := D) (ci := 6) (v := .int (iI (pl + 1))) (C := R_RR) (T := F_RR) (N := 10) hx hb hts in_RR hown hK hP 0 rfl rfl 7 (by decide) (hts _ k_180) (fun _ h9 => h9) rfl d_RR_takeNumber_12 ?_
            refine lv_aload_n hx hb d_RR_takeNumber_15 rfl (lv_at hl 2 rfl) ?_
            refine va_get (D := D) (ci := 6) (v := .int (iI ((n : Int)))) (C := R_RR) (T := F_RR) (N := 10) hx hb hts in_RR hown hK hP 0 rfl rfl 6 (by decide) (hts _ k_179) (fun _ h9 => h9) rfl d_RR_takeNumber_16 ?_
            refine z_icmp_ge (tgt := 50) hx hb d_RR_takeNumber_19 (by decide) ⟨by omega, by omega⟩ ⟨by omega, by omega⟩ (fun h19_2 => ?_) (fun h19_2 => ?_)
            · refine z_iconst hx hb d_RR_takeNumber_50 ?_
              have e9 : tn1000 tx n pl lo hi = (-1, pl + 1) := by unfold tn1000; rw [if_neg h19, if_neg h33, if_pos h47, if_neg h75, if_pos h86, if_pos h19_2]
              exact ret _ _ _ 51 (iI (-1)) () d_RR_takeNumber_51 hS ((congrArg (fun q9 => iI q9.1) e9).symm) (fun t ht _ => ⟨by rw [e9, ht]; exact hP, by rw [e9]; exact hD⟩)
            · refine lv_aload_n hx hb d_RR_takeNumber_22 rfl (lv_at hl 2 rfl) ?_
              refine va_get (D := D) (ci := 6) (v := .ref t0) (C := R_RR) (T := F_RR) (N := 10) hx hb hts in_RR hown hK hP 0 rfl rfl 5 (by decide) (hts _ k_178) (fun _ h9 => h9) rfl d_RR_takeNumber_23 ?_
              refine lv_aload_n hx hb d_RR_takeNumber_26 rfl (lv_at hl 2 rfl) ?_
              refine va_get (D := D) (ci := 6) (v := .int (iI (pl + 1))) (C := R_RR) (T := F_RR) (N := 10) hx hb hts in_RR hown hK hP 0 rfl rfl 7 (by decide) (hts _ k_180) (fun _ h9 => h9) rfl d_RR_takeNumber_27 ?_
              refine x_cald hx hb hK hP 1 2 rfl rfl ((pl + 1).toNat) (by omega) (by omega) (by omega) d_RR_takeNumber_30 ?_
              refine z_top (show _ = iI (tx ((pl + 1).toNat)) from rfl) ?_
              have hbd4 := htx ((pl + 1).toNat)
              refine z_bipush hx hb d_RR_takeNumber_31 (by decide) ?_
              refine z_icmp_lt (tgt := 50) hx hb d_RR_takeNumber_33 (by decide) ⟨by omega, by omega⟩ ⟨by omega, by omega⟩ (fun h33_2 => ?_) (fun h33_2 => ?_)
              · refine z_iconst hx hb d_RR_takeNumber_50 ?_
                have e9 : tn1000 tx n pl lo hi = (-1, pl + 1) := by unfold tn1000; rw [if_neg h19, if_neg h33, if_pos h47, if_neg h75, if_pos h86, if_neg h19_2, if_pos h33_2]
                exact ret _ _ _ 51 (iI (-1)) () d_RR_takeNumber_51 hS ((congrArg (fun q9 => iI q9.1) e9).symm) (fun t ht _ => ⟨by rw [e9, ht]; exact hP, by rw [e9]; exact hD⟩)
              · refine lv_aload_n hx hb d_RR_takeNumber_36 rfl (lv_at hl 2 rfl) ?_
                refine va_get (D := D) (ci := 6) (v := .ref t0) (C := R_RR) (T := F_RR) (N := 10) hx hb hts in_RR hown hK hP 0 rfl rfl 5 (by decide) (hts _ k_178) (fun _ h9 => h9) rfl d_RR_takeNumber_37 ?_
                refine lv_aload_n hx hb d_RR_takeNumber_40 rfl (lv_at hl 2 rfl) ?_
                refine va_get (D := D) (ci := 6) (v := .int (iI (pl + 1))) (C := R_RR) (T := F_RR) (N := 10) hx hb hts in_RR hown hK hP 0 rfl rfl 7 (by decide) (hts _ k_180) (fun _ h9 => h9) rfl d_RR_takeNumber_41 ?_
                refine x_cald hx hb hK hP 1 2 rfl rfl ((pl + 1).toNat) (by omega) (by omega) (by omega) d_RR_takeNumber_44 ?_
                refine z_top (show _ = iI (tx ((pl + 1).toNat)) from rfl) ?_
                have hbd5 := htx ((pl + 1).toNat)
                refine z_bipush hx hb d_RR_takeNumber_45 (by decide) ?_
                refine z_icmp_le (tgt := 52) hx hb d_RR_takeNumber_47 (by decide) ⟨by omega, by omega⟩ ⟨by omega, by omega⟩ (fun h47_2 => ?_) (fun h47_2 => ?_)
                · refine lv_iload hx hb d_RR_takeNumber_52 (lv_at hl 1 rfl) ?_
                  refine lv_aload_n hx hb d_RR_takeNumber_54 rfl (lv_at hl 2 rfl) ?_
                  refine va_get (D := D) (ci := 6) (v := .ref t0) (C := R_RR) (T := F_RR) (N := 10) hx hb hts in_RR hown hK hP 0 rfl rfl 5 (by decide) (hts _ k_178) (fun _ h9 => h9) rfl d_RR_takeNumber_55 ?_
                  refine lv_aload_n hx hb d_RR_takeNumber_58 rfl (lv_at hl 2 rfl) ?_
                  refine va_get (D := D) (ci := 6) (v := .int (iI (pl + 1))) (C := R_RR) (T := F_RR) (N := 10) hx hb hts in_RR hown hK hP 0 rfl rfl 7 (by decide) (hts _ k_180) (fun _ h9 => h9) rfl d_RR_takeNumber_59 ?_
                  refine x_cald hx hb hK hP 1 2 rfl rfl ((pl + 1).toNat) (by omega) (by omega) (by omega) d_RR_takeNumber_62 ?_
                  refine z_top (show _ = iI (tx ((pl + 1).toNat)) from rfl) ?_
                  have hbd6 := htx ((pl + 1).toNat)
                  refine z_bipush hx hb d_RR_takeNumber_63 (by decide) ?_
                  refine z_isub hx hb d_RR_takeNumber_65 ?_
                  refine lv_iload hx hb d_RR_takeNumber_66 (lv_at hl 0 rfl) ?_
                  refine z_imul hx hb d_RR_takeNumber_68 ?_
                  refine z_iadd hx hb d_RR_takeNumber_69 ?_
                  refine lv_istore (lv' := [(4, .int (iI ((0 + (((tx ((pl).toNat)) - 48) * 1000)) + (((tx ((pl + 1).toNat)) - 48) * 100)))), (5, .int (iI (100))), (0, .ref h0), (1, .int (iI (1000))), (2, .int (iI (lo))), (3, .int (iI (hi)))]) hx hb d_RR_takeNumber_70 hl (by decide) rfl (fun ls hl => ?_)
                  refine lv_iload hx hb d_RR_takeNumber_72 (lv_at hl 0 rfl) ?_
                  refine lv_iload_n hx hb d_RR_takeNumber_74 rfl (lv_at hl 5 rfl) ?_
                  refine z_icmp_gt (tgt := 89) hx hb d_RR_takeNumber_75 (by decide) ⟨by omega, by omega⟩ ⟨by omega, by omega⟩ (fun h75_2 => ?_) (fun h75_2 => ?_)
                  · refine z_iconst hx hb d_RR_takeNumber_89 ?_
                    have e9 : tn1000 tx n pl lo hi = (-1, pl + 1) := by unfold tn1000; rw [if_neg h19, if_neg h33, if_pos h47, if_neg h75, if_pos h86, if_neg h19_2, if_neg h33_2, if_pos h47_2, if_pos h75_2]
                    exact ret _ _ _ 90 (iI (-1)) () d_RR_takeNumber_90 hS ((congrArg (fun q9 => iI q9.1) e9).symm) (fun t ht _ => ⟨by rw [e9, ht]; exact hP, by rw [e9]; exact hD⟩)
                  · refine lv_iload hx hb d_RR_takeNumber_78 (lv_at hl 0 rfl) ?_
                    refine lv_iload hx hb d_RR_takeNumber_80 (lv_at hl 1 rfl) ?_
                    refine z_iadd hx hb d_RR_takeNumber_82 ?_
                    refine z_iconst hx hb d_RR_takeNumber_83 ?_
                    refine z_isub hx hb d_RR_takeNumber_84 ?_
                    refine lv_iload_n hx hb d_RR_takeNumber_85 rfl (lv_at hl 4 rfl) ?_
                    refine z_icmp_ge (tgt := 91) hx hb d_RR_takeNumber_86 (by decide) ⟨by omega, by omega⟩ ⟨by omega, by omega⟩ (fun h86_2 => ?_) (fun h86_2 => ?_)
                    · refine lv_aload_n hx hb d_RR_takeNumber_91 rfl (lv_at hl 2 rfl) ?_
                      refine lv_dup hx hb d_RR_takeNumber_92 rfl ?_
                      refine va_get (D := D) (ci := 6) (v := .int (iI (pl + 1))) (C := R_RR) (T := F_RR) (N := 10) hx hb hts in_RR hown hK hP 0 rfl rfl 7 (by decide) (hts _ k_180) (fun _ h9 => h9) rfl d_RR_takeNumber_93 ?_
                      refine z_iconst hx hb d_RR_takeNumber_96 ?_
                      refine z_iadd hx hb d_RR_takeNumber_97 ?_
                      refine va_put (D := D) (ci := 6) (v := .int (iI ((pl + 1) + 1))) (ty := .int) (C := R_RR) (T := F_RR) (N := 10) hx hb hts in_RR t_RR t_RR_ok n_RR hown hK hP hD hS 0 rfl rfl 7 (by decide) (hts _ k_180) (fun _ h9 => h9) rfl (by decide +kernel) rfl rfl (Nat.le_of_ble_eq_true rfl) d_RR_takeNumber_98 (fun H locs hP hD hS => ?_)
                      have hP : va_P D classes [(h0, .inr (6, [.ref b0, .ref g0, .ref n0, .ref e0, .ref z0, .ref t0, .int (iI ((n : Int))), .int (iI ((pl + 1) + 1)), .int (iI (fr)), .int (iI (to1))])), (t0, .inl (k 2, 100, .inl (aZ (tx))))] H := hP
                      have hD : va_D (va_A [(h0, .inr (6, [.ref b0, .ref g0, .ref n0, .ref e0, .ref z0, .ref t0, .int (iI ((n : Int))), .int (iI (pl)), .int (iI (fr)), .int (iI (to1))])), (t0, .inl (k 2, 100, .inl (aZ (tx))))] s.heap.size) [(h0, .inr (6, [.ref b0, .ref g0, .ref n0, .ref e0, .ref z0, .ref t0, .int (iI ((n : Int))), .int (iI ((pl + 1) + 1)), .int (iI (fr)), .int (iI (to1))])), (t0, .inl (k 2, 100, .inl (aZ (tx))))] := hD
                      refine lv_iload hx hb d_RR_takeNumber_101 (lv_at hl 1 rfl) ?_
                      refine z_bipush hx hb d_RR_takeNumber_103 (by decide) ?_
                      refine z_idiv hx hb d_RR_takeNumber_105 ⟨by decide, by decide⟩ (by decide) ⟨by decide, by decide⟩ (by decide) ?_
                      refine lv_istore (lv' := [(5, .int (iI (10))), (4, .int (iI ((0 + (((tx ((pl).toNat)) - 48) * 1000)) + (((tx ((pl + 1).toNat)) - 48) * 100)))), (0, .ref h0), (1, .int (iI (1000))), (2, .int (iI (lo))), (3, .int (iI (hi)))]) hx hb d_RR_takeNumber_106 hl (by decide) rfl (fun ls hl => ?_)
                      refine lv_goto (tgt := 6) hx hb d_RR_takeNumber_108 (by decide) ?_
                      refine lv_iload hx hb d_RR_takeNumber_6 (lv_at hl 0 rfl) ?_
                      refine z_if_le (tgt := 111) hx hb d_RR_takeNumber_8 (by decide) ⟨by omega, by omega⟩ (fun h8 => absurd h8 (by decide)) (fun h8 => ?_)
                      refine lv_aload_n hx hb d_RR_takeNumber_11 rfl (lv_at hl 2 rfl) ?_
                      refine va_get (D := D) (ci := 6) (v := .int (iI ((pl + 1) + 1))) (C := R_RR) (T := F_RR) (N := 10) hx hb hts in_RR hown hK hP 0 rfl rfl 7 (by decide) (hts _ k_180) (fun _ h9 => h9) rfl d_RR_takeNumber_12 ?_
                      refine lv_aload_n hx hb d_RR_takeNumber_15 rfl (lv_at hl 2 rfl) ?_
                      refine va_get (D := D) (ci := 6) (v := .int (iI ((n : Int)))) (C := R_RR) (T := F_RR) (N := 10) hx hb hts in_RR hown hK hP 0 rfl rfl 6 (by decide) (hts _ k_179) (fun _ h9 => h9) rfl d_RR_takeNumber_16 ?_
                      refine z_icmp_ge (tgt := 50) hx hb d_RR_takeNumber_19 (by decide) ⟨by omega, by omega⟩ ⟨by omega, by omega⟩ (fun h19_3 => ?_) (fun h19_3 => ?_)
                      · refine z_iconst hx hb d_RR_takeNumber_50 ?_
                        have e9 : tn1000 tx n pl lo hi = (-1, (pl + 1) + 1) := by unfold tn1000; rw [if_neg h19, if_neg h33, if_pos h47, if_neg h75, if_pos h86, if_neg h19_2, if_neg h33_2, if_pos h47_2, if_neg h75_2, if_pos h86_2, if_pos h19_3]
                        exact ret _ _ _ 51 (iI (-1)) () d_RR_takeNumber_51 hS ((congrArg (fun q9 => iI q9.1) e9).symm) (fun t ht _ => ⟨by rw [e9, ht]; exact hP, by rw [e9]; exact hD⟩)
                      · refine lv_aload_n hx hb d_RR_takeNumber_22 rfl (lv_at hl 2 rfl) ?_
                        refine va_get (D := D) (ci := 6) (v := .ref t0) (C := R_RR) (T := F_RR) (N := 10) hx hb hts in_RR hown hK hP 0 rfl rfl 5 (by decide) (hts _ k_178) (fun _ h9 => h9) rfl d_RR_takeNumber_23 ?_
                        refine lv_aload_n hx hb d_RR_takeNumber_26 rfl (lv_at hl 2 rfl) ?_
                        refine va_get (D := D) (ci := 6) (v := .int (iI ((pl + 1) + 1))) (C := R_RR) (T := F_RR) (N := 10) hx hb hts in_RR hown hK hP 0 rfl rfl 7 (by decide) (hts _ k_180) (fun _ h9 => h9) rfl d_RR_takeNumber_27 ?_
                        refine x_cald hx hb hK hP 1 2 rfl rfl (((pl + 1) + 1).toNat) (by omega) (by omega) (by omega) d_RR_takeNumber_30 ?_
                        refine z_top (show _ = iI (tx (((pl + 1) + 1).toNat)) from rfl) ?_
                        have hbd7 := htx (((pl + 1) + 1).toNat)
                        refine z_bipush hx hb d_RR_takeNumber_31 (by decide) ?_
                        refine z_icmp_lt (tgt := 50) hx hb d_RR_takeNumber_33 (by decide) ⟨by omega, by omega⟩ ⟨by omega, by omega⟩ (fun h33_3 => ?_) (fun h33_3 => ?_)
                        · refine z_iconst hx hb d_RR_takeNumber_50 ?_
                          have e9 : tn1000 tx n pl lo hi = (-1, (pl + 1) + 1) := by unfold tn1000; rw [if_neg h19, if_neg h33, if_pos h47, if_neg h75, if_pos h86, if_neg h19_2, if_neg h33_2, if_pos h47_2, if_neg h75_2, if_pos h86_2, if_neg h19_3, if_pos h33_3]
                          exact ret _ _ _ 51 (iI (-1)) () d_RR_takeNumber_51 hS ((congrArg (fun q9 => iI q9.1) e9).symm) (fun t ht _ => ⟨by rw [e9, ht]; exact hP, by rw [e9]; exact hD⟩)
                        · refine lv_aload_n hx hb d_RR_takeNumber_36 rfl (lv_at hl 2 rfl) ?_
                          refine va_get (D := D) (ci := 6) (v := .ref t0) (C := R_RR) (T := F_RR) (N := 10) hx hb hts in_RR hown hK hP 0 rfl rfl 5 (by decide) (hts _ k_178) (fun _ h9 => h9) rfl d_RR_takeNumber_37 ?_
                          refine lv_aload_n hx hb d_RR_takeNumber_40 rfl (lv_at hl 2 rfl) ?_
                          refine va_get (D := D) (ci := 6) (v := .int (iI ((pl + 1) + 1))) (C := R_RR) (T := F_RR) (N := 10) hx hb hts in_RR hown hK hP 0 rfl rfl 7 (by decide) (hts _ k_180) (fun _ h9 => h9) rfl d_RR_takeNumber_41 ?_
                          refine x_cald hx hb hK hP 1 2 rfl rfl (((pl + 1) + 1).toNat) (by omega) (by omega) (by omega) d_RR_takeNumber_44 ?_
                          refine z_top (show _ = iI (tx (((pl + 1) + 1).toNat)) from rfl) ?_
                          have hbd8 := htx (((pl + 1) + 1).toNat)
                          refine z_bipush hx hb d_RR_takeNumber_45 (by decide) ?_
                          refine z_icmp_le (tgt := 52) hx hb d_RR_takeNumber_47 (by decide) ⟨by omega, by omega⟩ ⟨by omega, by omega⟩ (fun h47_3 => ?_) (fun h47_3 => ?_)
                          · refine lv_iload hx hb d_RR_takeNumber_52 (lv_at hl 1 rfl) ?_
                            refine lv_aload_n hx hb d_RR_takeNumber_54 rfl (lv_at hl 2 rfl) ?_
                            refine va_get (D := D) (ci := 6) (v := .ref t0) (C := R_RR) (T := F_RR) (N := 10) hx hb hts in_RR hown hK hP 0 rfl rfl 5 (by decide) (hts _ k_178) (fun _ h9 => h9) rfl d_RR_takeNumber_55 ?_
                            refine lv_aload_n hx hb d_RR_takeNumber_58 rfl (lv_at hl 2 rfl) ?_
                            refine va_get (D := D) (ci := 6) (v := .int (iI ((pl + 1) + 1))) (C := R_RR) (T := F_RR) (N := 10) hx hb hts in_RR hown hK hP 0 rfl rfl 7 (by decide) (hts _ k_180) (fun _ h9 => h9) rfl d_RR_takeNumber_59 ?_
                            refine x_cald hx hb hK hP 1 2 rfl rfl (((pl + 1) + 1).toNat) (by omega) (by omega) (by omega) d_RR_takeNumber_62 ?_
                            refine z_top (show _ = iI (tx (((pl + 1) + 1).toNat)) from rfl) ?_
                            have hbd9 := htx (((pl + 1) + 1).toNat)
                            refine z_bipush hx hb d_RR_takeNumber_63 (by decide) ?_
                            refine z_isub hx hb d_RR_takeNumber_65 ?_
                            refine lv_iload hx hb d_RR_takeNumber_66 (lv_at hl 0 rfl) ?_
                            refine z_imul hx hb d_RR_takeNumber_68 ?_
                            refine z_iadd hx hb d_RR_takeNumber_69 ?_
                            refine lv_istore (lv' := [(4, .int (iI (((0 + (((tx ((pl).toNat)) - 48) * 1000)) + (((tx ((pl + 1).toNat)) - 48) * 100)) + (((tx (((pl + 1) + 1).toNat)) - 48) * 10)))), (5, .int (iI (10))), (0, .ref h0), (1, .int (iI (1000))), (2, .int (iI (lo))), (3, .int (iI (hi)))]) hx hb d_RR_takeNumber_70 hl (by decide) rfl (fun ls hl => ?_)
                            refine lv_iload hx hb d_RR_takeNumber_72 (lv_at hl 0 rfl) ?_
                            refine lv_iload_n hx hb d_RR_takeNumber_74 rfl (lv_at hl 5 rfl) ?_
                            refine z_icmp_gt (tgt := 89) hx hb d_RR_takeNumber_75 (by decide) ⟨by omega, by omega⟩ ⟨by omega, by omega⟩ (fun h75_3 => ?_) (fun h75_3 => ?_)
                            · refine z_iconst hx hb d_RR_takeNumber_89 ?_
                              have e9 : tn1000 tx n pl lo hi = (-1, (pl + 1) + 1) := by unfold tn1000; rw [if_neg h19, if_neg h33, if_pos h47, if_neg h75, if_pos h86, if_neg h19_2, if_neg h33_2, if_pos h47_2, if_neg h75_2, if_pos h86_2, if_neg h19_3, if_neg h33_3, if_pos h47_3, if_pos h75_3]
                              exact ret _ _ _ 90 (iI (-1)) () d_RR_takeNumber_90 hS ((congrArg (fun q9 => iI q9.1) e9).symm) (fun t ht _ => ⟨by rw [e9, ht]; exact hP, by rw [e9]; exact hD⟩)
                            · refine lv_iload hx hb d_RR_takeNumber_78 (lv_at hl 0 rfl) ?_
                              refine lv_iload hx hb d_RR_takeNumber_80 (lv_at hl 1 rfl) ?_
                              refine z_iadd hx hb d_RR_takeNumber_82 ?_
                              refine z_iconst hx hb d_RR_takeNumber_83 ?_
                              refine z_isub hx hb d_RR_takeNumber_84 ?_
                              refine lv_iload_n hx hb d_RR_takeNumber_85 rfl (lv_at hl 4 rfl) ?_
                              refine z_icmp_ge (tgt := 91) hx hb d_RR_takeNumber_86 (by decide) ⟨by omega, by omega⟩ ⟨by omega, by omega⟩ (fun h86_3 => ?_) (fun h86_3 => ?_)
                              · refine lv_aload_n hx hb d_RR_takeNumber_91 rfl (lv_at hl 2 rfl) ?_
                                refine lv_dup hx hb d_RR_takeNumber_92 rfl ?_
                                refine va_get (D := D) (ci := 6) (v := .int (iI ((pl + 1) + 1))) (C := R_RR) (T := F_RR) (N := 10) hx hb hts in_RR hown hK hP 0 rfl rfl 7 (by decide) (hts _ k_180) (fun _ h9 => h9) rfl d_RR_takeNumber_93 ?_
                                refine z_iconst hx hb d_RR_takeNumber_96 ?_
                                refine z_iadd hx hb d_RR_takeNumber_97 ?_
                                refine va_put (D := D) (ci := 6) (v := .int (iI (((pl + 1) + 1) + 1))) (ty := .int) (C := R_RR) (T := F_RR) (N := 10) hx hb hts in_RR t_RR t_RR_ok n_RR hown hK hP hD hS 0 rfl rfl 7 (by decide) (hts _ k_180) (fun _ h9 => h9) rfl (by decide +kernel) rfl rfl (Nat.le_of_ble_eq_true rfl) d_RR_takeNumber_98 (fun H locs hP hD hS => ?_)
                                have hP : va_P D classes [(h0, .inr (6, [.ref b0, .ref g0, .ref n0, .ref e0, .ref z0, .ref t0, .int (iI ((n : Int))), .int (iI (((pl + 1) + 1) + 1)), .int (iI (fr)), .int (iI (to1))])), (t0, .inl (k 2, 100, .inl (aZ (tx))))] H := hP
                                have hD : va_D (va_A [(h0, .inr (6, [.ref b0, .ref g0, .ref n0, .ref e0, .ref z0, .ref t0, .int (iI ((n : Int))), .int (iI (pl)), .int (iI (fr)), .int (iI (to1))])), (t0, .inl (k 2, 100, .inl (aZ (tx))))] s.heap.size) [(h0, .inr (6, [.ref b0, .ref g0, .ref n0, .ref e0, .ref z0, .ref t0, .int (iI ((n : Int))), .int (iI (((pl + 1) + 1) + 1)), .int (iI (fr)), .int (iI (to1))])), (t0, .inl (k 2, 100, .inl (aZ (tx))))] := hD
                                refine lv_iload hx hb d_RR_takeNumber_101 (lv_at hl 1 rfl) ?_
                                refine z_bipush hx hb d_RR_takeNumber_103 (by decide) ?_
                                refine z_idiv hx hb d_RR_takeNumber_105 ⟨by decide, by decide⟩ (by decide) ⟨by decide, by decide⟩ (by decide) ?_
                                refine lv_istore (lv' := [(5, .int (iI (1))), (4, .int (iI (((0 + (((tx ((pl).toNat)) - 48) * 1000)) + (((tx ((pl + 1).toNat)) - 48) * 100)) + (((tx (((pl + 1) + 1).toNat)) - 48) * 10)))), (0, .ref h0), (1, .int (iI (1000))), (2, .int (iI (lo))), (3, .int (iI (hi)))]) hx hb d_RR_takeNumber_106 hl (by decide) rfl (fun ls hl => ?_)
                                refine lv_goto (tgt := 6) hx hb d_RR_takeNumber_108 (by decide) ?_
                                refine lv_iload hx hb d_RR_takeNumber_6 (lv_at hl 0 rfl) ?_
                                refine z_if_le (tgt := 111) hx hb d_RR_takeNumber_8 (by decide) ⟨by omega, by omega⟩ (fun h8 => absurd h8 (by decide)) (fun h8 => ?_)
                                refine lv_aload_n hx hb d_RR_takeNumber_11 rfl (lv_at hl 2 rfl) ?_
                                refine va_get (D := D) (ci := 6) (v := .int (iI (((pl + 1) + 1) + 1))) (C := R_RR) (T := F_RR) (N := 10) hx hb hts in_RR hown hK hP 0 rfl rfl 7 (by decide) (hts _ k_180) (fun _ h9 => h9) rfl d_RR_takeNumber_12 ?_
                                refine lv_aload_n hx hb d_RR_takeNumber_15 rfl (lv_at hl 2 rfl) ?_
                                refine va_get (D := D) (ci := 6) (v := .int (iI ((n : Int)))) (C := R_RR) (T := F_RR) (N := 10) hx hb hts in_RR hown hK hP 0 rfl rfl 6 (by decide) (hts _ k_179) (fun _ h9 => h9) rfl d_RR_takeNumber_16 ?_
                                refine z_icmp_ge (tgt := 50) hx hb d_RR_takeNumber_19 (by decide) ⟨by omega, by omega⟩ ⟨by omega, by omega⟩ (fun h19_4 => ?_) (fun h19_4 => ?_)
                                · refine z_iconst hx hb d_RR_takeNumber_50 ?_
                                  have e9 : tn1000 tx n pl lo hi = (-1, ((pl + 1) + 1) + 1) := by unfold tn1000; rw [if_neg h19, if_neg h33, if_pos h47, if_neg h75, if_pos h86, if_neg h19_2, if_neg h33_2, if_pos h47_2, if_neg h75_2, if_pos h86_2, if_neg h19_3, if_neg h33_3, if_pos h47_3, if_neg h75_3, if_pos h86_3, if_pos h19_4]
                                  exact ret _ _ _ 51 (iI (-1)) () d_RR_takeNumber_51 hS ((congrArg (fun q9 => iI q9.1) e9).symm) (fun t ht _ => ⟨by rw [e9, ht]; exact hP, by rw [e9]; exact hD⟩)
                                · refine lv_aload_n hx hb d_RR_takeNumber_22 rfl (lv_at hl 2 rfl) ?_
                                  refine va_get (D := D) (ci := 6) (v := .ref t0) (C := R_RR) (T := F_RR) (N := 10) hx hb hts in_RR hown hK hP 0 rfl rfl 5 (by decide) (hts _ k_178) (fun _ h9 => h9) rfl d_RR_takeNumber_23 ?_
                                  refine lv_aload_n hx hb d_RR_takeNumber_26 rfl (lv_at hl 2 rfl) ?_
                                  refine va_get (D := D) (ci := 6) (v := .int (iI (((pl + 1) + 1) + 1))) (C := R_RR) (T := F_RR) (N := 10) hx hb hts in_RR hown hK hP 0 rfl rfl 7 (by decide) (hts _ k_180) (fun _ h9 => h9) rfl d_RR_takeNumber_27 ?_
                                  refine x_cald hx hb hK hP 1 2 rfl rfl ((((pl + 1) + 1) + 1).toNat) (by omega) (by omega) (by omega) d_RR_takeNumber_30 ?_
                                  refine z_top (show _ = iI (tx ((((pl + 1) + 1) + 1).toNat)) from rfl) ?_
                                  have hbd10 := htx ((((pl + 1) + 1) + 1).toNat)
                                  refine z_bipush hx hb d_RR_takeNumber_31 (by decide) ?_
                                  refine z_icmp_lt (tgt := 50) hx hb d_RR_takeNumber_33 (by decide) ⟨by omega, by omega⟩ ⟨by omega, by omega⟩ (fun h33_4 => ?_) (fun h33_4 => ?_)
                                  · refine z_iconst hx hb d_RR_takeNumber_50 ?_
                                    have e9 : tn1000 tx n pl lo hi = (-1, ((pl + 1) + 1) + 1) := by unfold tn1000; rw [if_neg h19, if_neg h33, if_pos h47, if_neg h75, if_pos h86, if_neg h19_2, if_neg h33_2, if_pos h47_2, if_neg h75_2, if_pos h86_2, if_neg h19_3, if_neg h33_3, if_pos h47_3, if_neg h75_3, if_pos h86_3, if_neg h19_4, if_pos h33_4]
                                    exact ret _ _ _ 51 (iI (-1)) () d_RR_takeNumber_51 hS ((congrArg (fun q9 => iI q9.1) e9).symm) (fun t ht _ => ⟨by rw [e9, ht]; exact hP, by rw [e9]; exact hD⟩)
                                  · refine lv_aload_n hx hb d_RR_takeNumber_36 rfl (lv_at hl 2 rfl) ?_
                                    refine va_get (D := D) (ci := 6) (v := .ref t0) (C := R_RR) (T := F_RR) (N := 10) hx hb hts in_RR hown hK hP 0 rfl rfl 5 (by decide) (hts _ k_178) (fun _ h9 => h9) rfl d_RR_takeNumber_37 ?_
                                    refine lv_aload_n hx hb d_RR_takeNumber_40 rfl (lv_at hl 2 rfl) ?_
                                    refine va_get (D := D) (ci := 6) (v := .int (iI (((pl + 1) + 1) + 1))) (C := R_RR) (T := F_RR) (N := 10) hx hb hts in_RR hown hK hP 0 rfl rfl 7 (by decide) (hts _ k_180) (fun _ h9 => h9) rfl d_RR_takeNumber_41 ?_
                                    refine x_cald hx hb hK hP 1 2 rfl rfl ((((pl + 1) + 1) + 1).toNat) (by omega) (by omega) (by omega) d_RR_takeNumber_44 ?_
                                    refine z_top (show _ = iI (tx ((((pl + 1) + 1) + 1).toNat)) from rfl) ?_
                                    have hbd11 := htx ((((pl + 1) + 1) + 1).toNat)
                                    refine z_bipush hx hb d_RR_takeNumber_45 (by decide) ?_
                                    refine z_icmp_le (tgt := 52) hx hb d_RR_takeNumber_47 (by decide) ⟨by omega, by omega⟩ ⟨by omega, by omega⟩ (fun h47_4 => ?_) (fun h47_4 => ?_)
                                    · refine lv_iload hx hb d_RR_takeNumber_52 (lv_at hl 1 rfl) ?_
                                      refine lv_aload_n hx hb d_RR_takeNumber_54 rfl (lv_at hl 2 rfl) ?_
                                      refine va_get (D := D) (ci := 6) (v := .ref t0) (C := R_RR) (T := F_RR) (N := 10) hx hb hts in_RR hown hK hP 0 rfl rfl 5 (by decide) (hts _ k_178) (fun _ h9 => h9) rfl d_RR_takeNumber_55 ?_
                                      refine lv_aload_n hx hb d_RR_takeNumber_58 rfl (lv_at hl 2 rfl) ?_
                                      refine va_get (D := D) (ci := 6) (v := .int (iI (((pl + 1) + 1) + 1))) (C := R_RR) (T := F_RR) (N := 10) hx hb hts in_RR hown hK hP 0 rfl rfl 7 (by decide) (hts _ k_180) (fun _ h9 => h9) rfl d_RR_takeNumber_59 ?_
                                      refine x_cald hx hb hK hP 1 2 rfl rfl ((((pl + 1) + 1) + 1).toNat) (by omega) (by omega) (by omega) d_RR_takeNumber_62 ?_
                                      refine z_top (show _ = iI (tx ((((pl + 1) + 1) + 1).toNat)) from rfl) ?_
                                      have hbd12 := htx ((((pl + 1) + 1) + 1).toNat)
                                      refine z_bipush hx hb d_RR_takeNumber_63 (by decide) ?_
                                      refine z_isub hx hb d_RR_takeNumber_65 ?_
                                      refine lv_iload hx hb d_RR_takeNumber_66 (lv_at hl 0 rfl) ?_
                                      refine z_imul hx hb d_RR_takeNumber_68 ?_
                                      refine z_iadd hx hb d_RR_takeNumber_69 ?_
                                      refine lv_istore (lv' := [(4, .int (iI ((((0 + (((tx ((pl).toNat)) - 48) * 1000)) + (((tx ((pl + 1).toNat)) - 48) * 100)) + (((tx (((pl + 1) + 1).toNat)) - 48) * 10)) + (((tx ((((pl + 1) + 1) + 1).toNat)) - 48) * 1)))), (5, .int (iI (1))), (0, .ref h0), (1, .int (iI (1000))), (2, .int (iI (lo))), (3, .int (iI (hi)))]) hx hb d_RR_takeNumber_70 hl (by decide) rfl (fun ls hl => ?_)
                                      refine lv_iload hx hb d_RR_takeNumber_72 (lv_at hl 0 rfl) ?_
                                      refine lv_iload_n hx hb d_RR_takeNumber_74 rfl (lv_at hl 5 rfl) ?_
                                      refine z_icmp_gt (tgt := 89) hx hb d_RR_takeNumber_75 (by decide) ⟨by omega, by omega⟩ ⟨by omega, by omega⟩ (fun h75_4 => ?_) (fun h75_4 => ?_)
                                      · refine z_iconst hx hb d_RR_takeNumber_89 ?_
                                        have e9 : tn1000 tx n pl lo hi = (-1, ((pl + 1) + 1) + 1) := by unfold tn1000; rw [if_neg h19, if_neg h33, if_pos h47, if_neg h75, if_pos h86, if_neg h19_2, if_neg h33_2, if_pos h47_2, if_neg h75_2, if_pos h86_2, if_neg h19_3, if_neg h33_3, if_pos h47_3, if_neg h75_3, if_pos h86_3, if_neg h19_4, if_neg h33_4, if_pos h47_4, if_pos h75_4]
                                        exact ret _ _ _ 90 (iI (-1)) () d_RR_takeNumber_90 hS ((congrArg (fun q9 => iI q9.1) e9).symm) (fun t ht _ => ⟨by rw [e9, ht]; exact hP, by rw [e9]; exact hD⟩)
                                      · refine lv_iload hx hb d_RR_takeNumber_78 (lv_at hl 0 rfl) ?_
                                        refine lv_iload hx hb d_RR_takeNumber_80 (lv_at hl 1 rfl) ?_
                                        refine z_iadd hx hb d_RR_takeNumber_82 ?_
                                        refine z_iconst hx hb d_RR_takeNumber_83 ?_
                                        refine z_isub hx hb d_RR_takeNumber_84 ?_
                                        refine lv_iload_n hx hb d_RR_takeNumber_85 rfl (lv_at hl 4 rfl) ?_
                                        refine z_icmp_ge (tgt := 91) hx hb d_RR_takeNumber_86 (by decide) ⟨by omega, by omega⟩ ⟨by omega, by omega⟩ (fun h86_4 => ?_) (fun h86_4 => ?_)
                                        · refine lv_aload_n hx hb d_RR_takeNumber_91 rfl (lv_at hl 2 rfl) ?_
                                          refine lv_dup hx hb d_RR_takeNumber_92 rfl ?_
                                          refine va_get (D := D) (ci := 6) (v := .int (iI (((pl + 1) + 1) + 1))) (C := R_RR) (T := F_RR) (N := 10) hx hb hts in_RR hown hK hP 0 rfl rfl 7 (by decide) (hts _ k_180) (fun _ h9 => h9) rfl d_RR_takeNumber_93 ?_
                                          refine z_iconst hx hb d_RR_takeNumber_96 ?_
                                          refine z_iadd hx hb d_RR_takeNumber_97 ?_
                                          refine va_put (D := D) (ci := 6) (v := .int (iI ((((pl + 1) + 1) + 1) + 1))) (ty := .int) (C := R_RR) (T := F_RR) (N := 10) hx hb hts in_RR t_RR t_RR_ok n_RR hown hK hP hD hS 0 rfl rfl 7 (by decide) (hts _ k_180) (fun _ h9 => h9) rfl (by decide +kernel) rfl rfl (Nat.le_of_ble_eq_true rfl) d_RR_takeNumber_98 (fun H locs hP hD hS => ?_)
                                          have hP : va_P D classes [(h0, .inr (6, [.ref b0, .ref g0, .ref n0, .ref e0, .ref z0, .ref t0, .int (iI ((n : Int))), .int (iI ((((pl + 1) + 1) + 1) + 1)), .int (iI (fr)), .int (iI (to1))])), (t0, .inl (k 2, 100, .inl (aZ (tx))))] H := hP
                                          have hD : va_D (va_A [(h0, .inr (6, [.ref b0, .ref g0, .ref n0, .ref e0, .ref z0, .ref t0, .int (iI ((n : Int))), .int (iI (pl)), .int (iI (fr)), .int (iI (to1))])), (t0, .inl (k 2, 100, .inl (aZ (tx))))] s.heap.size) [(h0, .inr (6, [.ref b0, .ref g0, .ref n0, .ref e0, .ref z0, .ref t0, .int (iI ((n : Int))), .int (iI ((((pl + 1) + 1) + 1) + 1)), .int (iI (fr)), .int (iI (to1))])), (t0, .inl (k 2, 100, .inl (aZ (tx))))] := hD
                                          refine lv_iload hx hb d_RR_takeNumber_101 (lv_at hl 1 rfl) ?_
                                          refine z_bipush hx hb d_RR_takeNumber_103 (by decide) ?_
                                          refine z_idiv hx hb d_RR_takeNumber_105 ⟨by decide, by decide⟩ (by decide) ⟨by decide, by decide⟩ (by decide) ?_
                                          refine lv_istore (lv' := [(5, .int (iI (0))), (4, .int (iI ((((0 + (((tx ((pl).toNat)) - 48) * 1000)) + (((tx ((pl + 1).toNat)) - 48) * 100)) + (((tx (((pl + 1) + 1).toNat)) - 48) * 10)) + (((tx ((((pl + 1) + 1) + 1).toNat)) - 48) * 1)))), (0, .ref h0), (1, .int (iI (1000))), (2, .int (iI (lo))), (3, .int (iI (hi)))]) hx hb d_RR_takeNumber_106 hl (by decide) rfl (fun ls hl => ?_)
                                          refine lv_goto (tgt := 6) hx hb d_RR_takeNumber_108 (by decide) ?_
                                          refine lv_iload hx hb d_RR_takeNumber_6 (lv_at hl 0 rfl) ?_
                                          refine z_if_le (tgt := 111) hx hb d_RR_takeNumber_8 (by decide) ⟨by omega, by omega⟩ (fun h8 => ?_) (fun h8 => absurd h8 (by decide))
                                          refine lv_iload hx hb d_RR_takeNumber_111 (lv_at hl 1 rfl) ?_
                                          have e9 : tn1000 tx n pl lo hi = ((((0 + (((tx ((pl).toNat)) - 48) * 1000)) + (((tx ((pl + 1).toNat)) - 48) * 100)) + (((tx (((pl + 1) + 1).toNat)) - 48) * 10)) + (((tx ((((pl + 1) + 1) + 1).toNat)) - 48) * 1), (((pl + 1) + 1) + 1) + 1) := by unfold tn1000; rw [if_neg h19, if_neg h33, if_pos h47, if_neg h75, if_pos h86, if_neg h19_2, if_neg h33_2, if_pos h47_2, if_neg h75_2, if_pos h86_2, if_neg h19_3, if_neg h33_3, if_pos h47_3, if_neg h75_3, if_pos h86_3, if_neg h19_4, if_neg h33_4, if_pos h47_4, if_neg h75_4, if_pos h86_4]
                                          exact ret _ _ _ 113 (iI ((((0 + (((tx ((pl).toNat)) - 48) * 1000)) + (((tx ((pl + 1).toNat)) - 48) * 100)) + (((tx (((pl + 1) + 1).toNat)) - 48) * 10)) + (((tx ((((pl + 1) + 1) + 1).toNat)) - 48) * 1))) () d_RR_takeNumber_113 hS ((congrArg (fun q9 => iI q9.1) e9).symm) (fun t ht _ => ⟨by rw [e9, ht]; exact hP, by rw [e9]; exact hD⟩)
                                        · refine z_iconst hx hb d_RR_takeNumber_89 ?_
                                          have e9 : tn1000 tx n pl lo hi = (-1, ((pl + 1) + 1) + 1) := by unfold tn1000; rw [if_neg h19, if_neg h33, if_pos h47, if_neg h75, if_pos h86, if_neg h19_2, if_neg h33_2, if_pos h47_2, if_neg h75_2, if_pos h86_2, if_neg h19_3, if_neg h33_3, if_pos h47_3, if_neg h75_3, if_pos h86_3, if_neg h19_4, if_neg h33_4, if_pos h47_4, if_neg h75_4, if_neg h86_4]
                                          exact ret _ _ _ 90 (iI (-1)) () d_RR_takeNumber_90 hS ((congrArg (fun q9 => iI q9.1) e9).symm) (fun t ht _ => ⟨by rw [e9, ht]; exact hP, by rw [e9]; exact hD⟩)
                                    · refine z_iconst hx hb d_RR_takeNumber_50 ?_
                                      have e9 : tn1000 tx n pl lo hi = (-1, ((pl + 1) + 1) + 1) := by unfold tn1000; rw [if_neg h19, if_neg h33, if_pos h47, if_neg h75, if_pos h86, if_neg h19_2, if_neg h33_2, if_pos h47_2, if_neg h75_2, if_pos h86_2, if_neg h19_3, if_neg h33_3, if_pos h47_3, if_neg h75_3, if_pos h86_3, if_neg h19_4, if_neg h33_4, if_neg h47_4]
                                      exact ret _ _ _ 51 (iI (-1)) () d_RR_takeNumber_51 hS ((congrArg (fun q9 => iI q9.1) e9).symm) (fun t ht _ => ⟨by rw [e9, ht]; exact hP, by rw [e9]; exact hD⟩)
                              · refine z_iconst hx hb d_RR_takeNumber_89 ?_
                                have e9 : tn1000 tx n pl lo hi = (-1, (pl + 1) + 1) := by unfold tn1000; rw [if_neg h19, if_neg h33, if_pos h47, if_neg h75, if_pos h86, if_neg h19_2, if_neg h33_2, if_pos h47_2, if_neg h75_2, if_pos h86_2, if_neg h19_3, if_neg h33_3, if_pos h47_3, if_neg h75_3, if_neg h86_3]
                                exact ret _ _ _ 90 (iI (-1)) () d_RR_takeNumber_90 hS ((congrArg (fun q9 => iI q9.1) e9).symm) (fun t ht _ => ⟨by rw [e9, ht]; exact hP, by rw [e9]; exact hD⟩)
                          · refine z_iconst hx hb d_RR_takeNumber_50 ?_
                            have e9 : tn1000 tx n pl lo hi = (-1, (pl + 1) + 1) := by unfold tn1000; rw [if_neg h19, if_neg h33, if_pos h47, if_neg h75, if_pos h86, if_neg h19_2, if_neg h33_2, if_pos h47_2, if_neg h75_2, if_pos h86_2, if_neg h19_3, if_neg h33_3, if_neg h47_3]
                            exact ret _ _ _ 51 (iI (-1)) () d_RR_takeNumber_51 hS ((congrArg (fun q9 => iI q9.1) e9).symm) (fun t ht _ => ⟨by rw [e9, ht]; exact hP, by rw [e9]; exact hD⟩)
                    · refine z_iconst hx hb d_RR_takeNumber_89 ?_
                      have e9 : tn1000 tx n pl lo hi = (-1, pl + 1) := by unfold tn1000; rw [if_neg h19, if_neg h33, if_pos h47, if_neg h75, if_pos h86, if_neg h19_2, if_neg h33_2, if_pos h47_2, if_neg h75_2, if_neg h86_2]
                      exact ret _ _ _ 90 (iI (-1)) () d_RR_takeNumber_90 hS ((congrArg (fun q9 => iI q9.1) e9).symm) (fun t ht _ => ⟨by rw [e9, ht]; exact hP, by rw [e9]; exact hD⟩)
                · refine z_iconst hx hb d_RR_takeNumber_50 ?_
                  have e9 : tn1000 tx n pl lo hi = (-1, pl + 1) := by unfold tn1000; rw [if_neg h19, if_neg h33, if_pos h47, if_neg h75, if_pos h86, if_neg h19_2, if_neg h33_2, if_neg h47_2]
                  exact ret _ _ _ 51 (iI (-1)) () d_RR_takeNumber_51 hS ((congrArg (fun q9 => iI q9.1) e9).symm) (fun t ht _ => ⟨by rw [e9, ht]; exact hP, by rw [e9]; exact hD⟩)
          · refine z_iconst hx hb d_RR_takeNumber_89 ?_
            have e9 : tn1000 tx n pl lo hi = (-1, pl) := by unfold tn1000; rw [if_neg h19, if_neg h33, if_pos h47, if_neg h75, if_neg h86]
            exact ret _ _ _ 90 (iI (-1)) () d_RR_takeNumber_90 hS ((congrArg (fun q9 => iI q9.1) e9).symm) (fun t ht _ => ⟨by rw [e9, ht]; exact hP, by rw [e9]; exact hD⟩)
      · refine z_iconst hx hb d_RR_takeNumber_50 ?_
        have e9 : tn1000 tx n pl lo hi = (-1, pl) := by unfold tn1000; rw [if_neg h19, if_neg h33, if_neg h47]
        exact ret _ _ _ 51 (iI (-1)) () d_RR_takeNumber_51 hS ((congrArg (fun q9 => iI q9.1) e9).symm) (fun t ht _ => ⟨by rw [e9, ht]; exact hP, by rw [e9]; exact hD⟩)

theorem tn1000_bd {tx : Nat → Int} {n : Nat} {pl lo hi : Int} (hn : n ≤ 100) (h : 0 ≤ pl ∧ pl ≤ (n : Int)) : 0 ≤ (tn1000 tx n pl lo hi).2 ∧ (tn1000 tx n pl lo hi).2 ≤ (n : Int) ∧ -1 ≤ (tn1000 tx n pl lo hi).1 ∧ ((tn1000 tx n pl lo hi).1 = -1 ∨ (0 ≤ (tn1000 tx n pl lo hi).1 ∧ lo ≤ (tn1000 tx n pl lo hi).1 ∧ (tn1000 tx n pl lo hi).1 ≤ hi)) := by
  show Pbd n lo hi (tn1000 tx n pl lo hi)
  unfold tn1000
  repeat' (refine ite_P (fun _ => ?_) (fun _ => ?_))
  all_goals (unfold Pbd; dsimp only; omega)

def hhF (tx : Nat → Int) (n : Nat) (pl : Int) (lh : Int) (br : Int) : Int × Int := (if (tn10 tx n pl 0 lh).1 = -1 then (-1, (tn10 tx n pl 0 lh).2) else (if 2 * ((tn10 tx n pl 0 lh).1) = br then (if 24 ≤ (tn10 tx n pl 0 lh).1 then (-1, (tn10 tx n pl 0 lh).2) else (if (2 * ((tn10 tx n pl 0 lh).1)) + 1 = br then (-1, (tn10 tx n pl 0 lh).2) else (if (tkF tx n ((tn10 tx n pl 0 lh).2) 51).1 = true then (if (tkF tx n ((tkF tx n ((tn10 tx n pl 0 lh).2) 51).2) 48).1 = true then ((2 * ((tn10 tx n pl 0 lh).1)) + 1, (tkF tx n ((tkF tx n ((tn10 tx n pl 0 lh).2) 51).2) 48).2) else (-1, (tkF tx n ((tkF tx n ((tn10 tx n pl 0 lh).2) 51).2) 48).2)) else (-1, (tkF tx n ((tn10 tx n pl 0 lh).2) 51).2)))) else (if (tkF tx n ((tn10 tx n pl 0 lh).2) 48).1 = true then (if (tkF tx n ((tkF tx n ((tn10 tx n pl 0 lh).2) 48).2) 48).1 = true then (2 * ((tn10 tx n pl 0 lh).1), (tkF tx n ((tkF tx n ((tn10 tx n pl 0 lh).2) 48).2) 48).2) else (-1, (tkF tx n ((tkF tx n ((tn10 tx n pl 0 lh).2) 48).2) 48).2)) else (if 24 ≤ (tn10 tx n pl 0 lh).1 then (-1, (tkF tx n ((tn10 tx n pl 0 lh).2) 48).2) else (if (2 * ((tn10 tx n pl 0 lh).1)) + 1 = br then (-1, (tkF tx n ((tn10 tx n pl 0 lh).2) 48).2) else (if (tkF tx n ((tkF tx n ((tn10 tx n pl 0 lh).2) 48).2) 51).1 = true then (if (tkF tx n ((tkF tx n ((tkF tx n ((tn10 tx n pl 0 lh).2) 48).2) 51).2) 48).1 = true then ((2 * ((tn10 tx n pl 0 lh).1)) + 1, (tkF tx n ((tkF tx n ((tkF tx n ((tn10 tx n pl 0 lh).2) 48).2) 51).2) 48).2) else (-1, (tkF tx n ((tkF tx n ((tkF tx n ((tn10 tx n pl 0 lh).2) 48).2) 51).2) 48).2)) else (-1, (tkF tx n ((tkF tx n ((tn10 tx n pl 0 lh).2) 48).2) 51).2)))))))
set_option maxHeartbeats 4000000 in
set_option maxRecDepth 100000 in
theorem c_RR_takeHalfHour (l : Launch) (D : va_G) (k : Nat → ClassId) (sz : Nat) (h0 b0 g0 n0 e0 z0 t0 : Nat) (tx : Nat → Int) (n : Nat) (pl : Int) (fr : Int) (to1 : Int) (lh : Int) (br : Int) (hn : n ≤ 100) (hpl : 0 ≤ pl ∧ pl ≤ (n : Int)) (htx : ∀ j, 0 ≤ tx j ∧ tx j ≤ 65535) (hlh : 0 ≤ lh ∧ lh ≤ 24) (hbr : -1 ≤ br ∧ br ≤ 100) : Met l y_RR_takeHalfHour wd_RR_takeHalfHour rm_RR_takeHalfHour (va_Pc [.ref h0, .int (iI (lh)), .int (iI (br))] (PRW D k [(h0, .inr (6, [.ref b0, .ref g0, .ref n0, .ref e0, .ref z0, .ref t0, .int (iI ((n : Int))), .int (iI (pl)), .int (iI (fr)), .int (iI (to1))])), (t0, .inl (k 2, 100, .inl (aZ (tx))))] sz)) (va_Qi (fun (r : Int32) (u : Unit) => r = (iI ((hhF tx n pl lh br).1))) (fun _ t => BRW D [(h0, .inr (6, [.ref b0, .ref g0, .ref n0, .ref e0, .ref z0, .ref t0, .int (iI ((n : Int))), .int (iI (pl)), .int (iI (fr)), .int (iI (to1))])), (t0, .inl (k 2, 100, .inl (aZ (tx))))] sz [(h0, .inr (6, [.ref b0, .ref g0, .ref n0, .ref e0, .ref z0, .ref t0, .int (iI ((n : Int))), .int (iI ((hhF tx n pl lh br).2)), .int (iI (fr)), .int (iI (to1))])), (t0, .inl (k 2, 100, .inl (aZ (tx))))] t) (va_A [(h0, .inr (6, [.ref b0, .ref g0, .ref n0, .ref e0, .ref z0, .ref t0, .int (iI ((n : Int))), .int (iI (pl)), .int (iI (fr)), .int (iI (to1))])), (t0, .inl (k 2, 100, .inl (aZ (tx))))] sz)) 0 0 (va_A [(h0, .inr (6, [.ref b0, .ref g0, .ref n0, .ref e0, .ref z0, .ref t0, .int (iI ((n : Int))), .int (iI (pl)), .int (iI (fr)), .int (iI (to1))])), (t0, .inl (k 2, 100, .inl (aZ (tx))))] sz) := by
  refine e_i (by decide) rfl (Nat.le_of_ble_eq_true rfl) ?_
  intro p e s m args below meth c Q ls hx hb hml hown hts hpre hl ret
  obtain ⟨hsz, hP, hK, hD0, hX⟩ := hpre
  subst hsz
  have hD := hD0.self (sz := s.heap.size)
  have hA : ∀ q : Nat, s.heap.size ≤ q → (va_A [(h0, .inr (6, [.ref b0, .ref g0, .ref n0, .ref e0, .ref z0, .ref t0, .int (iI ((n : Int))), .int (iI (pl)), .int (iI (fr)), .int (iI (to1))])), (t0, .inl (k 2, 100, .inl (aZ (tx))))] s.heap.size) q := fun q h => Or.inr h
  have hS : va_S (va_A [(h0, .inr (6, [.ref b0, .ref g0, .ref n0, .ref e0, .ref z0, .ref t0, .int (iI ((n : Int))), .int (iI (pl)), .int (iI (fr)), .int (iI (to1))])), (t0, .inl (k 2, 100, .inl (aZ (tx))))] s.heap.size) s.heap s.heap [] := va_S.rf
  have hl : lv_has ls 6 [(0, .ref h0), (1, .int (iI (lh))), (2, .int (iI (br)))] := hl
  refine lv_aload_n hx hb d_RR_takeHalfHour_0 rfl (lv_at hl 0 rfl) ?_
  refine z_bipush hx hb d_RR_takeHalfHour_1 (by decide) ?_
  refine z_iconst hx hb d_RR_takeHalfHour_3 ?_
  refine lv_iload_n hx hb d_RR_takeHalfHour_4 rfl (lv_at hl 1 rfl) ?_
  have hPc := hP.sub (ws' := [(h0, .inr (6, [.ref b0, .ref g0, .ref n0, .ref e0, .ref z0, .ref t0, .int (iI ((n : Int))), .int (iI (pl)), .int (iI (fr)), .int (iI (to1))])), (t0, .inl (k 2, 100, .inl (aZ (tx))))]) [0, 1] rfl
  have hDc := hD.sub (ws' := [(h0, .inr (6, [.ref b0, .ref g0, .ref n0, .ref e0, .ref z0, .ref t0, .int (iI ((n : Int))), .int (iI (pl)), .int (iI (fr)), .int (iI (to1))])), (t0, .inl (k 2, 100, .inl (aZ (tx))))]) [0, 1] (by decide) rfl
  have hFc := va_free (wc := [(h0, .inr (6, [.ref b0, .ref g0, .ref n0, .ref e0, .ref z0, .ref t0, .int (iI ((n : Int))), .int (iI (pl)), .int (iI (fr)), .int (iI (to1))])), (t0, .inl (k 2, 100, .inl (aZ (tx))))]) hD hS hA [0, 1] rfl
  refine va_calli (va_runV (As := [.int (iI (10)), .int (iI (0)), .int (iI (lh))]) (rest := []) (b := h0) ⟨hx, hb, hml, hown, hts⟩ (c_RR_takeNumber_10 l D k s.heap.size (h0) (b0) (g0) (n0) (e0) (z0) (t0) (tx) (n) (pl) (fr) (to1) (0) (lh) (hn) ((by omega)) (htx) ((by omega)) ((by omega))) ⟨callB_of 3 hts (good_RR_takeNumber) rfl rfl rfl (hts _ k_62) (hts _ k_420) (by decide +kernel) ⟨Nat.le_of_ble_eq_true rfl, Nat.le_of_ble_eq_true rfl⟩, (hts _ k_422), (hts _ k_3)⟩ ⟨fun a U g mk q => ⟨q.1, q.2.1, q.2.2.1, va_K.moved (u := U) (U := U.calling g mk a) (Vm.Alike.refl U.vm) q.2.2.2.1, q.2.2.2.2.1, q.2.2.2.2.2.calling⟩, (va_recv (q0 := 0) hK hP rfl rfl), fun U hU hW => ⟨rfl, by rw [hU], by rw [hU]; exact hPc, va_K.moved hW.alike hK, hDc.weaken (fun _ _ _ _ => trivial), by rw [hU]; exact (hX.mono hS hFc).warm hW⟩⟩ rfl rfl hl.1 rfl (lv_room (Nat.le_of_ble_eq_true rfl)) d_RR_takeHalfHour_5 ⟨Nat.le_of_ble_eq_true rfl, Nat.le_of_ble_eq_true rfl⟩) hS (fun q _ h => hFc q h) hFc (fun xr_1 xu_2 t H1 locs ht hvm h_xr_1 hB hz1 hk1 hS => ?_)
  obtain ⟨hP1, hD1⟩ := hB
  rw [ht] at hP1
  obtain ⟨hP, hD⟩ := va_join (wr := []) (w1 := [(h0, .inr (6, [.ref b0, .ref g0, .ref n0, .ref e0, .ref z0, .ref t0, .int (iI ((n : Int))), .int (iI ((tn10 tx n pl 0 lh).2)), .int (iI (fr)), .int (iI (to1))])), (t0, .inl (k 2, 100, .inl (aZ (tx))))]) hP hD [0, 1] [] rfl rfl (by decide) (by decide) hk1 hFc hP1 hD1
  generalize H1 = H at hP hS ⊢
  have hP := hP.sub (ws' := [(h0, .inr (6, [.ref b0, .ref g0, .ref n0, .ref e0, .ref z0, .ref t0, .int (iI ((n : Int))), .int (iI ((tn10 tx n pl 0 lh).2)), .int (iI (fr)), .int (iI (to1))])), (t0, .inl (k 2, 100, .inl (aZ (tx))))]) [0, 1] rfl
  have hD := hD.sub (ws' := [(h0, .inr (6, [.ref b0, .ref g0, .ref n0, .ref e0, .ref z0, .ref t0, .int (iI ((n : Int))), .int (iI ((tn10 tx n pl 0 lh).2)), .int (iI (fr)), .int (iI (to1))])), (t0, .inl (k 2, 100, .inl (aZ (tx))))]) [0, 1] (by decide) rfl
  subst h_xr_1
  have hbn10_2 := tn10_bd (tx := tx) (pl := pl) (lo := 0) (hi := lh) hn (by omega)
  refine lv_istore_n (lv' := [(3, .int (iI ((tn10 tx n pl 0 lh).1))), (0, .ref h0), (1, .int (iI (lh))), (2, .int (iI (br)))]) hx hb d_RR_takeHalfHour_8 rfl hl (by decide) rfl (fun ls hl => ?_)
  refine lv_iload_n hx hb d_RR_takeHalfHour_9 rfl (lv_at hl 0 rfl) ?_
  refine z_iconst hx hb d_RR_takeHalfHour_10 ?_
  refine z_icmp_ne (tgt := 16) hx hb d_RR_takeHalfHour_11 (by decide) ⟨by omega, by omega⟩ ⟨by omega, by omega⟩ (fun h11 => ?_) (fun h11 => ?_)
  · refine z_iconst hx hb d_RR_takeHalfHour_16 ?_
    refine lv_iload_n hx hb d_RR_takeHalfHour_17 rfl (lv_at hl 0 rfl) ?_
    refine z_imul hx hb d_RR_takeHalfHour_18 ?_
    refine lv_istore (lv' := [(4, .int (iI (2 * ((tn10 tx n pl 0 lh).1)))), (3, .int (iI ((tn10 tx n pl 0 lh).1))), (0, .ref h0), (1, .int (iI (lh))), (2, .int (iI (br)))]) hx hb d_RR_takeHalfHour_19 hl (by decide) rfl (fun ls hl => ?_)
    refine lv_iload hx hb d_RR_takeHalfHour_21 (lv_at hl 0 rfl) ?_
    refine lv_iload_n hx hb d_RR_takeHalfHour_23 rfl (lv_at hl 4 rfl) ?_
    refine z_icmp_eq (tgt := 40) hx hb d_RR_takeHalfHour_24 (by decide) ⟨by omega, by omega⟩ ⟨by omega, by omega⟩ (fun h24 => ?_) (fun h24 => ?_)
    · refine z_iconst hx hb d_RR_takeHalfHour_40 ?_
      refine lv_istore (lv' := [(5, .int (iI (0))), (4, .int (iI (2 * ((tn10 tx n pl 0 lh).1)))), (3, .int (iI ((tn10 tx n pl 0 lh).1))), (0, .ref h0), (1, .int (iI (lh))), (2, .int (iI (br)))]) hx hb d_RR_takeHalfHour_41 hl (by decide) rfl (fun ls hl => ?_)
      refine lv_iload hx hb d_RR_takeHalfHour_43 (lv_at hl 0 rfl) ?_
      refine z_if_ne (tgt := 77) hx hb d_RR_takeHalfHour_45 (by decide) ⟨by omega, by omega⟩ (fun h45 => absurd h45 (by decide)) (fun h45 => ?_)
      refine lv_iload_n hx hb d_RR_takeHalfHour_48 rfl (lv_at hl 2 rfl) ?_
      refine z_bipush hx hb d_RR_takeHalfHour_49 (by decide) ?_
      refine z_icmp_ge (tgt := 77) hx hb d_RR_takeHalfHour_51 (by decide) ⟨by omega, by omega⟩ ⟨by omega, by omega⟩ (fun h51 => ?_) (fun h51 => ?_)
      · refine lv_iload hx hb d_RR_takeHalfHour_77 (lv_at hl 0 rfl) ?_
        refine z_if_eq (tgt := 96) hx hb d_RR_takeHalfHour_79 (by decide) ⟨by omega, by omega⟩ (fun h79 => ?_) (fun h79 => absurd h79 (by decide))
        refine z_iconst hx hb d_RR_takeHalfHour_96 ?_
        have e9 : hhF tx n pl lh br = (-1, (tn10 tx n pl 0 lh).2) := by unfold hhF; rw [if_neg h11, if_pos h24, if_pos h51]
        exact ret _ _ _ 97 (iI (-1)) () d_RR_takeHalfHour_97 hS ((congrArg (fun q9 => iI q9.1) e9).symm) (fun t ht _ => ⟨by rw [e9, ht]; exact hP, by rw [e9]; exact hD⟩)
      · refine lv_iload hx hb d_RR_takeHalfHour_54 (lv_at hl 1 rfl) ?_
        refine z_iconst hx hb d_RR_takeHalfHour_56 ?_
        refine z_iadd hx hb d_RR_takeHalfHour_57 ?_
        refine lv_iload_n hx hb d_RR_takeHalfHour_58 rfl (lv_at hl 5 rfl) ?_
        refine z_icmp_eq (tgt := 77) hx hb d_RR_takeHalfHour_59 (by decide) ⟨by omega, by omega⟩ ⟨by omega, by omega⟩ (fun h59 => ?_) (fun h59 => ?_)
        · refine lv_iload hx hb d_RR_takeHalfHour_77 (lv_at hl 0 rfl) ?_
          refine z_if_eq (tgt := 96) hx hb d_RR_takeHalfHour_79 (by decide) ⟨by omega, by omega⟩ (fun h79 => ?_) (fun h79 => absurd h79 (by decide))
          refine z_iconst hx hb d_RR_takeHalfHour_96 ?_
          have e9 : hhF tx n pl lh br = (-1, (tn10 tx n pl 0 lh).2) := by unfold hhF; rw [if_neg h11, if_pos h24, if_neg h51, if_pos h59]
          exact ret _ _ _ 97 (iI (-1)) () d_RR_takeHalfHour_97 hS ((congrArg (fun q9 => iI q9.1) e9).symm) (fun t ht _ => ⟨by rw [e9, ht]; exact hP, by rw [e9]; exact hD⟩)
        · refine lv_aload_n hx hb d_RR_takeHalfHour_62 rfl (lv_at hl 3 rfl) ?_
          refine z_bipush hx hb d_RR_takeHalfHour_63 (by decide) ?_
          have hPc := hP.sub (ws' := [(h0, .inr (6, [.ref b0, .ref g0, .ref n0, .ref e0, .ref z0, .ref t0, .int (iI ((n : Int))), .int (iI ((tn10 tx n pl 0 lh).2)), .int (iI (fr)), .int (iI (to1))])), (t0, .inl (k 2, 100, .inl (aZ (tx))))]) [0, 1] rfl
          have hDc := hD.sub (ws' := [(h0, .inr (6, [.ref b0, .ref g0, .ref n0, .ref e0, .ref z0, .ref t0, .int (iI ((n : Int))), .int (iI ((tn10 tx n pl 0 lh).2)), .int (iI (fr)), .int (iI (to1))])), (t0, .inl (k 2, 100, .inl (aZ (tx))))]) [0, 1] (by decide) rfl
          have hFc := va_free (wc := [(h0, .inr (6, [.ref b0, .ref g0, .ref n0, .ref e0, .ref z0, .ref t0, .int (iI ((n : Int))), .int (iI ((tn10 tx n pl 0 lh).2)), .int (iI (fr)), .int (iI (to1))])), (t0, .inl (k 2, 100, .inl (aZ (tx))))]) hD hS hA [0, 1] rfl
          refine va_calli (va_runV (As := [.int (iI (51))]) (rest := []) (b := h0) ⟨hx, hb, hml, hown, hts⟩ (c_RR_take l D k H.size (h0) (b0) (g0) (n0) (e0) (z0) (t0) (tx) (n) ((tn10 tx n pl 0 lh).2) (fr) (to1) (51) (hn) ((by omega)) (htx) ((by omega))) ⟨callB_of 1 hts (good_RR_take) rfl rfl rfl (hts _ k_62) (hts _ k_424) (by decide +kernel) ⟨Nat.le_of_ble_eq_true rfl, Nat.le_of_ble_eq_true rfl⟩, (hts _ k_426), (hts _ k_4)⟩ ⟨fun a U g mk q => ⟨q.1, q.2.1, q.2.2.1, va_K.moved (u := U) (U := U.calling g mk a) (Vm.Alike.refl U.vm) q.2.2.2.1, q.2.2.2.2.1, q.2.2.2.2.2.calling⟩, (va_recv (q0 := 0) hK hP rfl rfl), fun U hU hW => ⟨rfl, by rw [hU], by rw [hU]; exact hPc, va_K.moved hW.alike hK, hDc.weaken (fun _ _ _ _ => trivial), by rw [hU]; exact (hX.mono hS hFc).warm hW⟩⟩ rfl rfl hl.1 rfl (lv_room (Nat.le_of_ble_eq_true rfl)) d_RR_takeHalfHour_65 ⟨Nat.le_of_ble_eq_true rfl, Nat.le_of_ble_eq_true rfl⟩) hS (fun q _ h => hFc q h) hFc (fun xr_3 xu_4 t H1 locs ht hvm h_xr_3 hB hz1 hk1 hS => ?_)
          obtain ⟨hP1, hD1⟩ := hB
          rw [ht] at hP1
          obtain ⟨hP, hD⟩ := va_join (wr := []) (w1 := [(h0, .inr (6, [.ref b0, .ref g0, .ref n0, .ref e0, .ref z0, .ref t0, .int (iI ((n : Int))), .int (iI ((tkF tx n ((tn10 tx n pl 0 lh).2) 51).2)), .int (iI (fr)), .int (iI (to1))])), (t0, .inl (k 2, 100, .inl (aZ (tx))))]) hP hD [0, 1] [] rfl rfl (by decide) (by decide) hk1 hFc hP1 hD1
          generalize H1 = H at hP hS ⊢
          have hP := hP.sub (ws' := [(h0, .inr (6, [.ref b0, .ref g0, .ref n0, .ref e0, .ref z0, .ref t0, .int (iI ((n : Int))), .int (iI ((tkF tx n ((tn10 tx n pl 0 lh).2) 51).2)), .int (iI (fr)), .int (iI (to1))])), (t0, .inl (k 2, 100, .inl (aZ (tx))))]) [0, 1] rfl
          have hD := hD.sub (ws' := [(h0, .inr (6, [.ref b0, .ref g0, .ref n0, .ref e0, .ref z0, .ref t0, .int (iI ((n : Int))), .int (iI ((tkF tx n ((tn10 tx n pl 0 lh).2) 51).2)), .int (iI (fr)), .int (iI (to1))])), (t0, .inl (k 2, 100, .inl (aZ (tx))))]) [0, 1] (by decide) rfl
          subst h_xr_3
          have hbt51_21 := tkF_bd (tx := tx) (pl := (tn10 tx n pl 0 lh).2) (ch := 51) hn (by omega)
          refine b_if_eq (tgt := 77) hx hb d_RR_takeHalfHour_68 (by decide) (fun h68 => ?_) (fun h68 => ?_)
          · refine lv_iload hx hb d_RR_takeHalfHour_77 (lv_at hl 0 rfl) ?_
            refine z_if_eq (tgt := 96) hx hb d_RR_takeHalfHour_79 (by decide) ⟨by omega, by omega⟩ (fun h79 => ?_) (fun h79 => absurd h79 (by decide))
            refine z_iconst hx hb d_RR_takeHalfHour_96 ?_
            have e9 : hhF tx n pl lh br = (-1, (tkF tx n ((tn10 tx n pl 0 lh).2) 51).2) := by unfold hhF; rw [if_neg h11, if_pos h24, if_neg h51, if_neg h59, if_neg (Bool.eq_false_iff.mp h68)]
            exact ret _ _ _ 97 (iI (-1)) () d_RR_takeHalfHour_97 hS ((congrArg (fun q9 => iI q9.1) e9).symm) (fun t ht _ => ⟨by rw [e9, ht]; exact hP, by rw [e9]; exact hD⟩)
          · refine z_iinc (k := 1) (a := 2 * ((tn10 tx n pl 0 lh).1)) (lv' := [(4, .int (iI ((2 * ((tn10 tx n pl 0 lh).1)) + 1))), (5, .int (iI (0))), (3, .int (iI ((tn10 tx n pl 0 lh).1))), (0, .ref h0), (1, .int (iI (lh))), (2, .int (iI (br)))]) hx hb d_RR_takeHalfHour_71 hl rfl (by decide) rfl (fun ls hl => ?_)
            refine z_iconst hx hb d_RR_takeHalfHour_74 ?_
            refine lv_istore (lv' := [(5, .int (iI (1))), (4, .int (iI ((2 * ((tn10 tx n pl 0 lh).1)) + 1))), (3, .int (iI ((tn10 tx n pl 0 lh).1))), (0, .ref h0), (1, .int (iI (lh))), (2, .int (iI (br)))]) hx hb d_RR_takeHalfHour_75 hl (by decide) rfl (fun ls hl => ?_)
            refine lv_iload hx hb d_RR_takeHalfHour_77 (lv_at hl 0 rfl) ?_
            refine z_if_eq (tgt := 96) hx hb d_RR_takeHalfHour_79 (by decide) ⟨by omega, by omega⟩ (fun h79 => absurd h79 (by decide)) (fun h79 => ?_)
            refine lv_aload_n hx hb d_RR_takeHalfHour_82 rfl (lv_at hl 3 rfl) ?_
            refine z_bipush hx hb d_RR_takeHalfHour_83 (by decide) ?_
            have hPc := hP.sub (ws' := [(h0, .inr (6, [.ref b0, .ref g0, .ref n0, .ref e0, .ref z0, .ref t0, .int (iI ((n : Int))), .int (iI ((tkF tx n ((tn10 tx n pl 0 lh).2) 51).2)), .int (iI (fr)), .int (iI (to1))])), (t0, .inl (k 2, 100, .inl (aZ (tx))))]) [0, 1] rfl
            have hDc := hD.sub (ws' := [(h0, .inr (6, [.ref b0, .ref g0, .ref n0, .ref e0, .ref z0, .ref t0, .int (iI ((n : Int))), .int (iI ((tkF tx n ((tn10 tx n pl 0 lh).2) 51).2)), .int (iI (fr)), .int (iI (to1))])), (t0, .inl (k 2, 100, .inl (aZ (tx))))]) [0, 1] (by decide) rfl
            have hFc := va_free (wc := [(h0, .inr (6, [.ref b0, .ref g0, .ref n0, .ref e0, .ref z0, .ref t0, .int (iI ((n : Int))), .int (iI ((tkF tx n ((tn10 tx n pl 0 lh).2) 51).2)), .int (iI (fr)), .int (iI (to1))])), (t0, .inl (k 2, 100, .inl (aZ (tx))))]) hD hS hA [0, 1] rfl
            refine va_calli (va_runV (As := [.int (iI (48))]) (rest := []) (b := h0) ⟨hx, hb, hml, hown, hts⟩ (c_RR_take l D k H.size (h0) (b0) (g0) (n0) (e0) (z0) (t0) (tx) (n) ((tkF tx n ((tn10 tx n pl 0 lh).2) 51).2) (fr) (to1) (48) (hn) ((by omega)) (htx) ((by omega))) ⟨callB_of 1 hts (good_RR_take) rfl rfl rfl (hts _ k_62) (hts _ k_424) (by decide +kernel) ⟨Nat.le_of_ble_eq_true rfl, Nat.le_of_ble_eq_true rfl⟩, (hts _ k_426), (hts _ k_4)⟩ ⟨fun a U g mk q => ⟨q.1, q.2.1, q.2.2.1, va_K.moved (u := U) (U := U.calling g mk a) (Vm.Alike.refl U.vm) q.2.2.2.1, q.2.2.2.2.1, q.2.2.2.2.2.calling⟩, (va_recv (q0 := 0) hK hP rfl rfl), fun U hU hW => ⟨rfl, by rw [hU], by rw [hU]; exact hPc, va_K.moved hW.alike hK, hDc.weaken (fun _ _ _ _ => trivial), by rw [hU]; exact (hX.mono hS hFc).warm hW⟩⟩ rfl rfl hl.1 rfl (lv_room (Nat.le_of_ble_eq_true rfl)) d_RR_takeHalfHour_85 ⟨Nat.le_of_ble_eq_true rfl, Nat.le_of_ble_eq_true rfl⟩) hS (fun q _ h => hFc q h) hFc (fun xr_5 xu_6 t H1 locs ht hvm h_xr_5 hB hz1 hk1 hS => ?_)
            obtain ⟨hP1, hD1⟩ := hB
            rw [ht] at hP1
            obtain ⟨hP, hD⟩ := va_join (wr := []) (w1 := [(h0, .inr (6, [.ref b0, .ref g0, .ref n0, .ref e0, .ref z0, .ref t0, .int (iI ((n : Int))), .int (iI ((tkF tx n ((tkF tx n ((tn10 tx n pl 0 lh).2) 51).2) 48).2)), .int (iI (fr)), .int (iI (to1))])), (t0, .inl (k 2, 100, .inl (aZ (tx))))]) hP hD [0, 1] [] rfl rfl (by decide) (by decide) hk1 hFc hP1 hD1
            generalize H1 = H at hP hS ⊢
            have hP := hP.sub (ws' := [(h0, .inr (6, [.ref b0, .ref g0, .ref n0, .ref e0, .ref z0, .ref t0, .int (iI ((n : Int))), .int (iI ((tkF tx n ((tkF tx n ((tn10 tx n pl 0 lh).2) 51).2) 48).2)), .int (iI (fr)), .int (iI (to1))])), (t0, .inl (k 2, 100, .inl (aZ (tx))))]) [0, 1] rfl
            have hD := hD.sub (ws' := [(h0, .inr (6, [.ref b0, .ref g0, .ref n0, .ref e0, .ref z0, .ref t0, .int (iI ((n : Int))), .int (iI ((tkF tx n ((tkF tx n ((tn10 tx n pl 0 lh).2) 51).2) 48).2)), .int (iI (fr)), .int (iI (to1))])), (t0, .inl (k 2, 100, .inl (aZ (tx))))]) [0, 1] (by decide) rfl
            subst h_xr_5
            have hbt48_39 := tkF_bd (tx := tx) (pl := (tkF tx n ((tn10 tx n pl 0 lh).2) 51).2) (ch := 48) hn (by omega)
            refine b_if_eq (tgt := 96) hx hb d_RR_takeHalfHour_88 (by decide) (fun h88 => ?_) (fun h88 => ?_)
            · refine z_iconst hx hb d_RR_takeHalfHour_96 ?_
              have e9 : hhF tx n pl lh br = (-1, (tkF tx n ((tkF tx n ((tn10 tx n pl 0 lh).2) 51).2) 48).2) := by unfold hhF; rw [if_neg h11, if_pos h24, if_neg h51, if_neg h59, if_pos h68, if_neg (Bool.eq_false_iff.mp h88)]
              exact ret _ _ _ 97 (iI (-1)) () d_RR_takeHalfHour_97 hS ((congrArg (fun q9 => iI q9.1) e9).symm) (fun t ht _ => ⟨by rw [e9, ht]; exact hP, by rw [e9]; exact hD⟩)
            · refine lv_iload hx hb d_RR_takeHalfHour_91 (lv_at hl 1 rfl) ?_
              refine lv_goto (tgt := 97) hx hb d_RR_takeHalfHour_93 (by decide) ?_
              have e9 : hhF tx n pl lh br = ((2 * ((tn10 tx n pl 0 lh).1)) + 1, (tkF tx n ((tkF tx n ((tn10 tx n pl 0 lh).2) 51).2) 48).2) := by unfold hhF; rw [if_neg h11, if_pos h24, if_neg h51, if_neg h59, if_pos h68, if_pos h88]
              exact ret _ _ _ 97 (iI ((2 * ((tn10 tx n pl 0 lh).1)) + 1)) () d_RR_takeHalfHour_97 hS ((congrArg (fun q9 => iI q9.1) e9).symm) (fun t ht _ => ⟨by rw [e9, ht]; exact hP, by rw [e9]; exact hD⟩)
    · refine lv_aload_n hx hb d_RR_takeHalfHour_27 rfl (lv_at hl 2 rfl) ?_
      refine z_bipush hx hb d_RR_takeHalfHour_28 (by decide) ?_
      have hPc := hP.sub (ws' := [(h0, .inr (6, [.ref b0, .ref g0, .ref n0, .ref e0, .ref z0, .ref t0, .int (iI ((n : Int))), .int (iI ((tn10 tx n pl 0 lh).2)), .int (iI (fr)), .int (iI (to1))])), (t0, .inl (k 2, 100, .inl (aZ (tx))))]) [0, 1] rfl
      have hDc := hD.sub (ws' := [(h0, .inr (6, [.ref b0, .ref g0, .ref n0, .ref e0, .ref z0, .ref t0, .int (iI ((n : Int))), .int (iI ((tn10 tx n pl 0 lh).2)), .int (iI (fr)), .int (iI (to1))])), (t0, .inl (k 2, 100, .inl (aZ (tx))))]) [0, 1] (by decide) rfl
      have hFc := va_free (wc := [(h0, .inr (6, [.ref b0, .ref g0, .ref n0, .ref e0, .ref z0, .ref t0, .int (iI ((n : Int))), .int (iI ((tn10 tx n pl 0 lh).2)), .int (iI (fr)), .int (iI (to1))])), (t0, .inl (k 2, 100, .inl (aZ (tx))))]) hD hS hA [0, 1] rfl
      refine va_calli (va_runV (As := [.int (iI (48))]) (rest := []) (b := h0) ⟨hx, hb, hml, hown, hts⟩ (c_RR_take l D k H.size (h0) (b0) (g0) (n0) (e0) (z0) (t0) (tx) (n) ((tn10 tx n pl 0 lh).2) (fr) (to1) (48) (hn) ((by omega)) (htx) ((by omega))) ⟨callB_of 1 hts (good_RR_take) rfl rfl rfl (hts _ k_62) (hts _ k_424) (by decide +kernel) ⟨Nat.le_of_ble_eq_true rfl, Nat.le_of_ble_eq_true rfl⟩, (hts _ k_426), (hts _ k_4)⟩ ⟨fun a U g mk q => ⟨q.1, q.2.1, q.2.2.1, va_K.moved (u := U) (U := U.calling g mk a) (Vm.Alike.refl U.vm) q.2.2.2.1, q.2.2.2.2.1, q.2.2.2.2.2.calling⟩, (va_recv (q0 := 0) hK hP rfl rfl), fun U hU hW => ⟨rfl, by rw [hU], by rw [hU]; exact hPc, va_K.moved hW.alike hK, hDc.weaken (fun _ _ _ _ => trivial), by rw [hU]; exact (hX.mono hS hFc).warm hW⟩⟩ rfl rfl hl.1 rfl (lv_room (Nat.le_of_ble_eq_true rfl)) d_RR_takeHalfHour_30 ⟨Nat.le_of_ble_eq_true rfl, Nat.le_of_ble_eq_true rfl⟩) hS (fun q _ h => hFc q h) hFc (fun xr_7 xu_8 t H1 locs ht hvm h_xr_7 hB hz1 hk1 hS => ?_)
      obtain ⟨hP1, hD1⟩ := hB
      rw [ht] at hP1
      obtain ⟨hP, hD⟩ := va_join (wr := []) (w1 := [(h0, .inr (6, [.ref b0, .ref g0, .ref n0, .ref e0, .ref z0, .ref t0, .int (iI ((n : Int))), .int (iI ((tkF tx n ((tn10 tx n pl 0 lh).2) 48).2)), .int (iI (fr)), .int (iI (to1))])), (t0, .inl (k 2, 100, .inl (aZ (tx))))]) hP hD [0, 1] [] rfl rfl (by decide) (by decide) hk1 hFc hP1 hD1
      generalize H1 = H at hP hS ⊢
      have hP := hP.sub (ws' := [(h0, .inr (6, [.ref b0, .ref g0, .ref n0, .ref e0, .ref z0, .ref t0, .int (iI ((n : Int))), .int (iI ((tkF tx n ((tn10 tx n pl 0 lh).2) 48).2)), .int (iI (fr)), .int (iI (to1))])), (t0, .inl (k 2, 100, .inl (aZ (tx))))]) [0, 1] rfl
      have hD := hD.sub (ws' := [(h0, .inr (6, [.ref b0, .ref g0, .ref n0, .ref e0, .ref z0, .ref t0, .int (iI ((n : Int))), .int (iI ((tkF tx n ((tn10 tx n pl 0 lh).2) 48).2)), .int (iI (fr)), .int (iI (to1))])), (t0, .inl (k 2, 100, .inl (aZ (tx))))]) [0, 1] (by decide) rfl
      subst h_xr_7
      have hbt48_21 := tkF_bd (tx := tx) (pl := (tn10 tx n pl 0 lh).2) (ch := 48) hn (by omega)
      refine b_if_eq (tgt := 40) hx hb d_RR_takeHalfHour_33 (by decide) (fun h33 => ?_) (fun h33 => ?_)
      · refine z_iconst hx hb d_RR_takeHalfHour_40 ?_
        refine lv_istore (lv' := [(5, .int (iI (0))), (4, .int (iI (2 * ((tn10 tx n pl 0 lh).1)))), (3, .int (iI ((tn10 tx n pl 0 lh).1))), (0, .ref h0), (1, .int (iI (lh))), (2, .int (iI (br)))]) hx hb d_RR_takeHalfHour_41 hl (by decide) rfl (fun ls hl => ?_)
        refine lv_iload hx hb d_RR_takeHalfHour_43 (lv_at hl 0 rfl) ?_
        refine z_if_ne (tgt := 77) hx hb d_RR_takeHalfHour_45 (by decide) ⟨by omega, by omega⟩ (fun h45 => absurd h45 (by decide)) (fun h45 => ?_)
        refine lv_iload_n hx hb d_RR_takeHalfHour_48 rfl (lv_at hl 2 rfl) ?_
        refine z_bipush hx hb d_RR_takeHalfHour_49 (by decide) ?_
        refine z_icmp_ge (tgt := 77) hx hb d_RR_takeHalfHour_51 (by decide) ⟨by omega, by omega⟩ ⟨by omega, by omega⟩ (fun h51 => ?_) (fun h51 => ?_)
        · refine lv_iload hx hb d_RR_takeHalfHour_77 (lv_at hl 0 rfl) ?_
          refine z_if_eq (tgt := 96) hx hb d_RR_takeHalfHour_79 (by decide) ⟨by omega, by omega⟩ (fun h79 => ?_) (fun h79 => absurd h79 (by decide))
          refine z_iconst hx hb d_RR_takeHalfHour_96 ?_
          have e9 : hhF tx n pl lh br = (-1, (tkF tx n ((tn10 tx n pl 0 lh).2) 48).2) := by unfold hhF; rw [if_neg h11, if_neg h24, if_neg (Bool.eq_false_iff.mp h33), if_pos h51]
          exact ret _ _ _ 97 (iI (-1)) () d_RR_takeHalfHour_97 hS ((congrArg (fun q9 => iI q9.1) e9).symm) (fun t ht _ => ⟨by rw [e9, ht]; exact hP, by rw [e9]; exact hD⟩)
        · refine lv_iload hx hb d_RR_takeHalfHour_54 (lv_at hl 1 rfl) ?_
          refine z_iconst hx hb d_RR_takeHalfHour_56 ?_
          refine z_iadd hx hb d_RR_takeHalfHour_57 ?_
          refine lv_iload_n hx hb d_RR_takeHalfHour_58 rfl (lv_at hl 5 rfl) ?_
          refine z_icmp_eq (tgt := 77) hx hb d_RR_takeHalfHour_59 (by decide) ⟨by omega, by omega⟩ ⟨by omega, by omega⟩ (fun h59 => ?_) (fun h59 => ?_)
          · refine lv_iload hx hb d_RR_takeHalfHour_77 (lv_at hl 0 rfl) ?_
            refine z_if_eq (tgt := 96) hx hb d_RR_takeHalfHour_79 (by decide) ⟨by omega, by omega⟩ (fun h79 => ?_) (fun h79 => absurd h79 (by decide))
            refine z_iconst hx hb d_RR_takeHalfHour_96 ?_
            have e9 : hhF tx n pl lh br = (-1, (tkF tx n ((tn10 tx n pl 0 lh).2) 48).2) := by unfold hhF; rw [if_neg h11, if_neg h24, if_neg (Bool.eq_false_iff.mp h33), if_neg h51, if_pos h59]
            exact ret _ _ _ 97 (iI (-1)) () d_RR_takeHalfHour_97 hS ((congrArg (fun q9 => iI q9.1) e9).symm) (fun t ht _ => ⟨by rw [e9, ht]; exact hP, by rw [e9]; exact hD⟩)
          · refine lv_aload_n hx hb d_RR_takeHalfHour_62 rfl (lv_at hl 3 rfl) ?_
            refine z_bipush hx hb d_RR_takeHalfHour_63 (by decide) ?_
            have hPc := hP.sub (ws' := [(h0, .inr (6, [.ref b0, .ref g0, .ref n0, .ref e0, .ref z0, .ref t0, .int (iI ((n : Int))), .int (iI ((tkF tx n ((tn10 tx n pl 0 lh).2) 48).2)), .int (iI (fr)), .int (iI (to1))])), (t0, .inl (k 2, 100, .inl (aZ (tx))))]) [0, 1] rfl
            have hDc := hD.sub (ws' := [(h0, .inr (6, [.ref b0, .ref g0, .ref n0, .ref e0, .ref z0, .ref t0, .int (iI ((n : Int))), .int (iI ((tkF tx n ((tn10 tx n pl 0 lh).2) 48).2)), .int (iI (fr)), .int (iI (to1))])), (t0, .inl (k 2, 100, .inl (aZ (tx))))]) [0, 1] (by decide) rfl
            have hFc := va_free (wc := [(h0, .inr (6, [.ref b0, .ref g0, .ref n0, .ref e0, .ref z0, .ref t0, .int (iI ((n : Int))), .int (iI ((tkF tx n ((tn10 tx n pl 0 lh).2) 48).2)), .int (iI (fr)), .int (iI (to1))])), (t0, .inl (k 2, 100, .inl (aZ (tx))))]) hD hS hA [0, 1] rfl
            refine va_calli (va_runV (As := [.int (iI (51))]) (rest := []) (b := h0) ⟨hx, hb, hml, hown, hts⟩ (c_RR_take l D k H.size (h0) (b0) (g0) (n0) (e0) (z0) (t0) (tx) (n) ((tkF tx n ((tn10 tx n pl 0 lh).2) 48).2) (fr) (to1) (51) (hn) ((by omega)) (htx) ((by omega))) ⟨callB_of 1 hts (good_RR_take) rfl rfl rfl (hts _ k_62) (hts _ k_424) (by decide +kernel) ⟨Nat.le_of_ble_eq_true rfl, Nat.le_of_ble_eq_true rfl⟩, (hts _ k_426), (hts _ k_4)⟩ ⟨fun a U g mk q => ⟨q.1, q.2.1, q.2.2.1, va_K.moved (u := U) (U := U.calling g mk a) (Vm.Alike.refl U.vm) q.2.2.2.1, q.2.2.2.2.1, q.2.2.2.2.2.calling⟩, (va_recv (q0 := 0) hK hP rfl rfl), fun U hU hW => ⟨rfl, by rw [hU], by rw [hU]; exact hPc, va_K.moved hW.alike hK, hDc.weaken (fun _ _ _ _ => trivial), by rw [hU]; exact (hX.mono hS hFc).warm hW⟩⟩ rfl rfl hl.1 rfl (lv_room (Nat.le_of_ble_eq_true rfl)) d_RR_takeHalfHour_65 ⟨Nat.le_of_ble_eq_true rfl, Nat.le_of_ble_eq_true rfl⟩) hS (fun q _ h => hFc q h) hFc (fun xr_9 xu_10 t H1 locs ht hvm h_xr_9 hB hz1 hk1 hS => ?_)
            obtain ⟨hP1, hD1⟩ := hB
            rw [ht] at hP1
            obtain ⟨hP, hD⟩ := va_join (wr := []) (w1 := [(h0, .inr (6, [.ref b0, .ref g0, .ref n0, .ref e0, .ref z0, .ref t0, .int (iI ((n : Int))), .int (iI ((tkF tx n ((tkF tx n ((tn10 tx n pl 0 lh).2) 48).2) 51).2)), .int (iI (fr)), .int (iI (to1))])), (t0, .inl (k 2, 100, .inl (aZ (tx))))]) hP hD [0, 1] [] rfl rfl (by decide) (by decide) hk1 hFc hP1 hD1
            generalize H1 = H at hP hS ⊢
            have hP := hP.sub (ws' := [(h0, .inr (6, [.ref b0, .ref g0, .ref n0, .ref e0, .ref z0, .ref t0, .int (iI ((n : Int))), .int (iI ((tkF tx n ((tkF tx n ((tn10 tx n pl 0 lh).2) 48).2) 51).2)), .int (iI (fr)), .int (iI (to1))])), (t0, .inl (k 2, 100, .inl (aZ (tx))))]) [0, 1] rfl
            have hD := hD.sub (ws' := [(h0, .inr (6, [.ref b0, .ref g0, .ref n0, .ref e0, .ref z0, .ref t0, .int (iI ((n : Int))), .int (iI ((tkF tx n ((tkF tx n ((tn10 tx n pl 0 lh).2) 48).2) 51).2)), .int (iI (fr)), .int (iI (to1))])), (t0, .inl (k 2, 100, .inl (aZ (tx))))]) [0, 1] (by decide) rfl
            subst h_xr_9
            have hbt51_39 := tkF_bd (tx := tx) (pl := (tkF tx n ((tn10 tx n pl 0 lh).2) 48).2) (ch := 51) hn (by omega)
            refine b_if_eq (tgt := 77) hx hb d_RR_takeHalfHour_68 (by decide) (fun h68 => ?_) (fun h68 => ?_)
            · refine lv_iload hx hb d_RR_takeHalfHour_77 (lv_at hl 0 rfl) ?_
              refine z_if_eq (tgt := 96) hx hb d_RR_takeHalfHour_79 (by decide) ⟨by omega, by omega⟩ (fun h79 => ?_) (fun h79 => absurd h79 (by decide))
              refine z_iconst hx hb d_RR_takeHalfHour_96 ?_
              have e9 : hhF tx n pl lh br = (-1, (tkF tx n ((tkF tx n ((tn10 tx n pl 0 lh).2) 48).2) 51).2) := by unfold hhF; rw [if_neg h11, if_neg h24, if_neg (Bool.eq_false_iff.mp h33), if_neg h51, if_neg h59, if_neg (Bool.eq_false_iff.mp h68)]
              exact ret _ _ _ 97 (iI (-1)) () d_RR_takeHalfHour_97 hS ((congrArg (fun q9 => iI q9.1) e9).symm) (fun t ht _ => ⟨by rw [e9, ht]; exact hP, by rw [e9]; exact hD⟩)
            · refine z_iinc (k := 1) (a := 2 * ((tn10 tx n pl 0 lh).1)) (lv' := [(4, .int (iI ((2 * ((tn10 tx n pl 0 lh).1)) + 1))), (5, .int (iI (0))), (3, .int (iI ((tn10 tx n pl 0 lh).1))), (0, .ref h0), (1, .int (iI (lh))), (2, .int (iI (br)))]) hx hb d_RR_takeHalfHour_71 hl rfl (by decide) rfl (fun ls hl => ?_)
              refine z_iconst hx hb d_RR_takeHalfHour_74 ?_
              refine lv_istore (lv' := [(5, .int (iI (1))), (4, .int (iI ((2 * ((tn10 tx n pl 0 lh).1)) + 1))), (3, .int (iI ((tn10 tx n pl 0 lh).1))), (0, .ref h0), (1, .int (iI (lh))), (2, .int (iI (br)))]) hx hb d_RR_takeHalfHour_75 hl (by decide) rfl (fun ls hl => ?_)
              refine lv_iload hx hb d_RR_takeHalfHour_77 (lv_at hl 0 rfl) ?_
              refine z_if_eq (tgt := 96) hx hb d_RR_takeHalfHour_79 (by decide) ⟨by omega, by omega⟩ (fun h79 => absurd h79 (by decide)) (fun h79 => ?_)
              refine lv_aload_n hx hb d_RR_takeHalfHour_82 rfl (lv_at hl 3 rfl) ?_
              refine z_bipush hx hb d_RR_takeHalfHour_83 (by decide) ?_
              have hPc := hP.sub (ws' := [(h0, .inr (6, [.ref b0, .ref g0, .ref n0, .ref e0, .ref z0, .ref t0, .int (iI ((n : Int))), .int (iI ((tkF tx n ((tkF tx n ((tn10 tx n pl 0 lh).2) 48).2) 51).2)), .int (iI (fr)), .int (iI (to1))])), (t0, .inl (k 2, 100, .inl (aZ (tx))))]) [0, 1] rfl
              have hDc := hD.sub (ws' := [(h0, .inr (6, [.ref b0, .ref g0, .ref n0, .ref e0, .ref z0, .ref t0, .int (iI ((n : Int))), .int (iI ((tkF tx n ((tkF tx n ((tn10 tx n pl 0 lh).2) 48).2) 51).2)), .int (iI (fr)), .int (iI (to1))])), (t0, .inl (k 2, 100, .inl (aZ (tx))))]) [0, 1] (by decide) rfl
              have hFc := va_free (wc := [(h0, .inr (6, [.ref b0, .ref g0, .ref n0, .ref e0, .ref z0, .ref t0, .int (iI ((n : Int))), .int (iI ((tkF tx n ((tkF tx n ((tn10 tx n pl 0 lh).2) 48).2) 51).2)), .int (iI (fr)), .int (iI (to1))])), (t0, .inl (k 2, 100, .inl (aZ (tx))))]) hD hS hA [0, 1] rfl
              refine va_calli (va_runV (As := [.int (iI (48))]) (rest := []) (b := h0) ⟨hx, hb, hml, hown, hts⟩ (c_RR_take l D k H.size (h0) (b0) (g0) (n0) (e0) (z0) (t0) (tx) (n) ((tkF tx n ((tkF tx n ((tn10 tx n pl 0 lh).2) 48).2) 51).2) (fr) (to1) (48) (hn) ((by omega)) (htx) ((by omega))) ⟨callB_of 1 hts (good_RR_take) rfl rfl rfl (hts _ k_62) (hts _ k_424) (by decide +kernel) ⟨Nat.le_of_ble_eq_true rfl, Nat.le_of_ble_eq_true rfl⟩, (hts _ k_426), (hts _ k_4)⟩ ⟨fun a U g mk q => ⟨q.1, q.2.1, q.2.2.1, va_K.moved (u := U) (U := U.calling g mk a) (Vm.Alike.refl U.vm) q.2.2.2.1, q.2.2.2.2.1, q.2.2.2.2.2.calling⟩, (va_recv (q0 := 0) hK hP rfl rfl), fun U hU hW => ⟨rfl, by rw [hU], by rw [hU]; exact hPc, va_K.moved hW.alike hK, hDc.weaken (fun _ _ _ _ => trivial), by rw [hU]; exact (hX.mono hS hFc).warm hW⟩⟩ rfl rfl hl.1 rfl (lv_room (Nat.le_of_ble_eq_true rfl)) d_RR_takeHalfHour_85 ⟨Nat.le_of_ble_eq_true rfl, Nat.le_of_ble_eq_true rfl⟩) hS (fun q _ h => hFc q h) hFc (fun xr_11 xu_12 t H1 locs ht hvm h_xr_11 hB hz1 hk1 hS => ?_)
              obtain ⟨hP1, hD1⟩ := hB
              rw [ht] at hP1
              obtain ⟨hP, hD⟩ := va_join (wr := []) (w1 := [(h0, .inr (6, [.ref b0, .ref g0, .ref n0, .ref e0, .ref z0, .ref t0, .int (iI ((n : Int))), .int (iI ((tkF tx n ((tkF tx n ((tkF tx n ((tn10 tx n pl 0 lh).2) 48).2) 51).2) 48).2)), .int (iI (fr)), .int (iI (to1))])), (t0, .inl (k 2, 100, .inl (aZ (tx))))]) hP hD [0, 1] [] rfl rfl (by decide) (by decide) hk1 hFc hP1 hD1
              generalize H1 = H at hP hS ⊢
              have hP := hP.sub (ws' := [(h0, .inr (6, [.ref b0, .ref g0, .ref n0, .ref e0, .ref z0, .ref t0, .int (iI ((n : Int))), .int (iI ((tkF tx n ((tkF tx n ((tkF tx n ((tn10 tx n pl 0 lh).2) 48).2) 51).2) 48).2)), .int (iI (fr)), .int (iI (to1))])), (t0, .inl (k 2, 100, .inl (aZ (tx))))]) [0, 1] rfl
              have hD := hD.sub (ws' := [(h0, .inr (6, [.ref b0, .ref g0, .ref n0, .ref e0, .ref z0, .ref t0, .int (iI ((n : Int))), .int (iI ((tkF tx n ((tkF tx n ((tkF tx n ((tn10 tx n pl 0 lh).2) 48).2) 51).2) 48).2)), .int (iI (fr)), .int (iI (to1))])), (t0, .inl (k 2, 100, .inl (aZ (tx))))]) [0, 1] (by decide) rfl
              subst h_xr_11
              have hbt48_57 := tkF_bd (tx := tx) (pl := (tkF tx n ((tkF tx n ((tn10 tx n pl 0 lh).2) 48).2) 51).2) (ch := 48) hn (by omega)
              refine b_if_eq (tgt := 96) hx hb d_RR_takeHalfHour_88 (by decide) (fun h88 => ?_) (fun h88 => ?_)
              · refine z_iconst hx hb d_RR_takeHalfHour_96 ?_
                have e9 : hhF tx n pl lh br = (-1, (tkF tx n ((tkF tx n ((tkF tx n ((tn10 tx n pl 0 lh).2) 48).2) 51).2) 48).2) := by unfold hhF; rw [if_neg h11, if_neg h24, if_neg (Bool.eq_false_iff.mp h33), if_neg h51, if_neg h59, if_pos h68, if_neg (Bool.eq_false_iff.mp h88)]
                exact ret _ _ _ 97 (iI (-1)) () d_RR_takeHalfHour_97 hS ((congrArg (fun q9 => iI q9.1) e9).symm) (fun t ht _ => ⟨by rw [e9, ht]; exact hP, by rw [e9]; exact hD⟩)
              · refine lv_iload hx hb d_RR_takeHalfHour_91 (lv_at hl 1 rfl) ?_
                refine lv_goto (tgt := 97) hx hb d_RR_takeHalfHour_93 (by decide) ?_
                have e9 : hhF tx n pl lh br = ((2 * ((tn10 tx n pl 0 lh).1)) + 1, (tkF tx n ((tkF tx n ((tkF tx n ((tn10 tx n pl 0 lh).2) 48).2) 51).2) 48).2) := by unfold hhF; rw [if_neg h11, if_neg h24, if_neg (Bool.eq_false_iff.mp h33), if_neg h51, if_neg h59, if_pos h68, if_pos h88]
                exact ret _ _ _ 97 (iI ((2 * ((tn10 tx n pl 0 lh).1)) + 1)) () d_RR_takeHalfHour_97 hS ((congrArg (fun q9 => iI q9.1) e9).symm) (fun t ht _ => ⟨by rw [e9, ht]; exact hP, by rw [e9]; exact hD⟩)
      · refine z_iconst hx hb d_RR_takeHalfHour_36 ?_
        refine lv_goto (tgt := 41) hx hb d_RR_takeHalfHour_37 (by decide) ?_
        refine lv_istore (lv' := [(5, .int (iI (1))), (4, .int (iI (2 * ((tn10 tx n pl 0 lh).1)))), (3, .int (iI ((tn10 tx n pl 0 lh).1))), (0, .ref h0), (1, .int (iI (lh))), (2, .int (iI (br)))]) hx hb d_RR_takeHalfHour_41 hl (by decide) rfl (fun ls hl => ?_)
        refine lv_iload hx hb d_RR_takeHalfHour_43 (lv_at hl 0 rfl) ?_
        refine z_if_ne (tgt := 77) hx hb d_RR_takeHalfHour_45 (by decide) ⟨by omega, by omega⟩ (fun h45 => ?_) (fun h45 => absurd h45 (by decide))
        refine lv_iload hx hb d_RR_takeHalfHour_77 (lv_at hl 0 rfl) ?_
        refine z_if_eq (tgt := 96) hx hb d_RR_takeHalfHour_79 (by decide) ⟨by omega, by omega⟩ (fun h79 => absurd h79 (by decide)) (fun h79 => ?_)
        refine lv_aload_n hx hb d_RR_takeHalfHour_82 rfl (lv_at hl 3 rfl) ?_
        refine z_bipush hx hb d_RR_takeHalfHour_83 (by decide) ?_
        have hPc := hP.sub (ws' := [(h0, .inr (6, [.ref b0, .ref g0, .ref n0, .ref e0, .ref z0, .ref t0, .int (iI ((n : Int))), .int (iI ((tkF tx n ((tn10 tx n pl 0 lh).2) 48).2)), .int (iI (fr)), .int (iI (to1))])), (t0, .inl (k 2, 100, .inl (aZ (tx))))]) [0, 1] rfl
        have hDc := hD.sub (ws' := [(h0, .inr (6, [.ref b0, .ref g0, .ref n0, .ref e0, .ref z0, .ref t0, .int (iI ((n : Int))), .int (iI ((tkF tx n ((tn10 tx n pl 0 lh).2) 48).2)), .int (iI (fr)), .int (iI (to1))])), (t0, .inl (k 2, 100, .inl (aZ (tx))))]) [0, 1] (by decide) rfl
        have hFc := va_free (wc := [(h0, .inr (6, [.ref b0, .ref g0, .ref n0, .ref e0, .ref z0, .ref t0, .int (iI ((n : Int))), .int (iI ((tkF tx n ((tn10 tx n pl 0 lh).2) 48).2)), .int (iI (fr)), .int (iI (to1))])), (t0, .inl (k 2, 100, .inl (aZ (tx))))]) hD hS hA [0, 1] rfl
        refine va_calli (va_runV (As := [.int (iI (48))]) (rest := []) (b := h0) ⟨hx, hb, hml, hown, hts⟩ (c_RR_take l D k H.size (h0) (b0) (g0) (n0) (e0) (z0) (t0) (tx) (n) ((tkF tx n ((tn10 tx n pl 0 lh).2) 48).2) (fr) (to1) (48) (hn) ((by omega)) (htx) ((by omega))) ⟨callB_of 1 hts (good_RR_take) rfl rfl rfl (hts _ k_62) (hts _ k_424) (by decide +kernel) ⟨Nat.le_of_ble_eq_true rfl, Nat.le_of_ble_eq_true rfl⟩, (hts _ k_426), (hts _ k_4)⟩ ⟨fun a U g mk q => ⟨q.1, q.2.1, q.2.2.1, va_K.moved (u := U) (U := U.calling g mk a) (Vm.Alike.refl U.vm) q.2.2.2.1, q.2.2.2.2.1, q.2.2.2.2.2.calling⟩, (va_recv (q0 := 0) hK hP rfl rfl), fun U hU hW => ⟨rfl, by rw [hU], by rw [hU]; exact hPc, va_K.moved hW.alike hK, hDc.weaken (fun _ _ _ _ => trivial), by rw [hU]; exact (hX.mono hS hFc).warm hW⟩⟩ rfl rfl hl.1 rfl (lv_room (Nat.le_of_ble_eq_true rfl)) d_RR_takeHalfHour_85 ⟨Nat.le_of_ble_eq_true rfl, Nat.le_of_ble_eq_true rfl⟩) hS (fun q _ h => hFc q h) hFc (fun xr_13 xu_14 t H1 locs ht hvm h_xr_13 hB hz1 hk1 hS => ?_)
        obtain ⟨hP1, hD1⟩ := hB
        rw [ht] at hP1
        obtain ⟨hP, hD⟩ := va_join (wr := []) (w1 := [(h0, .inr (6, [.ref b0, .ref g0, .ref n0, .ref e0, .ref z0, .ref t0, .int (iI ((n : Int))), .int (iI ((tkF tx n ((tkF tx n ((tn10 tx n pl 0 lh).2) 48).2) 48).2)), .int (iI (fr)), .int (iI (to1))])), (t0, .inl (k 2, 100, .inl (aZ (tx))))]) hP hD [0, 1] [] rfl rfl (by decide) (by decide) hk1 hFc hP1 hD1
        generalize H1 = H at hP hS ⊢
        have hP := hP.sub (ws' := [(h0, .inr (6, [.ref b0, .ref g0, .ref n0, .ref e0, .ref z0, .ref t0, .int (iI ((n : Int))), .int (iI ((tkF tx n ((tkF tx n ((tn10 tx n pl 0 lh).2) 48).2) 48).2)), .int (iI (fr)), .int (iI (to1))])), (t0, .inl (k 2, 100, .inl (aZ (tx))))]) [0, 1] rfl
        have hD := hD.sub (ws' := [(h0, .inr (6, [.ref b0, .ref g0, .ref n0, .ref e0, .ref z0, .ref t0, .int (iI ((n : Int))), .int (iI ((tkF tx n ((tkF tx n ((tn10 tx n pl 0 lh).2) 48).2) 48).2)), .int (iI (fr)), .int (iI (to1))])), (t0, .inl (k 2, 100, .inl (aZ (tx))))]) [0, 1] (by decide) rfl
        subst h_xr_13
        have hbt48_39 := tkF_bd (tx := tx) (pl := (tkF tx n ((tn10 tx n pl 0 lh).2) 48).2) (ch := 48) hn (by omega)
        refine b_if_eq (tgt := 96) hx hb d_RR_takeHalfHour_88 (by decide) (fun h88 => ?_) (fun h88 => ?_)
        · refine z_iconst hx hb d_RR_takeHalfHour_96 ?_
          have e9 : hhF tx n pl lh br = (-1, (tkF tx n ((tkF tx n ((tn10 tx n pl 0 lh).2) 48).2) 48).2) := by unfold hhF; rw [if_neg h11, if_neg h24, if_pos h33, if_neg (Bool.eq_false_iff.mp h88)]
          exact ret _ _ _ 97 (iI (-1)) () d_RR_takeHalfHour_97 hS ((congrArg (fun q9 => iI q9.1) e9).symm) (fun t ht _ => ⟨by rw [e9, ht]; exact hP, by rw [e9]; exact hD⟩)
        · refine lv_iload hx hb d_RR_takeHalfHour_91 (lv_at hl 1 rfl) ?_
          refine lv_goto (tgt := 97) hx hb d_RR_takeHalfHour_93 (by decide) ?_
          have e9 : hhF tx n pl lh br = (2 * ((tn10 tx n pl 0 lh).1), (tkF tx n ((tkF tx n ((tn10 tx n pl 0 lh).2) 48).2) 48).2) := by unfold hhF; rw [if_neg h11, if_neg h24, if_pos h33, if_pos h88]
          exact ret _ _ _ 97 (iI (2 * ((tn10 tx n pl 0 lh).1))) () d_RR_takeHalfHour_97 hS ((congrArg (fun q9 => iI q9.1) e9).symm) (fun t ht _ => ⟨by rw [e9, ht]; exact hP, by rw [e9]; exact hD⟩)
  · refine z_iconst hx hb d_RR_takeHalfHour_14 ?_
    have e9 : hhF tx n pl lh br = (-1, (tn10 tx n pl 0 lh).2) := by unfold hhF; rw [if_pos h11]
    exact ret _ _ _ 15 (iI (-1)) () d_RR_takeHalfHour_15 hS ((congrArg (fun q9 => iI q9.1) e9).symm) (fun t ht _ => ⟨by rw [e9, ht]; exact hP, by rw [e9]; exact hD⟩)

theorem hhF_bd {tx : Nat → Int} {n : Nat} {pl lh br : Int} (hn : n ≤ 100) (h : 0 ≤ pl ∧ pl ≤ (n : Int)) (hl : 0 ≤ lh ∧ lh ≤ 24) : 0 ≤ (hhF tx n pl lh br).2 ∧ (hhF tx n pl lh br).2 ≤ (n : Int) ∧ -1 ≤ (hhF tx n pl lh br).1 ∧ (hhF tx n pl lh br).1 ≤ 49 := by
  have h1 := tn10_bd (tx := tx) (pl := pl) (lo := 0) (hi := lh) hn h
  have h2 := fun p q ch => tkF_bd (tx := tx) (pl := p) (ch := ch) hn q
  have h3 := h2 (tn10 tx n pl 0 lh).2 ⟨h1.1, h1.2.1⟩ 48
  have h4 := h2 (tkF tx n (tn10 tx n pl 0 lh).2 48).2 h3 48
  have h5 := h2 (tn10 tx n pl 0 lh).2 ⟨h1.1, h1.2.1⟩ 51
  have h6 := h2 (tkF tx n (tn10 tx n pl 0 lh).2 51).2 h5 48
  have h7 := h2 (tkF tx n (tn10 tx n pl 0 lh).2 48).2 h3 51
  have h8 := h2 (tkF tx n (tkF tx n (tn10 tx n pl 0 lh).2 48).2 51).2 h7 48
  unfold hhF
  repeat' split
  all_goals (first | (dsimp only; omega) | omega)

def spF (tx : Nat → Int) (n : Nat) (pl : Int) (to1 : Int) : Bool × Int × Int × Int := (if (hhF tx n pl 23 (-1)).1 = -1 then (false, (hhF tx n pl 23 (-1)).2, (hhF tx n pl 23 (-1)).1, to1) else (if (tkF tx n ((hhF tx n pl 23 (-1)).2) 45).1 = true then (if (hhF tx n ((tkF tx n ((hhF tx n pl 23 (-1)).2) 45).2) 24 (((hhF tx n pl 23 (-1)).1))).1 = -1 then (false, (hhF tx n ((tkF tx n ((hhF tx n pl 23 (-1)).2) 45).2) 24 (((hhF tx n pl 23 (-1)).1))).2, (((hhF tx n pl 23 (-1)).1)), (hhF tx n ((tkF tx n ((hhF tx n pl 23 (-1)).2) 45).2) 24 (((hhF tx n pl 23 (-1)).1))).1) else (true, (hhF tx n ((tkF tx n ((hhF tx n pl 23 (-1)).2) 45).2) 24 (((hhF tx n pl 23 (-1)).1))).2, (((hhF tx n pl 23 (-1)).1)), (hhF tx n ((tkF tx n ((hhF tx n pl 23 (-1)).2) 45).2) 24 (((hhF tx n pl 23 (-1)).1))).1)) else (false, (tkF tx n ((hhF tx n pl 23 (-1)).2) 45).2, ((hhF tx n pl 23 (-1)).1), to1)))
set_option maxHeartbeats 4000000 in
set_option maxRecDepth 100000 in
theorem c_RR_readSpan (l : Launch) (D : va_G) (k : Nat → ClassId) (sz : Nat) (h0 b0 g0 n0 e0 z0 t0 : Nat) (tx : Nat → Int) (n : Nat) (pl : Int) (fr : Int) (to1 : Int) (hn : n ≤ 100) (hpl : 0 ≤ pl ∧ pl ≤ (n : Int)) (htx : ∀ j, 0 ≤ tx j ∧ tx j ≤ 65535) : Met l y_RR_readSpan wd_RR_readSpan rm_RR_readSpan (va_Pc [.ref h0] (PRW D k [(h0, .inr (6, [.ref b0, .ref g0, .ref n0, .ref e0, .ref z0, .ref t0, .int (iI ((n : Int))), .int (iI (pl)), .int (iI (fr)), .int (iI (to1))])), (t0, .inl (k 2, 100, .inl (aZ (tx))))] sz)) (va_Qi (fun (r : Int32) (u : Unit) => r = (bI ((spF tx n pl to1).1))) (fun _ t => BRW D [(h0, .inr (6, [.ref b0, .ref g0, .ref n0, .ref e0, .ref z0, .ref t0, .int (iI ((n : Int))), .int (iI (pl)), .int (iI (fr)), .int (iI (to1))])), (t0, .inl (k 2, 100, .inl (aZ (tx))))] sz [(h0, .inr (6, [.ref b0, .ref g0, .ref n0, .ref e0, .ref z0, .ref t0, .int (iI ((n : Int))), .int (iI ((spF tx n pl to1).2.1)), .int (iI ((spF tx n pl to1).2.2.1)), .int (iI ((spF tx n pl to1).2.2.2))])), (t0, .inl (k 2, 100, .inl (aZ (tx))))] t) (va_A [(h0, .inr (6, [.ref b0, .ref g0, .ref n0, .ref e0, .ref z0, .ref t0, .int (iI ((n : Int))), .int (iI (pl)), .int (iI (fr)), .int (iI (to1))])), (t0, .inl (k 2, 100, .inl (aZ (tx))))] sz)) 0 0 (va_A [(h0, .inr (6, [.ref b0, .ref g0, .ref n0, .ref e0, .ref z0, .ref t0, .int (iI ((n : Int))), .int (iI (pl)), .int (iI (fr)), .int (iI (to1))])), (t0, .inl (k 2, 100, .inl (aZ (tx))))] sz) := by
  refine e_z (by decide) rfl (Nat.le_of_ble_eq_true rfl) ?_
  intro p e s m args below meth c Q ls hx hb hml hown hts hpre hl ret
  obtain ⟨hsz, hP, hK, hD0, hX⟩ := hpre
  subst hsz
  have hD := hD0.self (sz := s.heap.size)
  have hA : ∀ q : Nat, s.heap.size ≤ q → (va_A [(h0, .inr (6, [.ref b0, .ref g0, .ref n0, .ref e0, .ref z0, .ref t0, .int (iI ((n : Int))), .int (iI (pl)), .int (iI (fr)), .int (iI (to1))])), (t0, .inl (k 2, 100, .inl (aZ (tx))))] s.heap.size) q := fun q h => Or.inr h
  have hS : va_S (va_A [(h0, .inr (6, [.ref b0, .ref g0, .ref n0, .ref e0, .ref z0, .ref t0, .int (iI ((n : Int))), .int (iI (pl)), .int (iI (fr)), .int (iI (to1))])), (t0, .inl (k 2, 100, .inl (aZ (tx))))] s.heap.size) s.heap s.heap [] := va_S.rf
  have hl : lv_has ls 1 [(0, .ref h0)] := hl
  refine lv_aload_n hx hb d_RR_readSpan_0 rfl (lv_at hl 0 rfl) ?_
  refine lv_aload_n hx hb d_RR_readSpan_1 rfl (lv_at hl 0 rfl) ?_
  refine z_bipush hx hb d_RR_readSpan_2 (by decide) ?_
  refine z_iconst hx hb d_RR_readSpan_4 ?_
  have hPc := hP.sub (ws' := [(h0, .inr (6, [.ref b0, .ref g0, .ref n0, .ref e0, .ref z0, .ref t0, .int (iI ((n : Int))), .int (iI (pl)), .int (iI (fr)), .int (iI (to1))])), (t0, .inl (k 2, 100, .inl (aZ (tx))))]) [0, 1] rfl
  have hDc := hD.sub (ws' := [(h0, .inr (6, [.ref b0, .ref g0, .ref n0, .ref e0, .ref z0, .ref t0, .int (iI ((n : Int))), .int (iI (pl)), .int (iI (fr)), .int (iI (to1))])), (t0, .inl (k 2, 100, .inl (aZ (tx))))]) [0, 1] (by decide) rfl
  have hFc := va_free (wc := [(h0, .inr (6, [.ref b0, .ref g0, .ref n0, .ref e0, .ref z0, .ref t0, .int (iI ((n : Int))), .int (iI (pl)), .int (iI (fr)), .int (iI (to1))])), (t0, .inl (k 2, 100, .inl (aZ (tx))))]) hD hS hA [0, 1] rfl
  refine va_calli (va_runV (As := [.int (iI (23)), .int (iI (-1))]) (rest := [.ref h0]) (b := h0) ⟨hx, hb, hml, hown, hts⟩ (c_RR_takeHalfHour l D k s.heap.size (h0) (b0) (g0) (n0) (e0) (z0) (t0) (tx) (n) (pl) (fr) (to1) (23) (-1) (hn) ((by omega)) (htx) ((by omega)) ((by omega))) ⟨callB_of 2 hts (good_RR_takeHalfHour) rfl rfl rfl (hts _ k_62) (hts _ k_432) (by decide +kernel) ⟨Nat.le_of_ble_eq_true rfl, Nat.le_of_ble_eq_true rfl⟩, (hts _ k_434), (hts _ k_6)⟩ ⟨fun a U g mk q => ⟨q.1, q.2.1, q.2.2.1, va_K.moved (u := U) (U := U.calling g mk a) (Vm.Alike.refl U.vm) q.2.2.2.1, q.2.2.2.2.1, q.2.2.2.2.2.calling⟩, (va_recv (q0 := 0) hK hP rfl rfl), fun U hU hW => ⟨rfl, by rw [hU], by rw [hU]; exact hPc, va_K.moved hW.alike hK, hDc.weaken (fun _ _ _ _ => trivial), by rw [hU]; exact (hX.mono hS hFc).warm hW⟩⟩ rfl rfl hl.1 rfl (lv_room (Nat.le_of_ble_eq_true rfl)) d_RR_readSpan_5 ⟨Nat.le_of_ble_eq_true rfl, Nat.le_of_ble_eq_true rfl⟩) hS (fun q _ h => hFc q h) hFc (fun xr_1 xu_2 t H1 locs ht hvm h_xr_1 hB hz1 hk1 hS => ?_)
  obtain ⟨hP1, hD1⟩ := hB
  rw [ht] at hP1
  obtain ⟨hP, hD⟩ := va_join (wr := []) (w1 := [(h0, .inr (6, [.ref b0, .ref g0, .ref n0, .ref e0, .ref z0, .ref t0, .int (iI ((n : Int))), .int (iI ((hhF tx n pl 23 (-1)).2)), .int (iI (fr)), .int (iI (to1))])), (t0, .inl (k 2, 100, .inl (aZ (tx))))]) hP hD [0, 1] [] rfl rfl (by decide) (by decide) hk1 hFc hP1 hD1
  generalize H1 = H at hP hS ⊢
  have hP := hP.sub (ws' := [(h0, .inr (6, [.ref b0, .ref g0, .ref n0, .ref e0, .ref z0, .ref t0, .int (iI ((n : Int))), .int (iI ((hhF tx n pl 23 (-1)).2)), .int (iI (fr)), .int (iI (to1))])), (t0, .inl (k 2, 100, .inl (aZ (tx))))]) [0, 1] rfl
  have hD := hD.sub (ws' := [(h0, .inr (6, [.ref b0, .ref g0, .ref n0, .ref e0, .ref z0, .ref t0, .int (iI ((n : Int))), .int (iI ((hhF tx n pl 23 (-1)).2)), .int (iI (fr)), .int (iI (to1))])), (t0, .inl (k 2, 100, .inl (aZ (tx))))]) [0, 1] (by decide) rfl
  subst h_xr_1
  have hbh2 := hhF_bd (tx := tx) (pl := pl) (lh := 23) (br := -1) hn (by omega) (by omega)
  refine va_put (D := D) (ci := 6) (v := .int (iI ((hhF tx n pl 23 (-1)).1))) (ty := .int) (C := R_RR) (T := F_RR) (N := 10) hx hb hts in_RR t_RR t_RR_ok n_RR hown hK hP hD hS 0 rfl rfl 8 (by decide) (hts _ k_182) (fun _ h9 => h9) rfl (by decide +kernel) rfl rfl (Nat.le_of_ble_eq_true rfl) d_RR_readSpan_8 (fun H locs hP hD hS => ?_)
  have hP : va_P D classes [(h0, .inr (6, [.ref b0, .ref g0, .ref n0, .ref e0, .ref z0, .ref t0, .int (iI ((n : Int))), .int (iI ((hhF tx n pl 23 (-1)).2)), .int (iI ((hhF tx n pl 23 (-1)).1)), .int (iI (to1))])), (t0, .inl (k 2, 100, .inl (aZ (tx))))] H := hP
  have hD : va_D (va_A [(h0, .inr (6, [.ref b0, .ref g0, .ref n0, .ref e0, .ref z0, .ref t0, .int (iI ((n : Int))), .int (iI (pl)), .int (iI (fr)), .int (iI (to1))])), (t0, .inl (k 2, 100, .inl (aZ (tx))))] s.heap.size) [(h0, .inr (6, [.ref b0, .ref g0, .ref n0, .ref e0, .ref z0, .ref t0, .int (iI ((n : Int))), .int (iI ((hhF tx n pl 23 (-1)).2)), .int (iI ((hhF tx n pl 23 (-1)).1)), .int (iI (to1))])), (t0, .inl (k 2, 100, .inl (aZ (tx))))] := hD
  refine lv_aload_n hx hb d_RR_readSpan_11 rfl (lv_at hl 0 rfl) ?_
  refine va_get (D := D) (ci := 6) (v := .int (iI ((hhF tx n pl 23 (-1)).1))) (C := R_RR) (T := F_RR) (N := 10) hx hb hts in_RR hown hK hP 0 rfl rfl 8 (by decide) (hts _ k_182) (fun _ h9 => h9) rfl d_RR_readSpan_12 ?_
  refine z_iconst hx hb d_RR_readSpan_15 ?_
  refine z_icmp_eq (tgt := 28) hx hb d_RR_readSpan_16 (by decide) ⟨by omega, by omega⟩ ⟨by omega, by omega⟩ (fun h16 => ?_) (fun h16 => ?_)
  · refine z_iconst hx hb d_RR_readSpan_28 ?_
    have e9 : spF tx n pl to1 = (false, (hhF tx n pl 23 (-1)).2, (hhF tx n pl 23 (-1)).1, to1) := by unfold spF; rw [if_pos h16]
    exact ret _ _ _ 29 false () d_RR_readSpan_29 hS ((congrArg (fun q9 => bI q9.1) e9).symm) (fun t ht _ => ⟨by rw [e9, ht]; exact hP, by rw [e9]; exact hD⟩)
  · refine lv_aload_n hx hb d_RR_readSpan_19 rfl (lv_at hl 0 rfl) ?_
    refine z_bipush hx hb d_RR_readSpan_20 (by decide) ?_
    have hPc := hP.sub (ws' := [(h0, .inr (6, [.ref b0, .ref g0, .ref n0, .ref e0, .ref z0, .ref t0, .int (iI ((n : Int))), .int (iI ((hhF tx n pl 23 (-1)).2)), .int (iI ((hhF tx n pl 23 (-1)).1)), .int (iI (to1))])), (t0, .inl (k 2, 100, .inl (aZ (tx))))]) [0, 1] rfl
    have hDc := hD.sub (ws' := [(h0, .inr (6, [.ref b0, .ref g0, .ref n0, .ref e0, .ref z0, .ref t0, .int (iI ((n : Int))), .int (iI ((hhF tx n pl 23 (-1)).2)), .int (iI ((hhF tx n pl 23 (-1)).1)), .int (iI (to1))])), (t0, .inl (k 2, 100, .inl (aZ (tx))))]) [0, 1] (by decide) rfl
    have hFc := va_free (wc := [(h0, .inr (6, [.ref b0, .ref g0, .ref n0, .ref e0, .ref z0, .ref t0, .int (iI ((n : Int))), .int (iI ((hhF tx n pl 23 (-1)).2)), .int (iI ((hhF tx n pl 23 (-1)).1)), .int (iI (to1))])), (t0, .inl (k 2, 100, .inl (aZ (tx))))]) hD hS hA [0, 1] rfl
    refine va_calli (va_runV (As := [.int (iI (45))]) (rest := []) (b := h0) ⟨hx, hb, hml, hown, hts⟩ (c_RR_take l D k H.size (h0) (b0) (g0) (n0) (e0) (z0) (t0) (tx) (n) ((hhF tx n pl 23 (-1)).2) ((hhF tx n pl 23 (-1)).1) (to1) (45) (hn) ((by omega)) (htx) ((by omega))) ⟨callB_of 1 hts (good_RR_take) rfl rfl rfl (hts _ k_62) (hts _ k_424) (by decide +kernel) ⟨Nat.le_of_ble_eq_true rfl, Nat.le_of_ble_eq_true rfl⟩, (hts _ k_426), (hts _ k_4)⟩ ⟨fun a U g mk q => ⟨q.1, q.2.1, q.2.2.1, va_K.moved (u := U) (U := U.calling g mk a) (Vm.Alike.refl U.vm) q.2.2.2.1, q.2.2.2.2.1, q.2.2.2.2.2.calling⟩, (va_recv (q0 := 0) hK hP rfl rfl), fun U hU hW => ⟨rfl, by rw [hU], by rw [hU]; exact hPc, va_K.moved hW.alike hK, hDc.weaken (fun _ _ _ _ => trivial), by rw [hU]; exact (hX.mono hS hFc).warm hW⟩⟩ rfl rfl hl.1 rfl (lv_room (Nat.le_of_ble_eq_true rfl)) d_RR_readSpan_22 ⟨Nat.le_of_ble_eq_true rfl, Nat.le_of_ble_eq_true rfl⟩) hS (fun q _ h => hFc q h) hFc (fun xr_3 xu_4 t H1 locs ht hvm h_xr_3 hB hz1 hk1 hS => ?_)
    obtain ⟨hP1, hD1⟩ := hB
    rw [ht] at hP1
    obtain ⟨hP, hD⟩ := va_join (wr := []) (w1 := [(h0, .inr (6, [.ref b0, .ref g0, .ref n0, .ref e0, .ref z0, .ref t0, .int (iI ((n : Int))), .int (iI ((tkF tx n ((hhF tx n pl 23 (-1)).2) 45).2)), .int (iI (((hhF tx n pl 23 (-1)).1))), .int (iI (to1))])), (t0, .inl (k 2, 100, .inl (aZ (tx))))]) hP hD [0, 1] [] rfl rfl (by decide) (by decide) hk1 hFc hP1 hD1
    generalize H1 = H at hP hS ⊢
    have hP := hP.sub (ws' := [(h0, .inr (6, [.ref b0, .ref g0, .ref n0, .ref e0, .ref z0, .ref t0, .int (iI ((n : Int))), .int (iI ((tkF tx n ((hhF tx n pl 23 (-1)).2) 45).2)), .int (iI (((hhF tx n pl 23 (-1)).1))), .int (iI (to1))])), (t0, .inl (k 2, 100, .inl (aZ (tx))))]) [0, 1] rfl
    have hD := hD.sub (ws' := [(h0, .inr (6, [.ref b0, .ref g0, .ref n0, .ref e0, .ref z0, .ref t0, .int (iI ((n : Int))), .int (iI ((tkF tx n ((hhF tx n pl 23 (-1)).2) 45).2)), .int (iI (((hhF tx n pl 23 (-1)).1))), .int (iI (to1))])), (t0, .inl (k 2, 100, .inl (aZ (tx))))]) [0, 1] (by decide) rfl
    subst h_xr_3
    have hbt45_23 := tkF_bd (tx := tx) (pl := (hhF tx n pl 23 (-1)).2) (ch := 45) hn (by omega)
    refine b_if_ne (tgt := 30) hx hb d_RR_readSpan_25 (by decide) (fun h25 => ?_) (fun h25 => ?_)
    · refine lv_aload_n hx hb d_RR_readSpan_30 rfl (lv_at hl 0 rfl) ?_
      refine lv_aload_n hx hb d_RR_readSpan_31 rfl (lv_at hl 0 rfl) ?_
      refine z_bipush hx hb d_RR_readSpan_32 (by decide) ?_
      refine lv_aload_n hx hb d_RR_readSpan_34 rfl (lv_at hl 0 rfl) ?_
      refine va_get (D := D) (ci := 6) (v := .int (iI (((hhF tx n pl 23 (-1)).1)))) (C := R_RR) (T := F_RR) (N := 10) hx hb hts in_RR hown hK hP 0 rfl rfl 8 (by decide) (hts _ k_182) (fun _ h9 => h9) rfl d_RR_readSpan_35 ?_
      have hPc := hP.sub (ws' := [(h0, .inr (6, [.ref b0, .ref g0, .ref n0, .ref e0, .ref z0, .ref t0, .int (iI ((n : Int))), .int (iI ((tkF tx n ((hhF tx n pl 23 (-1)).2) 45).2)), .int (iI (((hhF tx n pl 23 (-1)).1))), .int (iI (to1))])), (t0, .inl (k 2, 100, .inl (aZ (tx))))]) [0, 1] rfl
      have hDc := hD.sub (ws' := [(h0, .inr (6, [.ref b0, .ref g0, .ref n0, .ref e0, .ref z0, .ref t0, .int (iI ((n : Int))), .int (iI ((tkF tx n ((hhF tx n pl 23 (-1)).2) 45).2)), .int (iI (((hhF tx n pl 23 (-1)).1))), .int (iI (to1))])), (t0, .inl (k 2, 100, .inl (aZ (tx))))]) [0, 1] (by decide) rfl
      have hFc := va_free (wc := [(h0, .inr (6, [.ref b0, .ref g0, .ref n0, .ref e0, .ref z0, .ref t0, .int (iI ((n : Int))), .int (iI ((tkF tx n ((hhF tx n pl 23 (-1)).2) 45).2)), .int (iI (((hhF tx n pl 23 (-1)).1))), .int (iI (to1))])), (t0, .inl (k 2, 100, .inl (aZ (tx))))]) hD hS hA [0, 1] rfl
      refine va_calli (va_runV (As := [.int (iI (24)), .int (iI (((hhF tx n pl 23 (-1)).1)))]) (rest := [.ref h0]) (b := h0) ⟨hx, hb, hml, hown, hts⟩ (c_RR_takeHalfHour l D k H.size (h0) (b0) (g0) (n0) (e0) (z0) (t0) (tx) (n) ((tkF tx n ((hhF tx n pl 23 (-1)).2) 45).2) (((hhF tx n pl 23 (-1)).1)) (to1) (24) (((hhF tx n pl 23 (-1)).1)) (hn) ((by omega)) (htx) ((by omega)) ((by omega))) ⟨callB_of 2 hts (good_RR_takeHalfHour) rfl rfl rfl (hts _ k_62) (hts _ k_432) (by decide +kernel) ⟨Nat.le_of_ble_eq_true rfl, Nat.le_of_ble_eq_true rfl⟩, (hts _ k_434), (hts _ k_6)⟩ ⟨fun a U g mk q => ⟨q.1, q.2.1, q.2.2.1, va_K.moved (u := U) (U := U.calling g mk a) (Vm.Alike.refl U.vm) q.2.2.2.1, q.2.2.2.2.1, q.2.2.2.2.2.calling⟩, (va_recv (q0 := 0) hK hP rfl rfl), fun U hU hW => ⟨rfl, by rw [hU], by rw [hU]; exact hPc, va_K.moved hW.alike hK, hDc.weaken (fun _ _ _ _ => trivial), by rw [hU]; exact (hX.mono hS hFc).warm hW⟩⟩ rfl rfl hl.1 rfl (lv_room (Nat.le_of_ble_eq_true rfl)) d_RR_readSpan_38 ⟨Nat.le_of_ble_eq_true rfl, Nat.le_of_ble_eq_true rfl⟩) hS (fun q _ h => hFc q h) hFc (fun xr_5 xu_6 t H1 locs ht hvm h_xr_5 hB hz1 hk1 hS => ?_)
      obtain ⟨hP1, hD1⟩ := hB
      rw [ht] at hP1
      obtain ⟨hP, hD⟩ := va_join (wr := []) (w1 := [(h0, .inr (6, [.ref b0, .ref g0, .ref n0, .ref e0, .ref z0, .ref t0, .int (iI ((n : Int))), .int (iI ((hhF tx n ((tkF tx n ((hhF tx n pl 23 (-1)).2) 45).2) 24 (((hhF tx n pl 23 (-1)).1))).2)), .int (iI ((((hhF tx n pl 23 (-1)).1)))), .int (iI (to1))])), (t0, .inl (k 2, 100, .inl (aZ (tx))))]) hP hD [0, 1] [] rfl rfl (by decide) (by decide) hk1 hFc hP1 hD1
      generalize H1 = H at hP hS ⊢
      have hP := hP.sub (ws' := [(h0, .inr (6, [.ref b0, .ref g0, .ref n0, .ref e0, .ref z0, .ref t0, .int (iI ((n : Int))), .int (iI ((hhF tx n ((tkF tx n ((hhF tx n pl 23 (-1)).2) 45).2) 24 (((hhF tx n pl 23 (-1)).1))).2)), .int (iI ((((hhF tx n pl 23 (-1)).1)))), .int (iI (to1))])), (t0, .inl (k 2, 100, .inl (aZ (tx))))]) [0, 1] rfl
      have hD := hD.sub (ws' := [(h0, .inr (6, [.ref b0, .ref g0, .ref n0, .ref e0, .ref z0, .ref t0, .int (iI ((n : Int))), .int (iI ((hhF tx n ((tkF tx n ((hhF tx n pl 23 (-1)).2) 45).2) 24 (((hhF tx n pl 23 (-1)).1))).2)), .int (iI ((((hhF tx n pl 23 (-1)).1)))), .int (iI (to1))])), (t0, .inl (k 2, 100, .inl (aZ (tx))))]) [0, 1] (by decide) rfl
      subst h_xr_5
      have hbh41 := hhF_bd (tx := tx) (pl := (tkF tx n ((hhF tx n pl 23 (-1)).2) 45).2) (lh := 24) (br := ((hhF tx n pl 23 (-1)).1)) hn (by omega) (by omega)
      refine va_put (D := D) (ci := 6) (v := .int (iI ((hhF tx n ((tkF tx n ((hhF tx n pl 23 (-1)).2) 45).2) 24 (((hhF tx n pl 23 (-1)).1))).1))) (ty := .int) (C := R_RR) (T := F_RR) (N := 10) hx hb hts in_RR t_RR t_RR_ok n_RR hown hK hP hD hS 0 rfl rfl 9 (by decide) (hts _ k_183) (fun _ h9 => h9) rfl (by decide +kernel) rfl rfl (Nat.le_of_ble_eq_true rfl) d_RR_readSpan_41 (fun H locs hP hD hS => ?_)
      have hP : va_P D classes [(h0, .inr (6, [.ref b0, .ref g0, .ref n0, .ref e0, .ref z0, .ref t0, .int (iI ((n : Int))), .int (iI ((hhF tx n ((tkF tx n ((hhF tx n pl 23 (-1)).2) 45).2) 24 (((hhF tx n pl 23 (-1)).1))).2)), .int (iI ((((hhF tx n pl 23 (-1)).1)))), .int (iI ((hhF tx n ((tkF tx n ((hhF tx n pl 23 (-1)).2) 45).2) 24 (((hhF tx n pl 23 (-1)).1))).1))])), (t0, .inl (k 2, 100, .inl (aZ (tx))))] H := hP
      have hD : va_D (va_A [(h0, .inr (6, [.ref b0, .ref g0, .ref n0, .ref e0, .ref z0, .ref t0, .int (iI ((n : Int))), .int (iI (pl)), .int (iI (fr)), .int (iI (to1))])), (t0, .inl (k 2, 100, .inl (aZ (tx))))] s.heap.size) [(h0, .inr (6, [.ref b0, .ref g0, .ref n0, .ref e0, .ref z0, .ref t0, .int (iI ((n : Int))), .int (iI ((hhF tx n ((tkF tx n ((hhF tx n pl 23 (-1)).2) 45).2) 24 (((hhF tx n pl 23 (-1)).1))).2)), .int (iI ((((hhF tx n pl 23 (-1)).1)))), .int (iI ((hhF tx n ((tkF tx n ((hhF tx n pl 23 (-1)).2) 45).2) 24 (((hhF tx n pl 23 (-1)).1))).1))])), (t0, .inl (k 2, 100, .inl (aZ (tx))))] := hD
      refine lv_aload_n hx hb d_RR_readSpan_44 rfl (lv_at hl 0 rfl) ?_
      refine va_get (D := D) (ci := 6) (v := .int (iI ((hhF tx n ((tkF tx n ((hhF tx n pl 23 (-1)).2) 45).2) 24 (((hhF tx n pl 23 (-1)).1))).1))) (C := R_RR) (T := F_RR) (N := 10) hx hb hts in_RR hown hK hP 0 rfl rfl 9 (by decide) (hts _ k_183) (fun _ h9 => h9) rfl d_RR_readSpan_45 ?_
      refine z_iconst hx hb d_RR_readSpan_48 ?_
      refine z_icmp_eq (tgt := 56) hx hb d_RR_readSpan_49 (by decide) ⟨by omega, by omega⟩ ⟨by omega, by omega⟩ (fun h49 => ?_) (fun h49 => ?_)
      · refine z_iconst hx hb d_RR_readSpan_56 ?_
        have e9 : spF tx n pl to1 = (false, (hhF tx n ((tkF tx n ((hhF tx n pl 23 (-1)).2) 45).2) 24 (((hhF tx n pl 23 (-1)).1))).2, (((hhF tx n pl 23 (-1)).1)), (hhF tx n ((tkF tx n ((hhF tx n pl 23 (-1)).2) 45).2) 24 (((hhF tx n pl 23 (-1)).1))).1) := by unfold spF; rw [if_neg h16, if_pos h25, if_pos h49]
        exact ret _ _ _ 57 false () d_RR_readSpan_57 hS ((congrArg (fun q9 => bI q9.1) e9).symm) (fun t ht _ => ⟨by rw [e9, ht]; exact hP, by rw [e9]; exact hD⟩)
      · refine z_iconst hx hb d_RR_readSpan_52 ?_
        refine lv_goto (tgt := 57) hx hb d_RR_readSpan_53 (by decide) ?_
        have e9 : spF tx n pl to1 = (true, (hhF tx n ((tkF tx n ((hhF tx n pl 23 (-1)).2) 45).2) 24 (((hhF tx n pl 23 (-1)).1))).2, (((hhF tx n pl 23 (-1)).1)), (hhF tx n ((tkF tx n ((hhF tx n pl 23 (-1)).2) 45).2) 24 (((hhF tx n pl 23 (-1)).1))).1) := by unfold spF; rw [if_neg h16, if_pos h25, if_neg h49]
        exact ret _ _ _ 57 true () d_RR_readSpan_57 hS ((congrArg (fun q9 => bI q9.1) e9).symm) (fun t ht _ => ⟨by rw [e9, ht]; exact hP, by rw [e9]; exact hD⟩)
    · refine z_iconst hx hb d_RR_readSpan_28 ?_
      have e9 : spF tx n pl to1 = (false, (tkF tx n ((hhF tx n pl 23 (-1)).2) 45).2, ((hhF tx n pl 23 (-1)).1), to1) := by unfold spF; rw [if_neg h16, if_neg (Bool.eq_false_iff.mp h25)]
      exact ret _ _ _ 29 false () d_RR_readSpan_29 hS ((congrArg (fun q9 => bI q9.1) e9).symm) (fun t ht _ => ⟨by rw [e9, ht]; exact hP, by rw [e9]; exact hD⟩)

def mdF (tx : Nat → Int) (n : Nat) (pl : Int) : Int × Int := (if (tn10 tx n pl 1 12).1 = -1 then (-1, (tn10 tx n pl 1 12).2) else (if (tn10 tx n ((tn10 tx n pl 1 12).2) 1 (mLen 2000 ((tn10 tx n pl 1 12).1))).1 = -1 then (-1, (tn10 tx n ((tn10 tx n pl 1 12).2) 1 (mLen 2000 ((tn10 tx n pl 1 12).1))).2) else ((100 * ((tn10 tx n pl 1 12).1)) + ((tn10 tx n ((tn10 tx n pl 1 12).2) 1 (mLen 2000 ((tn10 tx n pl 1 12).1))).1), (tn10 tx n ((tn10 tx n pl 1 12).2) 1 (mLen 2000 ((tn10 tx n pl 1 12).1))).2)))
set_option maxHeartbeats 4000000 in
set_option maxRecDepth 100000 in
theorem c_RR_takeMonthAndDay (l : Launch) (D : va_G) (k : Nat → ClassId) (sz : Nat) (h0 b0 g0 n0 e0 z0 t0 : Nat) (tx : Nat → Int) (n : Nat) (pl : Int) (fr : Int) (to1 : Int) (hn : n ≤ 100) (hpl : 0 ≤ pl ∧ pl ≤ (n : Int)) (htx : ∀ j, 0 ≤ tx j ∧ tx j ≤ 65535) : Met l y_RR_takeMonthAndDay wd_RR_takeMonthAndDay rm_RR_takeMonthAndDay (va_Pc [.ref h0] (PRW D k [(h0, .inr (6, [.ref b0, .ref g0, .ref n0, .ref e0, .ref z0, .ref t0, .int (iI ((n : Int))), .int (iI (pl)), .int (iI (fr)), .int (iI (to1))])), (t0, .inl (k 2, 100, .inl (aZ (tx))))] sz)) (va_Qi (fun (r : Int32) (u : Unit) => r = (iI ((mdF tx n pl).1))) (fun _ t => BRW D [(h0, .inr (6, [.ref b0, .ref g0, .ref n0, .ref e0, .ref z0, .ref t0, .int (iI ((n : Int))), .int (iI (pl)), .int (iI (fr)), .int (iI (to1))])), (t0, .inl (k 2, 100, .inl (aZ (tx))))] sz [(h0, .inr (6, [.ref b0, .ref g0, .ref n0, .ref e0, .ref z0, .ref t0, .int (iI ((n : Int))), .int (iI ((mdF tx n pl).2)), .int (iI (fr)), .int (iI (to1))])), (t0, .inl (k 2, 100, .inl (aZ (tx))))] t) (va_A [(h0, .inr (6, [.ref b0, .ref g0, .ref n0, .ref e0, .ref z0, .ref t0, .int (iI ((n : Int))), .int (iI (pl)), .int (iI (fr)), .int (iI (to1))])), (t0, .inl (k 2, 100, .inl (aZ (tx))))] sz)) 0 0 (va_A [(h0, .inr (6, [.ref b0, .ref g0, .ref n0, .ref e0, .ref z0, .ref t0, .int (iI ((n : Int))), .int (iI (pl)), .int (iI (fr)), .int (iI (to1))])), (t0, .inl (k 2, 100, .inl (aZ (tx))))] sz) := by
  refine e_i (by decide) rfl (Nat.le_of_ble_eq_true rfl) ?_
  intro p e s m args below meth c Q ls hx hb hml hown hts hpre hl ret
  obtain ⟨hsz, hP, hK, hD0, hX⟩ := hpre
  subst hsz
  have hD := hD0.self (sz := s.heap.size)
  have hA : ∀ q : Nat, s.heap.size ≤ q → (va_A [(h0, .inr (6, [.ref b0, .ref g0, .ref n0, .ref e0, .ref z0, .ref t0, .int (iI ((n : Int))), .int (iI (pl)), .int (iI (fr)), .int (iI (to1))])), (t0, .inl (k 2, 100, .inl (aZ (tx))))] s.heap.size) q := fun q h => Or.inr h
  have hS : va_S (va_A [(h0, .inr (6, [.ref b0, .ref g0, .ref n0, .ref e0, .ref z0, .ref t0, .int (iI ((n : Int))), .int (iI (pl)), .int (iI (fr)), .int (iI (to1))])), (t0, .inl (k 2, 100, .inl (aZ (tx))))] s.heap.size) s.heap s.heap [] := va_S.rf
  have hl : lv_has ls 3 [(0, .ref h0)] := hl
  refine lv_aload_n hx hb d_RR_takeMonthAndDay_0 rfl (lv_at hl 0 rfl) ?_
  refine z_bipush hx hb d_RR_takeMonthAndDay_1 (by decide) ?_
  refine z_iconst hx hb d_RR_takeMonthAndDay_3 ?_
  refine z_bipush hx hb d_RR_takeMonthAndDay_4 (by decide) ?_
  have hPc := hP.sub (ws' := [(h0, .inr (6, [.ref b0, .ref g0, .ref n0, .ref e0, .ref z0, .ref t0, .int (iI ((n : Int))), .int (iI (pl)), .int (iI (fr)), .int (iI (to1))])), (t0, .inl (k 2, 100, .inl (aZ (tx))))]) [0, 1] rfl
  have hDc := hD.sub (ws' := [(h0, .inr (6, [.ref b0, .ref g0, .ref n0, .ref e0, .ref z0, .ref t0, .int (iI ((n : Int))), .int (iI (pl)), .int (iI (fr)), .int (iI (to1))])), (t0, .inl (k 2, 100, .inl (aZ (tx))))]) [0, 1] (by decide) rfl
  have hFc := va_free (wc := [(h0, .inr (6, [.ref b0, .ref g0, .ref n0, .ref e0, .ref z0, .ref t0, .int (iI ((n : Int))), .int (iI (pl)), .int (iI (fr)), .int (iI (to1))])), (t0, .inl (k 2, 100, .inl (aZ (tx))))]) hD hS hA [0, 1] rfl
  refine va_calli (va_runV (As := [.int (iI (10)), .int (iI (1)), .int (iI (12))]) (rest := []) (b := h0) ⟨hx, hb, hml, hown, hts⟩ (c_RR_takeNumber_10 l D k s.heap.size (h0) (b0) (g0) (n0) (e0) (z0) (t0) (tx) (n) (pl) (fr) (to1) (1) (12) (hn) ((by omega)) (htx) ((by omega)) ((by omega))) ⟨callB_of 3 hts (good_RR_takeNumber) rfl rfl rfl (hts _ k_62) (hts _ k_420) (by decide +kernel) ⟨Nat.le_of_ble_eq_true rfl, Nat.le_of_ble_eq_true rfl⟩, (hts _ k_422), (hts _ k_3)⟩ ⟨fun a U g mk q => ⟨q.1, q.2.1, q.2.2.1, va_K.moved (u := U) (U := U.calling g mk a) (Vm.Alike.refl U.vm) q.2.2.2.1, q.2.2.2.2.1, q.2.2.2.2.2.calling⟩, (va_recv (q0 := 0) hK hP rfl rfl), fun U hU hW => ⟨rfl, by rw [hU], by rw [hU]; exact hPc, va_K.moved hW.alike hK, hDc.weaken (fun _ _ _ _ => trivial), by rw [hU]; exact (hX.mono hS hFc).warm hW⟩⟩ rfl rfl hl.1 rfl (lv_room (Nat.le_of_ble_eq_true rfl)) d_RR_takeMonthAndDay_6 ⟨Nat.le_of_ble_eq_true rfl, Nat.le_of_ble_eq_true rfl⟩) hS (fun q _ h => hFc q h) hFc (fun xr_1 xu_2 t H1 locs ht hvm h_xr_1 hB hz1 hk1 hS => ?_)
  obtain ⟨hP1, hD1⟩ := hB
  rw [ht] at hP1
  obtain ⟨hP, hD⟩ := va_join (wr := []) (w1 := [(h0, .inr (6, [.ref b0, .ref g0, .ref n0, .ref e0, .ref z0, .ref t0, .int (iI ((n : Int))), .int (iI ((tn10 tx n pl 1 12).2)), .int (iI (fr)), .int (iI (to1))])), (t0, .inl (k 2, 100, .inl (aZ (tx))))]) hP hD [0, 1] [] rfl rfl (by decide) (by decide) hk1 hFc hP1 hD1
  generalize H1 = H at hP hS ⊢
  have hP := hP.sub (ws' := [(h0, .inr (6, [.ref b0, .ref g0, .ref n0, .ref e0, .ref z0, .ref t0, .int (iI ((n : Int))), .int (iI ((tn10 tx n pl 1 12).2)), .int (iI (fr)), .int (iI (to1))])), (t0, .inl (k 2, 100, .inl (aZ (tx))))]) [0, 1] rfl
  have hD := hD.sub (ws' := [(h0, .inr (6, [.ref b0, .ref g0, .ref n0, .ref e0, .ref z0, .ref t0, .int (iI ((n : Int))), .int (iI ((tn10 tx n pl 1 12).2)), .int (iI (fr)), .int (iI (to1))])), (t0, .inl (k 2, 100, .inl (aZ (tx))))]) [0, 1] (by decide) rfl
  subst h_xr_1
  have hbn10_2 := tn10_bd (tx := tx) (pl := pl) (lo := 1) (hi := 12) hn (by omega)
  refine lv_istore_n (lv' := [(1, .int (iI ((tn10 tx n pl 1 12).1))), (0, .ref h0)]) hx hb d_RR_takeMonthAndDay_9 rfl hl (by decide) rfl (fun ls hl => ?_)
  refine lv_iload_n hx hb d_RR_takeMonthAndDay_10 rfl (lv_at hl 0 rfl) ?_
  refine z_iconst hx hb d_RR_takeMonthAndDay_11 ?_
  refine z_icmp_ne (tgt := 17) hx hb d_RR_takeMonthAndDay_12 (by decide) ⟨by omega, by omega⟩ ⟨by omega, by omega⟩ (fun h12 => ?_) (fun h12 => ?_)
  · refine lv_aload_n hx hb d_RR_takeMonthAndDay_17 rfl (lv_at hl 1 rfl) ?_
    refine z_bipush hx hb d_RR_takeMonthAndDay_18 (by decide) ?_
    refine z_iconst hx hb d_RR_takeMonthAndDay_20 ?_
    refine z_sipush hx hb d_RR_takeMonthAndDay_21 (by decide) ?_
    refine lv_iload_n hx hb d_RR_takeMonthAndDay_24 rfl (lv_at hl 0 rfl) ?_
    refine rc_i (va_runS (As := [.int (iI (2000)), .int (iI ((tn10 tx n pl 1 12).1))]) (rest := [.int (iI (1)), .int (iI (10)), .ref h0]) ⟨hx, hb, hml, hown, hts⟩ (c_AL_monthLength l D k (2000) ((tn10 tx n pl 1 12).1) (⟨by omega, by omega⟩) (⟨by omega, by omega⟩)) ⟨callB_of 2 hts (good_AL_monthLength) rfl rfl rfl (hts _ k_61) (hts _ k_482) (by decide +kernel) ⟨Nat.le_of_ble_eq_true rfl, Nat.le_of_ble_eq_true rfl⟩, (hts _ k_93)⟩ ⟨fun a U g mk q => ⟨q.1, q.2.1, va_K.moved (u := U) (U := U.calling g mk a) (Vm.Alike.refl U.vm) q.2.2.1, q.2.2.2.calling⟩, fun U hU hW => ⟨rfl, by rw [hU]; exact (hP.sub (ws' := []) [] rfl), va_K.moved hW.alike hK, by rw [hU]; exact (hX.mono hS (fun _ h => absurd h id)).warm hW⟩⟩ rfl rfl hl.1 rfl (lv_room (Nat.le_of_ble_eq_true rfl)) d_RR_takeMonthAndDay_25 ⟨Nat.le_of_ble_eq_true rfl, Nat.le_of_ble_eq_true rfl⟩) (fun xr_3 h_xr_3 => ?_)
    subst h_xr_3
    have hmq := mLen_le 2000 ((tn10 tx n pl 1 12).1)
    have hPc := hP.sub (ws' := [(h0, .inr (6, [.ref b0, .ref g0, .ref n0, .ref e0, .ref z0, .ref t0, .int (iI ((n : Int))), .int (iI ((tn10 tx n pl 1 12).2)), .int (iI (fr)), .int (iI (to1))])), (t0, .inl (k 2, 100, .inl (aZ (tx))))]) [0, 1] rfl
    have hDc := hD.sub (ws' := [(h0, .inr (6, [.ref b0, .ref g0, .ref n0, .ref e0, .ref z0, .ref t0, .int (iI ((n : Int))), .int (iI ((tn10 tx n pl 1 12).2)), .int (iI (fr)), .int (iI (to1))])), (t0, .inl (k 2, 100, .inl (aZ (tx))))]) [0, 1] (by decide) rfl
    have hFc := va_free (wc := [(h0, .inr (6, [.ref b0, .ref g0, .ref n0, .ref e0, .ref z0, .ref t0, .int (iI ((n : Int))), .int (iI ((tn10 tx n pl 1 12).2)), .int (iI (fr)), .int (iI (to1))])), (t0, .inl (k 2, 100, .inl (aZ (tx))))]) hD hS hA [0, 1] rfl
    refine va_calli (va_runV (As := [.int (iI (10)), .int (iI (1)), .int (iI (mLen 2000 ((tn10 tx n pl 1 12).1)))]) (rest := []) (b := h0) ⟨hx, hb, hml, hown, hts⟩ (c_RR_takeNumber_10 l D k H.size (h0) (b0) (g0) (n0) (e0) (z0) (t0) (tx) (n) ((tn10 tx n pl 1 12).2) (fr) (to1) (1) (mLen 2000 ((tn10 tx n pl 1 12).1)) (hn) ((by omega)) (htx) ((by omega)) ((by omega))) ⟨callB_of 3 hts (good_RR_takeNumber) rfl rfl rfl (hts _ k_62) (hts _ k_420) (by decide +kernel) ⟨Nat.le_of_ble_eq_true rfl, Nat.le_of_ble_eq_true rfl⟩, (hts _ k_422), (hts _ k_3)⟩ ⟨fun a U g mk q => ⟨q.1, q.2.1, q.2.2.1, va_K.moved (u := U) (U := U.calling g mk a) (Vm.Alike.refl U.vm) q.2.2.2.1, q.2.2.2.2.1, q.2.2.2.2.2.calling⟩, (va_recv (q0 := 0) hK hP rfl rfl), fun U hU hW => ⟨rfl, by rw [hU], by rw [hU]; exact hPc, va_K.moved hW.alike hK, hDc.weaken (fun _ _ _ _ => trivial), by rw [hU]; exact (hX.mono hS hFc).warm hW⟩⟩ rfl rfl hl.1 rfl (lv_room (Nat.le_of_ble_eq_true rfl)) d_RR_takeMonthAndDay_28 ⟨Nat.le_of_ble_eq_true rfl, Nat.le_of_ble_eq_true rfl⟩) hS (fun q _ h => hFc q h) hFc (fun xr_4 xu_5 t H1 locs ht hvm h_xr_4 hB hz1 hk1 hS => ?_)
    obtain ⟨hP1, hD1⟩ := hB
    rw [ht] at hP1
    obtain ⟨hP, hD⟩ := va_join (wr := []) (w1 := [(h0, .inr (6, [.ref b0, .ref g0, .ref n0, .ref e0, .ref z0, .ref t0, .int (iI ((n : Int))), .int (iI ((tn10 tx n ((tn10 tx n pl 1 12).2) 1 (mLen 2000 ((tn10 tx n pl 1 12).1))).2)), .int (iI (fr)), .int (iI (to1))])), (t0, .inl (k 2, 100, .inl (aZ (tx))))]) hP hD [0, 1] [] rfl rfl (by decide) (by decide) hk1 hFc hP1 hD1
    generalize H1 = H at hP hS ⊢
    have hP := hP.sub (ws' := [(h0, .inr (6, [.ref b0, .ref g0, .ref n0, .ref e0, .ref z0, .ref t0, .int (iI ((n : Int))), .int (iI ((tn10 tx n ((tn10 tx n pl 1 12).2) 1 (mLen 2000 ((tn10 tx n pl 1 12).1))).2)), .int (iI (fr)), .int (iI (to1))])), (t0, .inl (k 2, 100, .inl (aZ (tx))))]) [0, 1] rfl
    have hD := hD.sub (ws' := [(h0, .inr (6, [.ref b0, .ref g0, .ref n0, .ref e0, .ref z0, .ref t0, .int (iI ((n : Int))), .int (iI ((tn10 tx n ((tn10 tx n pl 1 12).2) 1 (mLen 2000 ((tn10 tx n pl 1 12).1))).2)), .int (iI (fr)), .int (iI (to1))])), (t0, .inl (k 2, 100, .inl (aZ (tx))))]) [0, 1] (by decide) rfl
    subst h_xr_4
    have hbn10_21 := tn10_bd (tx := tx) (pl := (tn10 tx n pl 1 12).2) (lo := 1) (hi := mLen 2000 ((tn10 tx n pl 1 12).1)) hn (by omega)
    refine lv_istore_n (lv' := [(2, .int (iI ((tn10 tx n ((tn10 tx n pl 1 12).2) 1 (mLen 2000 ((tn10 tx n pl 1 12).1))).1))), (1, .int (iI ((tn10 tx n pl 1 12).1))), (0, .ref h0)]) hx hb d_RR_takeMonthAndDay_31 rfl hl (by decide) rfl (fun ls hl => ?_)
    refine lv_iload_n hx hb d_RR_takeMonthAndDay_32 rfl (lv_at hl 0 rfl) ?_
    refine z_iconst hx hb d_RR_takeMonthAndDay_33 ?_
    refine z_icmp_ne (tgt := 41) hx hb d_RR_takeMonthAndDay_34 (by decide) ⟨by omega, by omega⟩ ⟨by omega, by omega⟩ (fun h34 => ?_) (fun h34 => ?_)
    · refine z_bipush hx hb d_RR_takeMonthAndDay_41 (by decide) ?_
      refine lv_iload_n hx hb d_RR_takeMonthAndDay_43 rfl (lv_at hl 1 rfl) ?_
      refine z_imul hx hb d_RR_takeMonthAndDay_44 ?_
      refine lv_iload_n hx hb d_RR_takeMonthAndDay_45 rfl (lv_at hl 0 rfl) ?_
      refine z_iadd hx hb d_RR_takeMonthAndDay_46 ?_
      have e9 : mdF tx n pl = ((100 * ((tn10 tx n pl 1 12).1)) + ((tn10 tx n ((tn10 tx n pl 1 12).2) 1 (mLen 2000 ((tn10 tx n pl 1 12).1))).1), (tn10 tx n ((tn10 tx n pl 1 12).2) 1 (mLen 2000 ((tn10 tx n pl 1 12).1))).2) := by unfold mdF; rw [if_neg h12, if_neg h34]
      exact ret _ _ _ 47 (iI ((100 * ((tn10 tx n pl 1 12).1)) + ((tn10 tx n ((tn10 tx n pl 1 12).2) 1 (mLen 2000 ((tn10 tx n pl 1 12).1))).1))) () d_RR_takeMonthAndDay_47 hS ((congrArg (fun q9 => iI q9.1) e9).symm) (fun t ht _ => ⟨by rw [e9, ht]; exact hP, by rw [e9]; exact hD⟩)
    · refine z_iconst hx hb d_RR_takeMonthAndDay_37 ?_
      refine lv_goto (tgt := 47) hx hb d_RR_takeMonthAndDay_38 (by decide) ?_
      have e9 : mdF tx n pl = (-1, (tn10 tx n ((tn10 tx n pl 1 12).2) 1 (mLen 2000 ((tn10 tx n pl 1 12).1))).2) := by unfold mdF; rw [if_neg h12, if_pos h34]
      exact ret _ _ _ 47 (iI (-1)) () d_RR_takeMonthAndDay_47 hS ((congrArg (fun q9 => iI q9.1) e9).symm) (fun t ht _ => ⟨by rw [e9, ht]; exact hP, by rw [e9]; exact hD⟩)
  · refine z_iconst hx hb d_RR_takeMonthAndDay_15 ?_
    have e9 : mdF tx n pl = (-1, (tn10 tx n pl 1 12).2) := by unfold mdF; rw [if_pos h12]
    exact ret _ _ _ 16 (iI (-1)) () d_RR_takeMonthAndDay_16 hS ((congrArg (fun q9 => iI q9.1) e9).symm) (fun t ht _ => ⟨by rw [e9, ht]; exact hP, by rw [e9]; exact hD⟩)

theorem mdF_bd {tx : Nat → Int} {n : Nat} {pl : Int} (hn : n ≤ 100) (h : 0 ≤ pl ∧ pl ≤ (n : Int)) : 0 ≤ (mdF tx n pl).2 ∧ (mdF tx n pl).2 ≤ (n : Int) ∧ -1 ≤ (mdF tx n pl).1 ∧ (mdF tx n pl).1 ≤ 5000 := by
  have h1 := tn10_bd (tx := tx) (pl := pl) (lo := 1) (hi := 12) hn h
  have h0 := mLen_le 2000 (tn10 tx n pl 1 12).1
  have h2 := tn10_bd (tx := tx) (pl := (tn10 tx n pl 1 12).2) (lo := 1) (hi := mLen 2000 (tn10 tx n pl 1 12).1) hn ⟨h1.1, h1.2.1⟩
  unfold mdF
  repeat' split
  all_goals (first | (dsimp only; omega) | omega)

def nthF (tx : Nat → Int) (n : Nat) (pl : Int) (kd : Int) (f1 : Int) (s1 : Int) : Bool × Int × Int × Int × Int := (if (tkF tx n pl 76).1 = true then (if (tn1 tx n ((tkF tx n pl 76).2) 1 7).1 = -1 then (false, (tn1 tx n ((tkF tx n pl 76).2) 1 7).2, 78, 0, ((tn1 tx n ((tkF tx n pl 76).2) 1 7).1)) else (true, (tn1 tx n ((tkF tx n pl 76).2) 1 7).2, 78, 0, ((tn1 tx n ((tkF tx n pl 76).2) 1 7).1))) else (if (tn1 tx n ((tkF tx n pl 76).2) 1 5).1 = -1 then (false, (tn1 tx n ((tkF tx n pl 76).2) 1 5).2, kd, f1, s1) else (if (tn1 tx n ((tn1 tx n ((tkF tx n pl 76).2) 1 5).2) 1 7).1 = -1 then (false, (tn1 tx n ((tn1 tx n ((tkF tx n pl 76).2) 1 5).2) 1 7).2, 78, ((tn1 tx n ((tkF tx n pl 76).2) 1 5).1), ((tn1 tx n ((tn1 tx n ((tkF tx n pl 76).2) 1 5).2) 1 7).1)) else (true, (tn1 tx n ((tn1 tx n ((tkF tx n pl 76).2) 1 5).2) 1 7).2, 78, ((tn1 tx n ((tkF tx n pl 76).2) 1 5).1), ((tn1 tx n ((tn1 tx n ((tkF tx n pl 76).2) 1 5).2) 1 7).1)))))
set_option maxHeartbeats 4000000 in
set_option maxRecDepth 100000 in
theorem c_RR_readRankedWeekday (l : Launch) (D : va_G) (k : Nat → ClassId) (sz : Nat) (h0 b0 g0 n0 e0 z0 t0 l0 : Nat) (tx : Nat → Int) (n : Nat) (pl : Int) (fr : Int) (to1 : Int) (kd : Int) (f1 : Int) (s1 : Int) (hn : n ≤ 100) (hpl : 0 ≤ pl ∧ pl ≤ (n : Int)) (htx : ∀ j, 0 ≤ tx j ∧ tx j ≤ 65535) : Met l y_RR_readRankedWeekday wd_RR_readRankedWeekday rm_RR_readRankedWeekday (va_Pc [.ref h0] (PRW D k [(h0, .inr (6, [.ref b0, .ref g0, .ref n0, .ref e0, .ref z0, .ref t0, .int (iI ((n : Int))), .int (iI (pl)), .int (iI (fr)), .int (iI (to1))])), (t0, .inl (k 2, 100, .inl (aZ (tx)))), (b0, .inr (2, [.ref l0, .int (iI (kd)), .int (iI (f1)), .int (iI (s1))]))] sz)) (va_Qi (fun (r : Int32) (u : Unit) => r = (bI ((nthF tx n pl kd f1 s1).1))) (fun _ t => BRW D [(h0, .inr (6, [.ref b0, .ref g0, .ref n0, .ref e0, .ref z0, .ref t0, .int (iI ((n : Int))), .int (iI (pl)), .int (iI (fr)), .int (iI (to1))])), (t0, .inl (k 2, 100, .inl (aZ (tx)))), (b0, .inr (2, [.ref l0, .int (iI (kd)), .int (iI (f1)), .int (iI (s1))]))] sz [(h0, .inr (6, [.ref b0, .ref g0, .ref n0, .ref e0, .ref z0, .ref t0, .int (iI ((n : Int))), .int (iI ((nthF tx n pl kd f1 s1).2.1)), .int (iI (fr)), .int (iI (to1))])), (t0, .inl (k 2, 100, .inl (aZ (tx)))), (b0, .inr (2, [.ref l0, .int (iI ((nthF tx n pl kd f1 s1).2.2.1)), .int (iI ((nthF tx n pl kd f1 s1).2.2.2.1)), .int (iI ((nthF tx n pl kd f1 s1).2.2.2.2))]))] t) (va_A [(h0, .inr (6, [.ref b0, .ref g0, .ref n0, .ref e0, .ref z0, .ref t0, .int (iI ((n : Int))), .int (iI (pl)), .int (iI (fr)), .int (iI (to1))])), (t0, .inl (k 2, 100, .inl (aZ (tx)))), (b0, .inr (2, [.ref l0, .int (iI (kd)), .int (iI (f1)), .int (iI (s1))]))] sz)) 0 0 (va_A [(h0, .inr (6, [.ref b0, .ref g0, .ref n0, .ref e0, .ref z0, .ref t0, .int (iI ((n : Int))), .int (iI (pl)), .int (iI (fr)), .int (iI (to1))])), (t0, .inl (k 2, 100, .inl (aZ (tx)))), (b0, .inr (2, [.ref l0, .int (iI (kd)), .int (iI (f1)), .int (iI (s1))]))] sz) := by
  refine e_z (by decide) rfl (Nat.le_of_ble_eq_true rfl) ?_
  intro p e s m args below meth c Q ls hx hb hml hown hts hpre hl ret
  obtain ⟨hsz, hP, hK, hD0, hX⟩ := hpre
  subst hsz
  have hD := hD0.self (sz := s.heap.size)
  have hA : ∀ q : Nat, s.heap.size ≤ q → (va_A [(h0, .inr (6, [.ref b0, .ref g0, .ref n0, .ref e0, .ref z0, .ref t0, .int (iI ((n : Int))), .int (iI (pl)), .int (iI (fr)), .int (iI (to1))])), (t0, .inl (k 2, 100, .inl (aZ (tx)))), (b0, .inr (2, [.ref l0, .int (iI (kd)), .int (iI (f1)), .int (iI (s1))]))] s.heap.size) q := fun q h => Or.inr h
  have hS : va_S (va_A [(h0, .inr (6, [.ref b0, .ref g0, .ref n0, .ref e0, .ref z0, .ref t0, .int (iI ((n : Int))), .int (iI (pl)), .int (iI (fr)), .int (iI (to1))])), (t0, .inl (k 2, 100, .inl (aZ (tx)))), (b0, .inr (2, [.ref l0, .int (iI (kd)), .int (iI (f1)), .int (iI (s1))]))] s.heap.size) s.heap s.heap [] := va_S.rf
  have hl : lv_has ls 3 [(0, .ref h0)] := hl
  refine lv_aload_n hx hb d_RR_readRankedWeekday_0 rfl (lv_at hl 0 rfl) ?_
  refine z_bipush hx hb d_RR_readRankedWeekday_1 (by decide) ?_
  have hPc := hP.sub (ws' := [(h0, .inr (6, [.ref b0, .ref g0, .ref n0, .ref e0, .ref z0, .ref t0, .int (iI ((n : Int))), .int (iI (pl)), .int (iI (fr)), .int (iI (to1))])), (t0, .inl (k 2, 100, .inl (aZ (tx))))]) [0, 1] rfl
  have hDc := hD.sub (ws' := [(h0, .inr (6, [.ref b0, .ref g0, .ref n0, .ref e0, .ref z0, .ref t0, .int (iI ((n : Int))), .int (iI (pl)), .int (iI (fr)), .int (iI (to1))])), (t0, .inl (k 2, 100, .inl (aZ (tx))))]) [0, 1] (by decide) rfl
  have hFc := va_free (wc := [(h0, .inr (6, [.ref b0, .ref g0, .ref n0, .ref e0, .ref z0, .ref t0, .int (iI ((n : Int))), .int (iI (pl)), .int (iI (fr)), .int (iI (to1))])), (t0, .inl (k 2, 100, .inl (aZ (tx))))]) hD hS hA [0, 1] rfl
  refine va_calli (va_runV (As := [.int (iI (76))]) (rest := []) (b := h0) ⟨hx, hb, hml, hown, hts⟩ (c_RR_take l D k s.heap.size (h0) (b0) (g0) (n0) (e0) (z0) (t0) (tx) (n) (pl) (fr) (to1) (76) (hn) ((by omega)) (htx) ((by omega))) ⟨callB_of 1 hts (good_RR_take) rfl rfl rfl (hts _ k_62) (hts _ k_424) (by decide +kernel) ⟨Nat.le_of_ble_eq_true rfl, Nat.le_of_ble_eq_true rfl⟩, (hts _ k_426), (hts _ k_4)⟩ ⟨fun a U g mk q => ⟨q.1, q.2.1, q.2.2.1, va_K.moved (u := U) (U := U.calling g mk a) (Vm.Alike.refl U.vm) q.2.2.2.1, q.2.2.2.2.1, q.2.2.2.2.2.calling⟩, (va_recv (q0 := 0) hK hP rfl rfl), fun U hU hW => ⟨rfl, by rw [hU], by rw [hU]; exact hPc, va_K.moved hW.alike hK, hDc.weaken (fun _ _ _ _ => trivial), by rw [hU]; exact (hX.mono hS hFc).warm hW⟩⟩ rfl rfl hl.1 rfl (lv_room (Nat.le_of_ble_eq_true rfl)) d_RR_readRankedWeekday_3 ⟨Nat.le_of_ble_eq_true rfl, Nat.le_of_ble_eq_true rfl⟩) hS (fun q _ h => hFc q h) hFc (fun xr_1 xu_2 t H1 locs ht hvm h_xr_1 hB hz1 hk1 hS => ?_)
  obtain ⟨hP1, hD1⟩ := hB
  rw [ht] at hP1
  obtain ⟨hP, hD⟩ := va_join (wr := [(b0, .inr (2, [.ref l0, .int (iI (kd)), .int (iI (f1)), .int (iI (s1))]))]) (w1 := [(h0, .inr (6, [.ref b0, .ref g0, .ref n0, .ref e0, .ref z0, .ref t0, .int (iI ((n : Int))), .int (iI ((tkF tx n pl 76).2)), .int (iI (fr)), .int (iI (to1))])), (t0, .inl (k 2, 100, .inl (aZ (tx))))]) hP hD [0, 1] [2] rfl rfl (by decide) (by decide) hk1 hFc hP1 hD1
  generalize H1 = H at hP hS ⊢
  have hP := hP.sub (ws' := [(h0, .inr (6, [.ref b0, .ref g0, .ref n0, .ref e0, .ref z0, .ref t0, .int (iI ((n : Int))), .int (iI ((tkF tx n pl 76).2)), .int (iI (fr)), .int (iI (to1))])), (t0, .inl (k 2, 100, .inl (aZ (tx)))), (b0, .inr (2, [.ref l0, .int (iI (kd)), .int (iI (f1)), .int (iI (s1))]))]) [1, 2, 0] rfl
  have hD := hD.sub (ws' := [(h0, .inr (6, [.ref b0, .ref g0, .ref n0, .ref e0, .ref z0, .ref t0, .int (iI ((n : Int))), .int (iI ((tkF tx n pl 76).2)), .int (iI (fr)), .int (iI (to1))])), (t0, .inl (k 2, 100, .inl (aZ (tx)))), (b0, .inr (2, [.ref l0, .int (iI (kd)), .int (iI (f1)), .int (iI (s1))]))]) [1, 2, 0] (by decide) rfl
  subst h_xr_1
  have hbt76_2 := tkF_bd (tx := tx) (pl := pl) (ch := 76) hn (by omega)
  refine b_if_eq (tgt := 13) hx hb d_RR_readRankedWeekday_6 (by decide) (fun h6 => ?_) (fun h6 => ?_)
  · refine lv_aload_n hx hb d_RR_readRankedWeekday_13 rfl (lv_at hl 0 rfl) ?_
    refine z_iconst hx hb d_RR_readRankedWeekday_14 ?_
    refine z_iconst hx hb d_RR_readRankedWeekday_15 ?_
    refine z_iconst hx hb d_RR_readRankedWeekday_16 ?_
    have hPc := hP.sub (ws' := [(h0, .inr (6, [.ref b0, .ref g0, .ref n0, .ref e0, .ref z0, .ref t0, .int (iI ((n : Int))), .int (iI ((tkF tx n pl 76).2)), .int (iI (fr)), .int (iI (to1))])), (t0, .inl (k 2, 100, .inl (aZ (tx))))]) [0, 1] rfl
    have hDc := hD.sub (ws' := [(h0, .inr (6, [.ref b0, .ref g0, .ref n0, .ref e0, .ref z0, .ref t0, .int (iI ((n : Int))), .int (iI ((tkF tx n pl 76).2)), .int (iI (fr)), .int (iI (to1))])), (t0, .inl (k 2, 100, .inl (aZ (tx))))]) [0, 1] (by decide) rfl
    have hFc := va_free (wc := [(h0, .inr (6, [.ref b0, .ref g0, .ref n0, .ref e0, .ref z0, .ref t0, .int (iI ((n : Int))), .int (iI ((tkF tx n pl 76).2)), .int (iI (fr)), .int (iI (to1))])), (t0, .inl (k 2, 100, .inl (aZ (tx))))]) hD hS hA [0, 1] rfl
    refine va_calli (va_runV (As := [.int (iI (1)), .int (iI (1)), .int (iI (5))]) (rest := []) (b := h0) ⟨hx, hb, hml, hown, hts⟩ (c_RR_takeNumber_1 l D k H.size (h0) (b0) (g0) (n0) (e0) (z0) (t0) (tx) (n) ((tkF tx n pl 76).2) (fr) (to1) (1) (5) (hn) ((by omega)) (htx) ((by omega)) ((by omega))) ⟨callB_of 3 hts (good_RR_takeNumber) rfl rfl rfl (hts _ k_62) (hts _ k_420) (by decide +kernel) ⟨Nat.le_of_ble_eq_true rfl, Nat.le_of_ble_eq_true rfl⟩, (hts _ k_422), (hts _ k_3)⟩ ⟨fun a U g mk q => ⟨q.1, q.2.1, q.2.2.1, va_K.moved (u := U) (U := U.calling g mk a) (Vm.Alike.refl U.vm) q.2.2.2.1, q.2.2.2.2.1, q.2.2.2.2.2.calling⟩, (va_recv (q0 := 0) hK hP rfl rfl), fun U hU hW => ⟨rfl, by rw [hU], by rw [hU]; exact hPc, va_K.moved hW.alike hK, hDc.weaken (fun _ _ _ _ => trivial), by rw [hU]; exact (hX.mono hS hFc).warm hW⟩⟩ rfl rfl hl.1 rfl (lv_room (Nat.le_of_ble_eq_true rfl)) d_RR_readRankedWeekday_17 ⟨Nat.le_of_ble_eq_true rfl, Nat.le_of_ble_eq_true rfl⟩) hS (fun q _ h => hFc q h) hFc (fun xr_3 xu_4 t H1 locs ht hvm h_xr_3 hB hz1 hk1 hS => ?_)
    obtain ⟨hP1, hD1⟩ := hB
    rw [ht] at hP1
    obtain ⟨hP, hD⟩ := va_join (wr := [(b0, .inr (2, [.ref l0, .int (iI (kd)), .int (iI (f1)), .int (iI (s1))]))]) (w1 := [(h0, .inr (6, [.ref b0, .ref g0, .ref n0, .ref e0, .ref z0, .ref t0, .int (iI ((n : Int))), .int (iI ((tn1 tx n ((tkF tx n pl 76).2) 1 5).2)), .int (iI (fr)), .int (iI (to1))])), (t0, .inl (k 2, 100, .inl (aZ (tx))))]) hP hD [0, 1] [2] rfl rfl (by decide) (by decide) hk1 hFc hP1 hD1
    generalize H1 = H at hP hS ⊢
    have hP := hP.sub (ws' := [(h0, .inr (6, [.ref b0, .ref g0, .ref n0, .ref e0, .ref z0, .ref t0, .int (iI ((n : Int))), .int (iI ((tn1 tx n ((tkF tx n pl 76).2) 1 5).2)), .int (iI (fr)), .int (iI (to1))])), (t0, .inl (k 2, 100, .inl (aZ (tx)))), (b0, .inr (2, [.ref l0, .int (iI (kd)), .int (iI (f1)), .int (iI (s1))]))]) [1, 2, 0] rfl
    have hD := hD.sub (ws' := [(h0, .inr (6, [.ref b0, .ref g0, .ref n0, .ref e0, .ref z0, .ref t0, .int (iI ((n : Int))), .int (iI ((tn1 tx n ((tkF tx n pl 76).2) 1 5).2)), .int (iI (fr)), .int (iI (to1))])), (t0, .inl (k 2, 100, .inl (aZ (tx)))), (b0, .inr (2, [.ref l0, .int (iI (kd)), .int (iI (f1)), .int (iI (s1))]))]) [1, 2, 0] (by decide) rfl
    subst h_xr_3
    have hbn1_18 := tn1_bd (tx := tx) (pl := (tkF tx n pl 76).2) (lo := 1) (hi := 5) hn (by omega)
    refine lv_istore_n (lv' := [(1, .int (iI ((tn1 tx n ((tkF tx n pl 76).2) 1 5).1))), (0, .ref h0)]) hx hb d_RR_readRankedWeekday_20 rfl hl (by decide) rfl (fun ls hl => ?_)
    refine lv_iload_n hx hb d_RR_readRankedWeekday_21 rfl (lv_at hl 0 rfl) ?_
    refine z_iconst hx hb d_RR_readRankedWeekday_22 ?_
    refine z_icmp_ne (tgt := 28) hx hb d_RR_readRankedWeekday_23 (by decide) ⟨by omega, by omega⟩ ⟨by omega, by omega⟩ (fun h23 => ?_) (fun h23 => ?_)
    · refine lv_aload_n hx hb d_RR_readRankedWeekday_28 rfl (lv_at hl 1 rfl) ?_
      refine z_iconst hx hb d_RR_readRankedWeekday_29 ?_
      refine z_iconst hx hb d_RR_readRankedWeekday_30 ?_
      refine z_bipush hx hb d_RR_readRankedWeekday_31 (by decide) ?_
      have hPc := hP.sub (ws' := [(h0, .inr (6, [.ref b0, .ref g0, .ref n0, .ref e0, .ref z0, .ref t0, .int (iI ((n : Int))), .int (iI ((tn1 tx n ((tkF tx n pl 76).2) 1 5).2)), .int (iI (fr)), .int (iI (to1))])), (t0, .inl (k 2, 100, .inl (aZ (tx))))]) [0, 1] rfl
      have hDc := hD.sub (ws' := [(h0, .inr (6, [.ref b0, .ref g0, .ref n0, .ref e0, .ref z0, .ref t0, .int (iI ((n : Int))), .int (iI ((tn1 tx n ((tkF tx n pl 76).2) 1 5).2)), .int (iI (fr)), .int (iI (to1))])), (t0, .inl (k 2, 100, .inl (aZ (tx))))]) [0, 1] (by decide) rfl
      have hFc := va_free (wc := [(h0, .inr (6, [.ref b0, .ref g0, .ref n0, .ref e0, .ref z0, .ref t0, .int (iI ((n : Int))), .int (iI ((tn1 tx n ((tkF tx n pl 76).2) 1 5).2)), .int (iI (fr)), .int (iI (to1))])), (t0, .inl (k 2, 100, .inl (aZ (tx))))]) hD hS hA [0, 1] rfl
      refine va_calli (va_runV (As := [.int (iI (1)), .int (iI (1)), .int (iI (7))]) (rest := []) (b := h0) ⟨hx, hb, hml, hown, hts⟩ (c_RR_takeNumber_1 l D k H.size (h0) (b0) (g0) (n0) (e0) (z0) (t0) (tx) (n) ((tn1 tx n ((tkF tx n pl 76).2) 1 5).2) (fr) (to1) (1) (7) (hn) ((by omega)) (htx) ((by omega)) ((by omega))) ⟨callB_of 3 hts (good_RR_takeNumber) rfl rfl rfl (hts _ k_62) (hts _ k_420) (by decide +kernel) ⟨Nat.le_of_ble_eq_true rfl, Nat.le_of_ble_eq_true rfl⟩, (hts _ k_422), (hts _ k_3)⟩ ⟨fun a U g mk q => ⟨q.1, q.2.1, q.2.2.1, va_K.moved (u := U) (U := U.calling g mk a) (Vm.Alike.refl U.vm) q.2.2.2.1, q.2.2.2.2.1, q.2.2.2.2.2.calling⟩, (va_recv (q0 := 0) hK hP rfl rfl), fun U hU hW => ⟨rfl, by rw [hU], by rw [hU]; exact hPc, va_K.moved hW.alike hK, hDc.weaken (fun _ _ _ _ => trivial), by rw [hU]; exact (hX.mono hS hFc).warm hW⟩⟩ rfl rfl hl.1 rfl (lv_room (Nat.le_of_ble_eq_true rfl)) d_RR_readRankedWeekday_33 ⟨Nat.le_of_ble_eq_true rfl, Nat.le_of_ble_eq_true rfl⟩) hS (fun q _ h => hFc q h) hFc (fun xr_5 xu_6 t H1 locs ht hvm h_xr_5 hB hz1 hk1 hS => ?_)
      obtain ⟨hP1, hD1⟩ := hB
      rw [ht] at hP1
      obtain ⟨hP, hD⟩ := va_join (wr := [(b0, .inr (2, [.ref l0, .int (iI (kd)), .int (iI (f1)), .int (iI (s1))]))]) (w1 := [(h0, .inr (6, [.ref b0, .ref g0, .ref n0, .ref e0, .ref z0, .ref t0, .int (iI ((n : Int))), .int (iI ((tn1 tx n ((tn1 tx n ((tkF tx n pl 76).2) 1 5).2) 1 7).2)), .int (iI (fr)), .int (iI (to1))])), (t0, .inl (k 2, 100, .inl (aZ (tx))))]) hP hD [0, 1] [2] rfl rfl (by decide) (by decide) hk1 hFc hP1 hD1
      generalize H1 = H at hP hS ⊢
      have hP := hP.sub (ws' := [(h0, .inr (6, [.ref b0, .ref g0, .ref n0, .ref e0, .ref z0, .ref t0, .int (iI ((n : Int))), .int (iI ((tn1 tx n ((tn1 tx n ((tkF tx n pl 76).2) 1 5).2) 1 7).2)), .int (iI (fr)), .int (iI (to1))])), (t0, .inl (k 2, 100, .inl (aZ (tx)))), (b0, .inr (2, [.ref l0, .int (iI (kd)), .int (iI (f1)), .int (iI (s1))]))]) [1, 2, 0] rfl
      have hD := hD.sub (ws' := [(h0, .inr (6, [.ref b0, .ref g0, .ref n0, .ref e0, .ref z0, .ref t0, .int (iI ((n : Int))), .int (iI ((tn1 tx n ((tn1 tx n ((tkF tx n pl 76).2) 1 5).2) 1 7).2)), .int (iI (fr)), .int (iI (to1))])), (t0, .inl (k 2, 100, .inl (aZ (tx)))), (b0, .inr (2, [.ref l0, .int (iI (kd)), .int (iI (f1)), .int (iI (s1))]))]) [1, 2, 0] (by decide) rfl
      subst h_xr_5
      have hbn1_37 := tn1_bd (tx := tx) (pl := (tn1 tx n ((tkF tx n pl 76).2) 1 5).2) (lo := 1) (hi := 7) hn (by omega)
      refine lv_istore_n (lv' := [(2, .int (iI ((tn1 tx n ((tn1 tx n ((tkF tx n pl 76).2) 1 5).2) 1 7).1))), (1, .int (iI ((tn1 tx n ((tkF tx n pl 76).2) 1 5).1))), (0, .ref h0)]) hx hb d_RR_readRankedWeekday_36 rfl hl (by decide) rfl (fun ls hl => ?_)
      refine lv_aload_n hx hb d_RR_readRankedWeekday_37 rfl (lv_at hl 2 rfl) ?_
      refine va_get (D := D) (ci := 6) (v := .ref b0) (C := R_RR) (T := F_RR) (N := 10) hx hb hts in_RR hown hK hP 0 rfl rfl 0 (by decide) (hts _ k_173) (fun _ h9 => h9) rfl d_RR_readRankedWeekday_38 ?_
      refine z_bipush hx hb d_RR_readRankedWeekday_41 (by decide) ?_
      refine lv_iload_n hx hb d_RR_readRankedWeekday_43 rfl (lv_at hl 1 rfl) ?_
      refine lv_iload_n hx hb d_RR_readRankedWeekday_44 rfl (lv_at hl 0 rfl) ?_
      have hPc := hP.sub (ws' := [(b0, .inr (2, [.ref l0, .int (iI (kd)), .int (iI (f1)), .int (iI (s1))]))]) [2] rfl
      have hDc := hD.sub (ws' := [(b0, .inr (2, [.ref l0, .int (iI (kd)), .int (iI (f1)), .int (iI (s1))]))]) [2] (by decide) rfl
      have hFc := va_free (wc := [(b0, .inr (2, [.ref l0, .int (iI (kd)), .int (iI (f1)), .int (iI (s1))]))]) hD hS hA [2] rfl
      refine va_callv (va_runV (As := [.int (iI (78)), .int (iI ((tn1 tx n ((tkF tx n pl 76).2) 1 5).1)), .int (iI ((tn1 tx n ((tn1 tx n ((tkF tx n pl 76).2) 1 5).2) 1 7).1))]) (rest := []) (b := b0) ⟨hx, hb, hml, hown, hts⟩ (c_AT_become l D k H.size (b0) (l0) (kd) (f1) (s1) (78) ((tn1 tx n ((tkF tx n pl 76).2) 1 5).1) ((tn1 tx n ((tn1 tx n ((tkF tx n pl 76).2) 1 5).2) 1 7).1)) ⟨callB_of 3 hts (good_AT_become) rfl rfl rfl (hts _ k_64) (hts _ k_466) (by decide +kernel) ⟨Nat.le_of_ble_eq_true rfl, Nat.le_of_ble_eq_true rfl⟩, (hts _ k_467), (hts _ k_468)⟩ ⟨fun a U g mk q => ⟨q.1, q.2.1, q.2.2.1, va_K.moved (u := U) (U := U.calling g mk a) (Vm.Alike.refl U.vm) q.2.2.2.1, q.2.2.2.2.1, q.2.2.2.2.2.calling⟩, (va_recv (q0 := 2) hK hP rfl rfl), fun U hU hW => ⟨rfl, by rw [hU], by rw [hU]; exact hPc, va_K.moved hW.alike hK, hDc.weaken (fun _ _ _ _ => trivial), by rw [hU]; exact (hX.mono hS hFc).warm hW⟩⟩ rfl rfl hl.1 rfl (lv_room (Nat.le_of_ble_eq_true rfl)) d_RR_readRankedWeekday_45 ⟨Nat.le_of_ble_eq_true rfl, Nat.le_of_ble_eq_true rfl⟩) hS (fun q _ h => hFc q h) hFc (fun xu_8 t H1 locs ht hvm h_xr_7 hB hz1 hk1 hS => ?_)
      obtain ⟨hP1, hD1⟩ := hB
      rw [ht] at hP1
      obtain ⟨hP, hD⟩ := va_join (wr := [(h0, .inr (6, [.ref b0, .ref g0, .ref n0, .ref e0, .ref z0, .ref t0, .int (iI ((n : Int))), .int (iI ((tn1 tx n ((tn1 tx n ((tkF tx n pl 76).2) 1 5).2) 1 7).2)), .int (iI (fr)), .int (iI (to1))])), (t0, .inl (k 2, 100, .inl (aZ (tx))))]) (w1 := [(b0, .inr (2, [.ref l0, .int (iI (78)), .int (iI (((tn1 tx n ((tkF tx n pl 76).2) 1 5).1))), .int (iI (((tn1 tx n ((tn1 tx n ((tkF tx n pl 76).2) 1 5).2) 1 7).1)))]))]) hP hD [2] [0, 1] rfl rfl (by decide) (by decide) hk1 hFc hP1 hD1
      generalize H1 = H at hP hS ⊢
      have hP := hP.sub (ws' := [(h0, .inr (6, [.ref b0, .ref g0, .ref n0, .ref e0, .ref z0, .ref t0, .int (iI ((n : Int))), .int (iI ((tn1 tx n ((tn1 tx n ((tkF tx n pl 76).2) 1 5).2) 1 7).2)), .int (iI (fr)), .int (iI (to1))])), (t0, .inl (k 2, 100, .inl (aZ (tx)))), (b0, .inr (2, [.ref l0, .int (iI (78)), .int (iI (((tn1 tx n ((tkF tx n pl 76).2) 1 5).1))), .int (iI (((tn1 tx n ((tn1 tx n ((tkF tx n pl 76).2) 1 5).2) 1 7).1)))]))]) [0, 1, 2] rfl
      have hD := hD.sub (ws' := [(h0, .inr (6, [.ref b0, .ref g0, .ref n0, .ref e0, .ref z0, .ref t0, .int (iI ((n : Int))), .int (iI ((tn1 tx n ((tn1 tx n ((tkF tx n pl 76).2) 1 5).2) 1 7).2)), .int (iI (fr)), .int (iI (to1))])), (t0, .inl (k 2, 100, .inl (aZ (tx)))), (b0, .inr (2, [.ref l0, .int (iI (78)), .int (iI (((tn1 tx n ((tkF tx n pl 76).2) 1 5).1))), .int (iI (((tn1 tx n ((tn1 tx n ((tkF tx n pl 76).2) 1 5).2) 1 7).1)))]))]) [0, 1, 2] (by decide) rfl
      refine lv_iload_n hx hb d_RR_readRankedWeekday_48 rfl (lv_at hl 0 rfl) ?_
      refine z_iconst hx hb d_RR_readRankedWeekday_49 ?_
      refine z_icmp_eq (tgt := 57) hx hb d_RR_readRankedWeekday_50 (by decide) ⟨by omega, by omega⟩ ⟨by omega, by omega⟩ (fun h50 => ?_) (fun h50 => ?_)
      · refine z_iconst hx hb d_RR_readRankedWeekday_57 ?_
        have e9 : nthF tx n pl kd f1 s1 = (false, (tn1 tx n ((tn1 tx n ((tkF tx n pl 76).2) 1 5).2) 1 7).2, 78, ((tn1 tx n ((tkF tx n pl 76).2) 1 5).1), ((tn1 tx n ((tn1 tx n ((tkF tx n pl 76).2) 1 5).2) 1 7).1)) := by unfold nthF; rw [if_neg (Bool.eq_false_iff.mp h6), if_neg h23, if_pos h50]
        exact ret _ _ _ 58 false () d_RR_readRankedWeekday_58 hS ((congrArg (fun q9 => bI q9.1) e9).symm) (fun t ht _ => ⟨by rw [e9, ht]; exact hP, by rw [e9]; exact hD⟩)
      · refine z_iconst hx hb d_RR_readRankedWeekday_53 ?_
        refine lv_goto (tgt := 58) hx hb d_RR_readRankedWeekday_54 (by decide) ?_
        have e9 : nthF tx n pl kd f1 s1 = (true, (tn1 tx n ((tn1 tx n ((tkF tx n pl 76).2) 1 5).2) 1 7).2, 78, ((tn1 tx n ((tkF tx n pl 76).2) 1 5).1), ((tn1 tx n ((tn1 tx n ((tkF tx n pl 76).2) 1 5).2) 1 7).1)) := by unfold nthF; rw [if_neg (Bool.eq_false_iff.mp h6), if_neg h23, if_neg h50]
        exact ret _ _ _ 58 true () d_RR_readRankedWeekday_58 hS ((congrArg (fun q9 => bI q9.1) e9).symm) (fun t ht _ => ⟨by rw [e9, ht]; exact hP, by rw [e9]; exact hD⟩)
    · refine z_iconst hx hb d_RR_readRankedWeekday_26 ?_
      have e9 : nthF tx n pl kd f1 s1 = (false, (tn1 tx n ((tkF tx n pl 76).2) 1 5).2, kd, f1, s1) := by unfold nthF; rw [if_neg (Bool.eq_false_iff.mp h6), if_pos h23]
      exact ret _ _ _ 27 false () d_RR_readRankedWeekday_27 hS ((congrArg (fun q9 => bI q9.1) e9).symm) (fun t ht _ => ⟨by rw [e9, ht]; exact hP, by rw [e9]; exact hD⟩)
  · refine z_iconst hx hb d_RR_readRankedWeekday_9 ?_
    refine lv_goto (tgt := 20) hx hb d_RR_readRankedWeekday_10 (by decide) ?_
    refine lv_istore_n (lv' := [(1, .int (iI (0))), (0, .ref h0)]) hx hb d_RR_readRankedWeekday_20 rfl hl (by decide) rfl (fun ls hl => ?_)
    refine lv_iload_n hx hb d_RR_readRankedWeekday_21 rfl (lv_at hl 0 rfl) ?_
    refine z_iconst hx hb d_RR_readRankedWeekday_22 ?_
    refine z_icmp_ne (tgt := 28) hx hb d_RR_readRankedWeekday_23 (by decide) ⟨by omega, by omega⟩ ⟨by omega, by omega⟩ (fun h23 => ?_) (fun h23 => absurd h23 (by decide))
    refine lv_aload_n hx hb d_RR_readRankedWeekday_28 rfl (lv_at hl 1 rfl) ?_
    refine z_iconst hx hb d_RR_readRankedWeekday_29 ?_
    refine z_iconst hx hb d_RR_readRankedWeekday_30 ?_
    refine z_bipush hx hb d_RR_readRankedWeekday_31 (by decide) ?_
    have hPc := hP.sub (ws' := [(h0, .inr (6, [.ref b0, .ref g0, .ref n0, .ref e0, .ref z0, .ref t0, .int (iI ((n : Int))), .int (iI ((tkF tx n pl 76).2)), .int (iI (fr)), .int (iI (to1))])), (t0, .inl (k 2, 100, .inl (aZ (tx))))]) [0, 1] rfl
    have hDc := hD.sub (ws' := [(h0, .inr (6, [.ref b0, .ref g0, .ref n0, .ref e0, .ref z0, .ref t0, .int (iI ((n : Int))), .int (iI ((tkF tx n pl 76).2)), .int (iI (fr)), .int (iI (to1))])), (t0, .inl (k 2, 100, .inl (aZ (tx))))]) [0, 1] (by decide) rfl
    have hFc := va_free (wc := [(h0, .inr (6, [.ref b0, .ref g0, .ref n0, .ref e0, .ref z0, .ref t0, .int (iI ((n : Int))), .int (iI ((tkF tx n pl 76).2)), .int (iI (fr)), .int (iI (to1))])), (t0, .inl (k 2, 100, .inl (aZ (tx))))]) hD hS hA [0, 1] rfl
    refine va_calli (va_runV (As := [.int (iI (1)), .int (iI (1)), .int (iI (7))]) (rest := []) (b := h0) ⟨hx, hb, hml, hown, hts⟩ (c_RR_takeNumber_1 l D k H.size (h0) (b0) (g0) (n0) (e0) (z0) (t0) (tx) (n) ((tkF tx n pl 76).2) (fr) (to1) (1) (7) (hn) ((by omega)) (htx) ((by omega)) ((by omega))) ⟨callB_of 3 hts (good_RR_takeNumber) rfl rfl rfl (hts _ k_62) (hts _ k_420) (by decide +kernel) ⟨Nat.le_of_ble_eq_true rfl, Nat.le_of_ble_eq_true rfl⟩, (hts _ k_422), (hts _ k_3)⟩ ⟨fun a U g mk q => ⟨q.1, q.2.1, q.2.2.1, va_K.moved (u := U) (U := U.calling g mk a) (Vm.Alike.refl U.vm) q.2.2.2.1, q.2.2.2.2.1, q.2.2.2.2.2.calling⟩, (va_recv (q0 := 0) hK hP rfl rfl), fun U hU hW => ⟨rfl, by rw [hU], by rw [hU]; exact hPc, va_K.moved hW.alike hK, hDc.weaken (fun _ _ _ _ => trivial), by rw [hU]; exact (hX.mono hS hFc).warm hW⟩⟩ rfl rfl hl.1 rfl (lv_room (Nat.le_of_ble_eq_true rfl)) d_RR_readRankedWeekday_33 ⟨Nat.le_of_ble_eq_true rfl, Nat.le_of_ble_eq_true rfl⟩) hS (fun q _ h => hFc q h) hFc (fun xr_9 xu_10 t H1 locs ht hvm h_xr_9 hB hz1 hk1 hS => ?_)
    obtain ⟨hP1, hD1⟩ := hB
    rw [ht] at hP1
    obtain ⟨hP, hD⟩ := va_join (wr := [(b0, .inr (2, [.ref l0, .int (iI (kd)), .int (iI (f1)), .int (iI (s1))]))]) (w1 := [(h0, .inr (6, [.ref b0, .ref g0, .ref n0, .ref e0, .ref z0, .ref t0, .int (iI ((n : Int))), .int (iI ((tn1 tx n ((tkF tx n pl 76).2) 1 7).2)), .int (iI (fr)), .int (iI (to1))])), (t0, .inl (k 2, 100, .inl (aZ (tx))))]) hP hD [0, 1] [2] rfl rfl (by decide) (by decide) hk1 hFc hP1 hD1
    generalize H1 = H at hP hS ⊢
    have hP := hP.sub (ws' := [(h0, .inr (6, [.ref b0, .ref g0, .ref n0, .ref e0, .ref z0, .ref t0, .int (iI ((n : Int))), .int (iI ((tn1 tx n ((tkF tx n pl 76).2) 1 7).2)), .int (iI (fr)), .int (iI (to1))])), (t0, .inl (k 2, 100, .inl (aZ (tx)))), (b0, .inr (2, [.ref l0, .int (iI (kd)), .int (iI (f1)), .int (iI (s1))]))]) [1, 2, 0] rfl
    have hD := hD.sub (ws' := [(h0, .inr (6, [.ref b0, .ref g0, .ref n0, .ref e0, .ref z0, .ref t0, .int (iI ((n : Int))), .int (iI ((tn1 tx n ((tkF tx n pl 76).2) 1 7).2)), .int (iI (fr)), .int (iI (to1))])), (t0, .inl (k 2, 100, .inl (aZ (tx)))), (b0, .inr (2, [.ref l0, .int (iI (kd)), .int (iI (f1)), .int (iI (s1))]))]) [1, 2, 0] (by decide) rfl
    subst h_xr_9
    have hbn1_18 := tn1_bd (tx := tx) (pl := (tkF tx n pl 76).2) (lo := 1) (hi := 7) hn (by omega)
    refine lv_istore_n (lv' := [(2, .int (iI ((tn1 tx n ((tkF tx n pl 76).2) 1 7).1))), (1, .int (iI (0))), (0, .ref h0)]) hx hb d_RR_readRankedWeekday_36 rfl hl (by decide) rfl (fun ls hl => ?_)
    refine lv_aload_n hx hb d_RR_readRankedWeekday_37 rfl (lv_at hl 2 rfl) ?_
    refine va_get (D := D) (ci := 6) (v := .ref b0) (C := R_RR) (T := F_RR) (N := 10) hx hb hts in_RR hown hK hP 0 rfl rfl 0 (by decide) (hts _ k_173) (fun _ h9 => h9) rfl d_RR_readRankedWeekday_38 ?_
    refine z_bipush hx hb d_RR_readRankedWeekday_41 (by decide) ?_
    refine lv_iload_n hx hb d_RR_readRankedWeekday_43 rfl (lv_at hl 1 rfl) ?_
    refine lv_iload_n hx hb d_RR_readRankedWeekday_44 rfl (lv_at hl 0 rfl) ?_
    have hPc := hP.sub (ws' := [(b0, .inr (2, [.ref l0, .int (iI (kd)), .int (iI (f1)), .int (iI (s1))]))]) [2] rfl
    have hDc := hD.sub (ws' := [(b0, .inr (2, [.ref l0, .int (iI (kd)), .int (iI (f1)), .int (iI (s1))]))]) [2] (by decide) rfl
    have hFc := va_free (wc := [(b0, .inr (2, [.ref l0, .int (iI (kd)), .int (iI (f1)), .int (iI (s1))]))]) hD hS hA [2] rfl
    refine va_callv (va_runV (As := [.int (iI (78)), .int (iI (0)), .int (iI ((tn1 tx n ((tkF tx n pl 76).2) 1 7).1))]) (rest := []) (b := b0) ⟨hx, hb, hml, hown, hts⟩ (c_AT_become l D k H.size (b0) (l0) (kd) (f1) (s1) (78) (0) ((tn1 tx n ((tkF tx n pl 76).2) 1 7).1)) ⟨callB_of 3 hts (good_AT_become) rfl rfl rfl (hts _ k_64) (hts _ k_466) (by decide +kernel) ⟨Nat.le_of_ble_eq_true rfl, Nat.le_of_ble_eq_true rfl⟩, (hts _ k_467), (hts _ k_468)⟩ ⟨fun a U g mk q => ⟨q.1, q.2.1, q.2.2.1, va_K.moved (u := U) (U := U.calling g mk a) (Vm.Alike.refl U.vm) q.2.2.2.1, q.2.2.2.2.1, q.2.2.2.2.2.calling⟩, (va_recv (q0 := 2) hK hP rfl rfl), fun U hU hW => ⟨rfl, by rw [hU], by rw [hU]; exact hPc, va_K.moved hW.alike hK, hDc.weaken (fun _ _ _ _ => trivial), by rw [hU]; exact (hX.mono hS hFc).warm hW⟩⟩ rfl rfl hl.1 rfl (lv_room (Nat.le_of_ble_eq_true rfl)) d_RR_readRankedWeekday_45 ⟨Nat.le_of_ble_eq_true rfl, Nat.le_of_ble_eq_true rfl⟩) hS (fun q _ h => hFc q h) hFc (fun xu_12 t H1 locs ht hvm h_xr_11 hB hz1 hk1 hS => ?_)
    obtain ⟨hP1, hD1⟩ := hB
    rw [ht] at hP1
    obtain ⟨hP, hD⟩ := va_join (wr := [(h0, .inr (6, [.ref b0, .ref g0, .ref n0, .ref e0, .ref z0, .ref t0, .int (iI ((n : Int))), .int (iI ((tn1 tx n ((tkF tx n pl 76).2) 1 7).2)), .int (iI (fr)), .int (iI (to1))])), (t0, .inl (k 2, 100, .inl (aZ (tx))))]) (w1 := [(b0, .inr (2, [.ref l0, .int (iI (78)), .int (iI (0)), .int (iI (((tn1 tx n ((tkF tx n pl 76).2) 1 7).1)))]))]) hP hD [2] [0, 1] rfl rfl (by decide) (by decide) hk1 hFc hP1 hD1
    generalize H1 = H at hP hS ⊢
    have hP := hP.sub (ws' := [(h0, .inr (6, [.ref b0, .ref g0, .ref n0, .ref e0, .ref z0, .ref t0, .int (iI ((n : Int))), .int (iI ((tn1 tx n ((tkF tx n pl 76).2) 1 7).2)), .int (iI (fr)), .int (iI (to1))])), (t0, .inl (k 2, 100, .inl (aZ (tx)))), (b0, .inr (2, [.ref l0, .int (iI (78)), .int (iI (0)), .int (iI (((tn1 tx n ((tkF tx n pl 76).2) 1 7).1)))]))]) [0, 1, 2] rfl
    have hD := hD.sub (ws' := [(h0, .inr (6, [.ref b0, .ref g0, .ref n0, .ref e0, .ref z0, .ref t0, .int (iI ((n : Int))), .int (iI ((tn1 tx n ((tkF tx n pl 76).2) 1 7).2)), .int (iI (fr)), .int (iI (to1))])), (t0, .inl (k 2, 100, .inl (aZ (tx)))), (b0, .inr (2, [.ref l0, .int (iI (78)), .int (iI (0)), .int (iI (((tn1 tx n ((tkF tx n pl 76).2) 1 7).1)))]))]) [0, 1, 2] (by decide) rfl
    refine lv_iload_n hx hb d_RR_readRankedWeekday_48 rfl (lv_at hl 0 rfl) ?_
    refine z_iconst hx hb d_RR_readRankedWeekday_49 ?_
    refine z_icmp_eq (tgt := 57) hx hb d_RR_readRankedWeekday_50 (by decide) ⟨by omega, by omega⟩ ⟨by omega, by omega⟩ (fun h50 => ?_) (fun h50 => ?_)
    · refine z_iconst hx hb d_RR_readRankedWeekday_57 ?_
      have e9 : nthF tx n pl kd f1 s1 = (false, (tn1 tx n ((tkF tx n pl 76).2) 1 7).2, 78, 0, ((tn1 tx n ((tkF tx n pl 76).2) 1 7).1)) := by unfold nthF; rw [if_pos h6, if_pos h50]
      exact ret _ _ _ 58 false () d_RR_readRankedWeekday_58 hS ((congrArg (fun q9 => bI q9.1) e9).symm) (fun t ht _ => ⟨by rw [e9, ht]; exact hP, by rw [e9]; exact hD⟩)
    · refine z_iconst hx hb d_RR_readRankedWeekday_53 ?_
      refine lv_goto (tgt := 58) hx hb d_RR_readRankedWeekday_54 (by decide) ?_
      have e9 : nthF tx n pl kd f1 s1 = (true, (tn1 tx n ((tkF tx n pl 76).2) 1 7).2, 78, 0, ((tn1 tx n ((tkF tx n pl 76).2) 1 7).1)) := by unfold nthF; rw [if_pos h6, if_neg h50]
      exact ret _ _ _ 58 true () d_RR_readRankedWeekday_58 hS ((congrArg (fun q9 => bI q9.1) e9).symm) (fun t ht _ => ⟨by rw [e9, ht]; exact hP, by rw [e9]; exact hD⟩)

def dtF (tx : Nat → Int) (n : Nat) (pl : Int) (kd : Int) (f1 : Int) (s1 : Int) : Bool × Int × Int × Int × Int := (if (mdF tx n pl).1 = -1 then (false, (mdF tx n pl).2, kd, f1, s1) else (if (tkF tx n ((mdF tx n pl).2) 45).1 = true then (if (mdF tx n ((tkF tx n ((mdF tx n pl).2) 45).2)).1 = -1 then (false, (mdF tx n ((tkF tx n ((mdF tx n pl).2) 45).2)).2, 68, ((mdF tx n pl).1), ((mdF tx n ((tkF tx n ((mdF tx n pl).2) 45).2)).1)) else (true, (mdF tx n ((tkF tx n ((mdF tx n pl).2) 45).2)).2, 68, ((mdF tx n pl).1), ((mdF tx n ((tkF tx n ((mdF tx n pl).2) 45).2)).1))) else (false, (tkF tx n ((mdF tx n pl).2) 45).2, kd, f1, s1)))
set_option maxHeartbeats 4000000 in
set_option maxRecDepth 100000 in
theorem c_RR_readDates (l : Launch) (D : va_G) (k : Nat → ClassId) (sz : Nat) (h0 b0 g0 n0 e0 z0 t0 l0 : Nat) (tx : Nat → Int) (n : Nat) (pl : Int) (fr : Int) (to1 : Int) (kd : Int) (f1 : Int) (s1 : Int) (hn : n ≤ 100) (hpl : 0 ≤ pl ∧ pl ≤ (n : Int)) (htx : ∀ j, 0 ≤ tx j ∧ tx j ≤ 65535) : Met l y_RR_readDates wd_RR_readDates rm_RR_readDates (va_Pc [.ref h0] (PRW D k [(h0, .inr (6, [.ref b0, .ref g0, .ref n0, .ref e0, .ref z0, .ref t0, .int (iI ((n : Int))), .int (iI (pl)), .int (iI (fr)), .int (iI (to1))])), (t0, .inl (k 2, 100, .inl (aZ (tx)))), (b0, .inr (2, [.ref l0, .int (iI (kd)), .int (iI (f1)), .int (iI (s1))]))] sz)) (va_Qi (fun (r : Int32) (u : Unit) => r = (bI ((dtF tx n pl kd f1 s1).1))) (fun _ t => BRW D [(h0, .inr (6, [.ref b0, .ref g0, .ref n0, .ref e0, .ref z0, .ref t0, .int (iI ((n : Int))), .int (iI (pl)), .int (iI (fr)), .int (iI (to1))])), (t0, .inl (k 2, 100, .inl (aZ (tx)))), (b0, .inr (2, [.ref l0, .int (iI (kd)), .int (iI (f1)), .int (iI (s1))]))] sz [(h0, .inr (6, [.ref b0, .ref g0, .ref n0, .ref e0, .ref z0, .ref t0, .int (iI ((n : Int))), .int (iI ((dtF tx n pl kd f1 s1).2.1)), .int (iI (fr)), .int (iI (to1))])), (t0, .inl (k 2, 100, .inl (aZ (tx)))), (b0, .inr (2, [.ref l0, .int (iI ((dtF tx n pl kd f1 s1).2.2.1)), .int (iI ((dtF tx n pl kd f1 s1).2.2.2.1)), .int (iI ((dtF tx n pl kd f1 s1).2.2.2.2))]))] t) (va_A [(h0, .inr (6, [.ref b0, .ref g0, .ref n0, .ref e0, .ref z0, .ref t0, .int (iI ((n : Int))), .int (iI (pl)), .int (iI (fr)), .int (iI (to1))])), (t0, .inl (k 2, 100, .inl (aZ (tx)))), (b0, .inr (2, [.ref l0, .int (iI (kd)), .int (iI (f1)), .int (iI (s1))]))] sz)) 0 0 (va_A [(h0, .inr (6, [.ref b0, .ref g0, .ref n0, .ref e0, .ref z0, .ref t0, .int (iI ((n : Int))), .int (iI (pl)), .int (iI (fr)), .int (iI (to1))])), (t0, .inl (k 2, 100, .inl (aZ (tx)))), (b0, .inr (2, [.ref l0, .int (iI (kd)), .int (iI (f1)), .int (iI (s1))]))] sz) := by
  refine e_z (by decide) rfl (Nat.le_of_ble_eq_true rfl) ?_
  intro p e s m args below meth c Q ls hx hb hml hown hts hpre hl ret
  obtain ⟨hsz, hP, hK, hD0, hX⟩ := hpre
  subst hsz
  have hD := hD0.self (sz := s.heap.size)
  have hA : ∀ q : Nat, s.heap.size ≤ q → (va_A [(h0, .inr (6, [.ref b0, .ref g0, .ref n0, .ref e0, .ref z0, .ref t0, .int (iI ((n : Int))), .int (iI (pl)), .int (iI (fr)), .int (iI (to1))])), (t0, .inl (k 2, 100, .inl (aZ (tx)))), (b0, .inr (2, [.ref l0, .int (iI (kd)), .int (iI (f1)), .int (iI (s1))]))] s.heap.size) q := fun q h => Or.inr h
  have hS : va_S (va_A [(h0, .inr (6, [.ref b0, .ref g0, .ref n0, .ref e0, .ref z0, .ref t0, .int (iI ((n : Int))), .int (iI (pl)), .int (iI (fr)), .int (iI (to1))])), (t0, .inl (k 2, 100, .inl (aZ (tx)))), (b0, .inr (2, [.ref l0, .int (iI (kd)), .int (iI (f1)), .int (iI (s1))]))] s.heap.size) s.heap s.heap [] := va_S.rf
  have hl : lv_has ls 3 [(0, .ref h0)] := hl
  refine lv_aload_n hx hb d_RR_readDates_0 rfl (lv_at hl 0 rfl) ?_
  have hPc := hP.sub (ws' := [(h0, .inr (6, [.ref b0, .ref g0, .ref n0, .ref e0, .ref z0, .ref t0, .int (iI ((n : Int))), .int (iI (pl)), .int (iI (fr)), .int (iI (to1))])), (t0, .inl (k 2, 100, .inl (aZ (tx))))]) [0, 1] rfl
  have hDc := hD.sub (ws' := [(h0, .inr (6, [.ref b0, .ref g0, .ref n0, .ref e0, .ref z0, .ref t0, .int (iI ((n : Int))), .int (iI (pl)), .int (iI (fr)), .int (iI (to1))])), (t0, .inl (k 2, 100, .inl (aZ (tx))))]) [0, 1] (by decide) rfl
  have hFc := va_free (wc := [(h0, .inr (6, [.ref b0, .ref g0, .ref n0, .ref e0, .ref z0, .ref t0, .int (iI ((n : Int))), .int (iI (pl)), .int (iI (fr)), .int (iI (to1))])), (t0, .inl (k 2, 100, .inl (aZ (tx))))]) hD hS hA [0, 1] rfl
  refine va_calli (va_runV (As := []) (rest := []) (b := h0) ⟨hx, hb, hml, hown, hts⟩ (c_RR_takeMonthAndDay l D k s.heap.size (h0) (b0) (g0) (n0) (e0) (z0) (t0) (tx) (n) (pl) (fr) (to1) (hn) ((by omega)) (htx)) ⟨callB_of 0 hts (good_RR_takeMonthAndDay) rfl rfl rfl (hts _ k_62) (hts _ k_478) (by decide +kernel) ⟨Nat.le_of_ble_eq_true rfl, Nat.le_of_ble_eq_true rfl⟩, (hts _ k_480), (hts _ k_14)⟩ ⟨fun a U g mk q => ⟨q.1, q.2.1, q.2.2.1, va_K.moved (u := U) (U := U.calling g mk a) (Vm.Alike.refl U.vm) q.2.2.2.1, q.2.2.2.2.1, q.2.2.2.2.2.calling⟩, (va_recv (q0 := 0) hK hP rfl rfl), fun U hU hW => ⟨rfl, by rw [hU], by rw [hU]; exact hPc, va_K.moved hW.alike hK, hDc.weaken (fun _ _ _ _ => trivial), by rw [hU]; exact (hX.mono hS hFc).warm hW⟩⟩ rfl rfl hl.1 rfl (lv_room (Nat.le_of_ble_eq_true rfl)) d_RR_readDates_1 ⟨Nat.le_of_ble_eq_true rfl, Nat.le_of_ble_eq_true rfl⟩) hS (fun q _ h => hFc q h) hFc (fun xr_1 xu_2 t H1 locs ht hvm h_xr_1 hB hz1 hk1 hS => ?_)
  obtain ⟨hP1, hD1⟩ := hB
  rw [ht] at hP1
  obtain ⟨hP, hD⟩ := va_join (wr := [(b0, .inr (2, [.ref l0, .int (iI (kd)), .int (iI (f1)), .int (iI (s1))]))]) (w1 := [(h0, .inr (6, [.ref b0, .ref g0, .ref n0, .ref e0, .ref z0, .ref t0, .int (iI ((n : Int))), .int (iI ((mdF tx n pl).2)), .int (iI (fr)), .int (iI (to1))])), (t0, .inl (k 2, 100, .inl (aZ (tx))))]) hP hD [0, 1] [2] rfl rfl (by decide) (by decide) hk1 hFc hP1 hD1
  generalize H1 = H at hP hS ⊢
  have hP := hP.sub (ws' := [(h0, .inr (6, [.ref b0, .ref g0, .ref n0, .ref e0, .ref z0, .ref t0, .int (iI ((n : Int))), .int (iI ((mdF tx n pl).2)), .int (iI (fr)), .int (iI (to1))])), (t0, .inl (k 2, 100, .inl (aZ (tx)))), (b0, .inr (2, [.ref l0, .int (iI (kd)), .int (iI (f1)), .int (iI (s1))]))]) [1, 2, 0] rfl
  have hD := hD.sub (ws' := [(h0, .inr (6, [.ref b0, .ref g0, .ref n0, .ref e0, .ref z0, .ref t0, .int (iI ((n : Int))), .int (iI ((mdF tx n pl).2)), .int (iI (fr)), .int (iI (to1))])), (t0, .inl (k 2, 100, .inl (aZ (tx)))), (b0, .inr (2, [.ref l0, .int (iI (kd)), .int (iI (f1)), .int (iI (s1))]))]) [1, 2, 0] (by decide) rfl
  subst h_xr_1
  have hbm2 := mdF_bd (tx := tx) (pl := pl) hn (by omega)
  refine lv_istore_n (lv' := [(1, .int (iI ((mdF tx n pl).1))), (0, .ref h0)]) hx hb d_RR_readDates_4 rfl hl (by decide) rfl (fun ls hl => ?_)
  refine lv_iload_n hx hb d_RR_readDates_5 rfl (lv_at hl 0 rfl) ?_
  refine z_iconst hx hb d_RR_readDates_6 ?_
  refine z_icmp_eq (tgt := 19) hx hb d_RR_readDates_7 (by decide) ⟨by omega, by omega⟩ ⟨by omega, by omega⟩ (fun h7 => ?_) (fun h7 => ?_)
  · refine z_iconst hx hb d_RR_readDates_19 ?_
    have e9 : dtF tx n pl kd f1 s1 = (false, (mdF tx n pl).2, kd, f1, s1) := by unfold dtF; rw [if_pos h7]
    exact ret _ _ _ 20 false () d_RR_readDates_20 hS ((congrArg (fun q9 => bI q9.1) e9).symm) (fun t ht _ => ⟨by rw [e9, ht]; exact hP, by rw [e9]; exact hD⟩)
  · refine lv_aload_n hx hb d_RR_readDates_10 rfl (lv_at hl 1 rfl) ?_
    refine z_bipush hx hb d_RR_readDates_11 (by decide) ?_
    have hPc := hP.sub (ws' := [(h0, .inr (6, [.ref b0, .ref g0, .ref n0, .ref e0, .ref z0, .ref t0, .int (iI ((n : Int))), .int (iI ((mdF tx n pl).2)), .int (iI (fr)), .int (iI (to1))])), (t0, .inl (k 2, 100, .inl (aZ (tx))))]) [0, 1] rfl
    have hDc := hD.sub (ws' := [(h0, .inr (6, [.ref b0, .ref g0, .ref n0, .ref e0, .ref z0, .ref t0, .int (iI ((n : Int))), .int (iI ((mdF tx n pl).2)), .int (iI (fr)), .int (iI (to1))])), (t0, .inl (k 2, 100, .inl (aZ (tx))))]) [0, 1] (by decide) rfl
    have hFc := va_free (wc := [(h0, .inr (6, [.ref b0, .ref g0, .ref n0, .ref e0, .ref z0, .ref t0, .int (iI ((n : Int))), .int (iI ((mdF tx n pl).2)), .int (iI (fr)), .int (iI (to1))])), (t0, .inl (k 2, 100, .inl (aZ (tx))))]) hD hS hA [0, 1] rfl
    refine va_calli (va_runV (As := [.int (iI (45))]) (rest := []) (b := h0) ⟨hx, hb, hml, hown, hts⟩ (c_RR_take l D k H.size (h0) (b0) (g0) (n0) (e0) (z0) (t0) (tx) (n) ((mdF tx n pl).2) (fr) (to1) (45) (hn) ((by omega)) (htx) ((by omega))) ⟨callB_of 1 hts (good_RR_take) rfl rfl rfl (hts _ k_62) (hts _ k_424) (by decide +kernel) ⟨Nat.le_of_ble_eq_true rfl, Nat.le_of_ble_eq_true rfl⟩, (hts _ k_426), (hts _ k_4)⟩ ⟨fun a U g mk q => ⟨q.1, q.2.1, q.2.2.1, va_K.moved (u := U) (U := U.calling g mk a) (Vm.Alike.refl U.vm) q.2.2.2.1, q.2.2.2.2.1, q.2.2.2.2.2.calling⟩, (va_recv (q0 := 0) hK hP rfl rfl), fun U hU hW => ⟨rfl, by rw [hU], by rw [hU]; exact hPc, va_K.moved hW.alike hK, hDc.weaken (fun _ _ _ _ => trivial), by rw [hU]; exact (hX.mono hS hFc).warm hW⟩⟩ rfl rfl hl.1 rfl (lv_room (Nat.le_of_ble_eq_true rfl)) d_RR_readDates_13 ⟨Nat.le_of_ble_eq_true rfl, Nat.le_of_ble_eq_true rfl⟩) hS (fun q _ h => hFc q h) hFc (fun xr_3 xu_4 t H1 locs ht hvm h_xr_3 hB hz1 hk1 hS => ?_)
    obtain ⟨hP1, hD1⟩ := hB
    rw [ht] at hP1
    obtain ⟨hP, hD⟩ := va_join (wr := [(b0, .inr (2, [.ref l0, .int (iI (kd)), .int (iI (f1)), .int (iI (s1))]))]) (w1 := [(h0, .inr (6, [.ref b0, .ref g0, .ref n0, .ref e0, .ref z0, .ref t0, .int (iI ((n : Int))), .int (iI ((tkF tx n ((mdF tx n pl).2) 45).2)), .int (iI (fr)), .int (iI (to1))])), (t0, .inl (k 2, 100, .inl (aZ (tx))))]) hP hD [0, 1] [2] rfl rfl (by decide) (by decide) hk1 hFc hP1 hD1
    generalize H1 = H at hP hS ⊢
    have hP := hP.sub (ws' := [(h0, .inr (6, [.ref b0, .ref g0, .ref n0, .ref e0, .ref z0, .ref t0, .int (iI ((n : Int))), .int (iI ((tkF tx n ((mdF tx n pl).2) 45).2)), .int (iI (fr)), .int (iI (to1))])), (t0, .inl (k 2, 100, .inl (aZ (tx)))), (b0, .inr (2, [.ref l0, .int (iI (kd)), .int (iI (f1)), .int (iI (s1))]))]) [1, 2, 0] rfl
    have hD := hD.sub (ws' := [(h0, .inr (6, [.ref b0, .ref g0, .ref n0, .ref e0, .ref z0, .ref t0, .int (iI ((n : Int))), .int (iI ((tkF tx n ((mdF tx n pl).2) 45).2)), .int (iI (fr)), .int (iI (to1))])), (t0, .inl (k 2, 100, .inl (aZ (tx)))), (b0, .inr (2, [.ref l0, .int (iI (kd)), .int (iI (f1)), .int (iI (s1))]))]) [1, 2, 0] (by decide) rfl
    subst h_xr_3
    have hbt45_15 := tkF_bd (tx := tx) (pl := (mdF tx n pl).2) (ch := 45) hn (by omega)
    refine b_if_ne (tgt := 21) hx hb d_RR_readDates_16 (by decide) (fun h16 => ?_) (fun h16 => ?_)
    · refine lv_aload_n hx hb d_RR_readDates_21 rfl (lv_at hl 1 rfl) ?_
      have hPc := hP.sub (ws' := [(h0, .inr (6, [.ref b0, .ref g0, .ref n0, .ref e0, .ref z0, .ref t0, .int (iI ((n : Int))), .int (iI ((tkF tx n ((mdF tx n pl).2) 45).2)), .int (iI (fr)), .int (iI (to1))])), (t0, .inl (k 2, 100, .inl (aZ (tx))))]) [0, 1] rfl
      have hDc := hD.sub (ws' := [(h0, .inr (6, [.ref b0, .ref g0, .ref n0, .ref e0, .ref z0, .ref t0, .int (iI ((n : Int))), .int (iI ((tkF tx n ((mdF tx n pl).2) 45).2)), .int (iI (fr)), .int (iI (to1))])), (t0, .inl (k 2, 100, .inl (aZ (tx))))]) [0, 1] (by decide) rfl
      have hFc := va_free (wc := [(h0, .inr (6, [.ref b0, .ref g0, .ref n0, .ref e0, .ref z0, .ref t0, .int (iI ((n : Int))), .int (iI ((tkF tx n ((mdF tx n pl).2) 45).2)), .int (iI (fr)), .int (iI (to1))])), (t0, .inl (k 2, 100, .inl (aZ (tx))))]) hD hS hA [0, 1] rfl
      refine va_calli (va_runV (As := []) (rest := []) (b := h0) ⟨hx, hb, hml, hown, hts⟩ (c_RR_takeMonthAndDay l D k H.size (h0) (b0) (g0) (n0) (e0) (z0) (t0) (tx) (n) ((tkF tx n ((mdF tx n pl).2) 45).2) (fr) (to1) (hn) ((by omega)) (htx)) ⟨callB_of 0 hts (good_RR_takeMonthAndDay) rfl rfl rfl (hts _ k_62) (hts _ k_478) (by decide +kernel) ⟨Nat.le_of_ble_eq_true rfl, Nat.le_of_ble_eq_true rfl⟩, (hts _ k_480), (hts _ k_14)⟩ ⟨fun a U g mk q => ⟨q.1, q.2.1, q.2.2.1, va_K.moved (u := U) (U := U.calling g mk a) (Vm.Alike.refl U.vm) q.2.2.2.1, q.2.2.2.2.1, q.2.2.2.2.2.calling⟩, (va_recv (q0 := 0) hK hP rfl rfl), fun U hU hW => ⟨rfl, by rw [hU], by rw [hU]; exact hPc, va_K.moved hW.alike hK, hDc.weaken (fun _ _ _ _ => trivial), by rw [hU]; exact (hX.mono hS hFc).warm hW⟩⟩ rfl rfl hl.1 rfl (lv_room (Nat.le_of_ble_eq_true rfl)) d_RR_readDates_22 ⟨Nat.le_of_ble_eq_true rfl, Nat.le_of_ble_eq_true rfl⟩) hS (fun q _ h => hFc q h) hFc (fun xr_5 xu_6 t H1 locs ht hvm h_xr_5 hB hz1 hk1 hS => ?_)
      obtain ⟨hP1, hD1⟩ := hB
      rw [ht] at hP1
      obtain ⟨hP, hD⟩ := va_join (wr := [(b0, .inr (2, [.ref l0, .int (iI (kd)), .int (iI (f1)), .int (iI (s1))]))]) (w1 := [(h0, .inr (6, [.ref b0, .ref g0, .ref n0, .ref e0, .ref z0, .ref t0, .int (iI ((n : Int))), .int (iI ((mdF tx n ((tkF tx n ((mdF tx n pl).2) 45).2)).2)), .int (iI (fr)), .int (iI (to1))])), (t0, .inl (k 2, 100, .inl (aZ (tx))))]) hP hD [0, 1] [2] rfl rfl (by decide) (by decide) hk1 hFc hP1 hD1
      generalize H1 = H at hP hS ⊢
      have hP := hP.sub (ws' := [(h0, .inr (6, [.ref b0, .ref g0, .ref n0, .ref e0, .ref z0, .ref t0, .int (iI ((n : Int))), .int (iI ((mdF tx n ((tkF tx n ((mdF tx n pl).2) 45).2)).2)), .int (iI (fr)), .int (iI (to1))])), (t0, .inl (k 2, 100, .inl (aZ (tx)))), (b0, .inr (2, [.ref l0, .int (iI (kd)), .int (iI (f1)), .int (iI (s1))]))]) [1, 2, 0] rfl
      have hD := hD.sub (ws' := [(h0, .inr (6, [.ref b0, .ref g0, .ref n0, .ref e0, .ref z0, .ref t0, .int (iI ((n : Int))), .int (iI ((mdF tx n ((tkF tx n ((mdF tx n pl).2) 45).2)).2)), .int (iI (fr)), .int (iI (to1))])), (t0, .inl (k 2, 100, .inl (aZ (tx)))), (b0, .inr (2, [.ref l0, .int (iI (kd)), .int (iI (f1)), .int (iI (s1))]))]) [1, 2, 0] (by decide) rfl
      subst h_xr_5
      have hbm33 := mdF_bd (tx := tx) (pl := (tkF tx n ((mdF tx n pl).2) 45).2) hn (by omega)
      refine lv_istore_n (lv' := [(2, .int (iI ((mdF tx n ((tkF tx n ((mdF tx n pl).2) 45).2)).1))), (1, .int (iI ((mdF tx n pl).1))), (0, .ref h0)]) hx hb d_RR_readDates_25 rfl hl (by decide) rfl (fun ls hl => ?_)
      refine lv_aload_n hx hb d_RR_readDates_26 rfl (lv_at hl 2 rfl) ?_
      refine va_get (D := D) (ci := 6) (v := .ref b0) (C := R_RR) (T := F_RR) (N := 10) hx hb hts in_RR hown hK hP 0 rfl rfl 0 (by decide) (hts _ k_173) (fun _ h9 => h9) rfl d_RR_readDates_27 ?_
      refine z_bipush hx hb d_RR_readDates_30 (by decide) ?_
      refine lv_iload_n hx hb d_RR_readDates_32 rfl (lv_at hl 1 rfl) ?_
      refine lv_iload_n hx hb d_RR_readDates_33 rfl (lv_at hl 0 rfl) ?_
      have hPc := hP.sub (ws' := [(b0, .inr (2, [.ref l0, .int (iI (kd)), .int (iI (f1)), .int (iI (s1))]))]) [2] rfl
      have hDc := hD.sub (ws' := [(b0, .inr (2, [.ref l0, .int (iI (kd)), .int (iI (f1)), .int (iI (s1))]))]) [2] (by decide) rfl
      have hFc := va_free (wc := [(b0, .inr (2, [.ref l0, .int (iI (kd)), .int (iI (f1)), .int (iI (s1))]))]) hD hS hA [2] rfl
      refine va_callv (va_runV (As := [.int (iI (68)), .int (iI ((mdF tx n pl).1)), .int (iI ((mdF tx n ((tkF tx n ((mdF tx n pl).2) 45).2)).1))]) (rest := []) (b := b0) ⟨hx, hb, hml, hown, hts⟩ (c_AT_become l D k H.size (b0) (l0) (kd) (f1) (s1) (68) ((mdF tx n pl).1) ((mdF tx n ((tkF tx n ((mdF tx n pl).2) 45).2)).1)) ⟨callB_of 3 hts (good_AT_become) rfl rfl rfl (hts _ k_64) (hts _ k_466) (by decide +kernel) ⟨Nat.le_of_ble_eq_true rfl, Nat.le_of_ble_eq_true rfl⟩, (hts _ k_467), (hts _ k_468)⟩ ⟨fun a U g mk q => ⟨q.1, q.2.1, q.2.2.1, va_K.moved (u := U) (U := U.calling g mk a) (Vm.Alike.refl U.vm) q.2.2.2.1, q.2.2.2.2.1, q.2.2.2.2.2.calling⟩, (va_recv (q0 := 2) hK hP rfl rfl), fun U hU hW => ⟨rfl, by rw [hU], by rw [hU]; exact hPc, va_K.moved hW.alike hK, hDc.weaken (fun _ _ _ _ => trivial), by rw [hU]; exact (hX.mono hS hFc).warm hW⟩⟩ rfl rfl hl.1 rfl (lv_room (Nat.le_of_ble_eq_true rfl)) d_RR_readDates_34 ⟨Nat.le_of_ble_eq_true rfl, Nat.le_of_ble_eq_true rfl⟩) hS (fun q _ h => hFc q h) hFc (fun xu_8 t H1 locs ht hvm h_xr_7 hB hz1 hk1 hS => ?_)
      obtain ⟨hP1, hD1⟩ := hB
      rw [ht] at hP1
      obtain ⟨hP, hD⟩ := va_join (wr := [(h0, .inr (6, [.ref b0, .ref g0, .ref n0, .ref e0, .ref z0, .ref t0, .int (iI ((n : Int))), .int (iI ((mdF tx n ((tkF tx n ((mdF tx n pl).2) 45).2)).2)), .int (iI (fr)), .int (iI (to1))])), (t0, .inl (k 2, 100, .inl (aZ (tx))))]) (w1 := [(b0, .inr (2, [.ref l0, .int (iI (68)), .int (iI (((mdF tx n pl).1))), .int (iI (((mdF tx n ((tkF tx n ((mdF tx n pl).2) 45).2)).1)))]))]) hP hD [2] [0, 1] rfl rfl (by decide) (by decide) hk1 hFc hP1 hD1
      generalize H1 = H at hP hS ⊢
      have hP := hP.sub (ws' := [(h0, .inr (6, [.ref b0, .ref g0, .ref n0, .ref e0, .ref z0, .ref t0, .int (iI ((n : Int))), .int (iI ((mdF tx n ((tkF tx n ((mdF tx n pl).2) 45).2)).2)), .int (iI (fr)), .int (iI (to1))])), (t0, .inl (k 2, 100, .inl (aZ (tx)))), (b0, .inr (2, [.ref l0, .int (iI (68)), .int (iI (((mdF tx n pl).1))), .int (iI (((mdF tx n ((tkF tx n ((mdF tx n pl).2) 45).2)).1)))]))]) [0, 1, 2] rfl
      have hD := hD.sub (ws' := [(h0, .inr (6, [.ref b0, .ref g0, .ref n0, .ref e0, .ref z0, .ref t0, .int (iI ((n : Int))), .int (iI ((mdF tx n ((tkF tx n ((mdF tx n pl).2) 45).2)).2)), .int (iI (fr)), .int (iI (to1))])), (t0, .inl (k 2, 100, .inl (aZ (tx)))), (b0, .inr (2, [.ref l0, .int (iI (68)), .int (iI (((mdF tx n pl).1))), .int (iI (((mdF tx n ((tkF tx n ((mdF tx n pl).2) 45).2)).1)))]))]) [0, 1, 2] (by decide) rfl
      refine lv_iload_n hx hb d_RR_readDates_37 rfl (lv_at hl 0 rfl) ?_
      refine z_iconst hx hb d_RR_readDates_38 ?_
      refine z_icmp_eq (tgt := 46) hx hb d_RR_readDates_39 (by decide) ⟨by omega, by omega⟩ ⟨by omega, by omega⟩ (fun h39 => ?_) (fun h39 => ?_)
      · refine z_iconst hx hb d_RR_readDates_46 ?_
        have e9 : dtF tx n pl kd f1 s1 = (false, (mdF tx n ((tkF tx n ((mdF tx n pl).2) 45).2)).2, 68, ((mdF tx n pl).1), ((mdF tx n ((tkF tx n ((mdF tx n pl).2) 45).2)).1)) := by unfold dtF; rw [if_neg h7, if_pos h16, if_pos h39]
        exact ret _ _ _ 47 false () d_RR_readDates_47 hS ((congrArg (fun q9 => bI q9.1) e9).symm) (fun t ht _ => ⟨by rw [e9, ht]; exact hP, by rw [e9]; exact hD⟩)
      · refine z_iconst hx hb d_RR_readDates_42 ?_
        refine lv_goto (tgt := 47) hx hb d_RR_readDates_43 (by decide) ?_
        have e9 : dtF tx n pl kd f1 s1 = (true, (mdF tx n ((tkF tx n ((mdF tx n pl).2) 45).2)).2, 68, ((mdF tx n pl).1), ((mdF tx n ((tkF tx n ((mdF tx n pl).2) 45).2)).1)) := by unfold dtF; rw [if_neg h7, if_pos h16, if_neg h39]
        exact ret _ _ _ 47 true () d_RR_readDates_47 hS ((congrArg (fun q9 => bI q9.1) e9).symm) (fun t ht _ => ⟨by rw [e9, ht]; exact hP, by rw [e9]; exact hD⟩)
    · refine z_iconst hx hb d_RR_readDates_19 ?_
      have e9 : dtF tx n pl kd f1 s1 = (false, (tkF tx n ((mdF tx n pl).2) 45).2, kd, f1, s1) := by unfold dtF; rw [if_neg h7, if_neg (Bool.eq_false_iff.mp h16)]
      exact ret _ _ _ 20 false () d_RR_readDates_20 hS ((congrArg (fun q9 => bI q9.1) e9).symm) (fun t ht _ => ⟨by rw [e9, ht]; exact hP, by rw [e9]; exact hD⟩)

def cyF (tx : Nat → Int) (n : Nat) (pl : Int) (kd : Int) (f1 : Int) (s1 : Int) : Bool × Int × Int × Int × Int := (if (tn10 tx n pl 1 99).1 = -1 then (false, (tn10 tx n pl 1 99).2, kd, f1, s1) else (if (tn10 tx n ((tn10 tx n pl 1 99).2) 0 (((tn10 tx n pl 1 99).1) - 1)).1 = -1 then (false, (tn10 tx n ((tn10 tx n pl 1 99).2) 0 (((tn10 tx n pl 1 99).1) - 1)).2, 67, ((tn10 tx n pl 1 99).1), ((tn10 tx n ((tn10 tx n pl 1 99).2) 0 (((tn10 tx n pl 1 99).1) - 1)).1)) else (true, (tn10 tx n ((tn10 tx n pl 1 99).2) 0 (((tn10 tx n pl 1 99).1) - 1)).2, 67, ((tn10 tx n pl 1 99).1), ((tn10 tx n ((tn10 tx n pl 1 99).2) 0 (((tn10 tx n pl 1 99).1) - 1)).1))))
set_option maxHeartbeats 4000000 in
set_option maxRecDepth 100000 in
theorem c_RR_readCycle (l : Launch) (D : va_G) (k : Nat → ClassId) (sz : Nat) (h0 b0 g0 n0 e0 z0 t0 l0 : Nat) (tx : Nat → Int) (n : Nat) (pl : Int) (fr : Int) (to1 : Int) (kd : Int) (f1 : Int) (s1 : Int) (hn : n ≤ 100) (hpl : 0 ≤ pl ∧ pl ≤ (n : Int)) (htx : ∀ j, 0 ≤ tx j ∧ tx j ≤ 65535) : Met l y_RR_readCycle wd_RR_readCycle rm_RR_readCycle (va_Pc [.ref h0] (PRW D k [(h0, .inr (6, [.ref b0, .ref g0, .ref n0, .ref e0, .ref z0, .ref t0, .int (iI ((n : Int))), .int (iI (pl)), .int (iI (fr)), .int (iI (to1))])), (t0, .inl (k 2, 100, .inl (aZ (tx)))), (b0, .inr (2, [.ref l0, .int (iI (kd)), .int (iI (f1)), .int (iI (s1))]))] sz)) (va_Qi (fun (r : Int32) (u : Unit) => r = (bI ((cyF tx n pl kd f1 s1).1))) (fun _ t => BRW D [(h0, .inr (6, [.ref b0, .ref g0, .ref n0, .ref e0, .ref z0, .ref t0, .int (iI ((n : Int))), .int (iI (pl)), .int (iI (fr)), .int (iI (to1))])), (t0, .inl (k 2, 100, .inl (aZ (tx)))), (b0, .inr (2, [.ref l0, .int (iI (kd)), .int (iI (f1)), .int (iI (s1))]))] sz [(h0, .inr (6, [.ref b0, .ref g0, .ref n0, .ref e0, .ref z0, .ref t0, .int (iI ((n : Int))), .int (iI ((cyF tx n pl kd f1 s1).2.1)), .int (iI (fr)), .int (iI (to1))])), (t0, .inl (k 2, 100, .inl (aZ (tx)))), (b0, .inr (2, [.ref l0, .int (iI ((cyF tx n pl kd f1 s1).2.2.1)), .int (iI ((cyF tx n pl kd f1 s1).2.2.2.1)), .int (iI ((cyF tx n pl kd f1 s1).2.2.2.2))]))] t) (va_A [(h0, .inr (6, [.ref b0, .ref g0, .ref n0, .ref e0, .ref z0, .ref t0, .int (iI ((n : Int))), .int (iI (pl)), .int (iI (fr)), .int (iI (to1))])), (t0, .inl (k 2, 100, .inl (aZ (tx)))), (b0, .inr (2, [.ref l0, .int (iI (kd)), .int (iI (f1)), .int (iI (s1))]))] sz)) 0 0 (va_A [(h0, .inr (6, [.ref b0, .ref g0, .ref n0, .ref e0, .ref z0, .ref t0, .int (iI ((n : Int))), .int (iI (pl)), .int (iI (fr)), .int (iI (to1))])), (t0, .inl (k 2, 100, .inl (aZ (tx)))), (b0, .inr (2, [.ref l0, .int (iI (kd)), .int (iI (f1)), .int (iI (s1))]))] sz) := by
  refine e_z (by decide) rfl (Nat.le_of_ble_eq_true rfl) ?_
  intro p e s m args below meth c Q ls hx hb hml hown hts hpre hl ret
  obtain ⟨hsz, hP, hK, hD0, hX⟩ := hpre
  subst hsz
  have hD := hD0.self (sz := s.heap.size)
  have hA : ∀ q : Nat, s.heap.size ≤ q → (va_A [(h0, .inr (6, [.ref b0, .ref g0, .ref n0, .ref e0, .ref z0, .ref t0, .int (iI ((n : Int))), .int (iI (pl)), .int (iI (fr)), .int (iI (to1))])), (t0, .inl (k 2, 100, .inl (aZ (tx)))), (b0, .inr (2, [.ref l0, .int (iI (kd)), .int (iI (f1)), .int (iI (s1))]))] s.heap.size) q := fun q h => Or.inr h
  have hS : va_S (va_A [(h0, .inr (6, [.ref b0, .ref g0, .ref n0, .ref e0, .ref z0, .ref t0, .int (iI ((n : Int))), .int (iI (pl)), .int (iI (fr)), .int (iI (to1))])), (t0, .inl (k 2, 100, .inl (aZ (tx)))), (b0, .inr (2, [.ref l0, .int (iI (kd)), .int (iI (f1)), .int (iI (s1))]))] s.heap.size) s.heap s.heap [] := va_S.rf
  have hl : lv_has ls 3 [(0, .ref h0)] := hl
  refine lv_aload_n hx hb d_RR_readCycle_0 rfl (lv_at hl 0 rfl) ?_
  refine z_bipush hx hb d_RR_readCycle_1 (by decide) ?_
  refine z_iconst hx hb d_RR_readCycle_3 ?_
  refine z_bipush hx hb d_RR_readCycle_4 (by decide) ?_
  have hPc := hP.sub (ws' := [(h0, .inr (6, [.ref b0, .ref g0, .ref n0, .ref e0, .ref z0, .ref t0, .int (iI ((n : Int))), .int (iI (pl)), .int (iI (fr)), .int (iI (to1))])), (t0, .inl (k 2, 100, .inl (aZ (tx))))]) [0, 1] rfl
  have hDc := hD.sub (ws' := [(h0, .inr (6, [.ref b0, .ref g0, .ref n0, .ref e0, .ref z0, .ref t0, .int (iI ((n : Int))), .int (iI (pl)), .int (iI (fr)), .int (iI (to1))])), (t0, .inl (k 2, 100, .inl (aZ (tx))))]) [0, 1] (by decide) rfl
  have hFc := va_free (wc := [(h0, .inr (6, [.ref b0, .ref g0, .ref n0, .ref e0, .ref z0, .ref t0, .int (iI ((n : Int))), .int (iI (pl)), .int (iI (fr)), .int (iI (to1))])), (t0, .inl (k 2, 100, .inl (aZ (tx))))]) hD hS hA [0, 1] rfl
  refine va_calli (va_runV (As := [.int (iI (10)), .int (iI (1)), .int (iI (99))]) (rest := []) (b := h0) ⟨hx, hb, hml, hown, hts⟩ (c_RR_takeNumber_10 l D k s.heap.size (h0) (b0) (g0) (n0) (e0) (z0) (t0) (tx) (n) (pl) (fr) (to1) (1) (99) (hn) ((by omega)) (htx) ((by omega)) ((by omega))) ⟨callB_of 3 hts (good_RR_takeNumber) rfl rfl rfl (hts _ k_62) (hts _ k_420) (by decide +kernel) ⟨Nat.le_of_ble_eq_true rfl, Nat.le_of_ble_eq_true rfl⟩, (hts _ k_422), (hts _ k_3)⟩ ⟨fun a U g mk q => ⟨q.1, q.2.1, q.2.2.1, va_K.moved (u := U) (U := U.calling g mk a) (Vm.Alike.refl U.vm) q.2.2.2.1, q.2.2.2.2.1, q.2.2.2.2.2.calling⟩, (va_recv (q0 := 0) hK hP rfl rfl), fun U hU hW => ⟨rfl, by rw [hU], by rw [hU]; exact hPc, va_K.moved hW.alike hK, hDc.weaken (fun _ _ _ _ => trivial), by rw [hU]; exact (hX.mono hS hFc).warm hW⟩⟩ rfl rfl hl.1 rfl (lv_room (Nat.le_of_ble_eq_true rfl)) d_RR_readCycle_6 ⟨Nat.le_of_ble_eq_true rfl, Nat.le_of_ble_eq_true rfl⟩) hS (fun q _ h => hFc q h) hFc (fun xr_1 xu_2 t H1 locs ht hvm h_xr_1 hB hz1 hk1 hS => ?_)
  obtain ⟨hP1, hD1⟩ := hB
  rw [ht] at hP1
  obtain ⟨hP, hD⟩ := va_join (wr := [(b0, .inr (2, [.ref l0, .int (iI (kd)), .int (iI (f1)), .int (iI (s1))]))]) (w1 := [(h0, .inr (6, [.ref b0, .ref g0, .ref n0, .ref e0, .ref z0, .ref t0, .int (iI ((n : Int))), .int (iI ((tn10 tx n pl 1 99).2)), .int (iI (fr)), .int (iI (to1))])), (t0, .inl (k 2, 100, .inl (aZ (tx))))]) hP hD [0, 1] [2] rfl rfl (by decide) (by decide) hk1 hFc hP1 hD1
  generalize H1 = H at hP hS ⊢
  have hP := hP.sub (ws' := [(h0, .inr (6, [.ref b0, .ref g0, .ref n0, .ref e0, .ref z0, .ref t0, .int (iI ((n : Int))), .int (iI ((tn10 tx n pl 1 99).2)), .int (iI (fr)), .int (iI (to1))])), (t0, .inl (k 2, 100, .inl (aZ (tx)))), (b0, .inr (2, [.ref l0, .int (iI (kd)), .int (iI (f1)), .int (iI (s1))]))]) [1, 2, 0] rfl
  have hD := hD.sub (ws' := [(h0, .inr (6, [.ref b0, .ref g0, .ref n0, .ref e0, .ref z0, .ref t0, .int (iI ((n : Int))), .int (iI ((tn10 tx n pl 1 99).2)), .int (iI (fr)), .int (iI (to1))])), (t0, .inl (k 2, 100, .inl (aZ (tx)))), (b0, .inr (2, [.ref l0, .int (iI (kd)), .int (iI (f1)), .int (iI (s1))]))]) [1, 2, 0] (by decide) rfl
  subst h_xr_1
  have hbn10_2 := tn10_bd (tx := tx) (pl := pl) (lo := 1) (hi := 99) hn (by omega)
  refine lv_istore_n (lv' := [(1, .int (iI ((tn10 tx n pl 1 99).1))), (0, .ref h0)]) hx hb d_RR_readCycle_9 rfl hl (by decide) rfl (fun ls hl => ?_)
  refine lv_iload_n hx hb d_RR_readCycle_10 rfl (lv_at hl 0 rfl) ?_
  refine z_iconst hx hb d_RR_readCycle_11 ?_
  refine z_icmp_ne (tgt := 17) hx hb d_RR_readCycle_12 (by decide) ⟨by omega, by omega⟩ ⟨by omega, by omega⟩ (fun h12 => ?_) (fun h12 => ?_)
  · refine lv_aload_n hx hb d_RR_readCycle_17 rfl (lv_at hl 1 rfl) ?_
    refine z_bipush hx hb d_RR_readCycle_18 (by decide) ?_
    refine z_iconst hx hb d_RR_readCycle_20 ?_
    refine lv_iload_n hx hb d_RR_readCycle_21 rfl (lv_at hl 0 rfl) ?_
    refine z_iconst hx hb d_RR_readCycle_22 ?_
    refine z_isub hx hb d_RR_readCycle_23 ?_
    have hPc := hP.sub (ws' := [(h0, .inr (6, [.ref b0, .ref g0, .ref n0, .ref e0, .ref z0, .ref t0, .int (iI ((n : Int))), .int (iI ((tn10 tx n pl 1 99).2)), .int (iI (fr)), .int (iI (to1))])), (t0, .inl (k 2, 100, .inl (aZ (tx))))]) [0, 1] rfl
    have hDc := hD.sub (ws' := [(h0, .inr (6, [.ref b0, .ref g0, .ref n0, .ref e0, .ref z0, .ref t0, .int (iI ((n : Int))), .int (iI ((tn10 tx n pl 1 99).2)), .int (iI (fr)), .int (iI (to1))])), (t0, .inl (k 2, 100, .inl (aZ (tx))))]) [0, 1] (by decide) rfl
    have hFc := va_free (wc := [(h0, .inr (6, [.ref b0, .ref g0, .ref n0, .ref e0, .ref z0, .ref t0, .int (iI ((n : Int))), .int (iI ((tn10 tx n pl 1 99).2)), .int (iI (fr)), .int (iI (to1))])), (t0, .inl (k 2, 100, .inl (aZ (tx))))]) hD hS hA [0, 1] rfl
    refine va_calli (va_runV (As := [.int (iI (10)), .int (iI (0)), .int (iI (((tn10 tx n pl 1 99).1) - 1))]) (rest := []) (b := h0) ⟨hx, hb, hml, hown, hts⟩ (c_RR_takeNumber_10 l D k H.size (h0) (b0) (g0) (n0) (e0) (z0) (t0) (tx) (n) ((tn10 tx n pl 1 99).2) (fr) (to1) (0) (((tn10 tx n pl 1 99).1) - 1) (hn) ((by omega)) (htx) ((by omega)) ((by omega))) ⟨callB_of 3 hts (good_RR_takeNumber) rfl rfl rfl (hts _ k_62) (hts _ k_420) (by decide +kernel) ⟨Nat.le_of_ble_eq_true rfl, Nat.le_of_ble_eq_true rfl⟩, (hts _ k_422), (hts _ k_3)⟩ ⟨fun a U g mk q => ⟨q.1, q.2.1, q.2.2.1, va_K.moved (u := U) (U := U.calling g mk a) (Vm.Alike.refl U.vm) q.2.2.2.1, q.2.2.2.2.1, q.2.2.2.2.2.calling⟩, (va_recv (q0 := 0) hK hP rfl rfl), fun U hU hW => ⟨rfl, by rw [hU], by rw [hU]; exact hPc, va_K.moved hW.alike hK, hDc.weaken (fun _ _ _ _ => trivial), by rw [hU]; exact (hX.mono hS hFc).warm hW⟩⟩ rfl rfl hl.1 rfl (lv_room (Nat.le_of_ble_eq_true rfl)) d_RR_readCycle_24 ⟨Nat.le_of_ble_eq_true rfl, Nat.le_of_ble_eq_true rfl⟩) hS (fun q _ h => hFc q h) hFc (fun xr_3 xu_4 t H1 locs ht hvm h_xr_3 hB hz1 hk1 hS => ?_)
    obtain ⟨hP1, hD1⟩ := hB
    rw [ht] at hP1
    obtain ⟨hP, hD⟩ := va_join (wr := [(b0, .inr (2, [.ref l0, .int (iI (kd)), .int (iI (f1)), .int (iI (s1))]))]) (w1 := [(h0, .inr (6, [.ref b0, .ref g0, .ref n0, .ref e0, .ref z0, .ref t0, .int (iI ((n : Int))), .int (iI ((tn10 tx n ((tn10 tx n pl 1 99).2) 0 (((tn10 tx n pl 1 99).1) - 1)).2)), .int (iI (fr)), .int (iI (to1))])), (t0, .inl (k 2, 100, .inl (aZ (tx))))]) hP hD [0, 1] [2] rfl rfl (by decide) (by decide) hk1 hFc hP1 hD1
    generalize H1 = H at hP hS ⊢
    have hP := hP.sub (ws' := [(h0, .inr (6, [.ref b0, .ref g0, .ref n0, .ref e0, .ref z0, .ref t0, .int (iI ((n : Int))), .int (iI ((tn10 tx n ((tn10 tx n pl 1 99).2) 0 (((tn10 tx n pl 1 99).1) - 1)).2)), .int (iI (fr)), .int (iI (to1))])), (t0, .inl (k 2, 100, .inl (aZ (tx)))), (b0, .inr (2, [.ref l0, .int (iI (kd)), .int (iI (f1)), .int (iI (s1))]))]) [1, 2, 0] rfl
    have hD := hD.sub (ws' := [(h0, .inr (6, [.ref b0, .ref g0, .ref n0, .ref e0, .ref z0, .ref t0, .int (iI ((n : Int))), .int (iI ((tn10 tx n ((tn10 tx n pl 1 99).2) 0 (((tn10 tx n pl 1 99).1) - 1)).2)), .int (iI (fr)), .int (iI (to1))])), (t0, .inl (k 2, 100, .inl (aZ (tx)))), (b0, .inr (2, [.ref l0, .int (iI (kd)), .int (iI (f1)), .int (iI (s1))]))]) [1, 2, 0] (by decide) rfl
    subst h_xr_3
    have hbn10_21 := tn10_bd (tx := tx) (pl := (tn10 tx n pl 1 99).2) (lo := 0) (hi := ((tn10 tx n pl 1 99).1) - 1) hn (by omega)
    refine lv_istore_n (lv' := [(2, .int (iI ((tn10 tx n ((tn10 tx n pl 1 99).2) 0 (((tn10 tx n pl 1 99).1) - 1)).1))), (1, .int (iI ((tn10 tx n pl 1 99).1))), (0, .ref h0)]) hx hb d_RR_readCycle_27 rfl hl (by decide) rfl (fun ls hl => ?_)
    refine lv_aload_n hx hb d_RR_readCycle_28 rfl (lv_at hl 2 rfl) ?_
    refine va_get (D := D) (ci := 6) (v := .ref b0) (C := R_RR) (T := F_RR) (N := 10) hx hb hts in_RR hown hK hP 0 rfl rfl 0 (by decide) (hts _ k_173) (fun _ h9 => h9) rfl d_RR_readCycle_29 ?_
    refine z_bipush hx hb d_RR_readCycle_32 (by decide) ?_
    refine lv_iload_n hx hb d_RR_readCycle_34 rfl (lv_at hl 1 rfl) ?_
    refine lv_iload_n hx hb d_RR_readCycle_35 rfl (lv_at hl 0 rfl) ?_
    have hPc := hP.sub (ws' := [(b0, .inr (2, [.ref l0, .int (iI (kd)), .int (iI (f1)), .int (iI (s1))]))]) [2] rfl
    have hDc := hD.sub (ws' := [(b0, .inr (2, [.ref l0, .int (iI (kd)), .int (iI (f1)), .int (iI (s1))]))]) [2] (by decide) rfl
    have hFc := va_free (wc := [(b0, .inr (2, [.ref l0, .int (iI (kd)), .int (iI (f1)), .int (iI (s1))]))]) hD hS hA [2] rfl
    refine va_callv (va_runV (As := [.int (iI (67)), .int (iI ((tn10 tx n pl 1 99).1)), .int (iI ((tn10 tx n ((tn10 tx n pl 1 99).2) 0 (((tn10 tx n pl 1 99).1) - 1)).1))]) (rest := []) (b := b0) ⟨hx, hb, hml, hown, hts⟩ (c_AT_become l D k H.size (b0) (l0) (kd) (f1) (s1) (67) ((tn10 tx n pl 1 99).1) ((tn10 tx n ((tn10 tx n pl 1 99).2) 0 (((tn10 tx n pl 1 99).1) - 1)).1)) ⟨callB_of 3 hts (good_AT_become) rfl rfl rfl (hts _ k_64) (hts _ k_466) (by decide +kernel) ⟨Nat.le_of_ble_eq_true rfl, Nat.le_of_ble_eq_true rfl⟩, (hts _ k_467), (hts _ k_468)⟩ ⟨fun a U g mk q => ⟨q.1, q.2.1, q.2.2.1, va_K.moved (u := U) (U := U.calling g mk a) (Vm.Alike.refl U.vm) q.2.2.2.1, q.2.2.2.2.1, q.2.2.2.2.2.calling⟩, (va_recv (q0 := 2) hK hP rfl rfl), fun U hU hW => ⟨rfl, by rw [hU], by rw [hU]; exact hPc, va_K.moved hW.alike hK, hDc.weaken (fun _ _ _ _ => trivial), by rw [hU]; exact (hX.mono hS hFc).warm hW⟩⟩ rfl rfl hl.1 rfl (lv_room (Nat.le_of_ble_eq_true rfl)) d_RR_readCycle_36 ⟨Nat.le_of_ble_eq_true rfl, Nat.le_of_ble_eq_true rfl⟩) hS (fun q _ h => hFc q h) hFc (fun xu_6 t H1 locs ht hvm h_xr_5 hB hz1 hk1 hS => ?_)
    obtain ⟨hP1, hD1⟩ := hB
    rw [ht] at hP1
    obtain ⟨hP, hD⟩ := va_join (wr := [(h0, .inr (6, [.ref b0, .ref g0, .ref n0, .ref e0, .ref z0, .ref t0, .int (iI ((n : Int))), .int (iI ((tn10 tx n ((tn10 tx n pl 1 99).2) 0 (((tn10 tx n pl 1 99).1) - 1)).2)), .int (iI (fr)), .int (iI (to1))])), (t0, .inl (k 2, 100, .inl (aZ (tx))))]) (w1 := [(b0, .inr (2, [.ref l0, .int (iI (67)), .int (iI (((tn10 tx n pl 1 99).1))), .int (iI (((tn10 tx n ((tn10 tx n pl 1 99).2) 0 (((tn10 tx n pl 1 99).1) - 1)).1)))]))]) hP hD [2] [0, 1] rfl rfl (by decide) (by decide) hk1 hFc hP1 hD1
    generalize H1 = H at hP hS ⊢
    have hP := hP.sub (ws' := [(h0, .inr (6, [.ref b0, .ref g0, .ref n0, .ref e0, .ref z0, .ref t0, .int (iI ((n : Int))), .int (iI ((tn10 tx n ((tn10 tx n pl 1 99).2) 0 (((tn10 tx n pl 1 99).1) - 1)).2)), .int (iI (fr)), .int (iI (to1))])), (t0, .inl (k 2, 100, .inl (aZ (tx)))), (b0, .inr (2, [.ref l0, .int (iI (67)), .int (iI (((tn10 tx n pl 1 99).1))), .int (iI (((tn10 tx n ((tn10 tx n pl 1 99).2) 0 (((tn10 tx n pl 1 99).1) - 1)).1)))]))]) [0, 1, 2] rfl
    have hD := hD.sub (ws' := [(h0, .inr (6, [.ref b0, .ref g0, .ref n0, .ref e0, .ref z0, .ref t0, .int (iI ((n : Int))), .int (iI ((tn10 tx n ((tn10 tx n pl 1 99).2) 0 (((tn10 tx n pl 1 99).1) - 1)).2)), .int (iI (fr)), .int (iI (to1))])), (t0, .inl (k 2, 100, .inl (aZ (tx)))), (b0, .inr (2, [.ref l0, .int (iI (67)), .int (iI (((tn10 tx n pl 1 99).1))), .int (iI (((tn10 tx n ((tn10 tx n pl 1 99).2) 0 (((tn10 tx n pl 1 99).1) - 1)).1)))]))]) [0, 1, 2] (by decide) rfl
    refine lv_iload_n hx hb d_RR_readCycle_39 rfl (lv_at hl 0 rfl) ?_
    refine z_iconst hx hb d_RR_readCycle_40 ?_
    refine z_icmp_eq (tgt := 48) hx hb d_RR_readCycle_41 (by decide) ⟨by omega, by omega⟩ ⟨by omega, by omega⟩ (fun h41 => ?_) (fun h41 => ?_)
    · refine z_iconst hx hb d_RR_readCycle_48 ?_
      have e9 : cyF tx n pl kd f1 s1 = (false, (tn10 tx n ((tn10 tx n pl 1 99).2) 0 (((tn10 tx n pl 1 99).1) - 1)).2, 67, ((tn10 tx n pl 1 99).1), ((tn10 tx n ((tn10 tx n pl 1 99).2) 0 (((tn10 tx n pl 1 99).1) - 1)).1)) := by unfold cyF; rw [if_neg h12, if_pos h41]
      exact ret _ _ _ 49 false () d_RR_readCycle_49 hS ((congrArg (fun q9 => bI q9.1) e9).symm) (fun t ht _ => ⟨by rw [e9, ht]; exact hP, by rw [e9]; exact hD⟩)
    · refine z_iconst hx hb d_RR_readCycle_44 ?_
      refine lv_goto (tgt := 49) hx hb d_RR_readCycle_45 (by decide) ?_
      have e9 : cyF tx n pl kd f1 s1 = (true, (tn10 tx n ((tn10 tx n pl 1 99).2) 0 (((tn10 tx n pl 1 99).1) - 1)).2, 67, ((tn10 tx n pl 1 99).1), ((tn10 tx n ((tn10 tx n pl 1 99).2) 0 (((tn10 tx n pl 1 99).1) - 1)).1)) := by unfold cyF; rw [if_neg h12, if_neg h41]
      exact ret _ _ _ 49 true () d_RR_readCycle_49 hS ((congrArg (fun q9 => bI q9.1) e9).symm) (fun t ht _ => ⟨by rw [e9, ht]; exact hP, by rw [e9]; exact hD⟩)
  · refine z_iconst hx hb d_RR_readCycle_15 ?_
    have e9 : cyF tx n pl kd f1 s1 = (false, (tn10 tx n pl 1 99).2, kd, f1, s1) := by unfold cyF; rw [if_pos h12]
    exact ret _ _ _ 16 false () d_RR_readCycle_16 hS ((congrArg (fun q9 => bI q9.1) e9).symm) (fun t ht _ => ⟨by rw [e9, ht]; exact hP, by rw [e9]; exact hD⟩)

def ftF (tx : Nat → Int) (n : Nat) (pl : Int) (kd : Int) (f1 : Int) (s1 : Int) : Bool × Int × Int × Int × Int := (if (tkF tx n pl 43).1 = true then (if (tkF tx n pl 43).1 = true then (if (tn10 tx n ((tkF tx n pl 43).2) 0 99).1 = -1 then (false, (tn10 tx n ((tkF tx n pl 43).2) 0 99).2, 70, ((tn10 tx n ((tkF tx n pl 43).2) 0 99).1), 0) else (true, (tn10 tx n ((tkF tx n pl 43).2) 0 99).2, 70, ((tn10 tx n ((tkF tx n pl 43).2) 0 99).1), 0)) else (if (tn10 tx n ((tkF tx n pl 43).2) 0 99).1 = -1 then (false, (tn10 tx n ((tkF tx n pl 43).2) 0 99).2, 70, (-((tn10 tx n ((tkF tx n pl 43).2) 0 99).1)), 0) else (true, (tn10 tx n ((tkF tx n pl 43).2) 0 99).2, 70, (-((tn10 tx n ((tkF tx n pl 43).2) 0 99).1)), 0))) else (if (tkF tx n ((tkF tx n pl 43).2) 45).1 = true then (if (tkF tx n pl 43).1 = true then (if (tn10 tx n ((tkF tx n ((tkF tx n pl 43).2) 45).2) 0 99).1 = -1 then (false, (tn10 tx n ((tkF tx n ((tkF tx n pl 43).2) 45).2) 0 99).2, 70, ((tn10 tx n ((tkF tx n ((tkF tx n pl 43).2) 45).2) 0 99).1), 0) else (true, (tn10 tx n ((tkF tx n ((tkF tx n pl 43).2) 45).2) 0 99).2, 70, ((tn10 tx n ((tkF tx n ((tkF tx n pl 43).2) 45).2) 0 99).1), 0)) else (if (tn10 tx n ((tkF tx n ((tkF tx n pl 43).2) 45).2) 0 99).1 = -1 then (false, (tn10 tx n ((tkF tx n ((tkF tx n pl 43).2) 45).2) 0 99).2, 70, (-((tn10 tx n ((tkF tx n ((tkF tx n pl 43).2) 45).2) 0 99).1)), 0) else (true, (tn10 tx n ((tkF tx n ((tkF tx n pl 43).2) 45).2) 0 99).2, 70, (-((tn10 tx n ((tkF tx n ((tkF tx n pl 43).2) 45).2) 0 99).1)), 0))) else (false, (tkF tx n ((tkF tx n pl 43).2) 45).2, kd, f1, s1)))
set_option maxHeartbeats 4000000 in
set_option maxRecDepth 100000 in
theorem c_RR_readFeast (l : Launch) (D : va_G) (k : Nat → ClassId) (sz : Nat) (h0 b0 g0 n0 e0 z0 t0 l0 : Nat) (tx : Nat → Int) (n : Nat) (pl : Int) (fr : Int) (to1 : Int) (kd : Int) (f1 : Int) (s1 : Int) (hn : n ≤ 100) (hpl : 0 ≤ pl ∧ pl ≤ (n : Int)) (htx : ∀ j, 0 ≤ tx j ∧ tx j ≤ 65535) : Met l y_RR_readFeast wd_RR_readFeast rm_RR_readFeast (va_Pc [.ref h0] (PRW D k [(h0, .inr (6, [.ref b0, .ref g0, .ref n0, .ref e0, .ref z0, .ref t0, .int (iI ((n : Int))), .int (iI (pl)), .int (iI (fr)), .int (iI (to1))])), (t0, .inl (k 2, 100, .inl (aZ (tx)))), (b0, .inr (2, [.ref l0, .int (iI (kd)), .int (iI (f1)), .int (iI (s1))]))] sz)) (va_Qi (fun (r : Int32) (u : Unit) => r = (bI ((ftF tx n pl kd f1 s1).1))) (fun _ t => BRW D [(h0, .inr (6, [.ref b0, .ref g0, .ref n0, .ref e0, .ref z0, .ref t0, .int (iI ((n : Int))), .int (iI (pl)), .int (iI (fr)), .int (iI (to1))])), (t0, .inl (k 2, 100, .inl (aZ (tx)))), (b0, .inr (2, [.ref l0, .int (iI (kd)), .int (iI (f1)), .int (iI (s1))]))] sz [(h0, .inr (6, [.ref b0, .ref g0, .ref n0, .ref e0, .ref z0, .ref t0, .int (iI ((n : Int))), .int (iI ((ftF tx n pl kd f1 s1).2.1)), .int (iI (fr)), .int (iI (to1))])), (t0, .inl (k 2, 100, .inl (aZ (tx)))), (b0, .inr (2, [.ref l0, .int (iI ((ftF tx n pl kd f1 s1).2.2.1)), .int (iI ((ftF tx n pl kd f1 s1).2.2.2.1)), .int (iI ((ftF tx n pl kd f1 s1).2.2.2.2))]))] t) (va_A [(h0, .inr (6, [.ref b0, .ref g0, .ref n0, .ref e0, .ref z0, .ref t0, .int (iI ((n : Int))), .int (iI (pl)), .int (iI (fr)), .int (iI (to1))])), (t0, .inl (k 2, 100, .inl (aZ (tx)))), (b0, .inr (2, [.ref l0, .int (iI (kd)), .int (iI (f1)), .int (iI (s1))]))] sz)) 0 0 (va_A [(h0, .inr (6, [.ref b0, .ref g0, .ref n0, .ref e0, .ref z0, .ref t0, .int (iI ((n : Int))), .int (iI (pl)), .int (iI (fr)), .int (iI (to1))])), (t0, .inl (k 2, 100, .inl (aZ (tx)))), (b0, .inr (2, [.ref l0, .int (iI (kd)), .int (iI (f1)), .int (iI (s1))]))] sz) := by
  refine e_z (by decide) rfl (Nat.le_of_ble_eq_true rfl) ?_
  intro p e s m args below meth c Q ls hx hb hml hown hts hpre hl ret
  obtain ⟨hsz, hP, hK, hD0, hX⟩ := hpre
  subst hsz
  have hD := hD0.self (sz := s.heap.size)
  have hA : ∀ q : Nat, s.heap.size ≤ q → (va_A [(h0, .inr (6, [.ref b0, .ref g0, .ref n0, .ref e0, .ref z0, .ref t0, .int (iI ((n : Int))), .int (iI (pl)), .int (iI (fr)), .int (iI (to1))])), (t0, .inl (k 2, 100, .inl (aZ (tx)))), (b0, .inr (2, [.ref l0, .int (iI (kd)), .int (iI (f1)), .int (iI (s1))]))] s.heap.size) q := fun q h => Or.inr h
  have hS : va_S (va_A [(h0, .inr (6, [.ref b0, .ref g0, .ref n0, .ref e0, .ref z0, .ref t0, .int (iI ((n : Int))), .int (iI (pl)), .int (iI (fr)), .int (iI (to1))])), (t0, .inl (k 2, 100, .inl (aZ (tx)))), (b0, .inr (2, [.ref l0, .int (iI (kd)), .int (iI (f1)), .int (iI (s1))]))] s.heap.size) s.heap s.heap [] := va_S.rf
  have hl : lv_has ls 3 [(0, .ref h0)] := hl
  refine lv_aload_n hx hb d_RR_readFeast_0 rfl (lv_at hl 0 rfl) ?_
  refine z_bipush hx hb d_RR_readFeast_1 (by decide) ?_
  have hPc := hP.sub (ws' := [(h0, .inr (6, [.ref b0, .ref g0, .ref n0, .ref e0, .ref z0, .ref t0, .int (iI ((n : Int))), .int (iI (pl)), .int (iI (fr)), .int (iI (to1))])), (t0, .inl (k 2, 100, .inl (aZ (tx))))]) [0, 1] rfl
  have hDc := hD.sub (ws' := [(h0, .inr (6, [.ref b0, .ref g0, .ref n0, .ref e0, .ref z0, .ref t0, .int (iI ((n : Int))), .int (iI (pl)), .int (iI (fr)), .int (iI (to1))])), (t0, .inl (k 2, 100, .inl (aZ (tx))))]) [0, 1] (by decide) rfl
  have hFc := va_free (wc := [(h0, .inr (6, [.ref b0, .ref g0, .ref n0, .ref e0, .ref z0, .ref t0, .int (iI ((n : Int))), .int (iI (pl)), .int (iI (fr)), .int (iI (to1))])), (t0, .inl (k 2, 100, .inl (aZ (tx))))]) hD hS hA [0, 1] rfl
  refine va_calli (va_runV (As := [.int (iI (43))]) (rest := []) (b := h0) ⟨hx, hb, hml, hown, hts⟩ (c_RR_take l D k s.heap.size (h0) (b0) (g0) (n0) (e0) (z0) (t0) (tx) (n) (pl) (fr) (to1) (43) (hn) ((by omega)) (htx) ((by omega))) ⟨callB_of 1 hts (good_RR_take) rfl rfl rfl (hts _ k_62) (hts _ k_424) (by decide +kernel) ⟨Nat.le_of_ble_eq_true rfl, Nat.le_of_ble_eq_true rfl⟩, (hts _ k_426), (hts _ k_4)⟩ ⟨fun a U g mk q => ⟨q.1, q.2.1, q.2.2.1, va_K.moved (u := U) (U := U.calling g mk a) (Vm.Alike.refl U.vm) q.2.2.2.1, q.2.2.2.2.1, q.2.2.2.2.2.calling⟩, (va_recv (q0 := 0) hK hP rfl rfl), fun U hU hW => ⟨rfl, by rw [hU], by rw [hU]; exact hPc, va_K.moved hW.alike hK, hDc.weaken (fun _ _ _ _ => trivial), by rw [hU]; exact (hX.mono hS hFc).warm hW⟩⟩ rfl rfl hl.1 rfl (lv_room (Nat.le_of_ble_eq_true rfl)) d_RR_readFeast_3 ⟨Nat.le_of_ble_eq_true rfl, Nat.le_of_ble_eq_true rfl⟩) hS (fun q _ h => hFc q h) hFc (fun xr_1 xu_2 t H1 locs ht hvm h_xr_1 hB hz1 hk1 hS => ?_)
  obtain ⟨hP1, hD1⟩ := hB
  rw [ht] at hP1
  obtain ⟨hP, hD⟩ := va_join (wr := [(b0, .inr (2, [.ref l0, .int (iI (kd)), .int (iI (f1)), .int (iI (s1))]))]) (w1 := [(h0, .inr (6, [.ref b0, .ref g0, .ref n0, .ref e0, .ref z0, .ref t0, .int (iI ((n : Int))), .int (iI ((tkF tx n pl 43).2)), .int (iI (fr)), .int (iI (to1))])), (t0, .inl (k 2, 100, .inl (aZ (tx))))]) hP hD [0, 1] [2] rfl rfl (by decide) (by decide) hk1 hFc hP1 hD1
  generalize H1 = H at hP hS ⊢
  have hP := hP.sub (ws' := [(h0, .inr (6, [.ref b0, .ref g0, .ref n0, .ref e0, .ref z0, .ref t0, .int (iI ((n : Int))), .int (iI ((tkF tx n pl 43).2)), .int (iI (fr)), .int (iI (to1))])), (t0, .inl (k 2, 100, .inl (aZ (tx)))), (b0, .inr (2, [.ref l0, .int (iI (kd)), .int (iI (f1)), .int (iI (s1))]))]) [1, 2, 0] rfl
  have hD := hD.sub (ws' := [(h0, .inr (6, [.ref b0, .ref g0, .ref n0, .ref e0, .ref z0, .ref t0, .int (iI ((n : Int))), .int (iI ((tkF tx n pl 43).2)), .int (iI (fr)), .int (iI (to1))])), (t0, .inl (k 2, 100, .inl (aZ (tx)))), (b0, .inr (2, [.ref l0, .int (iI (kd)), .int (iI (f1)), .int (iI (s1))]))]) [1, 2, 0] (by decide) rfl
  subst h_xr_1
  have hbt43_2 := tkF_bd (tx := tx) (pl := pl) (ch := 43) hn (by omega)
  refine lv_istore_n (lv' := [(1, .int (bI ((tkF tx n pl 43).1))), (0, .ref h0)]) hx hb d_RR_readFeast_6 rfl hl (by decide) rfl (fun ls hl => ?_)
  refine lv_iload_n hx hb d_RR_readFeast_7 rfl (lv_at hl 0 rfl) ?_
  refine b_if_ne (tgt := 22) hx hb d_RR_readFeast_8 (by decide) (fun h8 => ?_) (fun h8 => ?_)
  · refine lv_aload_n hx hb d_RR_readFeast_22 rfl (lv_at hl 1 rfl) ?_
    refine z_bipush hx hb d_RR_readFeast_23 (by decide) ?_
    refine z_iconst hx hb d_RR_readFeast_25 ?_
    refine z_bipush hx hb d_RR_readFeast_26 (by decide) ?_
    have hPc := hP.sub (ws' := [(h0, .inr (6, [.ref b0, .ref g0, .ref n0, .ref e0, .ref z0, .ref t0, .int (iI ((n : Int))), .int (iI ((tkF tx n pl 43).2)), .int (iI (fr)), .int (iI (to1))])), (t0, .inl (k 2, 100, .inl (aZ (tx))))]) [0, 1] rfl
    have hDc := hD.sub (ws' := [(h0, .inr (6, [.ref b0, .ref g0, .ref n0, .ref e0, .ref z0, .ref t0, .int (iI ((n : Int))), .int (iI ((tkF tx n pl 43).2)), .int (iI (fr)), .int (iI (to1))])), (t0, .inl (k 2, 100, .inl (aZ (tx))))]) [0, 1] (by decide) rfl
    have hFc := va_free (wc := [(h0, .inr (6, [.ref b0, .ref g0, .ref n0, .ref e0, .ref z0, .ref t0, .int (iI ((n : Int))), .int (iI ((tkF tx n pl 43).2)), .int (iI (fr)), .int (iI (to1))])), (t0, .inl (k 2, 100, .inl (aZ (tx))))]) hD hS hA [0, 1] rfl
    refine va_calli (va_runV (As := [.int (iI (10)), .int (iI (0)), .int (iI (99))]) (rest := []) (b := h0) ⟨hx, hb, hml, hown, hts⟩ (c_RR_takeNumber_10 l D k H.size (h0) (b0) (g0) (n0) (e0) (z0) (t0) (tx) (n) ((tkF tx n pl 43).2) (fr) (to1) (0) (99) (hn) ((by omega)) (htx) ((by omega)) ((by omega))) ⟨callB_of 3 hts (good_RR_takeNumber) rfl rfl rfl (hts _ k_62) (hts _ k_420) (by decide +kernel) ⟨Nat.le_of_ble_eq_true rfl, Nat.le_of_ble_eq_true rfl⟩, (hts _ k_422), (hts _ k_3)⟩ ⟨fun a U g mk q => ⟨q.1, q.2.1, q.2.2.1, va_K.moved (u := U) (U := U.calling g mk a) (Vm.Alike.refl U.vm) q.2.2.2.1, q.2.2.2.2.1, q.2.2.2.2.2.calling⟩, (va_recv (q0 := 0) hK hP rfl rfl), fun U hU hW => ⟨rfl, by rw [hU], by rw [hU]; exact hPc, va_K.moved hW.alike hK, hDc.weaken (fun _ _ _ _ => trivial), by rw [hU]; exact (hX.mono hS hFc).warm hW⟩⟩ rfl rfl hl.1 rfl (lv_room (Nat.le_of_ble_eq_true rfl)) d_RR_readFeast_28 ⟨Nat.le_of_ble_eq_true rfl, Nat.le_of_ble_eq_true rfl⟩) hS (fun q _ h => hFc q h) hFc (fun xr_3 xu_4 t H1 locs ht hvm h_xr_3 hB hz1 hk1 hS => ?_)
    obtain ⟨hP1, hD1⟩ := hB
    rw [ht] at hP1
    obtain ⟨hP, hD⟩ := va_join (wr := [(b0, .inr (2, [.ref l0, .int (iI (kd)), .int (iI (f1)), .int (iI (s1))]))]) (w1 := [(h0, .inr (6, [.ref b0, .ref g0, .ref n0, .ref e0, .ref z0, .ref t0, .int (iI ((n : Int))), .int (iI ((tn10 tx n ((tkF tx n pl 43).2) 0 99).2)), .int (iI (fr)), .int (iI (to1))])), (t0, .inl (k 2, 100, .inl (aZ (tx))))]) hP hD [0, 1] [2] rfl rfl (by decide) (by decide) hk1 hFc hP1 hD1
    generalize H1 = H at hP hS ⊢
    have hP := hP.sub (ws' := [(h0, .inr (6, [.ref b0, .ref g0, .ref n0, .ref e0, .ref z0, .ref t0, .int (iI ((n : Int))), .int (iI ((tn10 tx n ((tkF tx n pl 43).2) 0 99).2)), .int (iI (fr)), .int (iI (to1))])), (t0, .inl (k 2, 100, .inl (aZ (tx)))), (b0, .inr (2, [.ref l0, .int (iI (kd)), .int (iI (f1)), .int (iI (s1))]))]) [1, 2, 0] rfl
    have hD := hD.sub (ws' := [(h0, .inr (6, [.ref b0, .ref g0, .ref n0, .ref e0, .ref z0, .ref t0, .int (iI ((n : Int))), .int (iI ((tn10 tx n ((tkF tx n pl 43).2) 0 99).2)), .int (iI (fr)), .int (iI (to1))])), (t0, .inl (k 2, 100, .inl (aZ (tx)))), (b0, .inr (2, [.ref l0, .int (iI (kd)), .int (iI (f1)), .int (iI (s1))]))]) [1, 2, 0] (by decide) rfl
    subst h_xr_3
    have hbn10_18 := tn10_bd (tx := tx) (pl := (tkF tx n pl 43).2) (lo := 0) (hi := 99) hn (by omega)
    refine lv_istore_n (lv' := [(2, .int (iI ((tn10 tx n ((tkF tx n pl 43).2) 0 99).1))), (1, .int (bI ((tkF tx n pl 43).1))), (0, .ref h0)]) hx hb d_RR_readFeast_31 rfl hl (by decide) rfl (fun ls hl => ?_)
    refine lv_aload_n hx hb d_RR_readFeast_32 rfl (lv_at hl 2 rfl) ?_
    refine va_get (D := D) (ci := 6) (v := .ref b0) (C := R_RR) (T := F_RR) (N := 10) hx hb hts in_RR hown hK hP 0 rfl rfl 0 (by decide) (hts _ k_173) (fun _ h9 => h9) rfl d_RR_readFeast_33 ?_
    refine z_bipush hx hb d_RR_readFeast_36 (by decide) ?_
    refine lv_iload_n hx hb d_RR_readFeast_38 rfl (lv_at hl 1 rfl) ?_
    refine b_if_eq (tgt := 46) hx hb d_RR_readFeast_39 (by decide) (fun h39 => ?_) (fun h39 => ?_)
    · refine lv_iload_n hx hb d_RR_readFeast_46 rfl (lv_at hl 0 rfl) ?_
      refine z_ineg hx hb d_RR_readFeast_47 ?_
      refine z_iconst hx hb d_RR_readFeast_48 ?_
      have hPc := hP.sub (ws' := [(b0, .inr (2, [.ref l0, .int (iI (kd)), .int (iI (f1)), .int (iI (s1))]))]) [2] rfl
      have hDc := hD.sub (ws' := [(b0, .inr (2, [.ref l0, .int (iI (kd)), .int (iI (f1)), .int (iI (s1))]))]) [2] (by decide) rfl
      have hFc := va_free (wc := [(b0, .inr (2, [.ref l0, .int (iI (kd)), .int (iI (f1)), .int (iI (s1))]))]) hD hS hA [2] rfl
      refine va_callv (va_runV (As := [.int (iI (70)), .int (iI (-((tn10 tx n ((tkF tx n pl 43).2) 0 99).1))), .int (iI (0))]) (rest := []) (b := b0) ⟨hx, hb, hml, hown, hts⟩ (c_AT_become l D k H.size (b0) (l0) (kd) (f1) (s1) (70) (-((tn10 tx n ((tkF tx n pl 43).2) 0 99).1)) (0)) ⟨callB_of 3 hts (good_AT_become) rfl rfl rfl (hts _ k_64) (hts _ k_466) (by decide +kernel) ⟨Nat.le_of_ble_eq_true rfl, Nat.le_of_ble_eq_true rfl⟩, (hts _ k_467), (hts _ k_468)⟩ ⟨fun a U g mk q => ⟨q.1, q.2.1, q.2.2.1, va_K.moved (u := U) (U := U.calling g mk a) (Vm.Alike.refl U.vm) q.2.2.2.1, q.2.2.2.2.1, q.2.2.2.2.2.calling⟩, (va_recv (q0 := 2) hK hP rfl rfl), fun U hU hW => ⟨rfl, by rw [hU], by rw [hU]; exact hPc, va_K.moved hW.alike hK, hDc.weaken (fun _ _ _ _ => trivial), by rw [hU]; exact (hX.mono hS hFc).warm hW⟩⟩ rfl rfl hl.1 rfl (lv_room (Nat.le_of_ble_eq_true rfl)) d_RR_readFeast_49 ⟨Nat.le_of_ble_eq_true rfl, Nat.le_of_ble_eq_true rfl⟩) hS (fun q _ h => hFc q h) hFc (fun xu_6 t H1 locs ht hvm h_xr_5 hB hz1 hk1 hS => ?_)
      obtain ⟨hP1, hD1⟩ := hB
      rw [ht] at hP1
      obtain ⟨hP, hD⟩ := va_join (wr := [(h0, .inr (6, [.ref b0, .ref g0, .ref n0, .ref e0, .ref z0, .ref t0, .int (iI ((n : Int))), .int (iI ((tn10 tx n ((tkF tx n pl 43).2) 0 99).2)), .int (iI (fr)), .int (iI (to1))])), (t0, .inl (k 2, 100, .inl (aZ (tx))))]) (w1 := [(b0, .inr (2, [.ref l0, .int (iI (70)), .int (iI ((-((tn10 tx n ((tkF tx n pl 43).2) 0 99).1)))), .int (iI (0))]))]) hP hD [2] [0, 1] rfl rfl (by decide) (by decide) hk1 hFc hP1 hD1
      generalize H1 = H at hP hS ⊢
      have hP := hP.sub (ws' := [(h0, .inr (6, [.ref b0, .ref g0, .ref n0, .ref e0, .ref z0, .ref t0, .int (iI ((n : Int))), .int (iI ((tn10 tx n ((tkF tx n pl 43).2) 0 99).2)), .int (iI (fr)), .int (iI (to1))])), (t0, .inl (k 2, 100, .inl (aZ (tx)))), (b0, .inr (2, [.ref l0, .int (iI (70)), .int (iI ((-((tn10 tx n ((tkF tx n pl 43).2) 0 99).1)))), .int (iI (0))]))]) [0, 1, 2] rfl
      have hD := hD.sub (ws' := [(h0, .inr (6, [.ref b0, .ref g0, .ref n0, .ref e0, .ref z0, .ref t0, .int (iI ((n : Int))), .int (iI ((tn10 tx n ((tkF tx n pl 43).2) 0 99).2)), .int (iI (fr)), .int (iI (to1))])), (t0, .inl (k 2, 100, .inl (aZ (tx)))), (b0, .inr (2, [.ref l0, .int (iI (70)), .int (iI ((-((tn10 tx n ((tkF tx n pl 43).2) 0 99).1)))), .int (iI (0))]))]) [0, 1, 2] (by decide) rfl
      refine lv_iload_n hx hb d_RR_readFeast_52 rfl (lv_at hl 0 rfl) ?_
      refine z_iconst hx hb d_RR_readFeast_53 ?_
      refine z_icmp_eq (tgt := 61) hx hb d_RR_readFeast_54 (by decide) ⟨by omega, by omega⟩ ⟨by omega, by omega⟩ (fun h54 => ?_) (fun h54 => ?_)
      · refine z_iconst hx hb d_RR_readFeast_61 ?_
        have e9 : ftF tx n pl kd f1 s1 = (false, (tn10 tx n ((tkF tx n pl 43).2) 0 99).2, 70, (-((tn10 tx n ((tkF tx n pl 43).2) 0 99).1)), 0) := by unfold ftF; rw [if_pos h8, if_neg (Bool.eq_false_iff.mp h39), if_pos h54]
        exact ret _ _ _ 62 false () d_RR_readFeast_62 hS ((congrArg (fun q9 => bI q9.1) e9).symm) (fun t ht _ => ⟨by rw [e9, ht]; exact hP, by rw [e9]; exact hD⟩)
      · refine z_iconst hx hb d_RR_readFeast_57 ?_
        refine lv_goto (tgt := 62) hx hb d_RR_readFeast_58 (by decide) ?_
        have e9 : ftF tx n pl kd f1 s1 = (true, (tn10 tx n ((tkF tx n pl 43).2) 0 99).2, 70, (-((tn10 tx n ((tkF tx n pl 43).2) 0 99).1)), 0) := by unfold ftF; rw [if_pos h8, if_neg (Bool.eq_false_iff.mp h39), if_neg h54]
        exact ret _ _ _ 62 true () d_RR_readFeast_62 hS ((congrArg (fun q9 => bI q9.1) e9).symm) (fun t ht _ => ⟨by rw [e9, ht]; exact hP, by rw [e9]; exact hD⟩)
    · refine lv_iload_n hx hb d_RR_readFeast_42 rfl (lv_at hl 0 rfl) ?_
      refine lv_goto (tgt := 48) hx hb d_RR_readFeast_43 (by decide) ?_
      refine z_iconst hx hb d_RR_readFeast_48 ?_
      have hPc := hP.sub (ws' := [(b0, .inr (2, [.ref l0, .int (iI (kd)), .int (iI (f1)), .int (iI (s1))]))]) [2] rfl
      have hDc := hD.sub (ws' := [(b0, .inr (2, [.ref l0, .int (iI (kd)), .int (iI (f1)), .int (iI (s1))]))]) [2] (by decide) rfl
      have hFc := va_free (wc := [(b0, .inr (2, [.ref l0, .int (iI (kd)), .int (iI (f1)), .int (iI (s1))]))]) hD hS hA [2] rfl
      refine va_callv (va_runV (As := [.int (iI (70)), .int (iI ((tn10 tx n ((tkF tx n pl 43).2) 0 99).1)), .int (iI (0))]) (rest := []) (b := b0) ⟨hx, hb, hml, hown, hts⟩ (c_AT_become l D k H.size (b0) (l0) (kd) (f1) (s1) (70) ((tn10 tx n ((tkF tx n pl 43).2) 0 99).1) (0)) ⟨callB_of 3 hts (good_AT_become) rfl rfl rfl (hts _ k_64) (hts _ k_466) (by decide +kernel) ⟨Nat.le_of_ble_eq_true rfl, Nat.le_of_ble_eq_true rfl⟩, (hts _ k_467), (hts _ k_468)⟩ ⟨fun a U g mk q => ⟨q.1, q.2.1, q.2.2.1, va_K.moved (u := U) (U := U.calling g mk a) (Vm.Alike.refl U.vm) q.2.2.2.1, q.2.2.2.2.1, q.2.2.2.2.2.calling⟩, (va_recv (q0 := 2) hK hP rfl rfl), fun U hU hW => ⟨rfl, by rw [hU], by rw [hU]; exact hPc, va_K.moved hW.alike hK, hDc.weaken (fun _ _ _ _ => trivial), by rw [hU]; exact (hX.mono hS hFc).warm hW⟩⟩ rfl rfl hl.1 rfl (lv_room (Nat.le_of_ble_eq_true rfl)) d_RR_readFeast_49 ⟨Nat.le_of_ble_eq_true rfl, Nat.le_of_ble_eq_true rfl⟩) hS (fun q _ h => hFc q h) hFc (fun xu_8 t H1 locs ht hvm h_xr_7 hB hz1 hk1 hS => ?_)
      obtain ⟨hP1, hD1⟩ := hB
      rw [ht] at hP1
      obtain ⟨hP, hD⟩ := va_join (wr := [(h0, .inr (6, [.ref b0, .ref g0, .ref n0, .ref e0, .ref z0, .ref t0, .int (iI ((n : Int))), .int (iI ((tn10 tx n ((tkF tx n pl 43).2) 0 99).2)), .int (iI (fr)), .int (iI (to1))])), (t0, .inl (k 2, 100, .inl (aZ (tx))))]) (w1 := [(b0, .inr (2, [.ref l0, .int (iI (70)), .int (iI (((tn10 tx n ((tkF tx n pl 43).2) 0 99).1))), .int (iI (0))]))]) hP hD [2] [0, 1] rfl rfl (by decide) (by decide) hk1 hFc hP1 hD1
      generalize H1 = H at hP hS ⊢
      have hP := hP.sub (ws' := [(h0, .inr (6, [.ref b0, .ref g0, .ref n0, .ref e0, .ref z0, .ref t0, .int (iI ((n : Int))), .int (iI ((tn10 tx n ((tkF tx n pl 43).2) 0 99).2)), .int (iI (fr)), .int (iI (to1))])), (t0, .inl (k 2, 100, .inl (aZ (tx)))), (b0, .inr (2, [.ref l0, .int (iI (70)), .int (iI (((tn10 tx n ((tkF tx n pl 43).2) 0 99).1))), .int (iI (0))]))]) [0, 1, 2] rfl
      have hD := hD.sub (ws' := [(h0, .inr (6, [.ref b0, .ref g0, .ref n0, .ref e0, .ref z0, .ref t0, .int (iI ((n : Int))), .int (iI ((tn10 tx n ((tkF tx n pl 43).2) 0 99).2)), .int (iI (fr)), .int (iI (to1))])), (t0, .inl (k 2, 100, .inl (aZ (tx)))), (b0, .inr (2, [.ref l0, .int (iI (70)), .int (iI (((tn10 tx n ((tkF tx n pl 43).2) 0 99).1))), .int (iI (0))]))]) [0, 1, 2] (by decide) rfl
      refine lv_iload_n hx hb d_RR_readFeast_52 rfl (lv_at hl 0 rfl) ?_
      refine z_iconst hx hb d_RR_readFeast_53 ?_
      refine z_icmp_eq (tgt := 61) hx hb d_RR_readFeast_54 (by decide) ⟨by omega, by omega⟩ ⟨by omega, by omega⟩ (fun h54 => ?_) (fun h54 => ?_)
      · refine z_iconst hx hb d_RR_readFeast_61 ?_
        have e9 : ftF tx n pl kd f1 s1 = (false, (tn10 tx n ((tkF tx n pl 43).2) 0 99).2, 70, ((tn10 tx n ((tkF tx n pl 43).2) 0 99).1), 0) := by unfold ftF; rw [if_pos h8, if_pos h39, if_pos h54]
        exact ret _ _ _ 62 false () d_RR_readFeast_62 hS ((congrArg (fun q9 => bI q9.1) e9).symm) (fun t ht _ => ⟨by rw [e9, ht]; exact hP, by rw [e9]; exact hD⟩)
      · refine z_iconst hx hb d_RR_readFeast_57 ?_
        refine lv_goto (tgt := 62) hx hb d_RR_readFeast_58 (by decide) ?_
        have e9 : ftF tx n pl kd f1 s1 = (true, (tn10 tx n ((tkF tx n pl 43).2) 0 99).2, 70, ((tn10 tx n ((tkF tx n pl 43).2) 0 99).1), 0) := by unfold ftF; rw [if_pos h8, if_pos h39, if_neg h54]
        exact ret _ _ _ 62 true () d_RR_readFeast_62 hS ((congrArg (fun q9 => bI q9.1) e9).symm) (fun t ht _ => ⟨by rw [e9, ht]; exact hP, by rw [e9]; exact hD⟩)
  · refine lv_aload_n hx hb d_RR_readFeast_11 rfl (lv_at hl 1 rfl) ?_
    refine z_bipush hx hb d_RR_readFeast_12 (by decide) ?_
    have hPc := hP.sub (ws' := [(h0, .inr (6, [.ref b0, .ref g0, .ref n0, .ref e0, .ref z0, .ref t0, .int (iI ((n : Int))), .int (iI ((tkF tx n pl 43).2)), .int (iI (fr)), .int (iI (to1))])), (t0, .inl (k 2, 100, .inl (aZ (tx))))]) [0, 1] rfl
    have hDc := hD.sub (ws' := [(h0, .inr (6, [.ref b0, .ref g0, .ref n0, .ref e0, .ref z0, .ref t0, .int (iI ((n : Int))), .int (iI ((tkF tx n pl 43).2)), .int (iI (fr)), .int (iI (to1))])), (t0, .inl (k 2, 100, .inl (aZ (tx))))]) [0, 1] (by decide) rfl
    have hFc := va_free (wc := [(h0, .inr (6, [.ref b0, .ref g0, .ref n0, .ref e0, .ref z0, .ref t0, .int (iI ((n : Int))), .int (iI ((tkF tx n pl 43).2)), .int (iI (fr)), .int (iI (to1))])), (t0, .inl (k 2, 100, .inl (aZ (tx))))]) hD hS hA [0, 1] rfl
    refine va_calli (va_runV (As := [.int (iI (45))]) (rest := []) (b := h0) ⟨hx, hb, hml, hown, hts⟩ (c_RR_take l D k H.size (h0) (b0) (g0) (n0) (e0) (z0) (t0) (tx) (n) ((tkF tx n pl 43).2) (fr) (to1) (45) (hn) ((by omega)) (htx) ((by omega))) ⟨callB_of 1 hts (good_RR_take) rfl rfl rfl (hts _ k_62) (hts _ k_424) (by decide +kernel) ⟨Nat.le_of_ble_eq_true rfl, Nat.le_of_ble_eq_true rfl⟩, (hts _ k_426), (hts _ k_4)⟩ ⟨fun a U g mk q => ⟨q.1, q.2.1, q.2.2.1, va_K.moved (u := U) (U := U.calling g mk a) (Vm.Alike.refl U.vm) q.2.2.2.1, q.2.2.2.2.1, q.2.2.2.2.2.calling⟩, (va_recv (q0 := 0) hK hP rfl rfl), fun U hU hW => ⟨rfl, by rw [hU], by rw [hU]; exact hPc, va_K.moved hW.alike hK, hDc.weaken (fun _ _ _ _ => trivial), by rw [hU]; exact (hX.mono hS hFc).warm hW⟩⟩ rfl rfl hl.1 rfl (lv_room (Nat.le_of_ble_eq_true rfl)) d_RR_readFeast_14 ⟨Nat.le_of_ble_eq_true rfl, Nat.le_of_ble_eq_true rfl⟩) hS (fun q _ h => hFc q h) hFc (fun xr_9 xu_10 t H1 locs ht hvm h_xr_9 hB hz1 hk1 hS => ?_)
    obtain ⟨hP1, hD1⟩ := hB
    rw [ht] at hP1
    obtain ⟨hP, hD⟩ := va_join (wr := [(b0, .inr (2, [.ref l0, .int (iI (kd)), .int (iI (f1)), .int (iI (s1))]))]) (w1 := [(h0, .inr (6, [.ref b0, .ref g0, .ref n0, .ref e0, .ref z0, .ref t0, .int (iI ((n : Int))), .int (iI ((tkF tx n ((tkF tx n pl 43).2) 45).2)), .int (iI (fr)), .int (iI (to1))])), (t0, .inl (k 2, 100, .inl (aZ (tx))))]) hP hD [0, 1] [2] rfl rfl (by decide) (by decide) hk1 hFc hP1 hD1
    generalize H1 = H at hP hS ⊢
    have hP := hP.sub (ws' := [(h0, .inr (6, [.ref b0, .ref g0, .ref n0, .ref e0, .ref z0, .ref t0, .int (iI ((n : Int))), .int (iI ((tkF tx n ((tkF tx n pl 43).2) 45).2)), .int (iI (fr)), .int (iI (to1))])), (t0, .inl (k 2, 100, .inl (aZ (tx)))), (b0, .inr (2, [.ref l0, .int (iI (kd)), .int (iI (f1)), .int (iI (s1))]))]) [1, 2, 0] rfl
    have hD := hD.sub (ws' := [(h0, .inr (6, [.ref b0, .ref g0, .ref n0, .ref e0, .ref z0, .ref t0, .int (iI ((n : Int))), .int (iI ((tkF tx n ((tkF tx n pl 43).2) 45).2)), .int (iI (fr)), .int (iI (to1))])), (t0, .inl (k 2, 100, .inl (aZ (tx)))), (b0, .inr (2, [.ref l0, .int (iI (kd)), .int (iI (f1)), .int (iI (s1))]))]) [1, 2, 0] (by decide) rfl
    subst h_xr_9
    have hbt45_18 := tkF_bd (tx := tx) (pl := (tkF tx n pl 43).2) (ch := 45) hn (by omega)
    refine b_if_ne (tgt := 22) hx hb d_RR_readFeast_17 (by decide) (fun h17 => ?_) (fun h17 => ?_)
    · refine lv_aload_n hx hb d_RR_readFeast_22 rfl (lv_at hl 1 rfl) ?_
      refine z_bipush hx hb d_RR_readFeast_23 (by decide) ?_
      refine z_iconst hx hb d_RR_readFeast_25 ?_
      refine z_bipush hx hb d_RR_readFeast_26 (by decide) ?_
      have hPc := hP.sub (ws' := [(h0, .inr (6, [.ref b0, .ref g0, .ref n0, .ref e0, .ref z0, .ref t0, .int (iI ((n : Int))), .int (iI ((tkF tx n ((tkF tx n pl 43).2) 45).2)), .int (iI (fr)), .int (iI (to1))])), (t0, .inl (k 2, 100, .inl (aZ (tx))))]) [0, 1] rfl
      have hDc := hD.sub (ws' := [(h0, .inr (6, [.ref b0, .ref g0, .ref n0, .ref e0, .ref z0, .ref t0, .int (iI ((n : Int))), .int (iI ((tkF tx n ((tkF tx n pl 43).2) 45).2)), .int (iI (fr)), .int (iI (to1))])), (t0, .inl (k 2, 100, .inl (aZ (tx))))]) [0, 1] (by decide) rfl
      have hFc := va_free (wc := [(h0, .inr (6, [.ref b0, .ref g0, .ref n0, .ref e0, .ref z0, .ref t0, .int (iI ((n : Int))), .int (iI ((tkF tx n ((tkF tx n pl 43).2) 45).2)), .int (iI (fr)), .int (iI (to1))])), (t0, .inl (k 2, 100, .inl (aZ (tx))))]) hD hS hA [0, 1] rfl
      refine va_calli (va_runV (As := [.int (iI (10)), .int (iI (0)), .int (iI (99))]) (rest := []) (b := h0) ⟨hx, hb, hml, hown, hts⟩ (c_RR_takeNumber_10 l D k H.size (h0) (b0) (g0) (n0) (e0) (z0) (t0) (tx) (n) ((tkF tx n ((tkF tx n pl 43).2) 45).2) (fr) (to1) (0) (99) (hn) ((by omega)) (htx) ((by omega)) ((by omega))) ⟨callB_of 3 hts (good_RR_takeNumber) rfl rfl rfl (hts _ k_62) (hts _ k_420) (by decide +kernel) ⟨Nat.le_of_ble_eq_true rfl, Nat.le_of_ble_eq_true rfl⟩, (hts _ k_422), (hts _ k_3)⟩ ⟨fun a U g mk q => ⟨q.1, q.2.1, q.2.2.1, va_K.moved (u := U) (U := U.calling g mk a) (Vm.Alike.refl U.vm) q.2.2.2.1, q.2.2.2.2.1, q.2.2.2.2.2.calling⟩, (va_recv (q0 := 0) hK hP rfl rfl), fun U hU hW => ⟨rfl, by rw [hU], by rw [hU]; exact hPc, va_K.moved hW.alike hK, hDc.weaken (fun _ _ _ _ => trivial), by rw [hU]; exact (hX.mono hS hFc).warm hW⟩⟩ rfl rfl hl.1 rfl (lv_room (Nat.le_of_ble_eq_true rfl)) d_RR_readFeast_28 ⟨Nat.le_of_ble_eq_true rfl, Nat.le_of_ble_eq_true rfl⟩) hS (fun q _ h => hFc q h) hFc (fun xr_11 xu_12 t H1 locs ht hvm h_xr_11 hB hz1 hk1 hS => ?_)
      obtain ⟨hP1, hD1⟩ := hB
      rw [ht] at hP1
      obtain ⟨hP, hD⟩ := va_join (wr := [(b0, .inr (2, [.ref l0, .int (iI (kd)), .int (iI (f1)), .int (iI (s1))]))]) (w1 := [(h0, .inr (6, [.ref b0, .ref g0, .ref n0, .ref e0, .ref z0, .ref t0, .int (iI ((n : Int))), .int (iI ((tn10 tx n ((tkF tx n ((tkF tx n pl 43).2) 45).2) 0 99).2)), .int (iI (fr)), .int (iI (to1))])), (t0, .inl (k 2, 100, .inl (aZ (tx))))]) hP hD [0, 1] [2] rfl rfl (by decide) (by decide) hk1 hFc hP1 hD1
      generalize H1 = H at hP hS ⊢
      have hP := hP.sub (ws' := [(h0, .inr (6, [.ref b0, .ref g0, .ref n0, .ref e0, .ref z0, .ref t0, .int (iI ((n : Int))), .int (iI ((tn10 tx n ((tkF tx n ((tkF tx n pl 43).2) 45).2) 0 99).2)), .int (iI (fr)), .int (iI (to1))])), (t0, .inl (k 2, 100, .inl (aZ (tx)))), (b0, .inr (2, [.ref l0, .int (iI (kd)), .int (iI (f1)), .int (iI (s1))]))]) [1, 2, 0] rfl
      have hD := hD.sub (ws' := [(h0, .inr (6, [.ref b0, .ref g0, .ref n0, .ref e0, .ref z0, .ref t0, .int (iI ((n : Int))), .int (iI ((tn10 tx n ((tkF tx n ((tkF tx n pl 43).2) 45).2) 0 99).2)), .int (iI (fr)), .int (iI (to1))])), (t0, .inl (k 2, 100, .inl (aZ (tx)))), (b0, .inr (2, [.ref l0, .int (iI (kd)), .int (iI (f1)), .int (iI (s1))]))]) [1, 2, 0] (by decide) rfl
      subst h_xr_11
      have hbn10_36 := tn10_bd (tx := tx) (pl := (tkF tx n ((tkF tx n pl 43).2) 45).2) (lo := 0) (hi := 99) hn (by omega)
      refine lv_istore_n (lv' := [(2, .int (iI ((tn10 tx n ((tkF tx n ((tkF tx n pl 43).2) 45).2) 0 99).1))), (1, .int (bI ((tkF tx n pl 43).1))), (0, .ref h0)]) hx hb d_RR_readFeast_31 rfl hl (by decide) rfl (fun ls hl => ?_)
      refine lv_aload_n hx hb d_RR_readFeast_32 rfl (lv_at hl 2 rfl) ?_
      refine va_get (D := D) (ci := 6) (v := .ref b0) (C := R_RR) (T := F_RR) (N := 10) hx hb hts in_RR hown hK hP 0 rfl rfl 0 (by decide) (hts _ k_173) (fun _ h9 => h9) rfl d_RR_readFeast_33 ?_
      refine z_bipush hx hb d_RR_readFeast_36 (by decide) ?_
      refine lv_iload_n hx hb d_RR_readFeast_38 rfl (lv_at hl 1 rfl) ?_
      refine b_if_eq (tgt := 46) hx hb d_RR_readFeast_39 (by decide) (fun h39 => ?_) (fun h39 => ?_)
      · refine lv_iload_n hx hb d_RR_readFeast_46 rfl (lv_at hl 0 rfl) ?_
        refine z_ineg hx hb d_RR_readFeast_47 ?_
        refine z_iconst hx hb d_RR_readFeast_48 ?_
        have hPc := hP.sub (ws' := [(b0, .inr (2, [.ref l0, .int (iI (kd)), .int (iI (f1)), .int (iI (s1))]))]) [2] rfl
        have hDc := hD.sub (ws' := [(b0, .inr (2, [.ref l0, .int (iI (kd)), .int (iI (f1)), .int (iI (s1))]))]) [2] (by decide) rfl
        have hFc := va_free (wc := [(b0, .inr (2, [.ref l0, .int (iI (kd)), .int (iI (f1)), .int (iI (s1))]))]) hD hS hA [2] rfl
        refine va_callv (va_runV (As := [.int (iI (70)), .int (iI (-((tn10 tx n ((tkF tx n ((tkF tx n pl 43).2) 45).2) 0 99).1))), .int (iI (0))]) (rest := []) (b := b0) ⟨hx, hb, hml, hown, hts⟩ (c_AT_become l D k H.size (b0) (l0) (kd) (f1) (s1) (70) (-((tn10 tx n ((tkF tx n ((tkF tx n pl 43).2) 45).2) 0 99).1)) (0)) ⟨callB_of 3 hts (good_AT_become) rfl rfl rfl (hts _ k_64) (hts _ k_466) (by decide +kernel) ⟨Nat.le_of_ble_eq_true rfl, Nat.le_of_ble_eq_true rfl⟩, (hts _ k_467), (hts _ k_468)⟩ ⟨fun a U g mk q => ⟨q.1, q.2.1, q.2.2.1, va_K.moved (u := U) (U := U.calling g mk a) (Vm.Alike.refl U.vm) q.2.2.2.1, q.2.2.2.2.1, q.2.2.2.2.2.calling⟩, (va_recv (q0 := 2) hK hP rfl rfl), fun U hU hW => ⟨rfl, by rw [hU], by rw [hU]; exact hPc, va_K.moved hW.alike hK, hDc.weaken (fun _ _ _ _ => trivial), by rw [hU]; exact (hX.mono hS hFc).warm hW⟩⟩ rfl rfl hl.1 rfl (lv_room (Nat.le_of_ble_eq_true rfl)) d_RR_readFeast_49 ⟨Nat.le_of_ble_eq_true rfl, Nat.le_of_ble_eq_true rfl⟩) hS (fun q _ h => hFc q h) hFc (fun xu_14 t H1 locs ht hvm h_xr_13 hB hz1 hk1 hS => ?_)
        obtain ⟨hP1, hD1⟩ := hB
        rw [ht] at hP1
        obtain ⟨hP, hD⟩ := va_join (wr := [(h0, .inr (6, [.ref b0, .ref g0, .ref n0, .ref e0, .ref z0, .ref t0, .int (iI ((n : Int))), .int (iI ((tn10 tx n ((tkF tx n ((tkF tx n pl 43).2) 45).2) 0 99).2)), .int (iI (fr)), .int (iI (to1))])), (t0, .inl (k 2, 100, .inl (aZ (tx))))]) (w1 := [(b0, .inr (2, [.ref l0, .int (iI (70)), .int (iI ((-((tn10 tx n ((tkF tx n ((tkF tx n pl 43).2) 45).2) 0 99).1)))), .int (iI (0))]))]) hP hD [2] [0, 1] rfl rfl (by decide) (by decide) hk1 hFc hP1 hD1
        generalize H1 = H at hP hS ⊢
        have hP := hP.sub (ws' := [(h0, .inr (6, [.ref b0, .ref g0, .ref n0, .ref e0, .ref z0, .ref t0, .int (iI ((n : Int))), .int (iI ((tn10 tx n ((tkF tx n ((tkF tx n pl 43).2) 45).2) 0 99).2)), .int (iI (fr)), .int (iI (to1))])), (t0, .inl (k 2, 100, .inl (aZ (tx)))), (b0, .inr (2, [.ref l0, .int (iI (70)), .int (iI ((-((tn10 tx n ((tkF tx n ((tkF tx n pl 43).2) 45).2) 0 99).1)))), .int (iI (0))]))]) [0, 1, 2] rfl
        have hD := hD.sub (ws' := [(h0, .inr (6, [.ref b0, .ref g0, .ref n0, .ref e0, .ref z0, .ref t0, .int (iI ((n : Int))), .int (iI ((tn10 tx n ((tkF tx n ((tkF tx n pl 43).2) 45).2) 0 99).2)), .int (iI (fr)), .int (iI (to1))])), (t0, .inl (k 2, 100, .inl (aZ (tx)))), (b0, .inr (2, [.ref l0, .int (iI (70)), .int (iI ((-((tn10 tx n ((tkF tx n ((tkF tx n pl 43).2) 45).2) 0 99).1)))), .int (iI (0))]))]) [0, 1, 2] (by decide) rfl
        refine lv_iload_n hx hb d_RR_readFeast_52 rfl (lv_at hl 0 rfl) ?_
        refine z_iconst hx hb d_RR_readFeast_53 ?_
        refine z_icmp_eq (tgt := 61) hx hb d_RR_readFeast_54 (by decide) ⟨by omega, by omega⟩ ⟨by omega, by omega⟩ (fun h54 => ?_) (fun h54 => ?_)
        · refine z_iconst hx hb d_RR_readFeast_61 ?_
          have e9 : ftF tx n pl kd f1 s1 = (false, (tn10 tx n ((tkF tx n ((tkF tx n pl 43).2) 45).2) 0 99).2, 70, (-((tn10 tx n ((tkF tx n ((tkF tx n pl 43).2) 45).2) 0 99).1)), 0) := by unfold ftF; rw [if_neg (Bool.eq_false_iff.mp h8), if_pos h17, if_neg (Bool.eq_false_iff.mp h39), if_pos h54]
          exact ret _ _ _ 62 false () d_RR_readFeast_62 hS ((congrArg (fun q9 => bI q9.1) e9).symm) (fun t ht _ => ⟨by rw [e9, ht]; exact hP, by rw [e9]; exact hD⟩)
        · refine z_iconst hx hb d_RR_readFeast_57 ?_
          refine lv_goto (tgt := 62) hx hb d_RR_readFeast_58 (by decide) ?_
          have e9 : ftF tx n pl kd f1 s1 = (true, (tn10 tx n ((tkF tx n ((tkF tx n pl 43).2) 45).2) 0 99).2, 70, (-((tn10 tx n ((tkF tx n ((tkF tx n pl 43).2) 45).2) 0 99).1)), 0) := by unfold ftF; rw [if_neg (Bool.eq_false_iff.mp h8), if_pos h17, if_neg (Bool.eq_false_iff.mp h39), if_neg h54]
          exact ret _ _ _ 62 true () d_RR_readFeast_62 hS ((congrArg (fun q9 => bI q9.1) e9).symm) (fun t ht _ => ⟨by rw [e9, ht]; exact hP, by rw [e9]; exact hD⟩)
      · refine lv_iload_n hx hb d_RR_readFeast_42 rfl (lv_at hl 0 rfl) ?_
        refine lv_goto (tgt := 48) hx hb d_RR_readFeast_43 (by decide) ?_
        refine z_iconst hx hb d_RR_readFeast_48 ?_
        have hPc := hP.sub (ws' := [(b0, .inr (2, [.ref l0, .int (iI (kd)), .int (iI (f1)), .int (iI (s1))]))]) [2] rfl
        have hDc := hD.sub (ws' := [(b0, .inr (2, [.ref l0, .int (iI (kd)), .int (iI (f1)), .int (iI (s1))]))]) [2] (by decide) rfl
        have hFc := va_free (wc := [(b0, .inr (2, [.ref l0, .int (iI (kd)), .int (iI (f1)), .int (iI (s1))]))]) hD hS hA [2] rfl
        refine va_callv (va_runV (As := [.int (iI (70)), .int (iI ((tn10 tx n ((tkF tx n ((tkF tx n pl 43).2) 45).2) 0 99).1)), .int (iI (0))]) (rest := []) (b := b0) ⟨hx, hb, hml, hown, hts⟩ (c_AT_become l D k H.size (b0) (l0) (kd) (f1) (s1) (70) ((tn10 tx n ((tkF tx n ((tkF tx n pl 43).2) 45).2) 0 99).1) (0)) ⟨callB_of 3 hts (good_AT_become) rfl rfl rfl (hts _ k_64) (hts _ k_466) (by decide +kernel) ⟨Nat.le_of_ble_eq_true rfl, Nat.le_of_ble_eq_true rfl⟩, (hts _ k_467), (hts _ k_468)⟩ ⟨fun a U g mk q => ⟨q.1, q.2.1, q.2.2.1, va_K.moved (u := U) (U := U.calling g mk a) (Vm.Alike.refl U.vm) q.2.2.2.1, q.2.2.2.2.1, q.2.2.2.2.2.calling⟩, (va_recv (q0 := 2) hK hP rfl rfl), fun U hU hW => ⟨rfl, by rw [hU], by rw [hU]; exact hPc, va_K.moved hW.alike hK, hDc.weaken (fun _ _ _ _ => trivial), by rw [hU]; exact (hX.mono hS hFc).warm hW⟩⟩ rfl rfl hl.1 rfl (lv_room (Nat.le_of_ble_eq_true rfl)) d_RR_readFeast_49 ⟨Nat.le_of_ble_eq_true rfl, Nat.le_of_ble_eq_true rfl⟩) hS (fun q _ h => hFc q h) hFc (fun xu_16 t H1 locs ht hvm h_xr_15 hB hz1 hk1 hS => ?_)
        obtain ⟨hP1, hD1⟩ := hB
        rw [ht] at hP1
        obtain ⟨hP, hD⟩ := va_join (wr := [(h0, .inr (6, [.ref b0, .ref g0, .ref n0, .ref e0, .ref z0, .ref t0, .int (iI ((n : Int))), .int (iI ((tn10 tx n ((tkF tx n ((tkF tx n pl 43).2) 45).2) 0 99).2)), .int (iI (fr)), .int (iI (to1))])), (t0, .inl (k 2, 100, .inl (aZ (tx))))]) (w1 := [(b0, .inr (2, [.ref l0, .int (iI (70)), .int (iI (((tn10 tx n ((tkF tx n ((tkF tx n pl 43).2) 45).2) 0 99).1))), .int (iI (0))]))]) hP hD [2] [0, 1] rfl rfl (by decide) (by decide) hk1 hFc hP1 hD1
        generalize H1 = H at hP hS ⊢
        have hP := hP.sub (ws' := [(h0, .inr (6, [.ref b0, .ref g0, .ref n0, .ref e0, .ref z0, .ref t0, .int (iI ((n : Int))), .int (iI ((tn10 tx n ((tkF tx n ((tkF tx n pl 43).2) 45).2) 0 99).2)), .int (iI (fr)), .int (iI (to1))])), (t0, .inl (k 2, 100, .inl (aZ (tx)))), (b0, .inr (2, [.ref l0, .int (iI (70)), .int (iI (((tn10 tx n ((tkF tx n ((tkF tx n pl 43).2) 45).2) 0 99).1))), .int (iI (0))]))]) [0, 1, 2] rfl
        have hD := hD.sub (ws' := [(h0, .inr (6, [.ref b0, .ref g0, .ref n0, .ref e0, .ref z0, .ref t0, .int (iI ((n : Int))), .int (iI ((tn10 tx n ((tkF tx n ((tkF tx n pl 43).2) 45).2) 0 99).2)), .int (iI (fr)), .int (iI (to1))])), (t0, .inl (k 2, 100, .inl (aZ (tx)))), (b0, .inr (2, [.ref l0, .int (iI (70)), .int (iI (((tn10 tx n ((tkF tx n ((tkF tx n pl 43).2) 45).2) 0 99).1))), .int (iI (0))]))]) [0, 1, 2] (by decide) rfl
        refine lv_iload_n hx hb d_RR_readFeast_52 rfl (lv_at hl 0 rfl) ?_
        refine z_iconst hx hb d_RR_readFeast_53 ?_
        refine z_icmp_eq (tgt := 61) hx hb d_RR_readFeast_54 (by decide) ⟨by omega, by omega⟩ ⟨by omega, by omega⟩ (fun h54 => ?_) (fun h54 => ?_)
        · refine z_iconst hx hb d_RR_readFeast_61 ?_
          have e9 : ftF tx n pl kd f1 s1 = (false, (tn10 tx n ((tkF tx n ((tkF tx n pl 43).2) 45).2) 0 99).2, 70, ((tn10 tx n ((tkF tx n ((tkF tx n pl 43).2) 45).2) 0 99).1), 0) := by unfold ftF; rw [if_neg (Bool.eq_false_iff.mp h8), if_pos h17, if_pos h39, if_pos h54]
          exact ret _ _ _ 62 false () d_RR_readFeast_62 hS ((congrArg (fun q9 => bI q9.1) e9).symm) (fun t ht _ => ⟨by rw [e9, ht]; exact hP, by rw [e9]; exact hD⟩)
        · refine z_iconst hx hb d_RR_readFeast_57 ?_
          refine lv_goto (tgt := 62) hx hb d_RR_readFeast_58 (by decide) ?_
          have e9 : ftF tx n pl kd f1 s1 = (true, (tn10 tx n ((tkF tx n ((tkF tx n pl 43).2) 45).2) 0 99).2, 70, ((tn10 tx n ((tkF tx n ((tkF tx n pl 43).2) 45).2) 0 99).1), 0) := by unfold ftF; rw [if_neg (Bool.eq_false_iff.mp h8), if_pos h17, if_pos h39, if_neg h54]
          exact ret _ _ _ 62 true () d_RR_readFeast_62 hS ((congrArg (fun q9 => bI q9.1) e9).symm) (fun t ht _ => ⟨by rw [e9, ht]; exact hP, by rw [e9]; exact hD⟩)
    · refine z_iconst hx hb d_RR_readFeast_20 ?_
      have e9 : ftF tx n pl kd f1 s1 = (false, (tkF tx n ((tkF tx n pl 43).2) 45).2, kd, f1, s1) := by unfold ftF; rw [if_neg (Bool.eq_false_iff.mp h8), if_neg (Bool.eq_false_iff.mp h17)]
      exact ret _ _ _ 21 false () d_RR_readFeast_21 hS ((congrArg (fun q9 => bI q9.1) e9).symm) (fun t ht _ => ⟨by rw [e9, ht]; exact hP, by rw [e9]; exact hD⟩)

def yrF (tx : Nat → Int) (n : Nat) (pl : Int) (kd : Int) (f1 : Int) (s1 : Int) : Bool × Int × Int × Int × Int := (if (tn1000 tx n pl 2000 2003).1 = -1 then (false, (tn1000 tx n pl 2000 2003).2, kd, f1, s1) else (if (tkF tx n ((tn1000 tx n pl 2000 2003).2) 45).1 = true then (if (tn1000 tx n ((tkF tx n ((tn1000 tx n pl 2000 2003).2) 45).2) ((tn1000 tx n pl 2000 2003).1) 2003).1 = -1 then (false, (tn1000 tx n ((tkF tx n ((tn1000 tx n pl 2000 2003).2) 45).2) ((tn1000 tx n pl 2000 2003).1) 2003).2, 89, ((tn1000 tx n pl 2000 2003).1), ((tn1000 tx n ((tkF tx n ((tn1000 tx n pl 2000 2003).2) 45).2) ((tn1000 tx n pl 2000 2003).1) 2003).1)) else (true, (tn1000 tx n ((tkF tx n ((tn1000 tx n pl 2000 2003).2) 45).2) ((tn1000 tx n pl 2000 2003).1) 2003).2, 89, ((tn1000 tx n pl 2000 2003).1), ((tn1000 tx n ((tkF tx n ((tn1000 tx n pl 2000 2003).2) 45).2) ((tn1000 tx n pl 2000 2003).1) 2003).1))) else (false, (tkF tx n ((tn1000 tx n pl 2000 2003).2) 45).2, kd, f1, s1)))
set_option maxHeartbeats 4000000 in
set_option maxRecDepth 100000 in
theorem c_RR_readYears (l : Launch) (D : va_G) (k : Nat → ClassId) (sz : Nat) (h0 b0 g0 n0 e0 z0 t0 l0 : Nat) (tx : Nat → Int) (n : Nat) (pl : Int) (fr : Int) (to1 : Int) (kd : Int) (f1 : Int) (s1 : Int) (hn : n ≤ 100) (hpl : 0 ≤ pl ∧ pl ≤ (n : Int)) (htx : ∀ j, 0 ≤ tx j ∧ tx j ≤ 65535) : Met l y_RR_readYears wd_RR_readYears rm_RR_readYears (va_Pc [.ref h0] (PRW D k [(h0, .inr (6, [.ref b0, .ref g0, .ref n0, .ref e0, .ref z0, .ref t0, .int (iI ((n : Int))), .int (iI (pl)), .int (iI (fr)), .int (iI (to1))])), (t0, .inl (k 2, 100, .inl (aZ (tx)))), (b0, .inr (2, [.ref l0, .int (iI (kd)), .int (iI (f1)), .int (iI (s1))]))] sz)) (va_Qi (fun (r : Int32) (u : Unit) => r = (bI ((yrF tx n pl kd f1 s1).1))) (fun _ t => BRW D [(h0, .inr (6, [.ref b0, .ref g0, .ref n0, .ref e0, .ref z0, .ref t0, .int (iI ((n : Int))), .int (iI (pl)), .int (iI (fr)), .int (iI (to1))])), (t0, .inl (k 2, 100, .inl (aZ (tx)))), (b0, .inr (2, [.ref l0, .int (iI (kd)), .int (iI (f1)), .int (iI (s1))]))] sz [(h0, .inr (6, [.ref b0, .ref g0, .ref n0, .ref e0, .ref z0, .ref t0, .int (iI ((n : Int))), .int (iI ((yrF tx n pl kd f1 s1).2.1)), .int (iI (fr)), .int (iI (to1))])), (t0, .inl (k 2, 100, .inl (aZ (tx)))), (b0, .inr (2, [.ref l0, .int (iI ((yrF tx n pl kd f1 s1).2.2.1)), .int (iI ((yrF tx n pl kd f1 s1).2.2.2.1)), .int (iI ((yrF tx n pl kd f1 s1).2.2.2.2))]))] t) (va_A [(h0, .inr (6, [.ref b0, .ref g0, .ref n0, .ref e0, .ref z0, .ref t0, .int (iI ((n : Int))), .int (iI (pl)), .int (iI (fr)), .int (iI (to1))])), (t0, .inl (k 2, 100, .inl (aZ (tx)))), (b0, .inr (2, [.ref l0, .int (iI (kd)), .int (iI (f1)), .int (iI (s1))]))] sz)) 0 0 (va_A [(h0, .inr (6, [.ref b0, .ref g0, .ref n0, .ref e0, .ref z0, .ref t0, .int (iI ((n : Int))), .int (iI (pl)), .int (iI (fr)), .int (iI (to1))])), (t0, .inl (k 2, 100, .inl (aZ (tx)))), (b0, .inr (2, [.ref l0, .int (iI (kd)), .int (iI (f1)), .int (iI (s1))]))] sz) := by
  refine e_z (by decide) rfl (Nat.le_of_ble_eq_true rfl) ?_
  intro p e s m args below meth c Q ls hx hb hml hown hts hpre hl ret
  obtain ⟨hsz, hP, hK, hD0, hX⟩ := hpre
  subst hsz
  have hD := hD0.self (sz := s.heap.size)
  have hA : ∀ q : Nat, s.heap.size ≤ q → (va_A [(h0, .inr (6, [.ref b0, .ref g0, .ref n0, .ref e0, .ref z0, .ref t0, .int (iI ((n : Int))), .int (iI (pl)), .int (iI (fr)), .int (iI (to1))])), (t0, .inl (k 2, 100, .inl (aZ (tx)))), (b0, .inr (2, [.ref l0, .int (iI (kd)), .int (iI (f1)), .int (iI (s1))]))] s.heap.size) q := fun q h => Or.inr h
  have hS : va_S (va_A [(h0, .inr (6, [.ref b0, .ref g0, .ref n0, .ref e0, .ref z0, .ref t0, .int (iI ((n : Int))), .int (iI (pl)), .int (iI (fr)), .int (iI (to1))])), (t0, .inl (k 2, 100, .inl (aZ (tx)))), (b0, .inr (2, [.ref l0, .int (iI (kd)), .int (iI (f1)), .int (iI (s1))]))] s.heap.size) s.heap s.heap [] := va_S.rf
  have hl : lv_has ls 4 [(0, .ref h0)] := hl
  refine z_sipush hx hb d_RR_readYears_0 (by decide) ?_
  refine lv_istore_n (lv' := [(1, .int (iI (2003))), (0, .ref h0)]) hx hb d_RR_readYears_3 rfl hl (by decide) rfl (fun ls hl => ?_)
  refine lv_aload_n hx hb d_RR_readYears_4 rfl (lv_at hl 1 rfl) ?_
  refine z_sipush hx hb d_RR_readYears_5 (by decide) ?_
  refine z_sipush hx hb d_RR_readYears_8 (by decide) ?_
  refine lv_iload_n hx hb d_RR_readYears_11 rfl (lv_at hl 0 rfl) ?_
  have hPc := hP.sub (ws' := [(h0, .inr (6, [.ref b0, .ref g0, .ref n0, .ref e0, .ref z0, .ref t0, .int (iI ((n : Int))), .int (iI (pl)), .int (iI (fr)), .int (iI (to1))])), (t0, .inl (k 2, 100, .inl (aZ (tx))))]) [0, 1] rfl
  have hDc := hD.sub (ws' := [(h0, .inr (6, [.ref b0, .ref g0, .ref n0, .ref e0, .ref z0, .ref t0, .int (iI ((n : Int))), .int (iI (pl)), .int (iI (fr)), .int (iI (to1))])), (t0, .inl (k 2, 100, .inl (aZ (tx))))]) [0, 1] (by decide) rfl
  have hFc := va_free (wc := [(h0, .inr (6, [.ref b0, .ref g0, .ref n0, .ref e0, .ref z0, .ref t0, .int (iI ((n : Int))), .int (iI (pl)), .int (iI (fr)), .int (iI (to1))])), (t0, .inl (k 2, 100, .inl (aZ (tx))))]) hD hS hA [0, 1] rfl
  refine va_calli (va_runV (As := [.int (iI (1000)), .int (iI (2000)), .int (iI (2003))]) (rest := []) (b := h0) ⟨hx, hb, hml, hown, hts⟩ (c_RR_takeNumber_1000 l D k s.heap.size (h0) (b0) (g0) (n0) (e0) (z0) (t0) (tx) (n) (pl) (fr) (to1) (2000) (2003) (hn) ((by omega)) (htx) ((by omega)) ((by omega))) ⟨callB_of 3 hts (good_RR_takeNumber) rfl rfl rfl (hts _ k_62) (hts _ k_420) (by decide +kernel) ⟨Nat.le_of_ble_eq_true rfl, Nat.le_of_ble_eq_true rfl⟩, (hts _ k_422), (hts _ k_3)⟩ ⟨fun a U g mk q => ⟨q.1, q.2.1, q.2.2.1, va_K.moved (u := U) (U := U.calling g mk a) (Vm.Alike.refl U.vm) q.2.2.2.1, q.2.2.2.2.1, q.2.2.2.2.2.calling⟩, (va_recv (q0 := 0) hK hP rfl rfl), fun U hU hW => ⟨rfl, by rw [hU], by rw [hU]; exact hPc, va_K.moved hW.alike hK, hDc.weaken (fun _ _ _ _ => trivial), by rw [hU]; exact (hX.mono hS hFc).warm hW⟩⟩ rfl rfl hl.1 rfl (lv_room (Nat.le_of_ble_eq_true rfl)) d_RR_readYears_12 ⟨Nat.le_of_ble_eq_true rfl, Nat.le_of_ble_eq_true rfl⟩) hS (fun q _ h => hFc q h) hFc (fun xr_1 xu_2 t H1 locs ht hvm h_xr_1 hB hz1 hk1 hS => ?_)
  obtain ⟨hP1, hD1⟩ := hB
  rw [ht] at hP1
  obtain ⟨hP, hD⟩ := va_join (wr := [(b0, .inr (2, [.ref l0, .int (iI (kd)), .int (iI (f1)), .int (iI (s1))]))]) (w1 := [(h0, .inr (6, [.ref b0, .ref g0, .ref n0, .ref e0, .ref z0, .ref t0, .int (iI ((n : Int))), .int (iI ((tn1000 tx n pl 2000 2003).2)), .int (iI (fr)), .int (iI (to1))])), (t0, .inl (k 2, 100, .inl (aZ (tx))))]) hP hD [0, 1] [2] rfl rfl (by decide) (by decide) hk1 hFc hP1 hD1
  generalize H1 = H at hP hS ⊢
  have hP := hP.sub (ws' := [(h0, .inr (6, [.ref b0, .ref g0, .ref n0, .ref e0, .ref z0, .ref t0, .int (iI ((n : Int))), .int (iI ((tn1000 tx n pl 2000 2003).2)), .int (iI (fr)), .int (iI (to1))])), (t0, .inl (k 2, 100, .inl (aZ (tx)))), (b0, .inr (2, [.ref l0, .int (iI (kd)), .int (iI (f1)), .int (iI (s1))]))]) [1, 2, 0] rfl
  have hD := hD.sub (ws' := [(h0, .inr (6, [.ref b0, .ref g0, .ref n0, .ref e0, .ref z0, .ref t0, .int (iI ((n : Int))), .int (iI ((tn1000 tx n pl 2000 2003).2)), .int (iI (fr)), .int (iI (to1))])), (t0, .inl (k 2, 100, .inl (aZ (tx)))), (b0, .inr (2, [.ref l0, .int (iI (kd)), .int (iI (f1)), .int (iI (s1))]))]) [1, 2, 0] (by decide) rfl
  subst h_xr_1
  have hbn1000_2 := tn1000_bd (tx := tx) (pl := pl) (lo := 2000) (hi := 2003) hn (by omega)
  refine lv_istore_n (lv' := [(2, .int (iI ((tn1000 tx n pl 2000 2003).1))), (1, .int (iI (2003))), (0, .ref h0)]) hx hb d_RR_readYears_15 rfl hl (by decide) rfl (fun ls hl => ?_)
  refine lv_iload_n hx hb d_RR_readYears_16 rfl (lv_at hl 0 rfl) ?_
  refine z_iconst hx hb d_RR_readYears_17 ?_
  refine z_icmp_eq (tgt := 30) hx hb d_RR_readYears_18 (by decide) ⟨by omega, by omega⟩ ⟨by omega, by omega⟩ (fun h18 => ?_) (fun h18 => ?_)
  · refine z_iconst hx hb d_RR_readYears_30 ?_
    have e9 : yrF tx n pl kd f1 s1 = (false, (tn1000 tx n pl 2000 2003).2, kd, f1, s1) := by unfold yrF; rw [if_pos h18]
    exact ret _ _ _ 31 false () d_RR_readYears_31 hS ((congrArg (fun q9 => bI q9.1) e9).symm) (fun t ht _ => ⟨by rw [e9, ht]; exact hP, by rw [e9]; exact hD⟩)
  · refine lv_aload_n hx hb d_RR_readYears_21 rfl (lv_at hl 2 rfl) ?_
    refine z_bipush hx hb d_RR_readYears_22 (by decide) ?_
    have hPc := hP.sub (ws' := [(h0, .inr (6, [.ref b0, .ref g0, .ref n0, .ref e0, .ref z0, .ref t0, .int (iI ((n : Int))), .int (iI ((tn1000 tx n pl 2000 2003).2)), .int (iI (fr)), .int (iI (to1))])), (t0, .inl (k 2, 100, .inl (aZ (tx))))]) [0, 1] rfl
    have hDc := hD.sub (ws' := [(h0, .inr (6, [.ref b0, .ref g0, .ref n0, .ref e0, .ref z0, .ref t0, .int (iI ((n : Int))), .int (iI ((tn1000 tx n pl 2000 2003).2)), .int (iI (fr)), .int (iI (to1))])), (t0, .inl (k 2, 100, .inl (aZ (tx))))]) [0, 1] (by decide) rfl
    have hFc := va_free (wc := [(h0, .inr (6, [.ref b0, .ref g0, .ref n0, .ref e0, .ref z0, .ref t0, .int (iI ((n : Int))), .int (iI ((tn1000 tx n pl 2000 2003).2)), .int (iI (fr)), .int (iI (to1))])), (t0, .inl (k 2, 100, .inl (aZ (tx))))]) hD hS hA [0, 1] rfl
    refine va_calli (va_runV (As := [.int (iI (45))]) (rest := []) (b := h0) ⟨hx, hb, hml, hown, hts⟩ (c_RR_take l D k H.size (h0) (b0) (g0) (n0) (e0) (z0) (t0) (tx) (n) ((tn1000 tx n pl 2000 2003).2) (fr) (to1) (45) (hn) ((by omega)) (htx) ((by omega))) ⟨callB_of 1 hts (good_RR_take) rfl rfl rfl (hts _ k_62) (hts _ k_424) (by decide +kernel) ⟨Nat.le_of_ble_eq_true rfl, Nat.le_of_ble_eq_true rfl⟩, (hts _ k_426), (hts _ k_4)⟩ ⟨fun a U g mk q => ⟨q.1, q.2.1, q.2.2.1, va_K.moved (u := U) (U := U.calling g mk a) (Vm.Alike.refl U.vm) q.2.2.2.1, q.2.2.2.2.1, q.2.2.2.2.2.calling⟩, (va_recv (q0 := 0) hK hP rfl rfl), fun U hU hW => ⟨rfl, by rw [hU], by rw [hU]; exact hPc, va_K.moved hW.alike hK, hDc.weaken (fun _ _ _ _ => trivial), by rw [hU]; exact (hX.mono hS hFc).warm hW⟩⟩ rfl rfl hl.1 rfl (lv_room (Nat.le_of_ble_eq_true rfl)) d_RR_readYears_24 ⟨Nat.le_of_ble_eq_true rfl, Nat.le_of_ble_eq_true rfl⟩) hS (fun q _ h => hFc q h) hFc (fun xr_3 xu_4 t H1 locs ht hvm h_xr_3 hB hz1 hk1 hS => ?_)
    obtain ⟨hP1, hD1⟩ := hB
    rw [ht] at hP1
    obtain ⟨hP, hD⟩ := va_join (wr := [(b0, .inr (2, [.ref l0, .int (iI (kd)), .int (iI (f1)), .int (iI (s1))]))]) (w1 := [(h0, .inr (6, [.ref b0, .ref g0, .ref n0, .ref e0, .ref z0, .ref t0, .int (iI ((n : Int))), .int (iI ((tkF tx n ((tn1000 tx n pl 2000 2003).2) 45).2)), .int (iI (fr)), .int (iI (to1))])), (t0, .inl (k 2, 100, .inl (aZ (tx))))]) hP hD [0, 1] [2] rfl rfl (by decide) (by decide) hk1 hFc hP1 hD1
    generalize H1 = H at hP hS ⊢
    have hP := hP.sub (ws' := [(h0, .inr (6, [.ref b0, .ref g0, .ref n0, .ref e0, .ref z0, .ref t0, .int (iI ((n : Int))), .int (iI ((tkF tx n ((tn1000 tx n pl 2000 2003).2) 45).2)), .int (iI (fr)), .int (iI (to1))])), (t0, .inl (k 2, 100, .inl (aZ (tx)))), (b0, .inr (2, [.ref l0, .int (iI (kd)), .int (iI (f1)), .int (iI (s1))]))]) [1, 2, 0] rfl
    have hD := hD.sub (ws' := [(h0, .inr (6, [.ref b0, .ref g0, .ref n0, .ref e0, .ref z0, .ref t0, .int (iI ((n : Int))), .int (iI ((tkF tx n ((tn1000 tx n pl 2000 2003).2) 45).2)), .int (iI (fr)), .int (iI (to1))])), (t0, .inl (k 2, 100, .inl (aZ (tx)))), (b0, .inr (2, [.ref l0, .int (iI (kd)), .int (iI (f1)), .int (iI (s1))]))]) [1, 2, 0] (by decide) rfl
    subst h_xr_3
    have hbt45_28 := tkF_bd (tx := tx) (pl := (tn1000 tx n pl 2000 2003).2) (ch := 45) hn (by omega)
    refine b_if_ne (tgt := 32) hx hb d_RR_readYears_27 (by decide) (fun h27 => ?_) (fun h27 => ?_)
    · refine lv_aload_n hx hb d_RR_readYears_32 rfl (lv_at hl 2 rfl) ?_
      refine z_sipush hx hb d_RR_readYears_33 (by decide) ?_
      refine lv_iload_n hx hb d_RR_readYears_36 rfl (lv_at hl 0 rfl) ?_
      refine lv_iload_n hx hb d_RR_readYears_37 rfl (lv_at hl 1 rfl) ?_
      have hPc := hP.sub (ws' := [(h0, .inr (6, [.ref b0, .ref g0, .ref n0, .ref e0, .ref z0, .ref t0, .int (iI ((n : Int))), .int (iI ((tkF tx n ((tn1000 tx n pl 2000 2003).2) 45).2)), .int (iI (fr)), .int (iI (to1))])), (t0, .inl (k 2, 100, .inl (aZ (tx))))]) [0, 1] rfl
      have hDc := hD.sub (ws' := [(h0, .inr (6, [.ref b0, .ref g0, .ref n0, .ref e0, .ref z0, .ref t0, .int (iI ((n : Int))), .int (iI ((tkF tx n ((tn1000 tx n pl 2000 2003).2) 45).2)), .int (iI (fr)), .int (iI (to1))])), (t0, .inl (k 2, 100, .inl (aZ (tx))))]) [0, 1] (by decide) rfl
      have hFc := va_free (wc := [(h0, .inr (6, [.ref b0, .ref g0, .ref n0, .ref e0, .ref z0, .ref t0, .int (iI ((n : Int))), .int (iI ((tkF tx n ((tn1000 tx n pl 2000 2003).2) 45).2)), .int (iI (fr)), .int (iI (to1))])), (t0, .inl (k 2, 100, .inl (aZ (tx))))]) hD hS hA [0, 1] rfl
      refine va_calli (va_runV (As := [.int (iI (1000)), .int (iI ((tn1000 tx n pl 2000 2003).1)), .int (iI (2003))]) (rest := []) (b := h0) ⟨hx, hb, hml, hown, hts⟩ (c_RR_takeNumber_1000 l D k H.size (h0) (b0) (g0) (n0) (e0) (z0) (t0) (tx) (n) ((tkF tx n ((tn1000 tx n pl 2000 2003).2) 45).2) (fr) (to1) ((tn1000 tx n pl 2000 2003).1) (2003) (hn) ((by omega)) (htx) ((by omega)) ((by omega))) ⟨callB_of 3 hts (good_RR_takeNumber) rfl rfl rfl (hts _ k_62) (hts _ k_420) (by decide +kernel) ⟨Nat.le_of_ble_eq_true rfl, Nat.le_of_ble_eq_true rfl⟩, (hts _ k_422), (hts _ k_3)⟩ ⟨fun a U g mk q => ⟨q.1, q.2.1, q.2.2.1, va_K.moved (u := U) (U := U.calling g mk a) (Vm.Alike.refl U.vm) q.2.2.2.1, q.2.2.2.2.1, q.2.2.2.2.2.calling⟩, (va_recv (q0 := 0) hK hP rfl rfl), fun U hU hW => ⟨rfl, by rw [hU], by rw [hU]; exact hPc, va_K.moved hW.alike hK, hDc.weaken (fun _ _ _ _ => trivial), by rw [hU]; exact (hX.mono hS hFc).warm hW⟩⟩ rfl rfl hl.1 rfl (lv_room (Nat.le_of_ble_eq_true rfl)) d_RR_readYears_38 ⟨Nat.le_of_ble_eq_true rfl, Nat.le_of_ble_eq_true rfl⟩) hS (fun q _ h => hFc q h) hFc (fun xr_5 xu_6 t H1 locs ht hvm h_xr_5 hB hz1 hk1 hS => ?_)
      obtain ⟨hP1, hD1⟩ := hB
      rw [ht] at hP1
      obtain ⟨hP, hD⟩ := va_join (wr := [(b0, .inr (2, [.ref l0, .int (iI (kd)), .int (iI (f1)), .int (iI (s1))]))]) (w1 := [(h0, .inr (6, [.ref b0, .ref g0, .ref n0, .ref e0, .ref z0, .ref t0, .int (iI ((n : Int))), .int (iI ((tn1000 tx n ((tkF tx n ((tn1000 tx n pl 2000 2003).2) 45).2) ((tn1000 tx n pl 2000 2003).1) 2003).2)), .int (iI (fr)), .int (iI (to1))])), (t0, .inl (k 2, 100, .inl (aZ (tx))))]) hP hD [0, 1] [2] rfl rfl (by decide) (by decide) hk1 hFc hP1 hD1
      generalize H1 = H at hP hS ⊢
      have hP := hP.sub (ws' := [(h0, .inr (6, [.ref b0, .ref g0, .ref n0, .ref e0, .ref z0, .ref t0, .int (iI ((n : Int))), .int (iI ((tn1000 tx n ((tkF tx n ((tn1000 tx n pl 2000 2003).2) 45).2) ((tn1000 tx n pl 2000 2003).1) 2003).2)), .int (iI (fr)), .int (iI (to1))])), (t0, .inl (k 2, 100, .inl (aZ (tx)))), (b0, .inr (2, [.ref l0, .int (iI (kd)), .int (iI (f1)), .int (iI (s1))]))]) [1, 2, 0] rfl
      have hD := hD.sub (ws' := [(h0, .inr (6, [.ref b0, .ref g0, .ref n0, .ref e0, .ref z0, .ref t0, .int (iI ((n : Int))), .int (iI ((tn1000 tx n ((tkF tx n ((tn1000 tx n pl 2000 2003).2) 45).2) ((tn1000 tx n pl 2000 2003).1) 2003).2)), .int (iI (fr)), .int (iI (to1))])), (t0, .inl (k 2, 100, .inl (aZ (tx)))), (b0, .inr (2, [.ref l0, .int (iI (kd)), .int (iI (f1)), .int (iI (s1))]))]) [1, 2, 0] (by decide) rfl
      subst h_xr_5
      have hbn1000_46 := tn1000_bd (tx := tx) (pl := (tkF tx n ((tn1000 tx n pl 2000 2003).2) 45).2) (lo := (tn1000 tx n pl 2000 2003).1) (hi := 2003) hn (by omega)
      refine lv_istore_n (lv' := [(3, .int (iI ((tn1000 tx n ((tkF tx n ((tn1000 tx n pl 2000 2003).2) 45).2) ((tn1000 tx n pl 2000 2003).1) 2003).1))), (2, .int (iI ((tn1000 tx n pl 2000 2003).1))), (1, .int (iI (2003))), (0, .ref h0)]) hx hb d_RR_readYears_41 rfl hl (by decide) rfl (fun ls hl => ?_)
      refine lv_aload_n hx hb d_RR_readYears_42 rfl (lv_at hl 3 rfl) ?_
      refine va_get (D := D) (ci := 6) (v := .ref b0) (C := R_RR) (T := F_RR) (N := 10) hx hb hts in_RR hown hK hP 0 rfl rfl 0 (by decide) (hts _ k_173) (fun _ h9 => h9) rfl d_RR_readYears_43 ?_
      refine z_bipush hx hb d_RR_readYears_46 (by decide) ?_
      refine lv_iload_n hx hb d_RR_readYears_48 rfl (lv_at hl 1 rfl) ?_
      refine lv_iload_n hx hb d_RR_readYears_49 rfl (lv_at hl 0 rfl) ?_
      have hPc := hP.sub (ws' := [(b0, .inr (2, [.ref l0, .int (iI (kd)), .int (iI (f1)), .int (iI (s1))]))]) [2] rfl
      have hDc := hD.sub (ws' := [(b0, .inr (2, [.ref l0, .int (iI (kd)), .int (iI (f1)), .int (iI (s1))]))]) [2] (by decide) rfl
      have hFc := va_free (wc := [(b0, .inr (2, [.ref l0, .int (iI (kd)), .int (iI (f1)), .int (iI (s1))]))]) hD hS hA [2] rfl
      refine va_callv (va_runV (As := [.int (iI (89)), .int (iI ((tn1000 tx n pl 2000 2003).1)), .int (iI ((tn1000 tx n ((tkF tx n ((tn1000 tx n pl 2000 2003).2) 45).2) ((tn1000 tx n pl 2000 2003).1) 2003).1))]) (rest := []) (b := b0) ⟨hx, hb, hml, hown, hts⟩ (c_AT_become l D k H.size (b0) (l0) (kd) (f1) (s1) (89) ((tn1000 tx n pl 2000 2003).1) ((tn1000 tx n ((tkF tx n ((tn1000 tx n pl 2000 2003).2) 45).2) ((tn1000 tx n pl 2000 2003).1) 2003).1)) ⟨callB_of 3 hts (good_AT_become) rfl rfl rfl (hts _ k_64) (hts _ k_466) (by decide +kernel) ⟨Nat.le_of_ble_eq_true rfl, Nat.le_of_ble_eq_true rfl⟩, (hts _ k_467), (hts _ k_468)⟩ ⟨fun a U g mk q => ⟨q.1, q.2.1, q.2.2.1, va_K.moved (u := U) (U := U.calling g mk a) (Vm.Alike.refl U.vm) q.2.2.2.1, q.2.2.2.2.1, q.2.2.2.2.2.calling⟩, (va_recv (q0 := 2) hK hP rfl rfl), fun U hU hW => ⟨rfl, by rw [hU], by rw [hU]; exact hPc, va_K.moved hW.alike hK, hDc.weaken (fun _ _ _ _ => trivial), by rw [hU]; exact (hX.mono hS hFc).warm hW⟩⟩ rfl rfl hl.1 rfl (lv_room (Nat.le_of_ble_eq_true rfl)) d_RR_readYears_50 ⟨Nat.le_of_ble_eq_true rfl, Nat.le_of_ble_eq_true rfl⟩) hS (fun q _ h => hFc q h) hFc (fun xu_8 t H1 locs ht hvm h_xr_7 hB hz1 hk1 hS => ?_)
      obtain ⟨hP1, hD1⟩ := hB
      rw [ht] at hP1
      obtain ⟨hP, hD⟩ := va_join (wr := [(h0, .inr (6, [.ref b0, .ref g0, .ref n0, .ref e0, .ref z0, .ref t0, .int (iI ((n : Int))), .int (iI ((tn1000 tx n ((tkF tx n ((tn1000 tx n pl 2000 2003).2) 45).2) ((tn1000 tx n pl 2000 2003).1) 2003).2)), .int (iI (fr)), .int (iI (to1))])), (t0, .inl (k 2, 100, .inl (aZ (tx))))]) (w1 := [(b0, .inr (2, [.ref l0, .int (iI (89)), .int (iI (((tn1000 tx n pl 2000 2003).1))), .int (iI (((tn1000 tx n ((tkF tx n ((tn1000 tx n pl 2000 2003).2) 45).2) ((tn1000 tx n pl 2000 2003).1) 2003).1)))]))]) hP hD [2] [0, 1] rfl rfl (by decide) (by decide) hk1 hFc hP1 hD1
      generalize H1 = H at hP hS ⊢
      have hP := hP.sub (ws' := [(h0, .inr (6, [.ref b0, .ref g0, .ref n0, .ref e0, .ref z0, .ref t0, .int (iI ((n : Int))), .int (iI ((tn1000 tx n ((tkF tx n ((tn1000 tx n pl 2000 2003).2) 45).2) ((tn1000 tx n pl 2000 2003).1) 2003).2)), .int (iI (fr)), .int (iI (to1))])), (t0, .inl (k 2, 100, .inl (aZ (tx)))), (b0, .inr (2, [.ref l0, .int (iI (89)), .int (iI (((tn1000 tx n pl 2000 2003).1))), .int (iI (((tn1000 tx n ((tkF tx n ((tn1000 tx n pl 2000 2003).2) 45).2) ((tn1000 tx n pl 2000 2003).1) 2003).1)))]))]) [0, 1, 2] rfl
      have hD := hD.sub (ws' := [(h0, .inr (6, [.ref b0, .ref g0, .ref n0, .ref e0, .ref z0, .ref t0, .int (iI ((n : Int))), .int (iI ((tn1000 tx n ((tkF tx n ((tn1000 tx n pl 2000 2003).2) 45).2) ((tn1000 tx n pl 2000 2003).1) 2003).2)), .int (iI (fr)), .int (iI (to1))])), (t0, .inl (k 2, 100, .inl (aZ (tx)))), (b0, .inr (2, [.ref l0, .int (iI (89)), .int (iI (((tn1000 tx n pl 2000 2003).1))), .int (iI (((tn1000 tx n ((tkF tx n ((tn1000 tx n pl 2000 2003).2) 45).2) ((tn1000 tx n pl 2000 2003).1) 2003).1)))]))]) [0, 1, 2] (by decide) rfl
      refine lv_iload_n hx hb d_RR_readYears_53 rfl (lv_at hl 0 rfl) ?_
      refine z_iconst hx hb d_RR_readYears_54 ?_
      refine z_icmp_eq (tgt := 62) hx hb d_RR_readYears_55 (by decide) ⟨by omega, by omega⟩ ⟨by omega, by omega⟩ (fun h55 => ?_) (fun h55 => ?_)
      · refine z_iconst hx hb d_RR_readYears_62 ?_
        have e9 : yrF tx n pl kd f1 s1 = (false, (tn1000 tx n ((tkF tx n ((tn1000 tx n pl 2000 2003).2) 45).2) ((tn1000 tx n pl 2000 2003).1) 2003).2, 89, ((tn1000 tx n pl 2000 2003).1), ((tn1000 tx n ((tkF tx n ((tn1000 tx n pl 2000 2003).2) 45).2) ((tn1000 tx n pl 2000 2003).1) 2003).1)) := by unfold yrF; rw [if_neg h18, if_pos h27, if_pos h55]
        exact ret _ _ _ 63 false () d_RR_readYears_63 hS ((congrArg (fun q9 => bI q9.1) e9).symm) (fun t ht _ => ⟨by rw [e9, ht]; exact hP, by rw [e9]; exact hD⟩)
      · refine z_iconst hx hb d_RR_readYears_58 ?_
        refine lv_goto (tgt := 63) hx hb d_RR_readYears_59 (by decide) ?_
        have e9 : yrF tx n pl kd f1 s1 = (true, (tn1000 tx n ((tkF tx n ((tn1000 tx n pl 2000 2003).2) 45).2) ((tn1000 tx n pl 2000 2003).1) 2003).2, 89, ((tn1000 tx n pl 2000 2003).1), ((tn1000 tx n ((tkF tx n ((tn1000 tx n pl 2000 2003).2) 45).2) ((tn1000 tx n pl 2000 2003).1) 2003).1)) := by unfold yrF; rw [if_neg h18, if_pos h27, if_neg h55]
        exact ret _ _ _ 63 true () d_RR_readYears_63 hS ((congrArg (fun q9 => bI q9.1) e9).symm) (fun t ht _ => ⟨by rw [e9, ht]; exact hP, by rw [e9]; exact hD⟩)
    · refine z_iconst hx hb d_RR_readYears_30 ?_
      have e9 : yrF tx n pl kd f1 s1 = (false, (tkF tx n ((tn1000 tx n pl 2000 2003).2) 45).2, kd, f1, s1) := by unfold yrF; rw [if_neg h18, if_neg (Bool.eq_false_iff.mp h27)]
      exact ret _ _ _ 31 false () d_RR_readYears_31 hS ((congrArg (fun q9 => bI q9.1) e9).symm) (fun t ht _ => ⟨by rw [e9, ht]; exact hP, by rw [e9]; exact hD⟩)
