theorem s_l31 : ∀ n, n < 32 → ((nI n &&& 31).toBitVec.smod 32).toNat = n := by decide
theorem iI_bitw (n w : Nat) (hw : w < 32) (hn : n < 2 ^ 31) : (iI (n : Int) >>> (iI (w : Int) &&& 31)) &&& iI 1 = iI ((n / 2 ^ w % 2 : Nat) : Int) :=
  iI_bit n (w : Int) w (by rw [iI_nat]; exact s_l31 w hw) hn
def btw (a b z : Int) : Bool := if a ≤ b then decide (a ≤ z) && decide (z ≤ b) else decide (a ≤ z) || decide (z ≤ b)
/-- whether a day is one of an atom's -/
def atM (kd f1 s1 : Int) (d : Nat) : Bool :=
  if kd = 87 then decide (f1.toNat / 2 ^ (wDay (d : Int)).toNat % 2 = 1)
  else if kd = 78 then decide (wDay (d : Int) = s1) && hasRk d f1
  else if kd = 68 then btw f1 s1 (dateZ d % 10000)
  else if kd = 80 then decide (weekZ (d : Int) % 100 % 2 = f1)
  else if kd = 67 then decide (0 < f1) && decide ((d : Int) % f1 = s1)
  else if kd = 70 then decide ((d : Int) - feaZ (yIx (d : Int)).toNat = f1)
  else if kd = 89 then btw f1 s1 (2000 + yIx (d : Int))
  else false
def atOK (kd f1 s1 : Int) : Prop := (0 ≤ kd ∧ kd ≤ 127) ∧ (-100000 ≤ f1 ∧ f1 ≤ 100000) ∧ (-100000 ≤ s1 ∧ s1 ≤ 100000) ∧ (kd = 87 → 0 ≤ f1) ∧ (kd = 78 → 0 ≤ f1 ∧ f1 ≤ 9)
theorem atM_W {kd f1 s1 : Int} {d : Nat} (h : kd = 87) : atM kd f1 s1 d = decide (f1.toNat / 2 ^ (wDay (d : Int)).toNat % 2 = 1) := by
  simp [atM, h]
theorem atM_N {kd f1 s1 : Int} {d : Nat} (h : kd = 78) : atM kd f1 s1 d = (decide (wDay (d : Int) = s1) && hasRk d f1) := by
  simp [atM, h]
theorem atM_D {kd f1 s1 : Int} {d : Nat} (h : kd = 68) : atM kd f1 s1 d = btw f1 s1 (dateZ d % 10000) := by
  simp [atM, h]
theorem atM_P {kd f1 s1 : Int} {d : Nat} (h : kd = 80) : atM kd f1 s1 d = decide (weekZ (d : Int) % 100 % 2 = f1) := by
  simp [atM, h]
theorem atM_C {kd f1 s1 : Int} {d : Nat} (h : kd = 67) : atM kd f1 s1 d = (decide (0 < f1) && decide ((d : Int) % f1 = s1)) := by
  simp [atM, h]
theorem atM_F {kd f1 s1 : Int} {d : Nat} (h : kd = 70) : atM kd f1 s1 d = decide ((d : Int) - feaZ (yIx (d : Int)).toNat = f1) := by
  simp [atM, h]
theorem atM_Y {kd f1 s1 : Int} {d : Nat} (h : kd = 89) : atM kd f1 s1 d = btw f1 s1 (2000 + yIx (d : Int)) := by
  simp [atM, h]
theorem atM_o {kd f1 s1 : Int} {d : Nat} (h1 : ¬ kd = 87) (h2 : ¬ kd = 78) (h3 : ¬ kd = 68) (h4 : ¬ kd = 80) (h5 : ¬ kd = 67) (h6 : ¬ kd = 70) (h7 : ¬ kd = 89) : atM kd f1 s1 d = false := by
  unfold atM
  rw [if_neg h1, if_neg h2, if_neg h3, if_neg h4, if_neg h5, if_neg h6, if_neg h7]
theorem weekZ_bd {z : Int} (h : 0 ≤ z) (h2 : z ≤ 1460) : 0 ≤ weekZ z ∧ weekZ z ≤ 300000 := by
  have hw := wDay_bd (z := z) (by omega)
  unfold weekZ
  split
  · have : fDay 1999 = -365 := by decide
    omega
  · have hy := yIx_bd (t := z - wDay z + 4) (by omega) (by omega)
    have hf := fDay_bd (y := 2000 + yIx (z - wDay z + 4)) (by omega) (by omega)
    omega
/-- the days of a predicate, added one by one -/
def clF (p : Nat → Bool) : Nat → Nat → Int64
  | 0 => fun _ => 0
  | i + 1 => if p i then dsAdd (clF p i) i else clF p i
theorem clF_t {p : Nat → Bool} {i : Nat} (h : p i = true) : clF p (i + 1) = dsAdd (clF p i) i := by
  show (if p i then dsAdd (clF p i) i else clF p i) = _
  rw [h]; rfl
theorem clF_f {p : Nat → Bool} {i : Nat} (h : p i = false) : clF p (i + 1) = clF p i := by
  show (if p i then dsAdd (clF p i) i else clF p i) = _
  rw [h]; rfl
def onD (fr to : Nat) : Int64 := (if decide ((to : Int) < (fr : Int)) then 281474976710655 else cBel to) &&& (cBel fr ^^^ (-1))
def onB (fr to : Nat) : Int64 := if decide ((to : Int) < (fr : Int)) then cBel to else 0
def selL (b : Bool) (x : Int64) : Int64 := if b then x else 0
def prv (f : Nat → Int64) : Nat → Bool
  | 0 => false
  | i + 1 => dsb f i
def cel (f : Nat → Int64) (fr to : Nat) (i : Nat) : Int64 := selL (dsb f i) (onD fr to) ||| selL (prv f i) (onB fr to)
def pkp (n b : Nat) (w x : Int64) : Int64 := if n / 2 ^ b % 2 = 0 then w &&& (x ^^^ (-1)) else w ||| x
/-- the planes behind the first i days of a rule that is laid -/
def layM (n : Nat) (x : Nat → Int64) (M : Nat → Nat → Int64) (i : Nat) : Nat → Nat → Int64 := fun b j => if j < i ∧ ¬ x j = 0 then pkp n b (M b j) (x j) else M b j
theorem layM_0 (n : Nat) (x : Nat → Int64) (M : Nat → Nat → Int64) : layM n x M 0 = M := by
  funext b j
  simp [layM]
theorem layM_put {n : Nat} {x : Nat → Int64} {M : Nat → Nat → Int64} {i : Nat} (h : ¬ x i = 0) : (fun b => putF n b (layM n x M i b) i (x i)) = layM n x M (i + 1) := by
  funext b j
  by_cases hj : j = i
  · subst hj
    simp [putF, layM, vp_updL, h, pkp]
  · have h2 : j < i + 1 ↔ j < i := by omega
    simp [putF, layM, vp_updL, hj, h2]
theorem layM_skip {n : Nat} {x : Nat → Int64} {M : Nat → Nat → Int64} {i : Nat} (h : x i = 0) : layM n x M i = layM n x M (i + 1) := by
  funext b j
  by_cases hj : j = i
  · subst hj
    simp [layM, h]
  · have h2 : j < i + 1 ↔ j < i := by omega
    simp [layM, h2]
set_option maxHeartbeats 4000000 in
set_option maxRecDepth 100000 in
theorem c_RC_lowestCell (l : Launch) (D : va_G) (k : Nat → ClassId) (w : Int64) : Met l y_RC_lowestCell wd_RC_lowestCell rm_RC_lowestCell (va_Pc [.long (w)] (PRO D k [])) (QRi (fun r : Int32 => r = (bcRaw ((w &&& -w) - 1)))) 0 0 nA := by
  refine r_i (by decide) rfl (Nat.le_of_ble_eq_true rfl) ?_
  intro p e s m args below meth c Q ls hx hb hml hown hts hpre hl ret
  obtain ⟨hP, hK, hX⟩ := hpre
  have hS : va_S nA s.heap s.heap [] := va_S.rf
  have hl : lv_has ls 2 [(0, .long (w))] := hl
  refine lv_lload_n hx hb d_RC_lowestCell_0 rfl (lv_at hl 0 rfl) ?_
  refine lv_lload_n hx hb d_RC_lowestCell_1 rfl (lv_at hl 0 rfl) ?_
  refine lv_lneg hx hb d_RC_lowestCell_2 ?_
  refine lv_land hx hb d_RC_lowestCell_3 ?_
  refine lv_lconst (v := 1) hx hb d_RC_lowestCell_4 (by decide) ?_
  refine lv_lsub hx hb d_RC_lowestCell_5 ?_
  refine rc_i (va_runS (As := [.long (((w) &&& (-(w))) - ((1 : Int64)))]) (rest := []) ⟨hx, hb, hml, hown, hts⟩ (c_JL_bitCount l D k ((w &&& -w) - 1)) ⟨callB_of 1 hts (good_JL_bitCount) rfl rfl rfl (hts _ k_74) (hts _ k_643) (by decide +kernel) ⟨Nat.le_of_ble_eq_true rfl, Nat.le_of_ble_eq_true rfl⟩, (hts _ k_644)⟩ ⟨fun a U g mk q => ⟨q.1, q.2.1, va_K.moved (u := U) (U := U.calling g mk a) (Vm.Alike.refl U.vm) q.2.2.1, q.2.2.2.calling⟩, fun U hU hW => ⟨rfl, by rw [hU]; exact hP, va_K.moved hW.alike hK, by rw [hU]; exact hX.warm hW⟩⟩ rfl rfl hl.1 rfl (lv_room (Nat.le_of_ble_eq_true rfl)) d_RC_lowestCell_6 ⟨Nat.le_of_ble_eq_true rfl, Nat.le_of_ble_eq_true rfl⟩) (fun xr_1 h_xr_1 => ?_)
  subst h_xr_1
  exact ret _ 9 (bcRaw ((w &&& -w) - 1)) d_RC_lowestCell_9 (rfl)

set_option maxHeartbeats 4000000 in
set_option maxRecDepth 100000 in
theorem c_AT_become (l : Launch) (D : va_G) (k : Nat → ClassId) (sz : Nat) (h0 l0 : Nat) (kd : Int) (f1 : Int) (s1 : Int) (k2 : Int) (f2 : Int) (s2 : Int) : Met l y_AT_become wd_AT_become rm_AT_become (va_Pc [.ref h0, .int (iI (k2)), .int (iI (f2)), .int (iI (s2))] (PRW D k [(h0, .inr (2, [.ref l0, .int (iI (kd)), .int (iI (f1)), .int (iI (s1))]))] sz)) (va_Qv (fun u : Unit => True) (fun _ t => BRW D [(h0, .inr (2, [.ref l0, .int (iI (kd)), .int (iI (f1)), .int (iI (s1))]))] sz [(h0, .inr (2, [.ref l0, .int (iI (k2)), .int (iI (f2)), .int (iI (s2))]))] t) (va_A [(h0, .inr (2, [.ref l0, .int (iI (kd)), .int (iI (f1)), .int (iI (s1))]))] sz)) 0 0 (va_A [(h0, .inr (2, [.ref l0, .int (iI (kd)), .int (iI (f1)), .int (iI (s1))]))] sz) := by
  refine e_v (by decide) rfl (Nat.le_of_ble_eq_true rfl) ?_
  intro p e s m args below meth c Q ls hx hb hml hown hts hpre hl hin ret
  obtain ⟨hsz, hP, hK, hD0, hX⟩ := hpre
  subst hsz
  have hD := hD0.self (sz := s.heap.size)
  have hA : ∀ q : Nat, s.heap.size ≤ q → (va_A [(h0, .inr (2, [.ref l0, .int (iI (kd)), .int (iI (f1)), .int (iI (s1))]))] s.heap.size) q := fun q h => Or.inr h
  have hS : va_S (va_A [(h0, .inr (2, [.ref l0, .int (iI (kd)), .int (iI (f1)), .int (iI (s1))]))] s.heap.size) s.heap s.heap [] := va_S.rf
  have hl : lv_has ls 4 [(0, .ref h0), (1, .int (iI (k2))), (2, .int (iI (f2))), (3, .int (iI (s2)))] := hl
  refine lv_aload_n hx hb d_AT_become_0 rfl (lv_at hl 0 rfl) ?_
  refine lv_iload_n hx hb d_AT_become_1 rfl (lv_at hl 1 rfl) ?_
  refine va_put (D := D) (ci := 2) (v := .int (iI (k2))) (ty := .int) (C := R_AT) (T := F_AT) (N := 4) hx hb hts in_AT t_AT t_AT_ok n_AT hown hK hP hD hS 0 rfl rfl 1 (by decide) (hts _ k_160) (fun _ h9 => h9) rfl (by decide +kernel) rfl rfl (Nat.le_of_ble_eq_true rfl) d_AT_become_2 (fun H locs hP hD hS => ?_)
  have hP : va_P D classes [(h0, .inr (2, [.ref l0, .int (iI (k2)), .int (iI (f1)), .int (iI (s1))]))] H := hP
  have hD : va_D (va_A [(h0, .inr (2, [.ref l0, .int (iI (kd)), .int (iI (f1)), .int (iI (s1))]))] s.heap.size) [(h0, .inr (2, [.ref l0, .int (iI (k2)), .int (iI (f1)), .int (iI (s1))]))] := hD
  refine lv_aload_n hx hb d_AT_become_5 rfl (lv_at hl 0 rfl) ?_
  refine lv_iload_n hx hb d_AT_become_6 rfl (lv_at hl 2 rfl) ?_
  refine va_put (D := D) (ci := 2) (v := .int (iI (f2))) (ty := .int) (C := R_AT) (T := F_AT) (N := 4) hx hb hts in_AT t_AT t_AT_ok n_AT hown hK hP hD hS 0 rfl rfl 2 (by decide) (hts _ k_161) (fun _ h9 => h9) rfl (by decide +kernel) rfl rfl (Nat.le_of_ble_eq_true rfl) d_AT_become_7 (fun H locs hP hD hS => ?_)
  have hP : va_P D classes [(h0, .inr (2, [.ref l0, .int (iI (k2)), .int (iI (f2)), .int (iI (s1))]))] H := hP
  have hD : va_D (va_A [(h0, .inr (2, [.ref l0, .int (iI (kd)), .int (iI (f1)), .int (iI (s1))]))] s.heap.size) [(h0, .inr (2, [.ref l0, .int (iI (k2)), .int (iI (f2)), .int (iI (s1))]))] := hD
  refine lv_aload_n hx hb d_AT_become_10 rfl (lv_at hl 0 rfl) ?_
  refine lv_iload_n hx hb d_AT_become_11 rfl (lv_at hl 3 rfl) ?_
  refine va_put (D := D) (ci := 2) (v := .int (iI (s2))) (ty := .int) (C := R_AT) (T := F_AT) (N := 4) hx hb hts in_AT t_AT t_AT_ok n_AT hown hK hP hD hS 0 rfl rfl 3 (by decide) (hts _ k_162) (fun _ h9 => h9) rfl (by decide +kernel) rfl rfl (Nat.le_of_ble_eq_true rfl) d_AT_become_12 (fun H locs hP hD hS => ?_)
  have hP : va_P D classes [(h0, .inr (2, [.ref l0, .int (iI (k2)), .int (iI (f2)), .int (iI (s2))]))] H := hP
  have hD : va_D (va_A [(h0, .inr (2, [.ref l0, .int (iI (kd)), .int (iI (f1)), .int (iI (s1))]))] s.heap.size) [(h0, .inr (2, [.ref l0, .int (iI (k2)), .int (iI (f2)), .int (iI (s2))]))] := hD
  exact ret _ _ _ 15 () d_AT_become_15 hS (trivial) (fun t ht _ => ⟨by rw [ht]; exact hP, hD⟩)

set_option maxHeartbeats 4000000 in
set_option maxRecDepth 100000 in
theorem c_AT_isBetween (l : Launch) (D : va_G) (k : Nat → ClassId) (h0 l0 : Nat) (kd : Int) (f1 : Int) (s1 : Int) (z : Int) (hf : -100000 ≤ f1 ∧ f1 ≤ 100000) (hs : -100000 ≤ s1 ∧ s1 ≤ 100000) (hz : -100000 ≤ z ∧ z ≤ 100000) : Met l y_AT_isBetween wd_AT_isBetween rm_AT_isBetween (va_Pc [.ref h0, .int (iI (z))] (PRO D k [(h0, .inr (2, [.ref l0, .int (iI (kd)), .int (iI (f1)), .int (iI (s1))]))])) (QRi (fun r : Int32 => r = (bI (btw f1 s1 z)))) 0 0 nA := by
  refine r_z (by decide) rfl (Nat.le_of_ble_eq_true rfl) ?_
  intro p e s m args below meth c Q ls hx hb hml hown hts hpre hl ret
  obtain ⟨hP, hK, hX⟩ := hpre
  have hS : va_S nA s.heap s.heap [] := va_S.rf
  have hl : lv_has ls 2 [(0, .ref h0), (1, .int (iI (z)))] := hl
  refine lv_aload_n hx hb d_AT_isBetween_0 rfl (lv_at hl 0 rfl) ?_
  refine va_get (D := D) (ci := 2) (v := .int (iI (f1))) (C := R_AT) (T := F_AT) (N := 4) hx hb hts in_AT hown hK hP 0 rfl rfl 2 (by decide) (hts _ k_161) (fun _ h9 => h9) rfl d_AT_isBetween_1 ?_
  refine lv_aload_n hx hb d_AT_isBetween_4 rfl (lv_at hl 0 rfl) ?_
  refine va_get (D := D) (ci := 2) (v := .int (iI (s1))) (C := R_AT) (T := F_AT) (N := 4) hx hb hts in_AT hown hK hP 0 rfl rfl 3 (by decide) (hts _ k_162) (fun _ h9 => h9) rfl d_AT_isBetween_5 ?_
  refine z_icmp_gt (tgt := 33) hx hb d_AT_isBetween_8 (by decide) ⟨by omega, by omega⟩ ⟨by omega, by omega⟩ (fun h8 => ?_) (fun h8 => ?_)
  · refine lv_aload_n hx hb d_AT_isBetween_33 rfl (lv_at hl 0 rfl) ?_
    refine va_get (D := D) (ci := 2) (v := .int (iI (f1))) (C := R_AT) (T := F_AT) (N := 4) hx hb hts in_AT hown hK hP 0 rfl rfl 2 (by decide) (hts _ k_161) (fun _ h9 => h9) rfl d_AT_isBetween_34 ?_
    refine lv_iload_n hx hb d_AT_isBetween_37 rfl (lv_at hl 1 rfl) ?_
    refine z_icmp_le (tgt := 49) hx hb d_AT_isBetween_38 (by decide) ⟨by omega, by omega⟩ ⟨by omega, by omega⟩ (fun h38 => ?_) (fun h38 => ?_)
    · refine z_iconst hx hb d_AT_isBetween_49 ?_
      refine lv_goto (tgt := 54) hx hb d_AT_isBetween_50 (by decide) ?_
      exact ret _ 54 true d_AT_isBetween_54 (congrArg bI (by unfold btw; first | (rw [if_pos (by omega)]; simp; omega) | (rw [if_neg (by omega)]; simp; omega)))
    · refine lv_iload_n hx hb d_AT_isBetween_41 rfl (lv_at hl 1 rfl) ?_
      refine lv_aload_n hx hb d_AT_isBetween_42 rfl (lv_at hl 0 rfl) ?_
      refine va_get (D := D) (ci := 2) (v := .int (iI (s1))) (C := R_AT) (T := F_AT) (N := 4) hx hb hts in_AT hown hK hP 0 rfl rfl 3 (by decide) (hts _ k_162) (fun _ h9 => h9) rfl d_AT_isBetween_43 ?_
      refine z_icmp_gt (tgt := 53) hx hb d_AT_isBetween_46 (by decide) ⟨by omega, by omega⟩ ⟨by omega, by omega⟩ (fun h46 => ?_) (fun h46 => ?_)
      · refine z_iconst hx hb d_AT_isBetween_53 ?_
        exact ret _ 54 false d_AT_isBetween_54 (congrArg bI (by unfold btw; first | (rw [if_pos (by omega)]; simp; omega) | (rw [if_neg (by omega)]; simp; omega)))
      · refine z_iconst hx hb d_AT_isBetween_49 ?_
        refine lv_goto (tgt := 54) hx hb d_AT_isBetween_50 (by decide) ?_
        exact ret _ 54 true d_AT_isBetween_54 (congrArg bI (by unfold btw; first | (rw [if_pos (by omega)]; simp; omega) | (rw [if_neg (by omega)]; simp; omega)))
  · refine lv_aload_n hx hb d_AT_isBetween_11 rfl (lv_at hl 0 rfl) ?_
    refine va_get (D := D) (ci := 2) (v := .int (iI (f1))) (C := R_AT) (T := F_AT) (N := 4) hx hb hts in_AT hown hK hP 0 rfl rfl 2 (by decide) (hts _ k_161) (fun _ h9 => h9) rfl d_AT_isBetween_12 ?_
    refine lv_iload_n hx hb d_AT_isBetween_15 rfl (lv_at hl 1 rfl) ?_
    refine z_icmp_gt (tgt := 31) hx hb d_AT_isBetween_16 (by decide) ⟨by omega, by omega⟩ ⟨by omega, by omega⟩ (fun h16 => ?_) (fun h16 => ?_)
    · refine z_iconst hx hb d_AT_isBetween_31 ?_
      exact ret _ 32 false d_AT_isBetween_32 (congrArg bI (by unfold btw; first | (rw [if_pos (by omega)]; simp; omega) | (rw [if_neg (by omega)]; simp; omega)))
    · refine lv_iload_n hx hb d_AT_isBetween_19 rfl (lv_at hl 1 rfl) ?_
      refine lv_aload_n hx hb d_AT_isBetween_20 rfl (lv_at hl 0 rfl) ?_
      refine va_get (D := D) (ci := 2) (v := .int (iI (s1))) (C := R_AT) (T := F_AT) (N := 4) hx hb hts in_AT hown hK hP 0 rfl rfl 3 (by decide) (hts _ k_162) (fun _ h9 => h9) rfl d_AT_isBetween_21 ?_
      refine z_icmp_gt (tgt := 31) hx hb d_AT_isBetween_24 (by decide) ⟨by omega, by omega⟩ ⟨by omega, by omega⟩ (fun h24 => ?_) (fun h24 => ?_)
      · refine z_iconst hx hb d_AT_isBetween_31 ?_
        exact ret _ 32 false d_AT_isBetween_32 (congrArg bI (by unfold btw; first | (rw [if_pos (by omega)]; simp; omega) | (rw [if_neg (by omega)]; simp; omega)))
      · refine z_iconst hx hb d_AT_isBetween_27 ?_
        refine lv_goto (tgt := 32) hx hb d_AT_isBetween_28 (by decide) ?_
        exact ret _ 32 true d_AT_isBetween_32 (congrArg bI (by unfold btw; first | (rw [if_pos (by omega)]; simp; omega) | (rw [if_neg (by omega)]; simp; omega)))

set_option maxHeartbeats 4000000 in
set_option maxRecDepth 100000 in
theorem c_AT_matches (l : Launch) (D : va_G) (k : Nat → ClassId) (h0 l0 l1 l2 : Nat) (kd : Int) (f1 : Int) (s1 : Int) (d : Nat) (hd : d < 1461) (ho : atOK kd f1 s1) : Met l y_AT_matches wd_AT_matches rm_AT_matches (va_Pc [.ref h0, .int (iI ((d : Int)))] (PRO D k [(h0, .inr (2, [.ref l0, .int (iI (kd)), .int (iI (f1)), .int (iI (s1))])), (l0, .inr (1, [.ref l1, .ref l2])), (l1, .inl (k 0, 1461, .inl (aZ (dateZ)))), (l2, .inl (k 0, 4, .inl (aZ (feaZ))))])) (QRi (fun r : Int32 => r = (bI (atM kd f1 s1 d)))) 0 0 nA := by
  refine r_z (by decide) rfl (Nat.le_of_ble_eq_true rfl) ?_
  intro p e s m args below meth c Q ls hx hb hml hown hts hpre hl ret
  obtain ⟨hP, hK, hX⟩ := hpre
  have hS : va_S nA s.heap s.heap [] := va_S.rf
  have hl : lv_has ls 2 [(0, .ref h0), (1, .int (iI ((d : Int))))] := hl
  obtain ⟨o1, o2, o3, o4, o5⟩ := ho
  refine lv_aload_n hx hb d_AT_matches_0 rfl (lv_at hl 0 rfl) ?_
  refine va_get (D := D) (ci := 2) (v := .int (iI (kd))) (C := R_AT) (T := F_AT) (N := 4) hx hb hts in_AT hown hK hP 0 rfl rfl 1 (by decide) (hts _ k_160) (fun _ h9 => h9) rfl d_AT_matches_1 ?_
  have hz4 : (iI (kd)).toInt = kd := iI_toInt ⟨by omega, by omega⟩
  by_cases hk4_67 : kd = 67
  · refine lv_tableIn (tgt := 199) (off := 195) hx hb d_AT_matches_4 (by rw [hz4, hk4_67]; decide) (by rw [hz4, hk4_67]; decide) (by rw [hz4, hk4_67]; rfl) (by decide) ?_
    refine lv_aload_n hx hb d_AT_matches_199 rfl (lv_at hl 0 rfl) ?_
    refine va_get (D := D) (ci := 2) (v := .int (iI (f1))) (C := R_AT) (T := F_AT) (N := 4) hx hb hts in_AT hown hK hP 0 rfl rfl 2 (by decide) (hts _ k_161) (fun _ h9 => h9) rfl d_AT_matches_200 ?_
    refine z_if_le (tgt := 223) hx hb d_AT_matches_203 (by decide) ⟨by omega, by omega⟩ (fun h203 => ?_) (fun h203 => ?_)
    · refine z_iconst hx hb d_AT_matches_223 ?_
      exact ret _ 224 false d_AT_matches_224 (congrArg bI (by rw [atM_C hk4_67]; first | (rw [decide_eq_true h216, decide_eq_true (by omega)]; rfl) | (rw [decide_eq_true (show (d : Int) % f1 = s1 by omega), decide_eq_true (show 0 < f1 by omega)]; rfl) | (rw [decide_eq_false (show ¬ 0 < f1 by omega)]; rfl) | (rw [decide_eq_false (show ¬ (d : Int) % f1 = s1 by omega)]; simp)))
    · refine lv_iload_n hx hb d_AT_matches_206 rfl (lv_at hl 1 rfl) ?_
      refine lv_aload_n hx hb d_AT_matches_207 rfl (lv_at hl 0 rfl) ?_
      refine va_get (D := D) (ci := 2) (v := .int (iI (f1))) (C := R_AT) (T := F_AT) (N := 4) hx hb hts in_AT hown hK hP 0 rfl rfl 2 (by decide) (hts _ k_161) (fun _ h9 => h9) rfl d_AT_matches_208 ?_
      refine z_irem hx hb d_AT_matches_211 ⟨by omega, by omega⟩ (by omega) ⟨by omega, by omega⟩ (by omega) ?_
      have hm9 := Int.emod_nonneg (d : Int) (show f1 ≠ 0 by omega)
      have hm8 := Int.emod_lt_of_pos (d : Int) (show 0 < f1 by omega)
      refine lv_aload_n hx hb d_AT_matches_212 rfl (lv_at hl 0 rfl) ?_
      refine va_get (D := D) (ci := 2) (v := .int (iI (s1))) (C := R_AT) (T := F_AT) (N := 4) hx hb hts in_AT hown hK hP 0 rfl rfl 3 (by decide) (hts _ k_162) (fun _ h9 => h9) rfl d_AT_matches_213 ?_
      refine z_icmp_ne (tgt := 223) hx hb d_AT_matches_216 (by decide) ⟨by omega, by omega⟩ ⟨by omega, by omega⟩ (fun h216 => ?_) (fun h216 => ?_)
      · refine z_iconst hx hb d_AT_matches_223 ?_
        exact ret _ 224 false d_AT_matches_224 (congrArg bI (by rw [atM_C hk4_67]; first | (rw [decide_eq_true h216, decide_eq_true (by omega)]; rfl) | (rw [decide_eq_true (show (d : Int) % f1 = s1 by omega), decide_eq_true (show 0 < f1 by omega)]; rfl) | (rw [decide_eq_false (show ¬ 0 < f1 by omega)]; rfl) | (rw [decide_eq_false (show ¬ (d : Int) % f1 = s1 by omega)]; simp)))
      · refine z_iconst hx hb d_AT_matches_219 ?_
        refine lv_goto (tgt := 224) hx hb d_AT_matches_220 (by decide) ?_
        exact ret _ 224 true d_AT_matches_224 (congrArg bI (by rw [atM_C hk4_67]; first | (rw [decide_eq_true h216, decide_eq_true (by omega)]; rfl) | (rw [decide_eq_true (show (d : Int) % f1 = s1 by omega), decide_eq_true (show 0 < f1 by omega)]; rfl) | (rw [decide_eq_false (show ¬ 0 < f1 by omega)]; rfl) | (rw [decide_eq_false (show ¬ (d : Int) % f1 = s1 by omega)]; simp)))
  by_cases hk4_68 : kd = 68
  · refine lv_tableIn (tgt := 164) (off := 160) hx hb d_AT_matches_4 (by rw [hz4, hk4_68]; decide) (by rw [hz4, hk4_68]; decide) (by rw [hz4, hk4_68]; rfl) (by decide) ?_
    refine lv_aload_n hx hb d_AT_matches_164 rfl (lv_at hl 0 rfl) ?_
    refine lv_aload_n hx hb d_AT_matches_165 rfl (lv_at hl 0 rfl) ?_
    refine va_get (D := D) (ci := 2) (v := .ref l0) (C := R_AT) (T := F_AT) (N := 4) hx hb hts in_AT hown hK hP 0 rfl rfl 0 (by decide) (hts _ k_159) (fun _ h9 => h9) rfl d_AT_matches_166 ?_
    refine lv_iload_n hx hb d_AT_matches_169 rfl (lv_at hl 1 rfl) ?_
    refine rc_i (va_runV (As := [.int (iI ((d : Int)))]) (rest := [.ref h0]) (b := l0) ⟨hx, hb, hml, hown, hts⟩ (c_AL_monthAndDay l D k (l0) (l1) (l2) (d) (hd)) ⟨callB_of 1 hts (good_AL_monthAndDay) rfl rfl rfl (hts _ k_61) (hts _ k_509) (by decide +kernel) ⟨Nat.le_of_ble_eq_true rfl, Nat.le_of_ble_eq_true rfl⟩, (hts _ k_510), (hts _ k_511)⟩ ⟨fun a U g mk q => ⟨q.1, q.2.1, va_K.moved (u := U) (U := U.calling g mk a) (Vm.Alike.refl U.vm) q.2.2.1, q.2.2.2.calling⟩, (va_recv (q0 := 1) hK hP rfl rfl), fun U hU hW => ⟨rfl, by rw [hU]; exact (hP.sub (ws' := [(l0, .inr (1, [.ref l1, .ref l2])), (l1, .inl (k 0, 1461, .inl (aZ (dateZ))))]) [1, 2] rfl), va_K.moved hW.alike hK, by rw [hU]; exact hX.warm hW⟩⟩ rfl rfl hl.1 rfl (lv_room (Nat.le_of_ble_eq_true rfl)) d_AT_matches_170 ⟨Nat.le_of_ble_eq_true rfl, Nat.le_of_ble_eq_true rfl⟩) (fun xr_1 h_xr_1 => ?_)
    subst h_xr_1
    have hb9 := dateZ_bd hd
    refine rc_i (va_runV (As := [.int (iI (dateZ d % 10000))]) (rest := []) (b := h0) ⟨hx, hb, hml, hown, hts⟩ (c_AT_isBetween l D k (h0) (l0) (kd) (f1) (s1) (dateZ d % 10000) ((by omega)) ((by omega)) ((by omega))) ⟨callB_of 1 hts (good_AT_isBetween) rfl rfl rfl (hts _ k_64) (hts _ k_513) (by decide +kernel) ⟨Nat.le_of_ble_eq_true rfl, Nat.le_of_ble_eq_true rfl⟩, (hts _ k_515), (hts _ k_19)⟩ ⟨fun a U g mk q => ⟨q.1, q.2.1, va_K.moved (u := U) (U := U.calling g mk a) (Vm.Alike.refl U.vm) q.2.2.1, q.2.2.2.calling⟩, (va_recv (q0 := 0) hK hP rfl rfl), fun U hU hW => ⟨rfl, by rw [hU]; exact (hP.sub (ws' := [(h0, .inr (2, [.ref l0, .int (iI (kd)), .int (iI (f1)), .int (iI (s1))]))]) [0] rfl), va_K.moved hW.alike hK, by rw [hU]; exact hX.warm hW⟩⟩ rfl rfl hl.1 rfl (lv_room (Nat.le_of_ble_eq_true rfl)) d_AT_matches_173 ⟨Nat.le_of_ble_eq_true rfl, Nat.le_of_ble_eq_true rfl⟩) (fun xr_2 h_xr_2 => ?_)
    subst h_xr_2
    exact ret _ 176 (btw f1 s1 (dateZ d % 10000)) d_AT_matches_176 (congrArg bI (by rw [atM_D hk4_68]))
  by_cases hk4_70 : kd = 70
  · refine lv_tableIn (tgt := 225) (off := 221) hx hb d_AT_matches_4 (by rw [hz4, hk4_70]; decide) (by rw [hz4, hk4_70]; decide) (by rw [hz4, hk4_70]; rfl) (by decide) ?_
    refine lv_iload_n hx hb d_AT_matches_225 rfl (lv_at hl 1 rfl) ?_
    refine lv_aload_n hx hb d_AT_matches_226 rfl (lv_at hl 0 rfl) ?_
    refine va_get (D := D) (ci := 2) (v := .ref l0) (C := R_AT) (T := F_AT) (N := 4) hx hb hts in_AT hown hK hP 0 rfl rfl 0 (by decide) (hts _ k_159) (fun _ h9 => h9) rfl d_AT_matches_227 ?_
    refine lv_iload_n hx hb d_AT_matches_230 rfl (lv_at hl 1 rfl) ?_
    refine rc_i (va_runV (As := [.int (iI ((d : Int)))]) (rest := [.int (iI ((d : Int)))]) (b := l0) ⟨hx, hb, hml, hown, hts⟩ (c_AL_feastDay l D k (l0) (l1) (l2) (d) (hd)) ⟨callB_of 1 hts (good_AL_feastDay) rfl rfl rfl (hts _ k_61) (hts _ k_518) (by decide +kernel) ⟨Nat.le_of_ble_eq_true rfl, Nat.le_of_ble_eq_true rfl⟩, (hts _ k_519), (hts _ k_520)⟩ ⟨fun a U g mk q => ⟨q.1, q.2.1, va_K.moved (u := U) (U := U.calling g mk a) (Vm.Alike.refl U.vm) q.2.2.1, q.2.2.2.calling⟩, (va_recv (q0 := 1) hK hP rfl rfl), fun U hU hW => ⟨rfl, by rw [hU]; exact (hP.sub (ws' := [(l0, .inr (1, [.ref l1, .ref l2])), (l2, .inl (k 0, 4, .inl (aZ (feaZ))))]) [1, 3] rfl), va_K.moved hW.alike hK, by rw [hU]; exact hX.warm hW⟩⟩ rfl rfl hl.1 rfl (lv_room (Nat.le_of_ble_eq_true rfl)) d_AT_matches_231 ⟨Nat.le_of_ble_eq_true rfl, Nat.le_of_ble_eq_true rfl⟩) (fun xr_3 h_xr_3 => ?_)
    subst h_xr_3
    have hb9 := ld_bd (yIx_ld hd)
    refine z_isub hx hb d_AT_matches_234 ?_
    refine lv_aload_n hx hb d_AT_matches_235 rfl (lv_at hl 0 rfl) ?_
    refine va_get (D := D) (ci := 2) (v := .int (iI (f1))) (C := R_AT) (T := F_AT) (N := 4) hx hb hts in_AT hown hK hP 0 rfl rfl 2 (by decide) (hts _ k_161) (fun _ h9 => h9) rfl d_AT_matches_236 ?_
    refine z_icmp_ne (tgt := 246) hx hb d_AT_matches_239 (by decide) ⟨by omega, by omega⟩ ⟨by omega, by omega⟩ (fun h239 => ?_) (fun h239 => ?_)
    · refine z_iconst hx hb d_AT_matches_246 ?_
      exact ret _ 247 false d_AT_matches_247 (congrArg bI (by rw [atM_F hk4_70]; simp; omega))
    · refine z_iconst hx hb d_AT_matches_242 ?_
      refine lv_goto (tgt := 247) hx hb d_AT_matches_243 (by decide) ?_
      exact ret _ 247 true d_AT_matches_247 (congrArg bI (by rw [atM_F hk4_70]; simp; omega))
  by_cases hk4_78 : kd = 78
  · refine lv_tableIn (tgt := 132) (off := 128) hx hb d_AT_matches_4 (by rw [hz4, hk4_78]; decide) (by rw [hz4, hk4_78]; decide) (by rw [hz4, hk4_78]; rfl) (by decide) ?_
    refine lv_iload_n hx hb d_AT_matches_132 rfl (lv_at hl 1 rfl) ?_
    refine rc_i (va_runS (As := [.int (iI ((d : Int)))]) (rest := []) ⟨hx, hb, hml, hown, hts⟩ (c_AL_weekday l D k ((d : Int)) (⟨by omega, by omega⟩)) ⟨callB_of 1 hts (good_AL_weekday) rfl rfl rfl (hts _ k_61) (hts _ k_504) (by decide +kernel) ⟨Nat.le_of_ble_eq_true rfl, Nat.le_of_ble_eq_true rfl⟩, (hts _ k_104)⟩ ⟨fun a U g mk q => ⟨q.1, q.2.1, va_K.moved (u := U) (U := U.calling g mk a) (Vm.Alike.refl U.vm) q.2.2.1, q.2.2.2.calling⟩, fun U hU hW => ⟨rfl, by rw [hU]; exact (hP.sub (ws' := []) [] rfl), va_K.moved hW.alike hK, by rw [hU]; exact hX.warm hW⟩⟩ rfl rfl hl.1 rfl (lv_room (Nat.le_of_ble_eq_true rfl)) d_AT_matches_133 ⟨Nat.le_of_ble_eq_true rfl, Nat.le_of_ble_eq_true rfl⟩) (fun xr_4 h_xr_4 => ?_)
    subst h_xr_4
    have hw9 := wDay_bd (z := (d : Int)) (by omega)
    refine lv_aload_n hx hb d_AT_matches_136 rfl (lv_at hl 0 rfl) ?_
    refine va_get (D := D) (ci := 2) (v := .int (iI (s1))) (C := R_AT) (T := F_AT) (N := 4) hx hb hts in_AT hown hK hP 0 rfl rfl 3 (by decide) (hts _ k_162) (fun _ h9 => h9) rfl d_AT_matches_137 ?_
    refine z_icmp_ne (tgt := 162) hx hb d_AT_matches_140 (by decide) ⟨by omega, by omega⟩ ⟨by omega, by omega⟩ (fun h140 => ?_) (fun h140 => ?_)
    · refine z_iconst hx hb d_AT_matches_162 ?_
      exact ret _ 163 false d_AT_matches_163 (congrArg bI (by rw [atM_N hk4_78]; first | (rw [h155]; simp; done) | (rw [decide_eq_false (by omega)]; rfl)))
    · refine lv_aload_n hx hb d_AT_matches_143 rfl (lv_at hl 0 rfl) ?_
      refine va_get (D := D) (ci := 2) (v := .ref l0) (C := R_AT) (T := F_AT) (N := 4) hx hb hts in_AT hown hK hP 0 rfl rfl 0 (by decide) (hts _ k_159) (fun _ h9 => h9) rfl d_AT_matches_144 ?_
      refine lv_iload_n hx hb d_AT_matches_147 rfl (lv_at hl 1 rfl) ?_
      refine lv_aload_n hx hb d_AT_matches_148 rfl (lv_at hl 0 rfl) ?_
      refine va_get (D := D) (ci := 2) (v := .int (iI (f1))) (C := R_AT) (T := F_AT) (N := 4) hx hb hts in_AT hown hK hP 0 rfl rfl 2 (by decide) (hts _ k_161) (fun _ h9 => h9) rfl d_AT_matches_149 ?_
      refine rc_i (va_runV (As := [.int (iI ((d : Int))), .int (iI (f1))]) (rest := []) (b := l0) ⟨hx, hb, hml, hown, hts⟩ (c_AL_hasRank l D k (l0) (l1) (l2) (d) (f1) (hd) ((by omega))) ⟨callB_of 2 hts (good_AL_hasRank) rfl rfl rfl (hts _ k_61) (hts _ k_505) (by decide +kernel) ⟨Nat.le_of_ble_eq_true rfl, Nat.le_of_ble_eq_true rfl⟩, (hts _ k_506), (hts _ k_507)⟩ ⟨fun a U g mk q => ⟨q.1, q.2.1, va_K.moved (u := U) (U := U.calling g mk a) (Vm.Alike.refl U.vm) q.2.2.1, q.2.2.2.calling⟩, (va_recv (q0 := 1) hK hP rfl rfl), fun U hU hW => ⟨rfl, by rw [hU]; exact (hP.sub (ws' := [(l0, .inr (1, [.ref l1, .ref l2])), (l1, .inl (k 0, 1461, .inl (aZ (dateZ))))]) [1, 2] rfl), va_K.moved hW.alike hK, by rw [hU]; exact hX.warm hW⟩⟩ rfl rfl hl.1 rfl (lv_room (Nat.le_of_ble_eq_true rfl)) d_AT_matches_152 ⟨Nat.le_of_ble_eq_true rfl, Nat.le_of_ble_eq_true rfl⟩) (fun xr_5 h_xr_5 => ?_)
      subst h_xr_5
      refine b_if_eq (tgt := 162) hx hb d_AT_matches_155 (by decide) (fun h155 => ?_) (fun h155 => ?_)
      · refine z_iconst hx hb d_AT_matches_162 ?_
        exact ret _ 163 false d_AT_matches_163 (congrArg bI (by rw [atM_N hk4_78]; first | (rw [h155]; simp; done) | (rw [decide_eq_false (by omega)]; rfl)))
      · refine z_iconst hx hb d_AT_matches_158 ?_
        refine lv_goto (tgt := 163) hx hb d_AT_matches_159 (by decide) ?_
        exact ret _ 163 true d_AT_matches_163 (congrArg bI (by rw [atM_N hk4_78, h155]; simp; omega))
  by_cases hk4_80 : kd = 80
  · refine lv_tableIn (tgt := 177) (off := 173) hx hb d_AT_matches_4 (by rw [hz4, hk4_80]; decide) (by rw [hz4, hk4_80]; decide) (by rw [hz4, hk4_80]; rfl) (by decide) ?_
    refine lv_iload_n hx hb d_AT_matches_177 rfl (lv_at hl 1 rfl) ?_
    refine rc_i (va_runS (As := [.int (iI ((d : Int)))]) (rest := []) ⟨hx, hb, hml, hown, hts⟩ (c_AL_week l D k ((d : Int)) (⟨by omega, by omega⟩)) ⟨callB_of 1 hts (good_AL_week) rfl rfl rfl (hts _ k_61) (hts _ k_517) (by decide +kernel) ⟨Nat.le_of_ble_eq_true rfl, Nat.le_of_ble_eq_true rfl⟩, (hts _ k_286)⟩ ⟨fun a U g mk q => ⟨q.1, q.2.1, va_K.moved (u := U) (U := U.calling g mk a) (Vm.Alike.refl U.vm) q.2.2.1, q.2.2.2.calling⟩, fun U hU hW => ⟨rfl, by rw [hU]; exact (hP.sub (ws' := []) [] rfl), va_K.moved hW.alike hK, by rw [hU]; exact hX.warm hW⟩⟩ rfl rfl hl.1 rfl (lv_room (Nat.le_of_ble_eq_true rfl)) d_AT_matches_178 ⟨Nat.le_of_ble_eq_true rfl, Nat.le_of_ble_eq_true rfl⟩) (fun xr_6 h_xr_6 => ?_)
    subst h_xr_6
    have hb9 := weekZ_bd (z := (d : Int)) (by omega) (by omega)
    refine z_bipush hx hb d_AT_matches_181 (by decide) ?_
    refine z_irem hx hb d_AT_matches_183 ⟨by omega, by omega⟩ (by omega) ⟨by omega, by omega⟩ (by omega) ?_
    refine z_iconst hx hb d_AT_matches_184 ?_
    refine z_irem hx hb d_AT_matches_185 ⟨by omega, by omega⟩ (by omega) ⟨by omega, by omega⟩ (by omega) ?_
    refine lv_aload_n hx hb d_AT_matches_186 rfl (lv_at hl 0 rfl) ?_
    refine va_get (D := D) (ci := 2) (v := .int (iI (f1))) (C := R_AT) (T := F_AT) (N := 4) hx hb hts in_AT hown hK hP 0 rfl rfl 2 (by decide) (hts _ k_161) (fun _ h9 => h9) rfl d_AT_matches_187 ?_
    refine z_icmp_ne (tgt := 197) hx hb d_AT_matches_190 (by decide) ⟨by omega, by omega⟩ ⟨by omega, by omega⟩ (fun h190 => ?_) (fun h190 => ?_)
    · refine z_iconst hx hb d_AT_matches_197 ?_
      exact ret _ 198 false d_AT_matches_198 (congrArg bI (by rw [atM_P hk4_80]; simp; omega))
    · refine z_iconst hx hb d_AT_matches_193 ?_
      refine lv_goto (tgt := 198) hx hb d_AT_matches_194 (by decide) ?_
      exact ret _ 198 true d_AT_matches_198 (congrArg bI (by rw [atM_P hk4_80]; simp; omega))
  by_cases hk4_87 : kd = 87
  · refine lv_tableIn (tgt := 112) (off := 108) hx hb d_AT_matches_4 (by rw [hz4, hk4_87]; decide) (by rw [hz4, hk4_87]; decide) (by rw [hz4, hk4_87]; rfl) (by decide) ?_
    refine lv_aload_n hx hb d_AT_matches_112 rfl (lv_at hl 0 rfl) ?_
    refine va_get (D := D) (ci := 2) (v := .int (iI (f1))) (C := R_AT) (T := F_AT) (N := 4) hx hb hts in_AT hown hK hP 0 rfl rfl 2 (by decide) (hts _ k_161) (fun _ h9 => h9) rfl d_AT_matches_113 ?_
    refine lv_iload_n hx hb d_AT_matches_116 rfl (lv_at hl 1 rfl) ?_
    refine rc_i (va_runS (As := [.int (iI ((d : Int)))]) (rest := [.int (iI (f1))]) ⟨hx, hb, hml, hown, hts⟩ (c_AL_weekday l D k ((d : Int)) (⟨by omega, by omega⟩)) ⟨callB_of 1 hts (good_AL_weekday) rfl rfl rfl (hts _ k_61) (hts _ k_504) (by decide +kernel) ⟨Nat.le_of_ble_eq_true rfl, Nat.le_of_ble_eq_true rfl⟩, (hts _ k_104)⟩ ⟨fun a U g mk q => ⟨q.1, q.2.1, va_K.moved (u := U) (U := U.calling g mk a) (Vm.Alike.refl U.vm) q.2.2.1, q.2.2.2.calling⟩, fun U hU hW => ⟨rfl, by rw [hU]; exact (hP.sub (ws' := []) [] rfl), va_K.moved hW.alike hK, by rw [hU]; exact hX.warm hW⟩⟩ rfl rfl hl.1 rfl (lv_room (Nat.le_of_ble_eq_true rfl)) d_AT_matches_117 ⟨Nat.le_of_ble_eq_true rfl, Nat.le_of_ble_eq_true rfl⟩) (fun xr_7 h_xr_7 => ?_)
    subst h_xr_7
    have hw9 := wDay_bd (z := (d : Int)) (by omega)
    obtain ⟨fn, hfn⟩ : ∃ fn : Nat, (fn : Int) = f1 := ⟨f1.toNat, by omega⟩
    obtain ⟨wn, hwn⟩ : ∃ wn : Nat, (wn : Int) = wDay (d : Int) := ⟨(wDay (d : Int)).toNat, by omega⟩
    refine lv_ishr hx hb d_AT_matches_120 ?_
    refine z_iconst hx hb d_AT_matches_121 ?_
    refine lv_iand hx hb d_AT_matches_122 ?_
    refine z_top (show (((iI (f1)) >>> ((iI (wDay ((d : Int)))) &&& 31)) &&& (iI (1))) = (iI (((fn / 2 ^ wn % 2 : Nat) : Int))) from (by rw [← hfn, ← hwn]; exact iI_bitw fn wn (by omega) (by omega))) ?_
    refine z_if_eq (tgt := 130) hx hb d_AT_matches_123 (by decide) ⟨by omega, by omega⟩ (fun h123 => ?_) (fun h123 => ?_)
    · refine z_iconst hx hb d_AT_matches_130 ?_
      exact ret _ 131 false d_AT_matches_131 (congrArg bI (by rw [atM_W hk4_87, show f1.toNat = fn by omega, show (wDay (d : Int)).toNat = wn by omega]; simp; omega))
    · refine z_iconst hx hb d_AT_matches_126 ?_
      refine lv_goto (tgt := 131) hx hb d_AT_matches_127 (by decide) ?_
      exact ret _ 131 true d_AT_matches_131 (congrArg bI (by rw [atM_W hk4_87, show f1.toNat = fn by omega, show (wDay (d : Int)).toNat = wn by omega]; simp; omega))
  by_cases hk4_89 : kd = 89
  · refine lv_tableIn (tgt := 248) (off := 244) hx hb d_AT_matches_4 (by rw [hz4, hk4_89]; decide) (by rw [hz4, hk4_89]; decide) (by rw [hz4, hk4_89]; rfl) (by decide) ?_
    refine lv_aload_n hx hb d_AT_matches_248 rfl (lv_at hl 0 rfl) ?_
    refine z_sipush hx hb d_AT_matches_249 (by decide) ?_
    refine lv_iload_n hx hb d_AT_matches_252 rfl (lv_at hl 1 rfl) ?_
    refine rc_i (va_runSN (As := [.int (iI ((d : Int)))]) (rest := [.int (iI (2000)), .ref h0]) ⟨hx, hb, hml, hown, hts⟩ (c_RC_yearIndex l D k ((d : Int)) (⟨by omega, by omega⟩) ((by omega))) ⟨va_cnB 1 hts (good_RC_yearIndex) rfl rfl rfl (hX.2 _ n_522) (hts _ k_59) (by decide +kernel) ⟨Nat.le_of_ble_eq_true rfl, Nat.le_of_ble_eq_true rfl⟩, (hts _ k_289), trivial⟩ ⟨fun a U g mk q => ⟨q.1, q.2.1, va_K.moved (u := U) (U := U.calling g mk a) (Vm.Alike.refl U.vm) q.2.2.1, q.2.2.2.calling⟩, fun U hU hW => ⟨rfl, by rw [hU]; exact (hP.sub (ws' := []) [] rfl), va_K.moved hW.alike hK, by rw [hU]; exact hX.warm hW⟩⟩ rfl rfl hl.1 rfl (lv_room (Nat.le_of_ble_eq_true rfl)) d_AT_matches_253 ⟨Nat.le_of_ble_eq_true rfl, Nat.le_of_ble_eq_true rfl⟩) (fun xr_8 h_xr_8 => ?_)
    subst h_xr_8
    have hb9 := yIx_bd3 (t := (d : Int)) (by omega) (by omega)
    refine z_iadd hx hb d_AT_matches_256 ?_
    refine rc_i (va_runV (As := [.int (iI (2000 + (yIx ((d : Int)))))]) (rest := []) (b := h0) ⟨hx, hb, hml, hown, hts⟩ (c_AT_isBetween l D k (h0) (l0) (kd) (f1) (s1) (2000 + (yIx (d : Int))) ((by omega)) ((by omega)) ((by omega))) ⟨callB_of 1 hts (good_AT_isBetween) rfl rfl rfl (hts _ k_64) (hts _ k_513) (by decide +kernel) ⟨Nat.le_of_ble_eq_true rfl, Nat.le_of_ble_eq_true rfl⟩, (hts _ k_515), (hts _ k_19)⟩ ⟨fun a U g mk q => ⟨q.1, q.2.1, va_K.moved (u := U) (U := U.calling g mk a) (Vm.Alike.refl U.vm) q.2.2.1, q.2.2.2.calling⟩, (va_recv (q0 := 0) hK hP rfl rfl), fun U hU hW => ⟨rfl, by rw [hU]; exact (hP.sub (ws' := [(h0, .inr (2, [.ref l0, .int (iI (kd)), .int (iI (f1)), .int (iI (s1))]))]) [0] rfl), va_K.moved hW.alike hK, by rw [hU]; exact hX.warm hW⟩⟩ rfl rfl hl.1 rfl (lv_room (Nat.le_of_ble_eq_true rfl)) d_AT_matches_257 ⟨Nat.le_of_ble_eq_true rfl, Nat.le_of_ble_eq_true rfl⟩) (fun xr_9 h_xr_9 => ?_)
    subst h_xr_9
    exact ret _ 260 (btw f1 s1 (2000 + (yIx (d : Int)))) d_AT_matches_260 (congrArg bI (by rw [atM_Y hk4_89]))
  by_cases hk4_69 : kd = 69
  · refine lv_tableIn (tgt := 261) (off := 257) hx hb d_AT_matches_4 (by rw [hz4, hk4_69]; decide) (by rw [hz4, hk4_69]; decide) (by rw [hz4, hk4_69]; rfl) (by decide) ?_
    refine z_iconst hx hb d_AT_matches_261 ?_
    exact ret _ 262 false d_AT_matches_262 (congrArg bI (atM_o (by omega) (by omega) (by omega) (by omega) (by omega) (by omega) (by omega)).symm)
  by_cases hk4_71 : kd = 71
  · refine lv_tableIn (tgt := 261) (off := 257) hx hb d_AT_matches_4 (by rw [hz4, hk4_71]; decide) (by rw [hz4, hk4_71]; decide) (by rw [hz4, hk4_71]; rfl) (by decide) ?_
    refine z_iconst hx hb d_AT_matches_261 ?_
    exact ret _ 262 false d_AT_matches_262 (congrArg bI (atM_o (by omega) (by omega) (by omega) (by omega) (by omega) (by omega) (by omega)).symm)
  by_cases hk4_72 : kd = 72
  · refine lv_tableIn (tgt := 261) (off := 257) hx hb d_AT_matches_4 (by rw [hz4, hk4_72]; decide) (by rw [hz4, hk4_72]; decide) (by rw [hz4, hk4_72]; rfl) (by decide) ?_
    refine z_iconst hx hb d_AT_matches_261 ?_
    exact ret _ 262 false d_AT_matches_262 (congrArg bI (atM_o (by omega) (by omega) (by omega) (by omega) (by omega) (by omega) (by omega)).symm)
  by_cases hk4_73 : kd = 73
  · refine lv_tableIn (tgt := 261) (off := 257) hx hb d_AT_matches_4 (by rw [hz4, hk4_73]; decide) (by rw [hz4, hk4_73]; decide) (by rw [hz4, hk4_73]; rfl) (by decide) ?_
    refine z_iconst hx hb d_AT_matches_261 ?_
    exact ret _ 262 false d_AT_matches_262 (congrArg bI (atM_o (by omega) (by omega) (by omega) (by omega) (by omega) (by omega) (by omega)).symm)
  by_cases hk4_74 : kd = 74
  · refine lv_tableIn (tgt := 261) (off := 257) hx hb d_AT_matches_4 (by rw [hz4, hk4_74]; decide) (by rw [hz4, hk4_74]; decide) (by rw [hz4, hk4_74]; rfl) (by decide) ?_
    refine z_iconst hx hb d_AT_matches_261 ?_
    exact ret _ 262 false d_AT_matches_262 (congrArg bI (atM_o (by omega) (by omega) (by omega) (by omega) (by omega) (by omega) (by omega)).symm)
  by_cases hk4_75 : kd = 75
  · refine lv_tableIn (tgt := 261) (off := 257) hx hb d_AT_matches_4 (by rw [hz4, hk4_75]; decide) (by rw [hz4, hk4_75]; decide) (by rw [hz4, hk4_75]; rfl) (by decide) ?_
    refine z_iconst hx hb d_AT_matches_261 ?_
    exact ret _ 262 false d_AT_matches_262 (congrArg bI (atM_o (by omega) (by omega) (by omega) (by omega) (by omega) (by omega) (by omega)).symm)
  by_cases hk4_76 : kd = 76
  · refine lv_tableIn (tgt := 261) (off := 257) hx hb d_AT_matches_4 (by rw [hz4, hk4_76]; decide) (by rw [hz4, hk4_76]; decide) (by rw [hz4, hk4_76]; rfl) (by decide) ?_
    refine z_iconst hx hb d_AT_matches_261 ?_
    exact ret _ 262 false d_AT_matches_262 (congrArg bI (atM_o (by omega) (by omega) (by omega) (by omega) (by omega) (by omega) (by omega)).symm)
  by_cases hk4_77 : kd = 77
  · refine lv_tableIn (tgt := 261) (off := 257) hx hb d_AT_matches_4 (by rw [hz4, hk4_77]; decide) (by rw [hz4, hk4_77]; decide) (by rw [hz4, hk4_77]; rfl) (by decide) ?_
    refine z_iconst hx hb d_AT_matches_261 ?_
    exact ret _ 262 false d_AT_matches_262 (congrArg bI (atM_o (by omega) (by omega) (by omega) (by omega) (by omega) (by omega) (by omega)).symm)
  by_cases hk4_79 : kd = 79
  · refine lv_tableIn (tgt := 261) (off := 257) hx hb d_AT_matches_4 (by rw [hz4, hk4_79]; decide) (by rw [hz4, hk4_79]; decide) (by rw [hz4, hk4_79]; rfl) (by decide) ?_
    refine z_iconst hx hb d_AT_matches_261 ?_
    exact ret _ 262 false d_AT_matches_262 (congrArg bI (atM_o (by omega) (by omega) (by omega) (by omega) (by omega) (by omega) (by omega)).symm)
  by_cases hk4_81 : kd = 81
  · refine lv_tableIn (tgt := 261) (off := 257) hx hb d_AT_matches_4 (by rw [hz4, hk4_81]; decide) (by rw [hz4, hk4_81]; decide) (by rw [hz4, hk4_81]; rfl) (by decide) ?_
    refine z_iconst hx hb d_AT_matches_261 ?_
    exact ret _ 262 false d_AT_matches_262 (congrArg bI (atM_o (by omega) (by omega) (by omega) (by omega) (by omega) (by omega) (by omega)).symm)
  by_cases hk4_82 : kd = 82
  · refine lv_tableIn (tgt := 261) (off := 257) hx hb d_AT_matches_4 (by rw [hz4, hk4_82]; decide) (by rw [hz4, hk4_82]; decide) (by rw [hz4, hk4_82]; rfl) (by decide) ?_
    refine z_iconst hx hb d_AT_matches_261 ?_
    exact ret _ 262 false d_AT_matches_262 (congrArg bI (atM_o (by omega) (by omega) (by omega) (by omega) (by omega) (by omega) (by omega)).symm)
  by_cases hk4_83 : kd = 83
  · refine lv_tableIn (tgt := 261) (off := 257) hx hb d_AT_matches_4 (by rw [hz4, hk4_83]; decide) (by rw [hz4, hk4_83]; decide) (by rw [hz4, hk4_83]; rfl) (by decide) ?_
    refine z_iconst hx hb d_AT_matches_261 ?_
    exact ret _ 262 false d_AT_matches_262 (congrArg bI (atM_o (by omega) (by omega) (by omega) (by omega) (by omega) (by omega) (by omega)).symm)
  by_cases hk4_84 : kd = 84
  · refine lv_tableIn (tgt := 261) (off := 257) hx hb d_AT_matches_4 (by rw [hz4, hk4_84]; decide) (by rw [hz4, hk4_84]; decide) (by rw [hz4, hk4_84]; rfl) (by decide) ?_
    refine z_iconst hx hb d_AT_matches_261 ?_
    exact ret _ 262 false d_AT_matches_262 (congrArg bI (atM_o (by omega) (by omega) (by omega) (by omega) (by omega) (by omega) (by omega)).symm)
  by_cases hk4_85 : kd = 85
  · refine lv_tableIn (tgt := 261) (off := 257) hx hb d_AT_matches_4 (by rw [hz4, hk4_85]; decide) (by rw [hz4, hk4_85]; decide) (by rw [hz4, hk4_85]; rfl) (by decide) ?_
    refine z_iconst hx hb d_AT_matches_261 ?_
    exact ret _ 262 false d_AT_matches_262 (congrArg bI (atM_o (by omega) (by omega) (by omega) (by omega) (by omega) (by omega) (by omega)).symm)
  by_cases hk4_86 : kd = 86
  · refine lv_tableIn (tgt := 261) (off := 257) hx hb d_AT_matches_4 (by rw [hz4, hk4_86]; decide) (by rw [hz4, hk4_86]; decide) (by rw [hz4, hk4_86]; rfl) (by decide) ?_
    refine z_iconst hx hb d_AT_matches_261 ?_
    exact ret _ 262 false d_AT_matches_262 (congrArg bI (atM_o (by omega) (by omega) (by omega) (by omega) (by omega) (by omega) (by omega)).symm)
  by_cases hk4_88 : kd = 88
  · refine lv_tableIn (tgt := 261) (off := 257) hx hb d_AT_matches_4 (by rw [hz4, hk4_88]; decide) (by rw [hz4, hk4_88]; decide) (by rw [hz4, hk4_88]; rfl) (by decide) ?_
    refine z_iconst hx hb d_AT_matches_261 ?_
    exact ret _ 262 false d_AT_matches_262 (congrArg bI (atM_o (by omega) (by omega) (by omega) (by omega) (by omega) (by omega) (by omega)).symm)
  refine lv_tableOut (tgt := 261) hx hb d_AT_matches_4 (by rw [hz4]; omega) (by decide) ?_
  refine z_iconst hx hb d_AT_matches_261 ?_
  exact ret _ 262 false d_AT_matches_262 (congrArg bI (atM_o (by omega) (by omega) (by omega) (by omega) (by omega) (by omega) (by omega)).symm)

set_option maxHeartbeats 4000000 in
set_option maxRecDepth 100000 in
theorem c_AT_collect (l : Launch) (D : va_G) (k : Nat → ClassId) (sz : Nat) (h0 l0 l1 l2 g0 g1 : Nat) (kd : Int) (f1 : Int) (s1 : Int) (g : Nat → Int64) (ho : atOK kd f1 s1) : Met l y_AT_collect wd_AT_collect rm_AT_collect (va_Pc [.ref h0, .ref g0] (PRW D k [(h0, .inr (2, [.ref l0, .int (iI (kd)), .int (iI (f1)), .int (iI (s1))])), (l0, .inr (1, [.ref l1, .ref l2])), (l1, .inl (k 0, 1461, .inl (aZ (dateZ)))), (l2, .inl (k 0, 4, .inl (aZ (feaZ)))), (g0, .inr (4, [.ref g1])), (g1, .inl (k 1, 23, .inr (.inl (g))))] sz)) (va_Qv (fun u : Unit => True) (fun _ t => BRW D [(h0, .inr (2, [.ref l0, .int (iI (kd)), .int (iI (f1)), .int (iI (s1))])), (l0, .inr (1, [.ref l1, .ref l2])), (l1, .inl (k 0, 1461, .inl (aZ (dateZ)))), (l2, .inl (k 0, 4, .inl (aZ (feaZ)))), (g0, .inr (4, [.ref g1])), (g1, .inl (k 1, 23, .inr (.inl (g))))] sz [(h0, .inr (2, [.ref l0, .int (iI (kd)), .int (iI (f1)), .int (iI (s1))])), (l0, .inr (1, [.ref l1, .ref l2])), (l1, .inl (k 0, 1461, .inl (aZ (dateZ)))), (l2, .inl (k 0, 4, .inl (aZ (feaZ)))), (g0, .inr (4, [.ref g1])), (g1, .inl (k 1, 23, .inr (.inl (clF (atM kd f1 s1) 1461))))] t) (va_A [(h0, .inr (2, [.ref l0, .int (iI (kd)), .int (iI (f1)), .int (iI (s1))])), (l0, .inr (1, [.ref l1, .ref l2])), (l1, .inl (k 0, 1461, .inl (aZ (dateZ)))), (l2, .inl (k 0, 4, .inl (aZ (feaZ)))), (g0, .inr (4, [.ref g1])), (g1, .inl (k 1, 23, .inr (.inl (g))))] sz)) 0 0 (va_A [(h0, .inr (2, [.ref l0, .int (iI (kd)), .int (iI (f1)), .int (iI (s1))])), (l0, .inr (1, [.ref l1, .ref l2])), (l1, .inl (k 0, 1461, .inl (aZ (dateZ)))), (l2, .inl (k 0, 4, .inl (aZ (feaZ)))), (g0, .inr (4, [.ref g1])), (g1, .inl (k 1, 23, .inr (.inl (g))))] sz) := by
  refine e_v (by decide) rfl (Nat.le_of_ble_eq_true rfl) ?_
  intro p e s m args below meth c Q ls hx hb hml hown hts hpre hl hin ret
  obtain ⟨hsz, hP, hK, hD0, hX⟩ := hpre
  subst hsz
  have hD := hD0.self (sz := s.heap.size)
  have hA : ∀ q : Nat, s.heap.size ≤ q → (va_A [(h0, .inr (2, [.ref l0, .int (iI (kd)), .int (iI (f1)), .int (iI (s1))])), (l0, .inr (1, [.ref l1, .ref l2])), (l1, .inl (k 0, 1461, .inl (aZ (dateZ)))), (l2, .inl (k 0, 4, .inl (aZ (feaZ)))), (g0, .inr (4, [.ref g1])), (g1, .inl (k 1, 23, .inr (.inl (g))))] s.heap.size) q := fun q h => Or.inr h
  have hS : va_S (va_A [(h0, .inr (2, [.ref l0, .int (iI (kd)), .int (iI (f1)), .int (iI (s1))])), (l0, .inr (1, [.ref l1, .ref l2])), (l1, .inl (k 0, 1461, .inl (aZ (dateZ)))), (l2, .inl (k 0, 4, .inl (aZ (feaZ)))), (g0, .inr (4, [.ref g1])), (g1, .inl (k 1, 23, .inr (.inl (g))))] s.heap.size) s.heap s.heap [] := va_S.rf
  have hl : lv_has ls 3 [(0, .ref h0), (1, .ref g0)] := hl
  refine lv_aload_n hx hb d_AT_collect_0 rfl (lv_at hl 1 rfl) ?_
  have hPc := hP.sub (ws' := [(g0, .inr (4, [.ref g1])), (g1, .inl (k 1, 23, .inr (.inl (g))))]) [4, 5] rfl
  have hDc := hD.sub (ws' := [(g0, .inr (4, [.ref g1])), (g1, .inl (k 1, 23, .inr (.inl (g))))]) [4, 5] (by decide) rfl
  have hFc := va_free (wc := [(g0, .inr (4, [.ref g1])), (g1, .inl (k 1, 23, .inr (.inl (g))))]) hD hS hA [4, 5] rfl
  refine va_callv (va_runV (As := []) (rest := []) (b := g0) ⟨hx, hb, hml, hown, hts⟩ (c_DS_clear l D k s.heap.size (g0) (g1) (g)) ⟨callB_of 0 hts (good_DS_clear) rfl rfl rfl (hts _ k_63) (hts _ k_499) (by decide +kernel) ⟨Nat.le_of_ble_eq_true rfl, Nat.le_of_ble_eq_true rfl⟩, (hts _ k_451), (hts _ k_452)⟩ ⟨fun a U g mk q => ⟨q.1, q.2.1, q.2.2.1, va_K.moved (u := U) (U := U.calling g mk a) (Vm.Alike.refl U.vm) q.2.2.2.1, q.2.2.2.2.1, q.2.2.2.2.2.calling⟩, (va_recv (q0 := 4) hK hP rfl rfl), fun U hU hW => ⟨rfl, by rw [hU], by rw [hU]; exact hPc, va_K.moved hW.alike hK, hDc.weaken (fun _ _ _ _ => trivial), by rw [hU]; exact (hX.mono hS hFc).warm hW⟩⟩ rfl rfl hl.1 rfl (lv_room (Nat.le_of_ble_eq_true rfl)) d_AT_collect_1 ⟨Nat.le_of_ble_eq_true rfl, Nat.le_of_ble_eq_true rfl⟩) hS (fun q _ h => hFc q h) hFc (fun xu_2 t H1 locs ht hvm h_xr_1 hB hz1 hk1 hS => ?_)
  obtain ⟨hP1, hD1⟩ := hB
  rw [ht] at hP1
  obtain ⟨hP, hD⟩ := va_join (wr := [(h0, .inr (2, [.ref l0, .int (iI (kd)), .int (iI (f1)), .int (iI (s1))])), (l0, .inr (1, [.ref l1, .ref l2])), (l1, .inl (k 0, 1461, .inl (aZ (dateZ)))), (l2, .inl (k 0, 4, .inl (aZ (feaZ))))]) (w1 := [(g0, .inr (4, [.ref g1])), (g1, .inl (k 1, 23, .inr (.inl (fun _ => (0 : Int64)))))]) hP hD [4, 5] [0, 1, 2, 3] rfl rfl (by decide) (by decide) hk1 hFc hP1 hD1
  generalize H1 = H at hP hS ⊢
  have hP := hP.sub (ws' := [(h0, .inr (2, [.ref l0, .int (iI (kd)), .int (iI (f1)), .int (iI (s1))])), (l0, .inr (1, [.ref l1, .ref l2])), (l1, .inl (k 0, 1461, .inl (aZ (dateZ)))), (l2, .inl (k 0, 4, .inl (aZ (feaZ)))), (g0, .inr (4, [.ref g1])), (g1, .inl (k 1, 23, .inr (.inl (fun _ => (0 : Int64)))))]) [0, 1, 2, 3, 4, 5] rfl
  have hD := hD.sub (ws' := [(h0, .inr (2, [.ref l0, .int (iI (kd)), .int (iI (f1)), .int (iI (s1))])), (l0, .inr (1, [.ref l1, .ref l2])), (l1, .inl (k 0, 1461, .inl (aZ (dateZ)))), (l2, .inl (k 0, 4, .inl (aZ (feaZ)))), (g0, .inr (4, [.ref g1])), (g1, .inl (k 1, 23, .inr (.inl (fun _ => (0 : Int64)))))]) [0, 1, 2, 3, 4, 5] (by decide) rfl
  refine z_iconst hx hb d_AT_collect_4 ?_
  refine lv_istore_n (lv' := [(2, .int (iI (0))), (0, .ref h0), (1, .ref g0)]) hx hb d_AT_collect_5 rfl hl (by decide) rfl (fun ls hl => ?_)
  have L6 : ∀ (fu : Nat) (i : Nat) (z : Int) (f2 : Nat → Int64) (ls : Array Slot) (H : Heap) (locs : List Loc), z = (i : Int) → i ≤ 1461 → f2 = clF (atM kd f1 s1) i → 1461 - i < fu → lv_has ls 3 [(0, .ref h0), (1, .ref g0), (2, .int (iI (z)))] → va_P D classes [(h0, .inr (2, [.ref l0, .int (iI (kd)), .int (iI (f1)), .int (iI (s1))])), (l0, .inr (1, [.ref l1, .ref l2])), (l1, .inl (k 0, 1461, .inl (aZ (dateZ)))), (l2, .inl (k 0, 4, .inl (aZ (feaZ)))), (g0, .inr (4, [.ref g1])), (g1, .inl (k 1, 23, .inr (.inl (f2))))] H → va_D (va_A [(h0, .inr (2, [.ref l0, .int (iI (kd)), .int (iI (f1)), .int (iI (s1))])), (l0, .inr (1, [.ref l1, .ref l2])), (l1, .inl (k 0, 1461, .inl (aZ (dateZ)))), (l2, .inl (k 0, 4, .inl (aZ (feaZ)))), (g0, .inr (4, [.ref g1])), (g1, .inl (k 1, 23, .inr (.inl (g))))] s.heap.size) [(h0, .inr (2, [.ref l0, .int (iI (kd)), .int (iI (f1)), .int (iI (s1))])), (l0, .inr (1, [.ref l1, .ref l2])), (l1, .inl (k 0, 1461, .inl (aZ (dateZ)))), (l2, .inl (k 0, 4, .inl (aZ (feaZ)))), (g0, .inr (4, [.ref g1])), (g1, .inl (k 1, 23, .inr (.inl (f2))))] → va_S (va_A [(h0, .inr (2, [.ref l0, .int (iI (kd)), .int (iI (f1)), .int (iI (s1))])), (l0, .inr (1, [.ref l1, .ref l2])), (l1, .inl (k 0, 1461, .inl (aZ (dateZ)))), (l2, .inl (k 0, 4, .inl (aZ (feaZ)))), (g0, .inr (4, [.ref g1])), (g1, .inl (k 1, 23, .inr (.inl (g))))] s.heap.size) s.heap H locs → W p l e rm_AT_collect s m args below meth c H locs 0 0 Q (F0 m 6 ls []) := by
    intro fu
    induction fu with
    | zero => intro i z f2 ls H locs hz hi hf hmu; exact absurd hmu (Nat.not_lt_zero _)
    | succ fu ih6 =>
      intro i z f2 ls H locs hz hi hf hmu hl hP hD hS
      subst hz
      refine lv_iload_n hx hb d_AT_collect_6 rfl (lv_at hl 2 rfl) ?_
      refine z_sipush hx hb d_AT_collect_7 (by decide) ?_
      refine z_icmp_ge (tgt := 32) hx hb d_AT_collect_10 (by decide) ⟨by omega, by omega⟩ ⟨by omega, by omega⟩ (fun h10 => ?_) (fun h10 => ?_)
      · have hi9 : i = 1461 := by omega
        subst hi9
        subst hf
        exact ret _ _ _ 32 () d_AT_collect_32 hS (trivial) (fun t ht _ => ⟨by rw [ht]; exact hP, hD⟩)
      · refine lv_aload_n hx hb d_AT_collect_13 rfl (lv_at hl 0 rfl) ?_
        refine lv_iload_n hx hb d_AT_collect_14 rfl (lv_at hl 2 rfl) ?_
        refine rc_i (va_runV (As := [.int (iI ((i : Int)))]) (rest := []) (b := h0) ⟨hx, hb, hml, hown, hts⟩ (c_AT_matches l D k (h0) (l0) (l1) (l2) (kd) (f1) (s1) (i) ((by omega)) (ho)) ⟨callB_of 1 hts (good_AT_matches) rfl rfl rfl (hts _ k_64) (hts _ k_500) (by decide +kernel) ⟨Nat.le_of_ble_eq_true rfl, Nat.le_of_ble_eq_true rfl⟩, (hts _ k_502), (hts _ k_18)⟩ ⟨fun a U g mk q => ⟨q.1, q.2.1, va_K.moved (u := U) (U := U.calling g mk a) (Vm.Alike.refl U.vm) q.2.2.1, q.2.2.2.calling⟩, (va_recv (q0 := 0) hK hP rfl rfl), fun U hU hW => ⟨rfl, by rw [hU]; exact (hP.sub (ws' := [(h0, .inr (2, [.ref l0, .int (iI (kd)), .int (iI (f1)), .int (iI (s1))])), (l0, .inr (1, [.ref l1, .ref l2])), (l1, .inl (k 0, 1461, .inl (aZ (dateZ)))), (l2, .inl (k 0, 4, .inl (aZ (feaZ))))]) [0, 1, 2, 3] rfl), va_K.moved hW.alike hK, by rw [hU]; exact (hX.mono hS (fun _ h => absurd h id)).warm hW⟩⟩ rfl rfl hl.1 rfl (lv_room (Nat.le_of_ble_eq_true rfl)) d_AT_collect_15 ⟨Nat.le_of_ble_eq_true rfl, Nat.le_of_ble_eq_true rfl⟩) (fun xr_3 h_xr_3 => ?_)
        subst h_xr_3
        refine b_if_eq (tgt := 26) hx hb d_AT_collect_18 (by decide) (fun h18 => ?_) (fun h18 => ?_)
        · refine z_iinc (k := 2) (a := (i : Int)) (lv' := [(2, .int (iI (((i : Int)) + 1))), (0, .ref h0), (1, .ref g0)]) hx hb d_AT_collect_26 hl rfl (by decide) rfl (fun ls hl => ?_)
          refine lv_goto (tgt := 6) hx hb d_AT_collect_29 (by decide) ?_
          exact ih6 (i + 1) ((i : Int) + 1) (f2) ls H locs (by omega) (by omega) (by first | (rw [clF_t h18, ← hf]) | (rw [clF_f h18, ← hf])) (by omega) (lv_sub hl [1, 2, 0] rfl) hP hD hS
        · refine lv_aload_n hx hb d_AT_collect_21 rfl (lv_at hl 1 rfl) ?_
          refine lv_iload_n hx hb d_AT_collect_22 rfl (lv_at hl 2 rfl) ?_
          have hPc := hP.sub (ws' := [(g0, .inr (4, [.ref g1])), (g1, .inl (k 1, 23, .inr (.inl (f2))))]) [4, 5] rfl
          have hDc := hD.sub (ws' := [(g0, .inr (4, [.ref g1])), (g1, .inl (k 1, 23, .inr (.inl (f2))))]) [4, 5] (by decide) rfl
          have hFc := va_free (wc := [(g0, .inr (4, [.ref g1])), (g1, .inl (k 1, 23, .inr (.inl (f2))))]) hD hS hA [4, 5] rfl
          refine va_callv (va_runV (As := [.int (iI ((i : Int)))]) (rest := []) (b := g0) ⟨hx, hb, hml, hown, hts⟩ (c_DS_add l D k H.size (g0) (g1) (f2) (i) ((by omega))) ⟨callB_of 1 hts (good_DS_add) rfl rfl rfl (hts _ k_63) (hts _ k_523) (by decide +kernel) ⟨Nat.le_of_ble_eq_true rfl, Nat.le_of_ble_eq_true rfl⟩, (hts _ k_524), (hts _ k_525)⟩ ⟨fun a U g mk q => ⟨q.1, q.2.1, q.2.2.1, va_K.moved (u := U) (U := U.calling g mk a) (Vm.Alike.refl U.vm) q.2.2.2.1, q.2.2.2.2.1, q.2.2.2.2.2.calling⟩, (va_recv (q0 := 4) hK hP rfl rfl), fun U hU hW => ⟨rfl, by rw [hU], by rw [hU]; exact hPc, va_K.moved hW.alike hK, hDc.weaken (fun _ _ _ _ => trivial), by rw [hU]; exact (hX.mono hS hFc).warm hW⟩⟩ rfl rfl hl.1 rfl (lv_room (Nat.le_of_ble_eq_true rfl)) d_AT_collect_23 ⟨Nat.le_of_ble_eq_true rfl, Nat.le_of_ble_eq_true rfl⟩) hS (fun q _ h => hFc q h) hFc (fun xu_5 t H1 locs ht hvm h_xr_4 hB hz1 hk1 hS => ?_)
          obtain ⟨hP1, hD1⟩ := hB
          rw [ht] at hP1
          obtain ⟨hP, hD⟩ := va_join (wr := [(h0, .inr (2, [.ref l0, .int (iI (kd)), .int (iI (f1)), .int (iI (s1))])), (l0, .inr (1, [.ref l1, .ref l2])), (l1, .inl (k 0, 1461, .inl (aZ (dateZ)))), (l2, .inl (k 0, 4, .inl (aZ (feaZ))))]) (w1 := [(g0, .inr (4, [.ref g1])), (g1, .inl (k 1, 23, .inr (.inl (dsAdd f2 i))))]) hP hD [4, 5] [0, 1, 2, 3] rfl rfl (by decide) (by decide) hk1 hFc hP1 hD1
          generalize H1 = H at hP hS ⊢
          have hP := hP.sub (ws' := [(h0, .inr (2, [.ref l0, .int (iI (kd)), .int (iI (f1)), .int (iI (s1))])), (l0, .inr (1, [.ref l1, .ref l2])), (l1, .inl (k 0, 1461, .inl (aZ (dateZ)))), (l2, .inl (k 0, 4, .inl (aZ (feaZ)))), (g0, .inr (4, [.ref g1])), (g1, .inl (k 1, 23, .inr (.inl (dsAdd f2 i))))]) [0, 1, 2, 3, 4, 5] rfl
          have hD := hD.sub (ws' := [(h0, .inr (2, [.ref l0, .int (iI (kd)), .int (iI (f1)), .int (iI (s1))])), (l0, .inr (1, [.ref l1, .ref l2])), (l1, .inl (k 0, 1461, .inl (aZ (dateZ)))), (l2, .inl (k 0, 4, .inl (aZ (feaZ)))), (g0, .inr (4, [.ref g1])), (g1, .inl (k 1, 23, .inr (.inl (dsAdd f2 i))))]) [0, 1, 2, 3, 4, 5] (by decide) rfl
          refine z_iinc (k := 2) (a := (i : Int)) (lv' := [(2, .int (iI (((i : Int)) + 1))), (0, .ref h0), (1, .ref g0)]) hx hb d_AT_collect_26 hl rfl (by decide) rfl (fun ls hl => ?_)
          refine lv_goto (tgt := 6) hx hb d_AT_collect_29 (by decide) ?_
          exact ih6 (i + 1) ((i : Int) + 1) (dsAdd f2 i) ls H locs (by omega) (by omega) (by first | (rw [clF_t h18, ← hf]) | (rw [clF_f h18, ← hf])) (by omega) (lv_sub hl [1, 2, 0] rfl) hP hD hS
  exact L6 (_) (0) (0) (fun _ => (0 : Int64)) ls H locs (by omega) (by omega) (by rfl) (Nat.lt_succ_self _) (lv_sub hl [1, 2, 0] rfl) hP hD hS

set_option maxHeartbeats 4000000 in
set_option maxRecDepth 100000 in
theorem c_PL_clear (l : Launch) (D : va_G) (k : Nat → ClassId) (sz : Nat) (h0 u0 u1 u2 u3 u4 u5 w0 w1 w2 w3 w4 w5 : Nat) (T : Nat → Nat → Int64) (N : Nat → Nat → Int64) (rl : Nat) : Met l y_PL_clear wd_PL_clear rm_PL_clear (va_Pc [.ref h0] (PRW D k [(h0, .inr (5, [.ref u0, .ref w0, .int (iI ((rl : Int)))])), (u0, .inr (3, [.ref u1])), (u1, .inl (k 4, 4, .inr (.inr (.inr (.inr (rws u2 u3 u4 u5)))))), (u2, .inl (k 1, 1461, .inr (.inl (T 0)))), (u3, .inl (k 1, 1461, .inr (.inl (T 1)))), (u4, .inl (k 1, 1461, .inr (.inl (T 2)))), (u5, .inl (k 1, 1461, .inr (.inl (T 3)))), (w0, .inr (3, [.ref w1])), (w1, .inl (k 4, 4, .inr (.inr (.inr (.inr (rws w2 w3 w4 w5)))))), (w2, .inl (k 1, 1461, .inr (.inl (N 0)))), (w3, .inl (k 1, 1461, .inr (.inl (N 1)))), (w4, .inl (k 1, 1461, .inr (.inl (N 2)))), (w5, .inl (k 1, 1461, .inr (.inl (N 3))))] sz)) (va_Qv (fun u : Unit => True) (fun _ t => BRW D [(h0, .inr (5, [.ref u0, .ref w0, .int (iI ((rl : Int)))])), (u0, .inr (3, [.ref u1])), (u1, .inl (k 4, 4, .inr (.inr (.inr (.inr (rws u2 u3 u4 u5)))))), (u2, .inl (k 1, 1461, .inr (.inl (T 0)))), (u3, .inl (k 1, 1461, .inr (.inl (T 1)))), (u4, .inl (k 1, 1461, .inr (.inl (T 2)))), (u5, .inl (k 1, 1461, .inr (.inl (T 3)))), (w0, .inr (3, [.ref w1])), (w1, .inl (k 4, 4, .inr (.inr (.inr (.inr (rws w2 w3 w4 w5)))))), (w2, .inl (k 1, 1461, .inr (.inl (N 0)))), (w3, .inl (k 1, 1461, .inr (.inl (N 1)))), (w4, .inl (k 1, 1461, .inr (.inl (N 2)))), (w5, .inl (k 1, 1461, .inr (.inl (N 3))))] sz [(h0, .inr (5, [.ref u0, .ref w0, .int (iI (0))])), (u0, .inr (3, [.ref u1])), (u1, .inl (k 4, 4, .inr (.inr (.inr (.inr (rws u2 u3 u4 u5)))))), (u2, .inl (k 1, 1461, .inr (.inl (fun _ => (0 : Int64))))), (u3, .inl (k 1, 1461, .inr (.inl (fun _ => (0 : Int64))))), (u4, .inl (k 1, 1461, .inr (.inl (fun _ => (0 : Int64))))), (u5, .inl (k 1, 1461, .inr (.inl (fun _ => (0 : Int64))))), (w0, .inr (3, [.ref w1])), (w1, .inl (k 4, 4, .inr (.inr (.inr (.inr (rws w2 w3 w4 w5)))))), (w2, .inl (k 1, 1461, .inr (.inl (fun _ => (0 : Int64))))), (w3, .inl (k 1, 1461, .inr (.inl (fun _ => (0 : Int64))))), (w4, .inl (k 1, 1461, .inr (.inl (fun _ => (0 : Int64))))), (w5, .inl (k 1, 1461, .inr (.inl (fun _ => (0 : Int64)))))] t) (va_A [(h0, .inr (5, [.ref u0, .ref w0, .int (iI ((rl : Int)))])), (u0, .inr (3, [.ref u1])), (u1, .inl (k 4, 4, .inr (.inr (.inr (.inr (rws u2 u3 u4 u5)))))), (u2, .inl (k 1, 1461, .inr (.inl (T 0)))), (u3, .inl (k 1, 1461, .inr (.inl (T 1)))), (u4, .inl (k 1, 1461, .inr (.inl (T 2)))), (u5, .inl (k 1, 1461, .inr (.inl (T 3)))), (w0, .inr (3, [.ref w1])), (w1, .inl (k 4, 4, .inr (.inr (.inr (.inr (rws w2 w3 w4 w5)))))), (w2, .inl (k 1, 1461, .inr (.inl (N 0)))), (w3, .inl (k 1, 1461, .inr (.inl (N 1)))), (w4, .inl (k 1, 1461, .inr (.inl (N 2)))), (w5, .inl (k 1, 1461, .inr (.inl (N 3))))] sz)) 0 0 (va_A [(h0, .inr (5, [.ref u0, .ref w0, .int (iI ((rl : Int)))])), (u0, .inr (3, [.ref u1])), (u1, .inl (k 4, 4, .inr (.inr (.inr (.inr (rws u2 u3 u4 u5)))))), (u2, .inl (k 1, 1461, .inr (.inl (T 0)))), (u3, .inl (k 1, 1461, .inr (.inl (T 1)))), (u4, .inl (k 1, 1461, .inr (.inl (T 2)))), (u5, .inl (k 1, 1461, .inr (.inl (T 3)))), (w0, .inr (3, [.ref w1])), (w1, .inl (k 4, 4, .inr (.inr (.inr (.inr (rws w2 w3 w4 w5)))))), (w2, .inl (k 1, 1461, .inr (.inl (N 0)))), (w3, .inl (k 1, 1461, .inr (.inl (N 1)))), (w4, .inl (k 1, 1461, .inr (.inl (N 2)))), (w5, .inl (k 1, 1461, .inr (.inl (N 3))))] sz) := by
  refine e_v (by decide) rfl (Nat.le_of_ble_eq_true rfl) ?_
  intro p e s m args below meth c Q ls hx hb hml hown hts hpre hl hin ret
  obtain ⟨hsz, hP, hK, hD0, hX⟩ := hpre
  subst hsz
  have hD := hD0.self (sz := s.heap.size)
  have hA : ∀ q : Nat, s.heap.size ≤ q → (va_A [(h0, .inr (5, [.ref u0, .ref w0, .int (iI ((rl : Int)))])), (u0, .inr (3, [.ref u1])), (u1, .inl (k 4, 4, .inr (.inr (.inr (.inr (rws u2 u3 u4 u5)))))), (u2, .inl (k 1, 1461, .inr (.inl (T 0)))), (u3, .inl (k 1, 1461, .inr (.inl (T 1)))), (u4, .inl (k 1, 1461, .inr (.inl (T 2)))), (u5, .inl (k 1, 1461, .inr (.inl (T 3)))), (w0, .inr (3, [.ref w1])), (w1, .inl (k 4, 4, .inr (.inr (.inr (.inr (rws w2 w3 w4 w5)))))), (w2, .inl (k 1, 1461, .inr (.inl (N 0)))), (w3, .inl (k 1, 1461, .inr (.inl (N 1)))), (w4, .inl (k 1, 1461, .inr (.inl (N 2)))), (w5, .inl (k 1, 1461, .inr (.inl (N 3))))] s.heap.size) q := fun q h => Or.inr h
  have hS : va_S (va_A [(h0, .inr (5, [.ref u0, .ref w0, .int (iI ((rl : Int)))])), (u0, .inr (3, [.ref u1])), (u1, .inl (k 4, 4, .inr (.inr (.inr (.inr (rws u2 u3 u4 u5)))))), (u2, .inl (k 1, 1461, .inr (.inl (T 0)))), (u3, .inl (k 1, 1461, .inr (.inl (T 1)))), (u4, .inl (k 1, 1461, .inr (.inl (T 2)))), (u5, .inl (k 1, 1461, .inr (.inl (T 3)))), (w0, .inr (3, [.ref w1])), (w1, .inl (k 4, 4, .inr (.inr (.inr (.inr (rws w2 w3 w4 w5)))))), (w2, .inl (k 1, 1461, .inr (.inl (N 0)))), (w3, .inl (k 1, 1461, .inr (.inl (N 1)))), (w4, .inl (k 1, 1461, .inr (.inl (N 2)))), (w5, .inl (k 1, 1461, .inr (.inl (N 3))))] s.heap.size) s.heap s.heap [] := va_S.rf
  have hl : lv_has ls 1 [(0, .ref h0)] := hl
  refine lv_aload_n hx hb d_PL_clear_0 rfl (lv_at hl 0 rfl) ?_
  refine va_get (D := D) (ci := 5) (v := .ref u0) (C := R_PL) (T := F_PL) (N := 3) hx hb hts in_PL hown hK hP 0 rfl rfl 0 (by decide) (hts _ k_224) (fun _ h9 => h9) rfl d_PL_clear_1 ?_
  have hPc := hP.sub (ws' := [(u0, .inr (3, [.ref u1])), (u1, .inl (k 4, 4, .inr (.inr (.inr (.inr (rws u2 u3 u4 u5)))))), (u2, .inl (k 1, 1461, .inr (.inl (T 0)))), (u3, .inl (k 1, 1461, .inr (.inl (T 1)))), (u4, .inl (k 1, 1461, .inr (.inl (T 2)))), (u5, .inl (k 1, 1461, .inr (.inl (T 3))))]) [1, 2, 3, 4, 5, 6] rfl
  have hDc := hD.sub (ws' := [(u0, .inr (3, [.ref u1])), (u1, .inl (k 4, 4, .inr (.inr (.inr (.inr (rws u2 u3 u4 u5)))))), (u2, .inl (k 1, 1461, .inr (.inl (T 0)))), (u3, .inl (k 1, 1461, .inr (.inl (T 1)))), (u4, .inl (k 1, 1461, .inr (.inl (T 2)))), (u5, .inl (k 1, 1461, .inr (.inl (T 3))))]) [1, 2, 3, 4, 5, 6] (by decide) rfl
  have hFc := va_free (wc := [(u0, .inr (3, [.ref u1])), (u1, .inl (k 4, 4, .inr (.inr (.inr (.inr (rws u2 u3 u4 u5)))))), (u2, .inl (k 1, 1461, .inr (.inl (T 0)))), (u3, .inl (k 1, 1461, .inr (.inl (T 1)))), (u4, .inl (k 1, 1461, .inr (.inl (T 2)))), (u5, .inl (k 1, 1461, .inr (.inl (T 3))))]) hD hS hA [1, 2, 3, 4, 5, 6] rfl
  refine va_callv (va_runV (As := []) (rest := []) (b := u0) ⟨hx, hb, hml, hown, hts⟩ (c_CN_clear l D k s.heap.size (u0) (u1) (u2) (u3) (u4) (u5) (T 0) (T 1) (T 2) (T 3)) ⟨callB_of 0 hts (good_CN_clear) rfl rfl rfl (hts _ k_66) (hts _ k_409) (by decide +kernel) ⟨Nat.le_of_ble_eq_true rfl, Nat.le_of_ble_eq_true rfl⟩, (hts _ k_410), (hts _ k_411)⟩ ⟨fun a U g mk q => ⟨q.1, q.2.1, q.2.2.1, va_K.moved (u := U) (U := U.calling g mk a) (Vm.Alike.refl U.vm) q.2.2.2.1, q.2.2.2.2.1, q.2.2.2.2.2.calling⟩, (va_recv (q0 := 1) hK hP rfl rfl), fun U hU hW => ⟨rfl, by rw [hU], by rw [hU]; exact hPc, va_K.moved hW.alike hK, hDc.weaken (fun _ _ _ _ => trivial), by rw [hU]; exact (hX.mono hS hFc).warm hW⟩⟩ rfl rfl hl.1 rfl (lv_room (Nat.le_of_ble_eq_true rfl)) d_PL_clear_4 ⟨Nat.le_of_ble_eq_true rfl, Nat.le_of_ble_eq_true rfl⟩) hS (fun q _ h => hFc q h) hFc (fun xu_2 t H1 locs ht hvm h_xr_1 hB hz1 hk1 hS => ?_)
  obtain ⟨hP1, hD1⟩ := hB
  rw [ht] at hP1
  obtain ⟨hP, hD⟩ := va_join (wr := [(h0, .inr (5, [.ref u0, .ref w0, .int (iI ((rl : Int)))])), (w0, .inr (3, [.ref w1])), (w1, .inl (k 4, 4, .inr (.inr (.inr (.inr (rws w2 w3 w4 w5)))))), (w2, .inl (k 1, 1461, .inr (.inl (N 0)))), (w3, .inl (k 1, 1461, .inr (.inl (N 1)))), (w4, .inl (k 1, 1461, .inr (.inl (N 2)))), (w5, .inl (k 1, 1461, .inr (.inl (N 3))))]) (w1 := [(u0, .inr (3, [.ref u1])), (u1, .inl (k 4, 4, .inr (.inr (.inr (.inr (rws u2 u3 u4 u5)))))), (u2, .inl (k 1, 1461, .inr (.inl (fun _ => (0 : Int64))))), (u3, .inl (k 1, 1461, .inr (.inl (fun _ => (0 : Int64))))), (u4, .inl (k 1, 1461, .inr (.inl (fun _ => (0 : Int64))))), (u5, .inl (k 1, 1461, .inr (.inl (fun _ => (0 : Int64)))))]) hP hD [1, 2, 3, 4, 5, 6] [0, 7, 8, 9, 10, 11, 12] rfl rfl (by decide) (by decide) hk1 hFc hP1 hD1
  generalize H1 = H at hP hS ⊢
  have hP := hP.sub (ws' := [(h0, .inr (5, [.ref u0, .ref w0, .int (iI ((rl : Int)))])), (u0, .inr (3, [.ref u1])), (u1, .inl (k 4, 4, .inr (.inr (.inr (.inr (rws u2 u3 u4 u5)))))), (u2, .inl (k 1, 1461, .inr (.inl (fun _ => (0 : Int64))))), (u3, .inl (k 1, 1461, .inr (.inl (fun _ => (0 : Int64))))), (u4, .inl (k 1, 1461, .inr (.inl (fun _ => (0 : Int64))))), (u5, .inl (k 1, 1461, .inr (.inl (fun _ => (0 : Int64))))), (w0, .inr (3, [.ref w1])), (w1, .inl (k 4, 4, .inr (.inr (.inr (.inr (rws w2 w3 w4 w5)))))), (w2, .inl (k 1, 1461, .inr (.inl (N 0)))), (w3, .inl (k 1, 1461, .inr (.inl (N 1)))), (w4, .inl (k 1, 1461, .inr (.inl (N 2)))), (w5, .inl (k 1, 1461, .inr (.inl (N 3))))]) [0, 7, 8, 9, 10, 11, 12, 1, 2, 3, 4, 5, 6] rfl
  have hD := hD.sub (ws' := [(h0, .inr (5, [.ref u0, .ref w0, .int (iI ((rl : Int)))])), (u0, .inr (3, [.ref u1])), (u1, .inl (k 4, 4, .inr (.inr (.inr (.inr (rws u2 u3 u4 u5)))))), (u2, .inl (k 1, 1461, .inr (.inl (fun _ => (0 : Int64))))), (u3, .inl (k 1, 1461, .inr (.inl (fun _ => (0 : Int64))))), (u4, .inl (k 1, 1461, .inr (.inl (fun _ => (0 : Int64))))), (u5, .inl (k 1, 1461, .inr (.inl (fun _ => (0 : Int64))))), (w0, .inr (3, [.ref w1])), (w1, .inl (k 4, 4, .inr (.inr (.inr (.inr (rws w2 w3 w4 w5)))))), (w2, .inl (k 1, 1461, .inr (.inl (N 0)))), (w3, .inl (k 1, 1461, .inr (.inl (N 1)))), (w4, .inl (k 1, 1461, .inr (.inl (N 2)))), (w5, .inl (k 1, 1461, .inr (.inl (N 3))))]) [0, 7, 8, 9, 10, 11, 12, 1, 2, 3, 4, 5, 6] (by decide) rfl
  refine lv_aload_n hx hb d_PL_clear_7 rfl (lv_at hl 0 rfl) ?_
  refine va_get (D := D) (ci := 5) (v := .ref w0) (C := R_PL) (T := F_PL) (N := 3) hx hb hts in_PL hown hK hP 0 rfl rfl 1 (by decide) (hts _ k_226) (fun _ h9 => h9) rfl d_PL_clear_8 ?_
  have hPc := hP.sub (ws' := [(w0, .inr (3, [.ref w1])), (w1, .inl (k 4, 4, .inr (.inr (.inr (.inr (rws w2 w3 w4 w5)))))), (w2, .inl (k 1, 1461, .inr (.inl (N 0)))), (w3, .inl (k 1, 1461, .inr (.inl (N 1)))), (w4, .inl (k 1, 1461, .inr (.inl (N 2)))), (w5, .inl (k 1, 1461, .inr (.inl (N 3))))]) [7, 8, 9, 10, 11, 12] rfl
  have hDc := hD.sub (ws' := [(w0, .inr (3, [.ref w1])), (w1, .inl (k 4, 4, .inr (.inr (.inr (.inr (rws w2 w3 w4 w5)))))), (w2, .inl (k 1, 1461, .inr (.inl (N 0)))), (w3, .inl (k 1, 1461, .inr (.inl (N 1)))), (w4, .inl (k 1, 1461, .inr (.inl (N 2)))), (w5, .inl (k 1, 1461, .inr (.inl (N 3))))]) [7, 8, 9, 10, 11, 12] (by decide) rfl
  have hFc := va_free (wc := [(w0, .inr (3, [.ref w1])), (w1, .inl (k 4, 4, .inr (.inr (.inr (.inr (rws w2 w3 w4 w5)))))), (w2, .inl (k 1, 1461, .inr (.inl (N 0)))), (w3, .inl (k 1, 1461, .inr (.inl (N 1)))), (w4, .inl (k 1, 1461, .inr (.inl (N 2)))), (w5, .inl (k 1, 1461, .inr (.inl (N 3))))]) hD hS hA [7, 8, 9, 10, 11, 12] rfl
  refine va_callv (va_runV (As := []) (rest := []) (b := w0) ⟨hx, hb, hml, hown, hts⟩ (c_CN_clear l D k H.size (w0) (w1) (w2) (w3) (w4) (w5) (N 0) (N 1) (N 2) (N 3)) ⟨callB_of 0 hts (good_CN_clear) rfl rfl rfl (hts _ k_66) (hts _ k_409) (by decide +kernel) ⟨Nat.le_of_ble_eq_true rfl, Nat.le_of_ble_eq_true rfl⟩, (hts _ k_410), (hts _ k_411)⟩ ⟨fun a U g mk q => ⟨q.1, q.2.1, q.2.2.1, va_K.moved (u := U) (U := U.calling g mk a) (Vm.Alike.refl U.vm) q.2.2.2.1, q.2.2.2.2.1, q.2.2.2.2.2.calling⟩, (va_recv (q0 := 7) hK hP rfl rfl), fun U hU hW => ⟨rfl, by rw [hU], by rw [hU]; exact hPc, va_K.moved hW.alike hK, hDc.weaken (fun _ _ _ _ => trivial), by rw [hU]; exact (hX.mono hS hFc).warm hW⟩⟩ rfl rfl hl.1 rfl (lv_room (Nat.le_of_ble_eq_true rfl)) d_PL_clear_11 ⟨Nat.le_of_ble_eq_true rfl, Nat.le_of_ble_eq_true rfl⟩) hS (fun q _ h => hFc q h) hFc (fun xu_4 t H1 locs ht hvm h_xr_3 hB hz1 hk1 hS => ?_)
  obtain ⟨hP1, hD1⟩ := hB
  rw [ht] at hP1
  obtain ⟨hP, hD⟩ := va_join (wr := [(h0, .inr (5, [.ref u0, .ref w0, .int (iI ((rl : Int)))])), (u0, .inr (3, [.ref u1])), (u1, .inl (k 4, 4, .inr (.inr (.inr (.inr (rws u2 u3 u4 u5)))))), (u2, .inl (k 1, 1461, .inr (.inl (fun _ => (0 : Int64))))), (u3, .inl (k 1, 1461, .inr (.inl (fun _ => (0 : Int64))))), (u4, .inl (k 1, 1461, .inr (.inl (fun _ => (0 : Int64))))), (u5, .inl (k 1, 1461, .inr (.inl (fun _ => (0 : Int64)))))]) (w1 := [(w0, .inr (3, [.ref w1])), (w1, .inl (k 4, 4, .inr (.inr (.inr (.inr (rws w2 w3 w4 w5)))))), (w2, .inl (k 1, 1461, .inr (.inl (fun _ => (0 : Int64))))), (w3, .inl (k 1, 1461, .inr (.inl (fun _ => (0 : Int64))))), (w4, .inl (k 1, 1461, .inr (.inl (fun _ => (0 : Int64))))), (w5, .inl (k 1, 1461, .inr (.inl (fun _ => (0 : Int64)))))]) hP hD [7, 8, 9, 10, 11, 12] [0, 1, 2, 3, 4, 5, 6] rfl rfl (by decide) (by decide) hk1 hFc hP1 hD1
  generalize H1 = H at hP hS ⊢
  have hP := hP.sub (ws' := [(h0, .inr (5, [.ref u0, .ref w0, .int (iI ((rl : Int)))])), (u0, .inr (3, [.ref u1])), (u1, .inl (k 4, 4, .inr (.inr (.inr (.inr (rws u2 u3 u4 u5)))))), (u2, .inl (k 1, 1461, .inr (.inl (fun _ => (0 : Int64))))), (u3, .inl (k 1, 1461, .inr (.inl (fun _ => (0 : Int64))))), (u4, .inl (k 1, 1461, .inr (.inl (fun _ => (0 : Int64))))), (u5, .inl (k 1, 1461, .inr (.inl (fun _ => (0 : Int64))))), (w0, .inr (3, [.ref w1])), (w1, .inl (k 4, 4, .inr (.inr (.inr (.inr (rws w2 w3 w4 w5)))))), (w2, .inl (k 1, 1461, .inr (.inl (fun _ => (0 : Int64))))), (w3, .inl (k 1, 1461, .inr (.inl (fun _ => (0 : Int64))))), (w4, .inl (k 1, 1461, .inr (.inl (fun _ => (0 : Int64))))), (w5, .inl (k 1, 1461, .inr (.inl (fun _ => (0 : Int64)))))]) [0, 1, 2, 3, 4, 5, 6, 7, 8, 9, 10, 11, 12] rfl
  have hD := hD.sub (ws' := [(h0, .inr (5, [.ref u0, .ref w0, .int (iI ((rl : Int)))])), (u0, .inr (3, [.ref u1])), (u1, .inl (k 4, 4, .inr (.inr (.inr (.inr (rws u2 u3 u4 u5)))))), (u2, .inl (k 1, 1461, .inr (.inl (fun _ => (0 : Int64))))), (u3, .inl (k 1, 1461, .inr (.inl (fun _ => (0 : Int64))))), (u4, .inl (k 1, 1461, .inr (.inl (fun _ => (0 : Int64))))), (u5, .inl (k 1, 1461, .inr (.inl (fun _ => (0 : Int64))))), (w0, .inr (3, [.ref w1])), (w1, .inl (k 4, 4, .inr (.inr (.inr (.inr (rws w2 w3 w4 w5)))))), (w2, .inl (k 1, 1461, .inr (.inl (fun _ => (0 : Int64))))), (w3, .inl (k 1, 1461, .inr (.inl (fun _ => (0 : Int64))))), (w4, .inl (k 1, 1461, .inr (.inl (fun _ => (0 : Int64))))), (w5, .inl (k 1, 1461, .inr (.inl (fun _ => (0 : Int64)))))]) [0, 1, 2, 3, 4, 5, 6, 7, 8, 9, 10, 11, 12] (by decide) rfl
  refine lv_aload_n hx hb d_PL_clear_14 rfl (lv_at hl 0 rfl) ?_
  refine z_iconst hx hb d_PL_clear_15 ?_
  refine va_put (D := D) (ci := 5) (v := .int (iI (0))) (ty := .int) (C := R_PL) (T := F_PL) (N := 3) hx hb hts in_PL t_PL t_PL_ok n_PL hown hK hP hD hS 0 rfl rfl 2 (by decide) (hts _ k_228) (fun _ h9 => h9) rfl (by decide +kernel) rfl rfl (Nat.le_of_ble_eq_true rfl) d_PL_clear_16 (fun H locs hP hD hS => ?_)
  have hP : va_P D classes [(h0, .inr (5, [.ref u0, .ref w0, .int (iI (0))])), (u0, .inr (3, [.ref u1])), (u1, .inl (k 4, 4, .inr (.inr (.inr (.inr (rws u2 u3 u4 u5)))))), (u2, .inl (k 1, 1461, .inr (.inl (fun _ => (0 : Int64))))), (u3, .inl (k 1, 1461, .inr (.inl (fun _ => (0 : Int64))))), (u4, .inl (k 1, 1461, .inr (.inl (fun _ => (0 : Int64))))), (u5, .inl (k 1, 1461, .inr (.inl (fun _ => (0 : Int64))))), (w0, .inr (3, [.ref w1])), (w1, .inl (k 4, 4, .inr (.inr (.inr (.inr (rws w2 w3 w4 w5)))))), (w2, .inl (k 1, 1461, .inr (.inl (fun _ => (0 : Int64))))), (w3, .inl (k 1, 1461, .inr (.inl (fun _ => (0 : Int64))))), (w4, .inl (k 1, 1461, .inr (.inl (fun _ => (0 : Int64))))), (w5, .inl (k 1, 1461, .inr (.inl (fun _ => (0 : Int64)))))] H := hP
  have hD : va_D (va_A [(h0, .inr (5, [.ref u0, .ref w0, .int (iI ((rl : Int)))])), (u0, .inr (3, [.ref u1])), (u1, .inl (k 4, 4, .inr (.inr (.inr (.inr (rws u2 u3 u4 u5)))))), (u2, .inl (k 1, 1461, .inr (.inl (T 0)))), (u3, .inl (k 1, 1461, .inr (.inl (T 1)))), (u4, .inl (k 1, 1461, .inr (.inl (T 2)))), (u5, .inl (k 1, 1461, .inr (.inl (T 3)))), (w0, .inr (3, [.ref w1])), (w1, .inl (k 4, 4, .inr (.inr (.inr (.inr (rws w2 w3 w4 w5)))))), (w2, .inl (k 1, 1461, .inr (.inl (N 0)))), (w3, .inl (k 1, 1461, .inr (.inl (N 1)))), (w4, .inl (k 1, 1461, .inr (.inl (N 2)))), (w5, .inl (k 1, 1461, .inr (.inl (N 3))))] s.heap.size) [(h0, .inr (5, [.ref u0, .ref w0, .int (iI (0))])), (u0, .inr (3, [.ref u1])), (u1, .inl (k 4, 4, .inr (.inr (.inr (.inr (rws u2 u3 u4 u5)))))), (u2, .inl (k 1, 1461, .inr (.inl (fun _ => (0 : Int64))))), (u3, .inl (k 1, 1461, .inr (.inl (fun _ => (0 : Int64))))), (u4, .inl (k 1, 1461, .inr (.inl (fun _ => (0 : Int64))))), (u5, .inl (k 1, 1461, .inr (.inl (fun _ => (0 : Int64))))), (w0, .inr (3, [.ref w1])), (w1, .inl (k 4, 4, .inr (.inr (.inr (.inr (rws w2 w3 w4 w5)))))), (w2, .inl (k 1, 1461, .inr (.inl (fun _ => (0 : Int64))))), (w3, .inl (k 1, 1461, .inr (.inl (fun _ => (0 : Int64))))), (w4, .inl (k 1, 1461, .inr (.inl (fun _ => (0 : Int64))))), (w5, .inl (k 1, 1461, .inr (.inl (fun _ => (0 : Int64)))))] := hD
  exact ret _ _ _ 19 () d_PL_clear_19 hS (trivial) (fun t ht _ => ⟨by rw [ht]; exact hP, hD⟩)

set_option maxHeartbeats 4000000 in
set_option maxRecDepth 100000 in
theorem c_PL_lay (l : Launch) (D : va_G) (k : Nat → ClassId) (sz : Nat) (h0 u0 u1 u2 u3 u4 u5 w0 w1 w2 w3 w4 w5 g0 g1 : Nat) (T : Nat → Nat → Int64) (N : Nat → Nat → Int64) (rl : Nat) (tn : Nat) (fr : Nat) (to : Nat) (f : Nat → Int64) (htn : tn < 16) (hrl : rl < 15) (hfr : fr ≤ 48) (hto : to ≤ 48) : Met l y_PL_lay wd_PL_lay rm_PL_lay (va_Pc [.ref h0, .int (iI ((tn : Int))), .int (iI ((fr : Int))), .int (iI ((to : Int))), .ref g0] (PRW D k [(h0, .inr (5, [.ref u0, .ref w0, .int (iI ((rl : Int)))])), (u0, .inr (3, [.ref u1])), (u1, .inl (k 4, 4, .inr (.inr (.inr (.inr (rws u2 u3 u4 u5)))))), (u2, .inl (k 1, 1461, .inr (.inl (T 0)))), (u3, .inl (k 1, 1461, .inr (.inl (T 1)))), (u4, .inl (k 1, 1461, .inr (.inl (T 2)))), (u5, .inl (k 1, 1461, .inr (.inl (T 3)))), (w0, .inr (3, [.ref w1])), (w1, .inl (k 4, 4, .inr (.inr (.inr (.inr (rws w2 w3 w4 w5)))))), (w2, .inl (k 1, 1461, .inr (.inl (N 0)))), (w3, .inl (k 1, 1461, .inr (.inl (N 1)))), (w4, .inl (k 1, 1461, .inr (.inl (N 2)))), (w5, .inl (k 1, 1461, .inr (.inl (N 3)))), (g0, .inr (4, [.ref g1])), (g1, .inl (k 1, 23, .inr (.inl (f))))] sz)) (va_Qv (fun u : Unit => True) (fun _ t => BRW D [(h0, .inr (5, [.ref u0, .ref w0, .int (iI ((rl : Int)))])), (u0, .inr (3, [.ref u1])), (u1, .inl (k 4, 4, .inr (.inr (.inr (.inr (rws u2 u3 u4 u5)))))), (u2, .inl (k 1, 1461, .inr (.inl (T 0)))), (u3, .inl (k 1, 1461, .inr (.inl (T 1)))), (u4, .inl (k 1, 1461, .inr (.inl (T 2)))), (u5, .inl (k 1, 1461, .inr (.inl (T 3)))), (w0, .inr (3, [.ref w1])), (w1, .inl (k 4, 4, .inr (.inr (.inr (.inr (rws w2 w3 w4 w5)))))), (w2, .inl (k 1, 1461, .inr (.inl (N 0)))), (w3, .inl (k 1, 1461, .inr (.inl (N 1)))), (w4, .inl (k 1, 1461, .inr (.inl (N 2)))), (w5, .inl (k 1, 1461, .inr (.inl (N 3)))), (g0, .inr (4, [.ref g1])), (g1, .inl (k 1, 23, .inr (.inl (f))))] sz [(h0, .inr (5, [.ref u0, .ref w0, .int (iI (((rl + 1 : Nat) : Int)))])), (u0, .inr (3, [.ref u1])), (u1, .inl (k 4, 4, .inr (.inr (.inr (.inr (rws u2 u3 u4 u5)))))), (u2, .inl (k 1, 1461, .inr (.inl (layM tn (cel f fr to) T 1461 0)))), (u3, .inl (k 1, 1461, .inr (.inl (layM tn (cel f fr to) T 1461 1)))), (u4, .inl (k 1, 1461, .inr (.inl (layM tn (cel f fr to) T 1461 2)))), (u5, .inl (k 1, 1461, .inr (.inl (layM tn (cel f fr to) T 1461 3)))), (w0, .inr (3, [.ref w1])), (w1, .inl (k 4, 4, .inr (.inr (.inr (.inr (rws w2 w3 w4 w5)))))), (w2, .inl (k 1, 1461, .inr (.inl (layM (rl + 1) (cel f fr to) N 1461 0)))), (w3, .inl (k 1, 1461, .inr (.inl (layM (rl + 1) (cel f fr to) N 1461 1)))), (w4, .inl (k 1, 1461, .inr (.inl (layM (rl + 1) (cel f fr to) N 1461 2)))), (w5, .inl (k 1, 1461, .inr (.inl (layM (rl + 1) (cel f fr to) N 1461 3)))), (g0, .inr (4, [.ref g1])), (g1, .inl (k 1, 23, .inr (.inl (f))))] t) (va_A [(h0, .inr (5, [.ref u0, .ref w0, .int (iI ((rl : Int)))])), (u0, .inr (3, [.ref u1])), (u1, .inl (k 4, 4, .inr (.inr (.inr (.inr (rws u2 u3 u4 u5)))))), (u2, .inl (k 1, 1461, .inr (.inl (T 0)))), (u3, .inl (k 1, 1461, .inr (.inl (T 1)))), (u4, .inl (k 1, 1461, .inr (.inl (T 2)))), (u5, .inl (k 1, 1461, .inr (.inl (T 3)))), (w0, .inr (3, [.ref w1])), (w1, .inl (k 4, 4, .inr (.inr (.inr (.inr (rws w2 w3 w4 w5)))))), (w2, .inl (k 1, 1461, .inr (.inl (N 0)))), (w3, .inl (k 1, 1461, .inr (.inl (N 1)))), (w4, .inl (k 1, 1461, .inr (.inl (N 2)))), (w5, .inl (k 1, 1461, .inr (.inl (N 3)))), (g0, .inr (4, [.ref g1])), (g1, .inl (k 1, 23, .inr (.inl (f))))] sz)) 0 0 (va_A [(h0, .inr (5, [.ref u0, .ref w0, .int (iI ((rl : Int)))])), (u0, .inr (3, [.ref u1])), (u1, .inl (k 4, 4, .inr (.inr (.inr (.inr (rws u2 u3 u4 u5)))))), (u2, .inl (k 1, 1461, .inr (.inl (T 0)))), (u3, .inl (k 1, 1461, .inr (.inl (T 1)))), (u4, .inl (k 1, 1461, .inr (.inl (T 2)))), (u5, .inl (k 1, 1461, .inr (.inl (T 3)))), (w0, .inr (3, [.ref w1])), (w1, .inl (k 4, 4, .inr (.inr (.inr (.inr (rws w2 w3 w4 w5)))))), (w2, .inl (k 1, 1461, .inr (.inl (N 0)))), (w3, .inl (k 1, 1461, .inr (.inl (N 1)))), (w4, .inl (k 1, 1461, .inr (.inl (N 2)))), (w5, .inl (k 1, 1461, .inr (.inl (N 3)))), (g0, .inr (4, [.ref g1])), (g1, .inl (k 1, 23, .inr (.inl (f))))] sz) := by
  refine e_v (by decide) rfl (Nat.le_of_ble_eq_true rfl) ?_
  intro p e s m args below meth c Q ls hx hb hml hown hts hpre hl hin ret
  obtain ⟨hsz, hP, hK, hD0, hX⟩ := hpre
  subst hsz
  have hD := hD0.self (sz := s.heap.size)
  have hA : ∀ q : Nat, s.heap.size ≤ q → (va_A [(h0, .inr (5, [.ref u0, .ref w0, .int (iI ((rl : Int)))])), (u0, .inr (3, [.ref u1])), (u1, .inl (k 4, 4, .inr (.inr (.inr (.inr (rws u2 u3 u4 u5)))))), (u2, .inl (k 1, 1461, .inr (.inl (T 0)))), (u3, .inl (k 1, 1461, .inr (.inl (T 1)))), (u4, .inl (k 1, 1461, .inr (.inl (T 2)))), (u5, .inl (k 1, 1461, .inr (.inl (T 3)))), (w0, .inr (3, [.ref w1])), (w1, .inl (k 4, 4, .inr (.inr (.inr (.inr (rws w2 w3 w4 w5)))))), (w2, .inl (k 1, 1461, .inr (.inl (N 0)))), (w3, .inl (k 1, 1461, .inr (.inl (N 1)))), (w4, .inl (k 1, 1461, .inr (.inl (N 2)))), (w5, .inl (k 1, 1461, .inr (.inl (N 3)))), (g0, .inr (4, [.ref g1])), (g1, .inl (k 1, 23, .inr (.inl (f))))] s.heap.size) q := fun q h => Or.inr h
  have hS : va_S (va_A [(h0, .inr (5, [.ref u0, .ref w0, .int (iI ((rl : Int)))])), (u0, .inr (3, [.ref u1])), (u1, .inl (k 4, 4, .inr (.inr (.inr (.inr (rws u2 u3 u4 u5)))))), (u2, .inl (k 1, 1461, .inr (.inl (T 0)))), (u3, .inl (k 1, 1461, .inr (.inl (T 1)))), (u4, .inl (k 1, 1461, .inr (.inl (T 2)))), (u5, .inl (k 1, 1461, .inr (.inl (T 3)))), (w0, .inr (3, [.ref w1])), (w1, .inl (k 4, 4, .inr (.inr (.inr (.inr (rws w2 w3 w4 w5)))))), (w2, .inl (k 1, 1461, .inr (.inl (N 0)))), (w3, .inl (k 1, 1461, .inr (.inl (N 1)))), (w4, .inl (k 1, 1461, .inr (.inl (N 2)))), (w5, .inl (k 1, 1461, .inr (.inl (N 3)))), (g0, .inr (4, [.ref g1])), (g1, .inl (k 1, 23, .inr (.inl (f))))] s.heap.size) s.heap s.heap [] := va_S.rf
  have hl : lv_has ls 15 [(0, .ref h0), (1, .int (iI ((tn : Int)))), (2, .int (iI ((fr : Int)))), (3, .int (iI ((to : Int)))), (4, .ref g0)] := hl
  refine lv_aload_n hx hb d_PL_lay_0 rfl (lv_at hl 0 rfl) ?_
  refine lv_dup hx hb d_PL_lay_1 rfl ?_
  refine va_get (D := D) (ci := 5) (v := .int (iI ((rl : Int)))) (C := R_PL) (T := F_PL) (N := 3) hx hb hts in_PL hown hK hP 0 rfl rfl 2 (by decide) (hts _ k_228) (fun _ h9 => h9) rfl d_PL_lay_2 ?_
  refine z_iconst hx hb d_PL_lay_5 ?_
  refine z_iadd hx hb d_PL_lay_6 ?_
  refine z_top (show (iI (((rl : Int)) + 1)) = (iI (((rl + 1 : Nat) : Int))) from congrArg iI (by omega)) ?_
  refine va_put (D := D) (ci := 5) (v := .int (iI (((rl + 1 : Nat) : Int)))) (ty := .int) (C := R_PL) (T := F_PL) (N := 3) hx hb hts in_PL t_PL t_PL_ok n_PL hown hK hP hD hS 0 rfl rfl 2 (by decide) (hts _ k_228) (fun _ h9 => h9) rfl (by decide +kernel) rfl rfl (Nat.le_of_ble_eq_true rfl) d_PL_lay_7 (fun H locs hP hD hS => ?_)
  have hP : va_P D classes [(h0, .inr (5, [.ref u0, .ref w0, .int (iI (((rl + 1 : Nat) : Int)))])), (u0, .inr (3, [.ref u1])), (u1, .inl (k 4, 4, .inr (.inr (.inr (.inr (rws u2 u3 u4 u5)))))), (u2, .inl (k 1, 1461, .inr (.inl (T 0)))), (u3, .inl (k 1, 1461, .inr (.inl (T 1)))), (u4, .inl (k 1, 1461, .inr (.inl (T 2)))), (u5, .inl (k 1, 1461, .inr (.inl (T 3)))), (w0, .inr (3, [.ref w1])), (w1, .inl (k 4, 4, .inr (.inr (.inr (.inr (rws w2 w3 w4 w5)))))), (w2, .inl (k 1, 1461, .inr (.inl (N 0)))), (w3, .inl (k 1, 1461, .inr (.inl (N 1)))), (w4, .inl (k 1, 1461, .inr (.inl (N 2)))), (w5, .inl (k 1, 1461, .inr (.inl (N 3)))), (g0, .inr (4, [.ref g1])), (g1, .inl (k 1, 23, .inr (.inl (f))))] H := hP
  have hD : va_D (va_A [(h0, .inr (5, [.ref u0, .ref w0, .int (iI ((rl : Int)))])), (u0, .inr (3, [.ref u1])), (u1, .inl (k 4, 4, .inr (.inr (.inr (.inr (rws u2 u3 u4 u5)))))), (u2, .inl (k 1, 1461, .inr (.inl (T 0)))), (u3, .inl (k 1, 1461, .inr (.inl (T 1)))), (u4, .inl (k 1, 1461, .inr (.inl (T 2)))), (u5, .inl (k 1, 1461, .inr (.inl (T 3)))), (w0, .inr (3, [.ref w1])), (w1, .inl (k 4, 4, .inr (.inr (.inr (.inr (rws w2 w3 w4 w5)))))), (w2, .inl (k 1, 1461, .inr (.inl (N 0)))), (w3, .inl (k 1, 1461, .inr (.inl (N 1)))), (w4, .inl (k 1, 1461, .inr (.inl (N 2)))), (w5, .inl (k 1, 1461, .inr (.inl (N 3)))), (g0, .inr (4, [.ref g1])), (g1, .inl (k 1, 23, .inr (.inl (f))))] s.heap.size) [(h0, .inr (5, [.ref u0, .ref w0, .int (iI (((rl + 1 : Nat) : Int)))])), (u0, .inr (3, [.ref u1])), (u1, .inl (k 4, 4, .inr (.inr (.inr (.inr (rws u2 u3 u4 u5)))))), (u2, .inl (k 1, 1461, .inr (.inl (T 0)))), (u3, .inl (k 1, 1461, .inr (.inl (T 1)))), (u4, .inl (k 1, 1461, .inr (.inl (T 2)))), (u5, .inl (k 1, 1461, .inr (.inl (T 3)))), (w0, .inr (3, [.ref w1])), (w1, .inl (k 4, 4, .inr (.inr (.inr (.inr (rws w2 w3 w4 w5)))))), (w2, .inl (k 1, 1461, .inr (.inl (N 0)))), (w3, .inl (k 1, 1461, .inr (.inl (N 1)))), (w4, .inl (k 1, 1461, .inr (.inl (N 2)))), (w5, .inl (k 1, 1461, .inr (.inl (N 3)))), (g0, .inr (4, [.ref g1])), (g1, .inl (k 1, 23, .inr (.inl (f))))] := hD
  refine lv_iload_n hx hb d_PL_lay_10 rfl (lv_at hl 3 rfl) ?_
  refine lv_iload_n hx hb d_PL_lay_11 rfl (lv_at hl 2 rfl) ?_
  have J12_1 : W p l e rm_PL_lay s m args below meth c H locs 0 0 Q (F0 m 20 ls [.int (bI (decide ((to : Int) < (fr : Int))))]) := by
    refine lv_istore (lv' := [(5, .int (bI (decide ((to : Int) < (fr : Int))))), (0, .ref h0), (1, .int (iI ((tn : Int)))), (2, .int (iI ((fr : Int)))), (3, .int (iI ((to : Int)))), (4, .ref g0)]) hx hb d_PL_lay_20 hl (by decide) rfl (fun ls hl => ?_)
    refine lv_iload hx hb d_PL_lay_22 (lv_at hl 0 rfl) ?_
    have J24_2 : W p l e rm_PL_lay s m args below meth c H locs 0 0 Q (F0 m 37 ls [.long (if decide ((to : Int) < (fr : Int)) then 281474976710655 else cBel to)]) := by
      refine lv_iload_n hx hb d_PL_lay_37 rfl (lv_at hl 3 rfl) ?_
      refine rc_l (va_runSN (As := [.int (iI ((fr : Int)))]) (rest := [.long (if decide ((to : Int) < (fr : Int)) then 281474976710655 else cBel to)]) ⟨hx, hb, hml, hown, hts⟩ (c_RC_cellsBelow l D k (fr)) ⟨va_cnB 1 hts (good_RC_cellsBelow) rfl rfl rfl (hX.2 _ n_548) (hts _ k_59) (by decide +kernel) ⟨Nat.le_of_ble_eq_true rfl, Nat.le_of_ble_eq_true rfl⟩, (hts _ k_549), trivial⟩ ⟨fun a U g mk q => ⟨q.1, q.2.1, va_K.moved (u := U) (U := U.calling g mk a) (Vm.Alike.refl U.vm) q.2.2.1, q.2.2.2.calling⟩, fun U hU hW => ⟨rfl, by rw [hU]; exact (hP.sub (ws' := []) [] rfl), va_K.moved hW.alike hK, by rw [hU]; exact (hX.mono hS (fun _ h => absurd h id)).warm hW⟩⟩ rfl rfl hl.1 rfl (lv_room (Nat.le_of_ble_eq_true rfl)) d_PL_lay_38 ⟨Nat.le_of_ble_eq_true rfl, Nat.le_of_ble_eq_true rfl⟩) (fun xr_1 h_xr_1 => ?_)
      subst h_xr_1
      refine W.ldc2 (v := -1) hx hb hown (hts _ k_551) rfl d_PL_lay_41 ?_
      refine W.eq (g2 := F0 m 44 ls (.long (-1) :: [.long (cBel fr), .long (if decide ((to : Int) < (fr : Int)) then 281474976710655 else cBel to)])) rfl ?_
      refine lv_lxor hx hb d_PL_lay_44 ?_
      refine lv_land hx hb d_PL_lay_45 ?_
      refine lv_lstore (lv' := [(6, .long ((if decide ((to : Int) < (fr : Int)) then 281474976710655 else cBel to) &&& ((cBel fr) ^^^ ((-1 : Int64))))), (5, .int (bI (decide ((to : Int) < (fr : Int))))), (0, .ref h0), (1, .int (iI ((tn : Int)))), (2, .int (iI ((fr : Int)))), (3, .int (iI ((to : Int)))), (4, .ref g0)]) hx hb d_PL_lay_46 hl (by decide) rfl (fun ls hl => ?_)
      refine lv_iload hx hb d_PL_lay_48 (lv_at hl 1 rfl) ?_
      have J50_3 : W p l e rm_PL_lay s m args below meth c H locs 0 0 Q (F0 m 61 ls [.long (onB fr to)]) := by
        refine lv_lstore (lv' := [(8, .long (onB fr to)), (6, .long ((if decide ((to : Int) < (fr : Int)) then 281474976710655 else cBel to) &&& ((cBel fr) ^^^ ((-1 : Int64))))), (5, .int (bI (decide ((to : Int) < (fr : Int))))), (0, .ref h0), (1, .int (iI ((tn : Int)))), (2, .int (iI ((fr : Int)))), (3, .int (iI ((to : Int)))), (4, .ref g0)]) hx hb d_PL_lay_61 hl (by decide) rfl (fun ls hl => ?_)
        refine z_iconst hx hb d_PL_lay_63 ?_
        refine lv_istore (lv' := [(10, .int (iI (0))), (8, .long (onB fr to)), (6, .long ((if decide ((to : Int) < (fr : Int)) then 281474976710655 else cBel to) &&& ((cBel fr) ^^^ ((-1 : Int64))))), (5, .int (bI (decide ((to : Int) < (fr : Int))))), (0, .ref h0), (1, .int (iI ((tn : Int)))), (2, .int (iI ((fr : Int)))), (3, .int (iI ((to : Int)))), (4, .ref g0)]) hx hb d_PL_lay_64 hl (by decide) rfl (fun ls hl => ?_)
        refine z_iconst hx hb d_PL_lay_66 ?_
        refine lv_istore (lv' := [(11, .int (iI (0))), (10, .int (iI (0))), (8, .long (onB fr to)), (6, .long ((if decide ((to : Int) < (fr : Int)) then 281474976710655 else cBel to) &&& ((cBel fr) ^^^ ((-1 : Int64))))), (5, .int (bI (decide ((to : Int) < (fr : Int))))), (0, .ref h0), (1, .int (iI ((tn : Int)))), (2, .int (iI ((fr : Int)))), (3, .int (iI ((to : Int)))), (4, .ref g0)]) hx hb d_PL_lay_67 hl (by decide) rfl (fun ls hl => ?_)
        have L69 : ∀ (fu : Nat) (i : Nat) (z : Int) (b10 : Bool) (T2 : Nat → Nat → Int64) (N2 : Nat → Nat → Int64) (ls : Array Slot) (H : Heap) (locs : List Loc), z = (i : Int) → i ≤ 1461 → b10 = prv f i → T2 = layM tn (cel f fr to) T i → N2 = layM (rl + 1) (cel f fr to) N i → 1461 - i < fu → lv_has ls 15 [(0, .ref h0), (1, .int (iI ((tn : Int)))), (2, .int (iI ((fr : Int)))), (3, .int (iI ((to : Int)))), (4, .ref g0), (6, .long (onD fr to)), (8, .long (onB fr to)), (10, .int (bI (b10))), (11, .int (iI (z)))] → va_P D classes [(h0, .inr (5, [.ref u0, .ref w0, .int (iI (((rl + 1 : Nat) : Int)))])), (u0, .inr (3, [.ref u1])), (u1, .inl (k 4, 4, .inr (.inr (.inr (.inr (rws u2 u3 u4 u5)))))), (u2, .inl (k 1, 1461, .inr (.inl (T2 0)))), (u3, .inl (k 1, 1461, .inr (.inl (T2 1)))), (u4, .inl (k 1, 1461, .inr (.inl (T2 2)))), (u5, .inl (k 1, 1461, .inr (.inl (T2 3)))), (w0, .inr (3, [.ref w1])), (w1, .inl (k 4, 4, .inr (.inr (.inr (.inr (rws w2 w3 w4 w5)))))), (w2, .inl (k 1, 1461, .inr (.inl (N2 0)))), (w3, .inl (k 1, 1461, .inr (.inl (N2 1)))), (w4, .inl (k 1, 1461, .inr (.inl (N2 2)))), (w5, .inl (k 1, 1461, .inr (.inl (N2 3)))), (g0, .inr (4, [.ref g1])), (g1, .inl (k 1, 23, .inr (.inl (f))))] H → va_D (va_A [(h0, .inr (5, [.ref u0, .ref w0, .int (iI ((rl : Int)))])), (u0, .inr (3, [.ref u1])), (u1, .inl (k 4, 4, .inr (.inr (.inr (.inr (rws u2 u3 u4 u5)))))), (u2, .inl (k 1, 1461, .inr (.inl (T 0)))), (u3, .inl (k 1, 1461, .inr (.inl (T 1)))), (u4, .inl (k 1, 1461, .inr (.inl (T 2)))), (u5, .inl (k 1, 1461, .inr (.inl (T 3)))), (w0, .inr (3, [.ref w1])), (w1, .inl (k 4, 4, .inr (.inr (.inr (.inr (rws w2 w3 w4 w5)))))), (w2, .inl (k 1, 1461, .inr (.inl (N 0)))), (w3, .inl (k 1, 1461, .inr (.inl (N 1)))), (w4, .inl (k 1, 1461, .inr (.inl (N 2)))), (w5, .inl (k 1, 1461, .inr (.inl (N 3)))), (g0, .inr (4, [.ref g1])), (g1, .inl (k 1, 23, .inr (.inl (f))))] s.heap.size) [(h0, .inr (5, [.ref u0, .ref w0, .int (iI (((rl + 1 : Nat) : Int)))])), (u0, .inr (3, [.ref u1])), (u1, .inl (k 4, 4, .inr (.inr (.inr (.inr (rws u2 u3 u4 u5)))))), (u2, .inl (k 1, 1461, .inr (.inl (T2 0)))), (u3, .inl (k 1, 1461, .inr (.inl (T2 1)))), (u4, .inl (k 1, 1461, .inr (.inl (T2 2)))), (u5, .inl (k 1, 1461, .inr (.inl (T2 3)))), (w0, .inr (3, [.ref w1])), (w1, .inl (k 4, 4, .inr (.inr (.inr (.inr (rws w2 w3 w4 w5)))))), (w2, .inl (k 1, 1461, .inr (.inl (N2 0)))), (w3, .inl (k 1, 1461, .inr (.inl (N2 1)))), (w4, .inl (k 1, 1461, .inr (.inl (N2 2)))), (w5, .inl (k 1, 1461, .inr (.inl (N2 3)))), (g0, .inr (4, [.ref g1])), (g1, .inl (k 1, 23, .inr (.inl (f))))] → va_S (va_A [(h0, .inr (5, [.ref u0, .ref w0, .int (iI ((rl : Int)))])), (u0, .inr (3, [.ref u1])), (u1, .inl (k 4, 4, .inr (.inr (.inr (.inr (rws u2 u3 u4 u5)))))), (u2, .inl (k 1, 1461, .inr (.inl (T 0)))), (u3, .inl (k 1, 1461, .inr (.inl (T 1)))), (u4, .inl (k 1, 1461, .inr (.inl (T 2)))), (u5, .inl (k 1, 1461, .inr (.inl (T 3)))), (w0, .inr (3, [.ref w1])), (w1, .inl (k 4, 4, .inr (.inr (.inr (.inr (rws w2 w3 w4 w5)))))), (w2, .inl (k 1, 1461, .inr (.inl (N 0)))), (w3, .inl (k 1, 1461, .inr (.inl (N 1)))), (w4, .inl (k 1, 1461, .inr (.inl (N 2)))), (w5, .inl (k 1, 1461, .inr (.inl (N 3)))), (g0, .inr (4, [.ref g1])), (g1, .inl (k 1, 23, .inr (.inl (f))))] s.heap.size) s.heap H locs → W p l e rm_PL_lay s m args below meth c H locs 0 0 Q (F0 m 69 ls []) := by
          intro fu
          induction fu with
          | zero => intro i z b10 T2 N2 ls H locs hz hi hbv hT hN hmu; exact absurd hmu (Nat.not_lt_zero _)
          | succ fu ih69 =>
            intro i z b10 T2 N2 ls H locs hz hi hbv hT hN hmu hl hP hD hS
            subst hz
            refine lv_iload hx hb d_PL_lay_69 (lv_at hl 8 rfl) ?_
            refine z_sipush hx hb d_PL_lay_71 (by decide) ?_
            refine z_icmp_ge (tgt := 155) hx hb d_PL_lay_74 (by decide) ⟨by omega, by omega⟩ ⟨by omega, by omega⟩ (fun h74 => ?_) (fun h74 => ?_)
            · have hi9 : i = 1461 := by omega
              subst hi9
              subst hT
              subst hN
              exact ret _ _ _ 155 () d_PL_lay_155 hS (trivial) (fun t ht _ => ⟨by rw [ht]; exact hP, hD⟩)
            · refine lv_aload hx hb d_PL_lay_77 (lv_at hl 4 rfl) ?_
              refine lv_iload hx hb d_PL_lay_79 (lv_at hl 8 rfl) ?_
              refine rc_i (va_runV (As := [.int (iI ((i : Int)))]) (rest := []) (b := g0) ⟨hx, hb, hml, hown, hts⟩ (c_DS_has l D k (g0) (g1) (f) (i) ((by omega))) ⟨callB_of 1 hts (good_DS_has) rfl rfl rfl (hts _ k_63) (hts _ k_552) (by decide +kernel) ⟨Nat.le_of_ble_eq_true rfl, Nat.le_of_ble_eq_true rfl⟩, (hts _ k_553), (hts _ k_554)⟩ ⟨fun a U g mk q => ⟨q.1, q.2.1, va_K.moved (u := U) (U := U.calling g mk a) (Vm.Alike.refl U.vm) q.2.2.1, q.2.2.2.calling⟩, (va_recv (q0 := 13) hK hP rfl rfl), fun U hU hW => ⟨rfl, by rw [hU]; exact (hP.sub (ws' := [(g0, .inr (4, [.ref g1])), (g1, .inl (k 1, 23, .inr (.inl (f))))]) [13, 14] rfl), va_K.moved hW.alike hK, by rw [hU]; exact (hX.mono hS (fun _ h => absurd h id)).warm hW⟩⟩ rfl rfl hl.1 rfl (lv_room (Nat.le_of_ble_eq_true rfl)) d_PL_lay_81 ⟨Nat.le_of_ble_eq_true rfl, Nat.le_of_ble_eq_true rfl⟩) (fun xr_2 h_xr_2 => ?_)
              subst h_xr_2
              refine lv_istore (lv' := [(12, .int (bI (dsb f i))), (0, .ref h0), (1, .int (iI ((tn : Int)))), (2, .int (iI ((fr : Int)))), (3, .int (iI ((to : Int)))), (4, .ref g0), (6, .long (onD fr to)), (8, .long (onB fr to)), (10, .int (bI (b10))), (11, .int (iI ((i : Int))))]) hx hb d_PL_lay_84 hl (by decide) rfl (fun ls hl => ?_)
              refine lv_iload hx hb d_PL_lay_86 (lv_at hl 0 rfl) ?_
              have J88_4 : W p l e rm_PL_lay s m args below meth c H locs 0 0 Q (F0 m 97 ls [.long (selL (dsb f i) (onD fr to))]) := by
                refine lv_iload hx hb d_PL_lay_97 (lv_at hl 8 rfl) ?_
                have J99_5 : W p l e rm_PL_lay s m args below meth c H locs 0 0 Q (F0 m 108 ls [.long (selL b10 (onB fr to)), .long (selL (dsb f i) (onD fr to))]) := by
                  refine lv_lor hx hb d_PL_lay_108 ?_
                  refine z_topl (show (selL (dsb f i) (onD fr to)) ||| (selL b10 (onB fr to)) = cel f fr to i from (by rw [hbv]; rfl)) ?_
                  refine lv_lstore (lv' := [(13, .long (cel f fr to i)), (12, .int (bI (dsb f i))), (0, .ref h0), (1, .int (iI ((tn : Int)))), (2, .int (iI ((fr : Int)))), (3, .int (iI ((to : Int)))), (4, .ref g0), (6, .long (onD fr to)), (8, .long (onB fr to)), (10, .int (bI (b10))), (11, .int (iI ((i : Int))))]) hx hb d_PL_lay_109 hl (by decide) rfl (fun ls hl => ?_)
                  refine lv_lload hx hb d_PL_lay_111 (lv_at hl 0 rfl) ?_
                  refine lv_lconst (v := 0) hx hb d_PL_lay_113 (by decide) ?_
                  refine l_eq (tgt := 145) hx hb d_PL_lay_114 d_PL_lay_115 (by decide) (fun h114 => ?_) (fun h114 => ?_)
                  · refine lv_iload hx hb d_PL_lay_145 (lv_at hl 1 rfl) ?_
                    refine lv_istore (lv' := [(10, .int (bI (dsb f i))), (13, .long (cel f fr to i)), (12, .int (bI (dsb f i))), (0, .ref h0), (1, .int (iI ((tn : Int)))), (2, .int (iI ((fr : Int)))), (3, .int (iI ((to : Int)))), (4, .ref g0), (6, .long (onD fr to)), (8, .long (onB fr to)), (11, .int (iI ((i : Int))))]) hx hb d_PL_lay_147 hl (by decide) rfl (fun ls hl => ?_)
                    refine z_iinc (k := 10) (a := (i : Int)) (lv' := [(11, .int (iI (((i : Int)) + 1))), (10, .int (bI (dsb f i))), (13, .long (cel f fr to i)), (12, .int (bI (dsb f i))), (0, .ref h0), (1, .int (iI ((tn : Int)))), (2, .int (iI ((fr : Int)))), (3, .int (iI ((to : Int)))), (4, .ref g0), (6, .long (onD fr to)), (8, .long (onB fr to))]) hx hb d_PL_lay_149 hl rfl (by decide) rfl (fun ls hl => ?_)
                    refine lv_goto (tgt := 69) hx hb d_PL_lay_152 (by decide) ?_
                    exact ih69 (i + 1) ((i : Int) + 1) (dsb f i) (T2) (N2) ls H locs (by omega) (by omega) (by rfl) (by rw [hT]; exact layM_skip h114) (by rw [hN]; exact layM_skip h114) (by omega) (lv_sub hl [4, 5, 6, 7, 8, 9, 10, 1, 0] rfl) hP hD hS
                  · refine lv_aload_n hx hb d_PL_lay_118 rfl (lv_at hl 2 rfl) ?_
                    refine va_get (D := D) (ci := 5) (v := .ref u0) (C := R_PL) (T := F_PL) (N := 3) hx hb hts in_PL hown hK hP 0 rfl rfl 0 (by decide) (hts _ k_224) (fun _ h9 => h9) rfl d_PL_lay_119 ?_
                    refine lv_iload hx hb d_PL_lay_122 (lv_at hl 10 rfl) ?_
                    refine lv_lload hx hb d_PL_lay_124 (lv_at hl 0 rfl) ?_
                    refine lv_iload_n hx hb d_PL_lay_126 rfl (lv_at hl 3 rfl) ?_
                    have hPc := hP.sub (ws' := [(u0, .inr (3, [.ref u1])), (u1, .inl (k 4, 4, .inr (.inr (.inr (.inr (rws u2 u3 u4 u5)))))), (u2, .inl (k 1, 1461, .inr (.inl (T2 0)))), (u3, .inl (k 1, 1461, .inr (.inl (T2 1)))), (u4, .inl (k 1, 1461, .inr (.inl (T2 2)))), (u5, .inl (k 1, 1461, .inr (.inl (T2 3))))]) [1, 2, 3, 4, 5, 6] rfl
                    have hDc := hD.sub (ws' := [(u0, .inr (3, [.ref u1])), (u1, .inl (k 4, 4, .inr (.inr (.inr (.inr (rws u2 u3 u4 u5)))))), (u2, .inl (k 1, 1461, .inr (.inl (T2 0)))), (u3, .inl (k 1, 1461, .inr (.inl (T2 1)))), (u4, .inl (k 1, 1461, .inr (.inl (T2 2)))), (u5, .inl (k 1, 1461, .inr (.inl (T2 3))))]) [1, 2, 3, 4, 5, 6] (by decide) rfl
                    have hFc := va_free (wc := [(u0, .inr (3, [.ref u1])), (u1, .inl (k 4, 4, .inr (.inr (.inr (.inr (rws u2 u3 u4 u5)))))), (u2, .inl (k 1, 1461, .inr (.inl (T2 0)))), (u3, .inl (k 1, 1461, .inr (.inl (T2 1)))), (u4, .inl (k 1, 1461, .inr (.inl (T2 2)))), (u5, .inl (k 1, 1461, .inr (.inl (T2 3))))]) hD hS hA [1, 2, 3, 4, 5, 6] rfl
                    refine va_callv (va_runV (As := [.int (iI ((i : Int))), .long (cel f fr to i), .int (iI ((tn : Int)))]) (rest := []) (b := u0) ⟨hx, hb, hml, hown, hts⟩ (c_CN_put l D k H.size (u0) (u1) (u2) (u3) (u4) (u5) (T2 0) (T2 1) (T2 2) (T2 3) (i) (cel f fr to i) (tn) ((by omega)) (htn)) ⟨callB_of 3 hts (good_CN_put) rfl rfl rfl (hts _ k_66) (hts _ k_556) (by decide +kernel) ⟨Nat.le_of_ble_eq_true rfl, Nat.le_of_ble_eq_true rfl⟩, (hts _ k_557), (hts _ k_558)⟩ ⟨fun a U g mk q => ⟨q.1, q.2.1, q.2.2.1, va_K.moved (u := U) (U := U.calling g mk a) (Vm.Alike.refl U.vm) q.2.2.2.1, q.2.2.2.2.1, q.2.2.2.2.2.calling⟩, (va_recv (q0 := 1) hK hP rfl rfl), fun U hU hW => ⟨rfl, by rw [hU], by rw [hU]; exact hPc, va_K.moved hW.alike hK, hDc.weaken (fun _ _ _ _ => trivial), by rw [hU]; exact (hX.mono hS hFc).warm hW⟩⟩ rfl rfl hl.1 rfl (lv_room (Nat.le_of_ble_eq_true rfl)) d_PL_lay_127 ⟨Nat.le_of_ble_eq_true rfl, Nat.le_of_ble_eq_true rfl⟩) hS (fun q _ h => hFc q h) hFc (fun xu_4 t H1 locs ht hvm h_xr_3 hB hz1 hk1 hS => ?_)
                    obtain ⟨hP1, hD1⟩ := hB
                    rw [ht] at hP1
                    obtain ⟨hP, hD⟩ := va_join (wr := [(h0, .inr (5, [.ref u0, .ref w0, .int (iI (((rl + 1 : Nat) : Int)))])), (w0, .inr (3, [.ref w1])), (w1, .inl (k 4, 4, .inr (.inr (.inr (.inr (rws w2 w3 w4 w5)))))), (w2, .inl (k 1, 1461, .inr (.inl (N2 0)))), (w3, .inl (k 1, 1461, .inr (.inl (N2 1)))), (w4, .inl (k 1, 1461, .inr (.inl (N2 2)))), (w5, .inl (k 1, 1461, .inr (.inl (N2 3)))), (g0, .inr (4, [.ref g1])), (g1, .inl (k 1, 23, .inr (.inl (f))))]) (w1 := [(u0, .inr (3, [.ref u1])), (u1, .inl (k 4, 4, .inr (.inr (.inr (.inr (rws u2 u3 u4 u5)))))), (u2, .inl (k 1, 1461, .inr (.inl (putF tn 0 (T2 0) i (cel f fr to i))))), (u3, .inl (k 1, 1461, .inr (.inl (putF tn 1 (T2 1) i (cel f fr to i))))), (u4, .inl (k 1, 1461, .inr (.inl (putF tn 2 (T2 2) i (cel f fr to i))))), (u5, .inl (k 1, 1461, .inr (.inl (putF tn 3 (T2 3) i (cel f fr to i)))))]) hP hD [1, 2, 3, 4, 5, 6] [0, 7, 8, 9, 10, 11, 12, 13, 14] rfl rfl (by decide) (by decide) hk1 hFc hP1 hD1
                    generalize H1 = H at hP hS ⊢
                    have hP := hP.sub (ws' := [(h0, .inr (5, [.ref u0, .ref w0, .int (iI (((rl + 1 : Nat) : Int)))])), (u0, .inr (3, [.ref u1])), (u1, .inl (k 4, 4, .inr (.inr (.inr (.inr (rws u2 u3 u4 u5)))))), (u2, .inl (k 1, 1461, .inr (.inl (putF tn 0 (T2 0) i (cel f fr to i))))), (u3, .inl (k 1, 1461, .inr (.inl (putF tn 1 (T2 1) i (cel f fr to i))))), (u4, .inl (k 1, 1461, .inr (.inl (putF tn 2 (T2 2) i (cel f fr to i))))), (u5, .inl (k 1, 1461, .inr (.inl (putF tn 3 (T2 3) i (cel f fr to i))))), (w0, .inr (3, [.ref w1])), (w1, .inl (k 4, 4, .inr (.inr (.inr (.inr (rws w2 w3 w4 w5)))))), (w2, .inl (k 1, 1461, .inr (.inl (N2 0)))), (w3, .inl (k 1, 1461, .inr (.inl (N2 1)))), (w4, .inl (k 1, 1461, .inr (.inl (N2 2)))), (w5, .inl (k 1, 1461, .inr (.inl (N2 3)))), (g0, .inr (4, [.ref g1])), (g1, .inl (k 1, 23, .inr (.inl (f))))]) [0, 9, 10, 11, 12, 13, 14, 1, 2, 3, 4, 5, 6, 7, 8] rfl
                    have hD := hD.sub (ws' := [(h0, .inr (5, [.ref u0, .ref w0, .int (iI (((rl + 1 : Nat) : Int)))])), (u0, .inr (3, [.ref u1])), (u1, .inl (k 4, 4, .inr (.inr (.inr (.inr (rws u2 u3 u4 u5)))))), (u2, .inl (k 1, 1461, .inr (.inl (putF tn 0 (T2 0) i (cel f fr to i))))), (u3, .inl (k 1, 1461, .inr (.inl (putF tn 1 (T2 1) i (cel f fr to i))))), (u4, .inl (k 1, 1461, .inr (.inl (putF tn 2 (T2 2) i (cel f fr to i))))), (u5, .inl (k 1, 1461, .inr (.inl (putF tn 3 (T2 3) i (cel f fr to i))))), (w0, .inr (3, [.ref w1])), (w1, .inl (k 4, 4, .inr (.inr (.inr (.inr (rws w2 w3 w4 w5)))))), (w2, .inl (k 1, 1461, .inr (.inl (N2 0)))), (w3, .inl (k 1, 1461, .inr (.inl (N2 1)))), (w4, .inl (k 1, 1461, .inr (.inl (N2 2)))), (w5, .inl (k 1, 1461, .inr (.inl (N2 3)))), (g0, .inr (4, [.ref g1])), (g1, .inl (k 1, 23, .inr (.inl (f))))]) [0, 9, 10, 11, 12, 13, 14, 1, 2, 3, 4, 5, 6, 7, 8] (by decide) rfl
                    refine lv_aload_n hx hb d_PL_lay_130 rfl (lv_at hl 2 rfl) ?_
                    refine va_get (D := D) (ci := 5) (v := .ref w0) (C := R_PL) (T := F_PL) (N := 3) hx hb hts in_PL hown hK hP 0 rfl rfl 1 (by decide) (hts _ k_226) (fun _ h9 => h9) rfl d_PL_lay_131 ?_
                    refine lv_iload hx hb d_PL_lay_134 (lv_at hl 10 rfl) ?_
                    refine lv_lload hx hb d_PL_lay_136 (lv_at hl 0 rfl) ?_
                    refine lv_aload_n hx hb d_PL_lay_138 rfl (lv_at hl 2 rfl) ?_
                    refine va_get (D := D) (ci := 5) (v := .int (iI (((rl + 1 : Nat) : Int)))) (C := R_PL) (T := F_PL) (N := 3) hx hb hts in_PL hown hK hP 0 rfl rfl 2 (by decide) (hts _ k_228) (fun _ h9 => h9) rfl d_PL_lay_139 ?_
                    have hPc := hP.sub (ws' := [(w0, .inr (3, [.ref w1])), (w1, .inl (k 4, 4, .inr (.inr (.inr (.inr (rws w2 w3 w4 w5)))))), (w2, .inl (k 1, 1461, .inr (.inl (N2 0)))), (w3, .inl (k 1, 1461, .inr (.inl (N2 1)))), (w4, .inl (k 1, 1461, .inr (.inl (N2 2)))), (w5, .inl (k 1, 1461, .inr (.inl (N2 3))))]) [7, 8, 9, 10, 11, 12] rfl
                    have hDc := hD.sub (ws' := [(w0, .inr (3, [.ref w1])), (w1, .inl (k 4, 4, .inr (.inr (.inr (.inr (rws w2 w3 w4 w5)))))), (w2, .inl (k 1, 1461, .inr (.inl (N2 0)))), (w3, .inl (k 1, 1461, .inr (.inl (N2 1)))), (w4, .inl (k 1, 1461, .inr (.inl (N2 2)))), (w5, .inl (k 1, 1461, .inr (.inl (N2 3))))]) [7, 8, 9, 10, 11, 12] (by decide) rfl
                    have hFc := va_free (wc := [(w0, .inr (3, [.ref w1])), (w1, .inl (k 4, 4, .inr (.inr (.inr (.inr (rws w2 w3 w4 w5)))))), (w2, .inl (k 1, 1461, .inr (.inl (N2 0)))), (w3, .inl (k 1, 1461, .inr (.inl (N2 1)))), (w4, .inl (k 1, 1461, .inr (.inl (N2 2)))), (w5, .inl (k 1, 1461, .inr (.inl (N2 3))))]) hD hS hA [7, 8, 9, 10, 11, 12] rfl
                    refine va_callv (va_runV (As := [.int (iI ((i : Int))), .long (cel f fr to i), .int (iI (((rl + 1 : Nat) : Int)))]) (rest := []) (b := w0) ⟨hx, hb, hml, hown, hts⟩ (c_CN_put l D k H.size (w0) (w1) (w2) (w3) (w4) (w5) (N2 0) (N2 1) (N2 2) (N2 3) (i) (cel f fr to i) (rl + 1) ((by omega)) ((by omega))) ⟨callB_of 3 hts (good_CN_put) rfl rfl rfl (hts _ k_66) (hts _ k_556) (by decide +kernel) ⟨Nat.le_of_ble_eq_true rfl, Nat.le_of_ble_eq_true rfl⟩, (hts _ k_557), (hts _ k_558)⟩ ⟨fun a U g mk q => ⟨q.1, q.2.1, q.2.2.1, va_K.moved (u := U) (U := U.calling g mk a) (Vm.Alike.refl U.vm) q.2.2.2.1, q.2.2.2.2.1, q.2.2.2.2.2.calling⟩, (va_recv (q0 := 7) hK hP rfl rfl), fun U hU hW => ⟨rfl, by rw [hU], by rw [hU]; exact hPc, va_K.moved hW.alike hK, hDc.weaken (fun _ _ _ _ => trivial), by rw [hU]; exact (hX.mono hS hFc).warm hW⟩⟩ rfl rfl hl.1 rfl (lv_room (Nat.le_of_ble_eq_true rfl)) d_PL_lay_142 ⟨Nat.le_of_ble_eq_true rfl, Nat.le_of_ble_eq_true rfl⟩) hS (fun q _ h => hFc q h) hFc (fun xu_6 t H1 locs ht hvm h_xr_5 hB hz1 hk1 hS => ?_)
                    obtain ⟨hP1, hD1⟩ := hB
                    rw [ht] at hP1
                    obtain ⟨hP, hD⟩ := va_join (wr := [(h0, .inr (5, [.ref u0, .ref w0, .int (iI (((rl + 1 : Nat) : Int)))])), (u0, .inr (3, [.ref u1])), (u1, .inl (k 4, 4, .inr (.inr (.inr (.inr (rws u2 u3 u4 u5)))))), (u2, .inl (k 1, 1461, .inr (.inl (putF tn 0 (T2 0) i (cel f fr to i))))), (u3, .inl (k 1, 1461, .inr (.inl (putF tn 1 (T2 1) i (cel f fr to i))))), (u4, .inl (k 1, 1461, .inr (.inl (putF tn 2 (T2 2) i (cel f fr to i))))), (u5, .inl (k 1, 1461, .inr (.inl (putF tn 3 (T2 3) i (cel f fr to i))))), (g0, .inr (4, [.ref g1])), (g1, .inl (k 1, 23, .inr (.inl (f))))]) (w1 := [(w0, .inr (3, [.ref w1])), (w1, .inl (k 4, 4, .inr (.inr (.inr (.inr (rws w2 w3 w4 w5)))))), (w2, .inl (k 1, 1461, .inr (.inl (putF (rl + 1) 0 (N2 0) i (cel f fr to i))))), (w3, .inl (k 1, 1461, .inr (.inl (putF (rl + 1) 1 (N2 1) i (cel f fr to i))))), (w4, .inl (k 1, 1461, .inr (.inl (putF (rl + 1) 2 (N2 2) i (cel f fr to i))))), (w5, .inl (k 1, 1461, .inr (.inl (putF (rl + 1) 3 (N2 3) i (cel f fr to i)))))]) hP hD [7, 8, 9, 10, 11, 12] [0, 1, 2, 3, 4, 5, 6, 13, 14] rfl rfl (by decide) (by decide) hk1 hFc hP1 hD1
                    generalize H1 = H at hP hS ⊢
                    have hP := hP.sub (ws' := [(h0, .inr (5, [.ref u0, .ref w0, .int (iI (((rl + 1 : Nat) : Int)))])), (u0, .inr (3, [.ref u1])), (u1, .inl (k 4, 4, .inr (.inr (.inr (.inr (rws u2 u3 u4 u5)))))), (u2, .inl (k 1, 1461, .inr (.inl (putF tn 0 (T2 0) i (cel f fr to i))))), (u3, .inl (k 1, 1461, .inr (.inl (putF tn 1 (T2 1) i (cel f fr to i))))), (u4, .inl (k 1, 1461, .inr (.inl (putF tn 2 (T2 2) i (cel f fr to i))))), (u5, .inl (k 1, 1461, .inr (.inl (putF tn 3 (T2 3) i (cel f fr to i))))), (w0, .inr (3, [.ref w1])), (w1, .inl (k 4, 4, .inr (.inr (.inr (.inr (rws w2 w3 w4 w5)))))), (w2, .inl (k 1, 1461, .inr (.inl (putF (rl + 1) 0 (N2 0) i (cel f fr to i))))), (w3, .inl (k 1, 1461, .inr (.inl (putF (rl + 1) 1 (N2 1) i (cel f fr to i))))), (w4, .inl (k 1, 1461, .inr (.inl (putF (rl + 1) 2 (N2 2) i (cel f fr to i))))), (w5, .inl (k 1, 1461, .inr (.inl (putF (rl + 1) 3 (N2 3) i (cel f fr to i))))), (g0, .inr (4, [.ref g1])), (g1, .inl (k 1, 23, .inr (.inl (f))))]) [0, 1, 2, 3, 4, 5, 6, 9, 10, 11, 12, 13, 14, 7, 8] rfl
                    have hD := hD.sub (ws' := [(h0, .inr (5, [.ref u0, .ref w0, .int (iI (((rl + 1 : Nat) : Int)))])), (u0, .inr (3, [.ref u1])), (u1, .inl (k 4, 4, .inr (.inr (.inr (.inr (rws u2 u3 u4 u5)))))), (u2, .inl (k 1, 1461, .inr (.inl (putF tn 0 (T2 0) i (cel f fr to i))))), (u3, .inl (k 1, 1461, .inr (.inl (putF tn 1 (T2 1) i (cel f fr to i))))), (u4, .inl (k 1, 1461, .inr (.inl (putF tn 2 (T2 2) i (cel f fr to i))))), (u5, .inl (k 1, 1461, .inr (.inl (putF tn 3 (T2 3) i (cel f fr to i))))), (w0, .inr (3, [.ref w1])), (w1, .inl (k 4, 4, .inr (.inr (.inr (.inr (rws w2 w3 w4 w5)))))), (w2, .inl (k 1, 1461, .inr (.inl (putF (rl + 1) 0 (N2 0) i (cel f fr to i))))), (w3, .inl (k 1, 1461, .inr (.inl (putF (rl + 1) 1 (N2 1) i (cel f fr to i))))), (w4, .inl (k 1, 1461, .inr (.inl (putF (rl + 1) 2 (N2 2) i (cel f fr to i))))), (w5, .inl (k 1, 1461, .inr (.inl (putF (rl + 1) 3 (N2 3) i (cel f fr to i))))), (g0, .inr (4, [.ref g1])), (g1, .inl (k 1, 23, .inr (.inl (f))))]) [0, 1, 2, 3, 4, 5, 6, 9, 10, 11, 12, 13, 14, 7, 8] (by decide) rfl
                    refine lv_iload hx hb d_PL_lay_145 (lv_at hl 1 rfl) ?_
                    refine lv_istore (lv' := [(10, .int (bI (dsb f i))), (13, .long (cel f fr to i)), (12, .int (bI (dsb f i))), (0, .ref h0), (1, .int (iI ((tn : Int)))), (2, .int (iI ((fr : Int)))), (3, .int (iI ((to : Int)))), (4, .ref g0), (6, .long (onD fr to)), (8, .long (onB fr to)), (11, .int (iI ((i : Int))))]) hx hb d_PL_lay_147 hl (by decide) rfl (fun ls hl => ?_)
                    refine z_iinc (k := 10) (a := (i : Int)) (lv' := [(11, .int (iI (((i : Int)) + 1))), (10, .int (bI (dsb f i))), (13, .long (cel f fr to i)), (12, .int (bI (dsb f i))), (0, .ref h0), (1, .int (iI ((tn : Int)))), (2, .int (iI ((fr : Int)))), (3, .int (iI ((to : Int)))), (4, .ref g0), (6, .long (onD fr to)), (8, .long (onB fr to))]) hx hb d_PL_lay_149 hl rfl (by decide) rfl (fun ls hl => ?_)
                    refine lv_goto (tgt := 69) hx hb d_PL_lay_152 (by decide) ?_
                    exact ih69 (i + 1) ((i : Int) + 1) (dsb f i) (fun b => putF tn b (T2 b) i (cel f fr to i)) (fun b => putF (rl + 1) b (N2 b) i (cel f fr to i)) ls H locs (by omega) (by omega) (by rfl) (by rw [hT]; exact layM_put h114) (by rw [hN]; exact layM_put h114) (by omega) (lv_sub hl [4, 5, 6, 7, 8, 9, 10, 1, 0] rfl) hP hD hS
                refine b_if_eq (tgt := 107) hx hb d_PL_lay_99 (by decide) (fun h99 => ?_) (fun h99 => ?_)
                · refine lv_lconst (v := 0) hx hb d_PL_lay_107 (by decide) ?_
                  exact z_topl (show (0 : Int64) = selL b10 (onB fr to) from (by unfold selL; rw [h99]; rfl)) J99_5
                · refine lv_lload hx hb d_PL_lay_102 (lv_at hl 7 rfl) ?_
                  refine lv_goto (tgt := 108) hx hb d_PL_lay_104 (by decide) ?_
                  exact z_topl (show onB fr to = selL b10 (onB fr to) from (by unfold selL; rw [h99]; rfl)) J99_5
              refine b_if_eq (tgt := 96) hx hb d_PL_lay_88 (by decide) (fun h88 => ?_) (fun h88 => ?_)
              · refine lv_lconst (v := 0) hx hb d_PL_lay_96 (by decide) ?_
                exact z_topl (show (0 : Int64) = selL (dsb f i) (onD fr to) from (by unfold selL; rw [h88]; rfl)) J88_4
              · refine lv_lload hx hb d_PL_lay_91 (lv_at hl 6 rfl) ?_
                refine lv_goto (tgt := 97) hx hb d_PL_lay_93 (by decide) ?_
                exact z_topl (show onD fr to = selL (dsb f i) (onD fr to) from (by unfold selL; rw [h88]; rfl)) J88_4
        exact L69 (_) (0) (0) (false) (T) (N) ls H locs (by omega) (by omega) (by rfl) (by exact (layM_0 _ _ _).symm) (by exact (layM_0 _ _ _).symm) (Nat.lt_succ_self _) (lv_sub hl [5, 6, 7, 8, 9, 3, 2, 1, 0] rfl) hP hD hS
      refine b_if_eq (tgt := 60) hx hb d_PL_lay_50 (by decide) (fun h50 => ?_) (fun h50 => ?_)
      · refine lv_lconst (v := 0) hx hb d_PL_lay_60 (by decide) ?_
        exact z_topl (show (0 : Int64) = onB fr to from (by unfold onB; rw [h50]; rfl)) J50_3
      · refine lv_iload_n hx hb d_PL_lay_53 rfl (lv_at hl 5 rfl) ?_
        refine rc_l (va_runSN (As := [.int (iI ((to : Int)))]) (rest := []) ⟨hx, hb, hml, hown, hts⟩ (c_RC_cellsBelow l D k (to)) ⟨va_cnB 1 hts (good_RC_cellsBelow) rfl rfl rfl (hX.2 _ n_548) (hts _ k_59) (by decide +kernel) ⟨Nat.le_of_ble_eq_true rfl, Nat.le_of_ble_eq_true rfl⟩, (hts _ k_549), trivial⟩ ⟨fun a U g mk q => ⟨q.1, q.2.1, va_K.moved (u := U) (U := U.calling g mk a) (Vm.Alike.refl U.vm) q.2.2.1, q.2.2.2.calling⟩, fun U hU hW => ⟨rfl, by rw [hU]; exact (hP.sub (ws' := []) [] rfl), va_K.moved hW.alike hK, by rw [hU]; exact (hX.mono hS (fun _ h => absurd h id)).warm hW⟩⟩ rfl rfl hl.1 rfl (lv_room (Nat.le_of_ble_eq_true rfl)) d_PL_lay_54 ⟨Nat.le_of_ble_eq_true rfl, Nat.le_of_ble_eq_true rfl⟩) (fun xr_7 h_xr_7 => ?_)
        subst h_xr_7
        refine lv_goto (tgt := 61) hx hb d_PL_lay_57 (by decide) ?_
        exact z_topl (show cBel to = onB fr to from (by unfold onB; rw [h50]; rfl)) J50_3
    refine b_if_eq (tgt := 33) hx hb d_PL_lay_24 (by decide) (fun h24 => ?_) (fun h24 => ?_)
    · refine lv_iload_n hx hb d_PL_lay_33 rfl (lv_at hl 4 rfl) ?_
      refine rc_l (va_runSN (As := [.int (iI ((to : Int)))]) (rest := []) ⟨hx, hb, hml, hown, hts⟩ (c_RC_cellsBelow l D k (to)) ⟨va_cnB 1 hts (good_RC_cellsBelow) rfl rfl rfl (hX.2 _ n_548) (hts _ k_59) (by decide +kernel) ⟨Nat.le_of_ble_eq_true rfl, Nat.le_of_ble_eq_true rfl⟩, (hts _ k_549), trivial⟩ ⟨fun a U g mk q => ⟨q.1, q.2.1, va_K.moved (u := U) (U := U.calling g mk a) (Vm.Alike.refl U.vm) q.2.2.1, q.2.2.2.calling⟩, fun U hU hW => ⟨rfl, by rw [hU]; exact (hP.sub (ws' := []) [] rfl), va_K.moved hW.alike hK, by rw [hU]; exact (hX.mono hS (fun _ h => absurd h id)).warm hW⟩⟩ rfl rfl hl.1 rfl (lv_room (Nat.le_of_ble_eq_true rfl)) d_PL_lay_34 ⟨Nat.le_of_ble_eq_true rfl, Nat.le_of_ble_eq_true rfl⟩) (fun xr_8 h_xr_8 => ?_)
      subst h_xr_8
      exact z_topl (show cBel to = if decide ((to : Int) < (fr : Int)) then 281474976710655 else cBel to from (by rw [h24]; rfl)) J24_2
    · refine W.ldc2 (v := 281474976710655) hx hb hown (hts _ k_547) rfl d_PL_lay_27 ?_
      refine W.eq (g2 := F0 m 30 ls (.long (281474976710655) :: [])) rfl ?_
      refine lv_goto (tgt := 37) hx hb d_PL_lay_30 (by decide) ?_
      exact z_topl (show (281474976710655 : Int64) = if decide ((to : Int) < (fr : Int)) then 281474976710655 else cBel to from (by rw [h24]; rfl)) J24_2
  refine z_icmp_ge (tgt := 19) hx hb d_PL_lay_12 (by decide) ⟨by omega, by omega⟩ ⟨by omega, by omega⟩ (fun h12 => ?_) (fun h12 => ?_)
  · refine z_iconst hx hb d_PL_lay_19 ?_
    exact z_top (show (iI (0)) = (bI (decide ((to : Int) < (fr : Int)))) from bI_F ((by simp; omega))) J12_1
  · refine z_iconst hx hb d_PL_lay_15 ?_
    refine lv_goto (tgt := 20) hx hb d_PL_lay_16 (by decide) ?_
    exact z_top (show (iI (1)) = (bI (decide ((to : Int) < (fr : Int)))) from bI_T ((by simp; omega))) J12_1
