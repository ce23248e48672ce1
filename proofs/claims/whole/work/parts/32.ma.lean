/-- a rule's bit of a day -/
def isM (mM : Nat → Int) (c : Nat) (z : Int) (r : Nat) : Bool := decide (0 ≤ z) && decide ((mM (1461 * c + z.toNat)).toNat / 2 ^ r % 2 = 1)
/-- the last of r rules that covers -/
def decM (f : Nat → Bool) : Nat → Nat
  | 0 => 0
  | r + 1 => if f r = true then r + 1 else decM f r
theorem decM_t {f : Nat → Bool} {r : Nat} (h : f r = true) : decM f (r + 1) = r + 1 := if_pos h
theorem decM_f {f : Nat → Bool} {r : Nat} (h : f r = false) : decM f (r + 1) = decM f r := if_neg (Bool.eq_false_iff.mp h)
theorem decM_le (f : Nat → Bool) : ∀ r, decM f r ≤ r
  | 0 => Nat.le_refl _
  | r + 1 => by
    cases h : f r with
    | true => rw [decM_t h]; exact Nat.le_refl _
    | false => rw [decM_f h]; exact Nat.le_succ_of_le (decM_le f r)
/-- the last day of that date -/
def findM (z : Int) : Nat → Int
  | 0 => -1
  | i + 1 => if dateZ i = z then (i : Int) else findM z i
theorem findM_bd (z : Int) : ∀ i, -1 ≤ findM z i ∧ findM z i ≤ i
  | 0 => ⟨by show -1 ≤ -1; omega, by show -1 ≤ (0 : Int); omega⟩
  | i + 1 => by
    have := findM_bd z i
    show -1 ≤ (if dateZ i = z then (i : Int) else findM z i) ∧ (if dateZ i = z then (i : Int) else findM z i) ≤ _
    split <;> omega
set_option maxHeartbeats 4000000 in
set_option maxRecDepth 100000 in
theorem c_MD_weekday (l : Launch) (D : va_G) (k : Nat → ClassId) (z : Int) (hz : -5 ≤ z ∧ z ≤ 2000000000) : Met l y_MD_weekday wd_MD_weekday rm_MD_weekday (va_Pc [.int (iI (z))] (PRO D k [])) (QRi (fun r : Int32 => r = (iI (wDay z)))) 0 0 nA := by
  refine r_i (by decide) rfl (Nat.le_of_ble_eq_true rfl) ?_
  intro p e s m args below meth c Q ls hx hb hml hown hts hpre hl ret
  obtain ⟨hP, hK, hX⟩ := hpre
  have hS : va_S nA s.heap s.heap [] := va_S.rf
  have hl : lv_has ls 1 [(0, .int (iI (z)))] := hl
  refine lv_iload_n hx hb d_MD_weekday_0 rfl (lv_at hl 0 rfl) ?_
  refine z_iconst hx hb d_MD_weekday_1 ?_
  refine z_iadd hx hb d_MD_weekday_2 ?_
  refine z_bipush hx hb d_MD_weekday_3 (by decide) ?_
  refine z_irem hx hb d_MD_weekday_5 ⟨by omega, by omega⟩ (by omega) ⟨by omega, by omega⟩ (by omega) ?_
  refine z_iconst hx hb d_MD_weekday_6 ?_
  refine z_iadd hx hb d_MD_weekday_7 ?_
  exact ret _ 8 (iI (((z + 5) % (7)) + 1)) d_MD_weekday_8 (rfl)

def mML (y : Int) (m1 : Int) : Int := (if m1 = 2 then (if (y) % (4) = 0 then (if (y) % (100) = 0 then (if (y) % (400) = 0 then (29) else (28)) else (29)) else (28)) else (if m1 = 4 then (30) else (if m1 = 6 then (30) else (if m1 = 9 then (30) else (if m1 = 11 then (30) else (31))))))
set_option maxHeartbeats 4000000 in
set_option maxRecDepth 100000 in
theorem c_MD_monthLength (l : Launch) (D : va_G) (k : Nat → ClassId) (y : Int) (m1 : Int) (hy : 0 ≤ y ∧ y ≤ 100000) (hm : rg m1) : Met l y_MD_monthLength wd_MD_monthLength rm_MD_monthLength (va_Pc [.int (iI (y)), .int (iI (m1))] (PRO D k [])) (QRi (fun r : Int32 => r = (iI ((mML y m1))))) 0 0 nA := by
  refine r_i (by decide) rfl (Nat.le_of_ble_eq_true rfl) ?_
  intro p e s m args below meth c Q ls hx hb hml hown hts hpre hl ret
  obtain ⟨hP, hK, hX⟩ := hpre
  have hS : va_S nA s.heap s.heap [] := va_S.rf
  have hl : lv_has ls 2 [(0, .int (iI (y))), (1, .int (iI (m1)))] := hl
  obtain ⟨q3, q4⟩ := hm
  refine lv_iload_n hx hb d_MD_monthLength_0 rfl (lv_at hl 1 rfl) ?_
  refine z_iconst hx hb d_MD_monthLength_1 ?_
  refine z_icmp_ne (tgt := 34) hx hb d_MD_monthLength_2 (by decide) ⟨by omega, by omega⟩ ⟨by omega, by omega⟩ (fun h2 => ?_) (fun h2 => ?_)
  · refine lv_iload_n hx hb d_MD_monthLength_34 rfl (lv_at hl 1 rfl) ?_
    refine z_iconst hx hb d_MD_monthLength_35 ?_
    refine z_icmp_eq (tgt := 57) hx hb d_MD_monthLength_36 (by decide) ⟨by omega, by omega⟩ ⟨by omega, by omega⟩ (fun h36 => ?_) (fun h36 => ?_)
    · refine z_bipush hx hb d_MD_monthLength_57 (by decide) ?_
      refine lv_goto (tgt := 64) hx hb d_MD_monthLength_59 (by decide) ?_
      have e9 : mML y m1 = 30 := by unfold mML; rw [if_neg h2, if_pos h36]
      exact ret _ 64 (iI (30)) d_MD_monthLength_64 ((congrArg (fun q9 => iI q9) e9).symm)
    · refine lv_iload_n hx hb d_MD_monthLength_39 rfl (lv_at hl 1 rfl) ?_
      refine z_bipush hx hb d_MD_monthLength_40 (by decide) ?_
      refine z_icmp_eq (tgt := 57) hx hb d_MD_monthLength_42 (by decide) ⟨by omega, by omega⟩ ⟨by omega, by omega⟩ (fun h42 => ?_) (fun h42 => ?_)
      · refine z_bipush hx hb d_MD_monthLength_57 (by decide) ?_
        refine lv_goto (tgt := 64) hx hb d_MD_monthLength_59 (by decide) ?_
        have e9 : mML y m1 = 30 := by unfold mML; rw [if_neg h2, if_neg h36, if_pos h42]
        exact ret _ 64 (iI (30)) d_MD_monthLength_64 ((congrArg (fun q9 => iI q9) e9).symm)
      · refine lv_iload_n hx hb d_MD_monthLength_45 rfl (lv_at hl 1 rfl) ?_
        refine z_bipush hx hb d_MD_monthLength_46 (by decide) ?_
        refine z_icmp_eq (tgt := 57) hx hb d_MD_monthLength_48 (by decide) ⟨by omega, by omega⟩ ⟨by omega, by omega⟩ (fun h48 => ?_) (fun h48 => ?_)
        · refine z_bipush hx hb d_MD_monthLength_57 (by decide) ?_
          refine lv_goto (tgt := 64) hx hb d_MD_monthLength_59 (by decide) ?_
          have e9 : mML y m1 = 30 := by unfold mML; rw [if_neg h2, if_neg h36, if_neg h42, if_pos h48]
          exact ret _ 64 (iI (30)) d_MD_monthLength_64 ((congrArg (fun q9 => iI q9) e9).symm)
        · refine lv_iload_n hx hb d_MD_monthLength_51 rfl (lv_at hl 1 rfl) ?_
          refine z_bipush hx hb d_MD_monthLength_52 (by decide) ?_
          refine z_icmp_ne (tgt := 62) hx hb d_MD_monthLength_54 (by decide) ⟨by omega, by omega⟩ ⟨by omega, by omega⟩ (fun h54 => ?_) (fun h54 => ?_)
          · refine z_bipush hx hb d_MD_monthLength_62 (by decide) ?_
            have e9 : mML y m1 = 31 := by unfold mML; rw [if_neg h2, if_neg h36, if_neg h42, if_neg h48, if_neg h54]
            exact ret _ 64 (iI (31)) d_MD_monthLength_64 ((congrArg (fun q9 => iI q9) e9).symm)
          · refine z_bipush hx hb d_MD_monthLength_57 (by decide) ?_
            refine lv_goto (tgt := 64) hx hb d_MD_monthLength_59 (by decide) ?_
            have e9 : mML y m1 = 30 := by unfold mML; rw [if_neg h2, if_neg h36, if_neg h42, if_neg h48, if_pos h54]
            exact ret _ 64 (iI (30)) d_MD_monthLength_64 ((congrArg (fun q9 => iI q9) e9).symm)
  · refine lv_iload_n hx hb d_MD_monthLength_5 rfl (lv_at hl 0 rfl) ?_
    refine z_iconst hx hb d_MD_monthLength_6 ?_
    refine z_irem hx hb d_MD_monthLength_7 ⟨by omega, by omega⟩ (by omega) ⟨by omega, by omega⟩ (by omega) ?_
    refine z_if_ne (tgt := 31) hx hb d_MD_monthLength_8 (by decide) ⟨by omega, by omega⟩ (fun h8 => ?_) (fun h8 => ?_)
    · refine z_bipush hx hb d_MD_monthLength_31 (by decide) ?_
      have e9 : mML y m1 = 28 := by unfold mML; rw [if_pos h2, if_neg h8]
      exact ret _ 33 (iI (28)) d_MD_monthLength_33 ((congrArg (fun q9 => iI q9) e9).symm)
    · refine lv_iload_n hx hb d_MD_monthLength_11 rfl (lv_at hl 0 rfl) ?_
      refine z_bipush hx hb d_MD_monthLength_12 (by decide) ?_
      refine z_irem hx hb d_MD_monthLength_14 ⟨by omega, by omega⟩ (by omega) ⟨by omega, by omega⟩ (by omega) ?_
      refine z_if_ne (tgt := 26) hx hb d_MD_monthLength_15 (by decide) ⟨by omega, by omega⟩ (fun h15 => ?_) (fun h15 => ?_)
      · refine z_bipush hx hb d_MD_monthLength_26 (by decide) ?_
        refine lv_goto (tgt := 33) hx hb d_MD_monthLength_28 (by decide) ?_
        have e9 : mML y m1 = 29 := by unfold mML; rw [if_pos h2, if_pos h8, if_neg h15]
        exact ret _ 33 (iI (29)) d_MD_monthLength_33 ((congrArg (fun q9 => iI q9) e9).symm)
      · refine lv_iload_n hx hb d_MD_monthLength_18 rfl (lv_at hl 0 rfl) ?_
        refine z_sipush hx hb d_MD_monthLength_19 (by decide) ?_
        refine z_irem hx hb d_MD_monthLength_22 ⟨by omega, by omega⟩ (by omega) ⟨by omega, by omega⟩ (by omega) ?_
        refine z_if_ne (tgt := 31) hx hb d_MD_monthLength_23 (by decide) ⟨by omega, by omega⟩ (fun h23 => ?_) (fun h23 => ?_)
        · refine z_bipush hx hb d_MD_monthLength_31 (by decide) ?_
          have e9 : mML y m1 = 28 := by unfold mML; rw [if_pos h2, if_pos h8, if_pos h15, if_neg h23]
          exact ret _ 33 (iI (28)) d_MD_monthLength_33 ((congrArg (fun q9 => iI q9) e9).symm)
        · refine z_bipush hx hb d_MD_monthLength_26 (by decide) ?_
          refine lv_goto (tgt := 33) hx hb d_MD_monthLength_28 (by decide) ?_
          have e9 : mML y m1 = 29 := by unfold mML; rw [if_pos h2, if_pos h8, if_pos h15, if_pos h23]
          exact ret _ 33 (iI (29)) d_MD_monthLength_33 ((congrArg (fun q9 => iI q9) e9).symm)

def inF (ch : Int) (lo : Int) (hi : Int) : Bool := (if ch < lo then (false) else (if hi < ch then (false) else (true)))
set_option maxHeartbeats 4000000 in
set_option maxRecDepth 100000 in
theorem c_MD_isIn (l : Launch) (D : va_G) (k : Nat → ClassId) (ch : Int) (lo : Int) (hi : Int) (h1 : rg ch) (h2 : rg lo) (h3 : rg hi) : Met l y_MD_isIn wd_MD_isIn rm_MD_isIn (va_Pc [.int (iI (ch)), .int (iI (lo)), .int (iI (hi))] (PRO D k [])) (QRi (fun r : Int32 => r = (bI ((inF ch lo hi))))) 0 0 nA := by
  refine r_z (by decide) rfl (Nat.le_of_ble_eq_true rfl) ?_
  intro p e s m args below meth c Q ls hx hb hml hown hts hpre hl ret
  obtain ⟨hP, hK, hX⟩ := hpre
  have hS : va_S nA s.heap s.heap [] := va_S.rf
  have hl : lv_has ls 3 [(0, .int (iI (ch))), (1, .int (iI (lo))), (2, .int (iI (hi)))] := hl
  obtain ⟨q1, q2⟩ := h1
  obtain ⟨q3, q4⟩ := h2
  obtain ⟨q5, q6⟩ := h3
  refine lv_iload_n hx hb d_MD_isIn_0 rfl (lv_at hl 0 rfl) ?_
  refine lv_iload_n hx hb d_MD_isIn_1 rfl (lv_at hl 1 rfl) ?_
  refine z_icmp_lt (tgt := 14) hx hb d_MD_isIn_2 (by decide) ⟨by omega, by omega⟩ ⟨by omega, by omega⟩ (fun h2 => ?_) (fun h2 => ?_)
  · refine z_iconst hx hb d_MD_isIn_14 ?_
    have e9 : inF ch lo hi = false := by unfold inF; rw [if_pos h2]
    exact ret _ 15 false d_MD_isIn_15 ((congrArg (fun q9 => bI q9) e9).symm)
  · refine lv_iload_n hx hb d_MD_isIn_5 rfl (lv_at hl 0 rfl) ?_
    refine lv_iload_n hx hb d_MD_isIn_6 rfl (lv_at hl 2 rfl) ?_
    refine z_icmp_gt (tgt := 14) hx hb d_MD_isIn_7 (by decide) ⟨by omega, by omega⟩ ⟨by omega, by omega⟩ (fun h7 => ?_) (fun h7 => ?_)
    · refine z_iconst hx hb d_MD_isIn_14 ?_
      have e9 : inF ch lo hi = false := by unfold inF; rw [if_neg h2, if_pos h7]
      exact ret _ 15 false d_MD_isIn_15 ((congrArg (fun q9 => bI q9) e9).symm)
    · refine z_iconst hx hb d_MD_isIn_10 ?_
      refine lv_goto (tgt := 15) hx hb d_MD_isIn_11 (by decide) ?_
      have e9 : inF ch lo hi = true := by unfold inF; rw [if_neg h2, if_neg h7]
      exact ret _ 15 true d_MD_isIn_15 ((congrArg (fun q9 => bI q9) e9).symm)

set_option maxHeartbeats 4000000 in
set_option maxRecDepth 100000 in
theorem c_MD_feastOf (l : Launch) (D : va_G) (k : Nat → ClassId) (y : Int) (hy : 1900 ≤ y ∧ y ≤ 2299) : Met l y_MD_feastOf wd_MD_feastOf rm_MD_feastOf (va_Pc [.int (iI (y))] (PRO D k [])) (QRi (fun r : Int32 => r = (iI (fE y)))) 0 0 nA := by
  refine r_i (by decide) rfl (Nat.le_of_ble_eq_true rfl) ?_
  intro p e s m args below meth c Q ls hx hb hml hown hts hpre hl ret
  obtain ⟨hP, hK, hX⟩ := hpre
  have hS : va_S nA s.heap s.heap [] := va_S.rf
  have hl : lv_has ls 14 [(0, .int (iI (y)))] := hl
  refine lv_iload_n hx hb d_MD_feastOf_0 rfl (lv_at hl 0 rfl) ?_
  refine z_bipush hx hb d_MD_feastOf_1 (by decide) ?_
  refine z_irem hx hb d_MD_feastOf_3 ⟨by omega, by omega⟩ (by omega) ⟨by omega, by omega⟩ (by omega) ?_
  obtain ⟨a, h_a⟩ : ∃ a : Int, a = (y) % (19) := ⟨_, rfl⟩
  refine z_top (show iI ((y) % (19)) = iI a from by rw [h_a]) ?_
  refine lv_istore_n (lv' := [(1, .int (iI (a))), (0, .int (iI (y)))]) hx hb d_MD_feastOf_4 rfl hl (by decide) rfl (fun ls hl => ?_)
  refine lv_iload_n hx hb d_MD_feastOf_5 rfl (lv_at hl 1 rfl) ?_
  refine z_bipush hx hb d_MD_feastOf_6 (by decide) ?_
  refine z_idiv hx hb d_MD_feastOf_8 ⟨by omega, by omega⟩ (by omega) ⟨by omega, by omega⟩ (by omega) ?_
  obtain ⟨b, h_b⟩ : ∃ b : Int, b = (y) / (100) := ⟨_, rfl⟩
  refine z_top (show iI ((y) / (100)) = iI b from by rw [h_b]) ?_
  refine lv_istore_n (lv' := [(2, .int (iI (b))), (1, .int (iI (a))), (0, .int (iI (y)))]) hx hb d_MD_feastOf_9 rfl hl (by decide) rfl (fun ls hl => ?_)
  refine lv_iload_n hx hb d_MD_feastOf_10 rfl (lv_at hl 2 rfl) ?_
  refine z_bipush hx hb d_MD_feastOf_11 (by decide) ?_
  refine z_irem hx hb d_MD_feastOf_13 ⟨by omega, by omega⟩ (by omega) ⟨by omega, by omega⟩ (by omega) ?_
  obtain ⟨c1, h_c1⟩ : ∃ c1 : Int, c1 = (y) % (100) := ⟨_, rfl⟩
  refine z_top (show iI ((y) % (100)) = iI c1 from by rw [h_c1]) ?_
  refine lv_istore_n (lv' := [(3, .int (iI (c1))), (2, .int (iI (b))), (1, .int (iI (a))), (0, .int (iI (y)))]) hx hb d_MD_feastOf_14 rfl hl (by decide) rfl (fun ls hl => ?_)
  refine lv_iload_n hx hb d_MD_feastOf_15 rfl (lv_at hl 1 rfl) ?_
  refine z_iconst hx hb d_MD_feastOf_16 ?_
  refine z_idiv hx hb d_MD_feastOf_17 ⟨by omega, by omega⟩ (by omega) ⟨by omega, by omega⟩ (by omega) ?_
  obtain ⟨d1, h_d1⟩ : ∃ d1 : Int, d1 = (b) / (4) := ⟨_, rfl⟩
  refine z_top (show iI ((b) / (4)) = iI d1 from by rw [h_d1]) ?_
  refine lv_istore (lv' := [(4, .int (iI (d1))), (3, .int (iI (c1))), (2, .int (iI (b))), (1, .int (iI (a))), (0, .int (iI (y)))]) hx hb d_MD_feastOf_18 hl (by decide) rfl (fun ls hl => ?_)
  refine lv_iload_n hx hb d_MD_feastOf_20 rfl (lv_at hl 2 rfl) ?_
  refine z_iconst hx hb d_MD_feastOf_21 ?_
  refine z_irem hx hb d_MD_feastOf_22 ⟨by omega, by omega⟩ (by omega) ⟨by omega, by omega⟩ (by omega) ?_
  obtain ⟨e1, h_e1⟩ : ∃ e1 : Int, e1 = (b) % (4) := ⟨_, rfl⟩
  refine z_top (show iI ((b) % (4)) = iI e1 from by rw [h_e1]) ?_
  refine lv_istore (lv' := [(5, .int (iI (e1))), (4, .int (iI (d1))), (3, .int (iI (c1))), (2, .int (iI (b))), (1, .int (iI (a))), (0, .int (iI (y)))]) hx hb d_MD_feastOf_23 hl (by decide) rfl (fun ls hl => ?_)
  refine lv_iload_n hx hb d_MD_feastOf_25 rfl (lv_at hl 3 rfl) ?_
  refine z_bipush hx hb d_MD_feastOf_26 (by decide) ?_
  refine z_iadd hx hb d_MD_feastOf_28 ?_
  refine z_bipush hx hb d_MD_feastOf_29 (by decide) ?_
  refine z_idiv hx hb d_MD_feastOf_31 ⟨by omega, by omega⟩ (by omega) ⟨by omega, by omega⟩ (by omega) ?_
  obtain ⟨f1, h_f1⟩ : ∃ f1 : Int, f1 = (b + 8) / (25) := ⟨_, rfl⟩
  refine z_top (show iI ((b + 8) / (25)) = iI f1 from by rw [h_f1]) ?_
  refine lv_istore (lv' := [(6, .int (iI (f1))), (5, .int (iI (e1))), (4, .int (iI (d1))), (3, .int (iI (c1))), (2, .int (iI (b))), (1, .int (iI (a))), (0, .int (iI (y)))]) hx hb d_MD_feastOf_32 hl (by decide) rfl (fun ls hl => ?_)
  refine lv_iload_n hx hb d_MD_feastOf_34 rfl (lv_at hl 4 rfl) ?_
  refine lv_iload hx hb d_MD_feastOf_35 (lv_at hl 0 rfl) ?_
  refine z_isub hx hb d_MD_feastOf_37 ?_
  refine z_iconst hx hb d_MD_feastOf_38 ?_
  refine z_iadd hx hb d_MD_feastOf_39 ?_
  refine z_iconst hx hb d_MD_feastOf_40 ?_
  refine z_idiv hx hb d_MD_feastOf_41 ⟨by omega, by omega⟩ (by omega) ⟨by omega, by omega⟩ (by omega) ?_
  obtain ⟨g1, h_g1⟩ : ∃ g1 : Int, g1 = ((b - f1) + 1) / (3) := ⟨_, rfl⟩
  refine z_top (show iI (((b - f1) + 1) / (3)) = iI g1 from by rw [h_g1]) ?_
  refine lv_istore (lv' := [(7, .int (iI (g1))), (6, .int (iI (f1))), (5, .int (iI (e1))), (4, .int (iI (d1))), (3, .int (iI (c1))), (2, .int (iI (b))), (1, .int (iI (a))), (0, .int (iI (y)))]) hx hb d_MD_feastOf_42 hl (by decide) rfl (fun ls hl => ?_)
  refine z_bipush hx hb d_MD_feastOf_44 (by decide) ?_
  refine lv_iload_n hx hb d_MD_feastOf_46 rfl (lv_at hl 6 rfl) ?_
  refine z_imul hx hb d_MD_feastOf_47 ?_
  refine lv_iload_n hx hb d_MD_feastOf_48 rfl (lv_at hl 5 rfl) ?_
  refine z_iadd hx hb d_MD_feastOf_49 ?_
  refine lv_iload hx hb d_MD_feastOf_50 (lv_at hl 3 rfl) ?_
  refine z_isub hx hb d_MD_feastOf_52 ?_
  refine lv_iload hx hb d_MD_feastOf_53 (lv_at hl 0 rfl) ?_
  refine z_isub hx hb d_MD_feastOf_55 ?_
  refine z_bipush hx hb d_MD_feastOf_56 (by decide) ?_
  refine z_iadd hx hb d_MD_feastOf_58 ?_
  refine z_bipush hx hb d_MD_feastOf_59 (by decide) ?_
  refine z_irem hx hb d_MD_feastOf_61 ⟨by omega, by omega⟩ (by omega) ⟨by omega, by omega⟩ (by omega) ?_
  obtain ⟨h1, h_h1⟩ : ∃ h1 : Int, h1 = (((((19 * a) + b) - d1) - g1) + 15) % (30) := ⟨_, rfl⟩
  refine z_top (show iI ((((((19 * a) + b) - d1) - g1) + 15) % (30)) = iI h1 from by rw [h_h1]) ?_
  refine lv_istore (lv' := [(8, .int (iI (h1))), (7, .int (iI (g1))), (6, .int (iI (f1))), (5, .int (iI (e1))), (4, .int (iI (d1))), (3, .int (iI (c1))), (2, .int (iI (b))), (1, .int (iI (a))), (0, .int (iI (y)))]) hx hb d_MD_feastOf_62 hl (by decide) rfl (fun ls hl => ?_)
  refine lv_iload_n hx hb d_MD_feastOf_64 rfl (lv_at hl 5 rfl) ?_
  refine z_iconst hx hb d_MD_feastOf_65 ?_
  refine z_idiv hx hb d_MD_feastOf_66 ⟨by omega, by omega⟩ (by omega) ⟨by omega, by omega⟩ (by omega) ?_
  obtain ⟨i1, h_i1⟩ : ∃ i1 : Int, i1 = (c1) / (4) := ⟨_, rfl⟩
  refine z_top (show iI ((c1) / (4)) = iI i1 from by rw [h_i1]) ?_
  refine lv_istore (lv' := [(9, .int (iI (i1))), (8, .int (iI (h1))), (7, .int (iI (g1))), (6, .int (iI (f1))), (5, .int (iI (e1))), (4, .int (iI (d1))), (3, .int (iI (c1))), (2, .int (iI (b))), (1, .int (iI (a))), (0, .int (iI (y)))]) hx hb d_MD_feastOf_67 hl (by decide) rfl (fun ls hl => ?_)
  refine lv_iload_n hx hb d_MD_feastOf_69 rfl (lv_at hl 6 rfl) ?_
  refine z_iconst hx hb d_MD_feastOf_70 ?_
  refine z_irem hx hb d_MD_feastOf_71 ⟨by omega, by omega⟩ (by omega) ⟨by omega, by omega⟩ (by omega) ?_
  obtain ⟨k1, h_k1⟩ : ∃ k1 : Int, k1 = (c1) % (4) := ⟨_, rfl⟩
  refine z_top (show iI ((c1) % (4)) = iI k1 from by rw [h_k1]) ?_
  refine lv_istore (lv' := [(10, .int (iI (k1))), (9, .int (iI (i1))), (8, .int (iI (h1))), (7, .int (iI (g1))), (6, .int (iI (f1))), (5, .int (iI (e1))), (4, .int (iI (d1))), (3, .int (iI (c1))), (2, .int (iI (b))), (1, .int (iI (a))), (0, .int (iI (y)))]) hx hb d_MD_feastOf_72 hl (by decide) rfl (fun ls hl => ?_)
  refine z_bipush hx hb d_MD_feastOf_74 (by decide) ?_
  refine z_iconst hx hb d_MD_feastOf_76 ?_
  refine lv_iload hx hb d_MD_feastOf_77 (lv_at hl 5 rfl) ?_
  refine z_imul hx hb d_MD_feastOf_79 ?_
  refine z_iadd hx hb d_MD_feastOf_80 ?_
  refine z_iconst hx hb d_MD_feastOf_81 ?_
  refine lv_iload hx hb d_MD_feastOf_82 (lv_at hl 1 rfl) ?_
  refine z_imul hx hb d_MD_feastOf_84 ?_
  refine z_iadd hx hb d_MD_feastOf_85 ?_
  refine lv_iload hx hb d_MD_feastOf_86 (lv_at hl 2 rfl) ?_
  refine z_isub hx hb d_MD_feastOf_88 ?_
  refine lv_iload hx hb d_MD_feastOf_89 (lv_at hl 0 rfl) ?_
  refine z_isub hx hb d_MD_feastOf_91 ?_
  refine z_bipush hx hb d_MD_feastOf_92 (by decide) ?_
  refine z_irem hx hb d_MD_feastOf_94 ⟨by omega, by omega⟩ (by omega) ⟨by omega, by omega⟩ (by omega) ?_
  obtain ⟨l1, h_l1⟩ : ∃ l1 : Int, l1 = ((((32 + (2 * e1)) + (2 * i1)) - h1) - k1) % (7) := ⟨_, rfl⟩
  refine z_top (show iI (((((32 + (2 * e1)) + (2 * i1)) - h1) - k1) % (7)) = iI l1 from by rw [h_l1]) ?_
  refine lv_istore (lv' := [(11, .int (iI (l1))), (10, .int (iI (k1))), (9, .int (iI (i1))), (8, .int (iI (h1))), (7, .int (iI (g1))), (6, .int (iI (f1))), (5, .int (iI (e1))), (4, .int (iI (d1))), (3, .int (iI (c1))), (2, .int (iI (b))), (1, .int (iI (a))), (0, .int (iI (y)))]) hx hb d_MD_feastOf_95 hl (by decide) rfl (fun ls hl => ?_)
  refine lv_iload_n hx hb d_MD_feastOf_97 rfl (lv_at hl 10 rfl) ?_
  refine z_bipush hx hb d_MD_feastOf_98 (by decide) ?_
  refine lv_iload hx hb d_MD_feastOf_100 (lv_at hl 3 rfl) ?_
  refine z_imul hx hb d_MD_feastOf_102 ?_
  refine z_iadd hx hb d_MD_feastOf_103 ?_
  refine z_bipush hx hb d_MD_feastOf_104 (by decide) ?_
  refine lv_iload hx hb d_MD_feastOf_106 (lv_at hl 0 rfl) ?_
  refine z_imul hx hb d_MD_feastOf_108 ?_
  refine z_iadd hx hb d_MD_feastOf_109 ?_
  refine z_sipush hx hb d_MD_feastOf_110 (by decide) ?_
  refine z_idiv hx hb d_MD_feastOf_113 ⟨by omega, by omega⟩ (by omega) ⟨by omega, by omega⟩ (by omega) ?_
  obtain ⟨m1, h_m1⟩ : ∃ m1 : Int, m1 = ((a + (11 * h1)) + (22 * l1)) / (451) := ⟨_, rfl⟩
  refine z_top (show iI (((a + (11 * h1)) + (22 * l1)) / (451)) = iI m1 from by rw [h_m1]) ?_
  refine lv_istore (lv' := [(12, .int (iI (m1))), (11, .int (iI (l1))), (10, .int (iI (k1))), (9, .int (iI (i1))), (8, .int (iI (h1))), (7, .int (iI (g1))), (6, .int (iI (f1))), (5, .int (iI (e1))), (4, .int (iI (d1))), (3, .int (iI (c1))), (2, .int (iI (b))), (1, .int (iI (a))), (0, .int (iI (y)))]) hx hb d_MD_feastOf_114 hl (by decide) rfl (fun ls hl => ?_)
  refine lv_iload hx hb d_MD_feastOf_116 (lv_at hl 4 rfl) ?_
  refine lv_iload hx hb d_MD_feastOf_118 (lv_at hl 1 rfl) ?_
  refine z_iadd hx hb d_MD_feastOf_120 ?_
  refine z_bipush hx hb d_MD_feastOf_121 (by decide) ?_
  refine lv_iload hx hb d_MD_feastOf_123 (lv_at hl 0 rfl) ?_
  refine z_imul hx hb d_MD_feastOf_125 ?_
  refine z_isub hx hb d_MD_feastOf_126 ?_
  refine z_bipush hx hb d_MD_feastOf_127 (by decide) ?_
  refine z_iadd hx hb d_MD_feastOf_129 ?_
  obtain ⟨s1, h_s1⟩ : ∃ s1 : Int, s1 = ((h1 + l1) - (7 * m1)) + 114 := ⟨_, rfl⟩
  refine z_top (show iI (((h1 + l1) - (7 * m1)) + 114) = iI s1 from by rw [h_s1]) ?_
  refine lv_istore (lv' := [(13, .int (iI (s1))), (12, .int (iI (m1))), (11, .int (iI (l1))), (10, .int (iI (k1))), (9, .int (iI (i1))), (8, .int (iI (h1))), (7, .int (iI (g1))), (6, .int (iI (f1))), (5, .int (iI (e1))), (4, .int (iI (d1))), (3, .int (iI (c1))), (2, .int (iI (b))), (1, .int (iI (a))), (0, .int (iI (y)))]) hx hb d_MD_feastOf_130 hl (by decide) rfl (fun ls hl => ?_)
  refine z_bipush hx hb d_MD_feastOf_132 (by decide) ?_
  refine lv_iload hx hb d_MD_feastOf_134 (lv_at hl 0 rfl) ?_
  refine z_bipush hx hb d_MD_feastOf_136 (by decide) ?_
  refine z_idiv hx hb d_MD_feastOf_138 ⟨by omega, by omega⟩ (by omega) ⟨by omega, by omega⟩ (by omega) ?_
  refine z_imul hx hb d_MD_feastOf_139 ?_
  refine lv_iload hx hb d_MD_feastOf_140 (lv_at hl 0 rfl) ?_
  refine z_bipush hx hb d_MD_feastOf_142 (by decide) ?_
  refine z_irem hx hb d_MD_feastOf_144 ⟨by omega, by omega⟩ (by omega) ⟨by omega, by omega⟩ (by omega) ?_
  refine z_iadd hx hb d_MD_feastOf_145 ?_
  refine z_iconst hx hb d_MD_feastOf_146 ?_
  refine z_iadd hx hb d_MD_feastOf_147 ?_
  exact ret _ 148 (iI (((100 * ((s1) / (31))) + ((s1) % (31))) + 1)) d_MD_feastOf_148 (by subst h_s1 h_m1 h_l1 h_k1 h_i1 h_h1 h_g1 h_f1 h_e1 h_d1 h_c1 h_b h_a; rfl)

set_option maxHeartbeats 4000000 in
set_option maxRecDepth 100000 in
theorem c_MD_thrown (l : Launch) (D : va_G) (k : Nat → ClassId) (h0 aTx aDt aFe aRu aTa aBe aEn aMa aEx aAb aCo aNt aNb aNe aCf aCd aKi aFi aSe : Nat) (fa : Int) (ty : Int) (sh : Bool) (wt : Int) (rd : Int) (cd : Int) (at1 : Int) : Met l y_MD_thrown wd_MD_thrown rm_MD_thrown (va_Pc [.ref h0] (PRO D k [(h0, .inr (8, [.int (iI (fa)), .int (iI (ty)), .ref aTx, .int (bI (sh)), .ref aDt, .ref aFe, .ref aRu, .ref aTa, .ref aBe, .ref aEn, .ref aMa, .int (iI (wt)), .ref aEx, .ref aAb, .ref aCo, .int (iI (rd)), .ref aNt, .ref aNb, .ref aNe, .ref aCf, .ref aCd, .int (iI (cd)), .int (iI (at1)), .ref aKi, .ref aFi, .ref aSe]))])) (QRi (fun r : Int32 => r = (iI (fa)))) 0 0 nA := by
  refine r_i (by decide) rfl (Nat.le_of_ble_eq_true rfl) ?_
  intro p e s m args below meth c Q ls hx hb hml hown hts hpre hl ret
  obtain ⟨hP, hK, hX⟩ := hpre
  have hS : va_S nA s.heap s.heap [] := va_S.rf
  have hl : lv_has ls 1 [(0, .ref h0)] := hl
  refine lv_aload_n hx hb d_MD_thrown_0 rfl (lv_at hl 0 rfl) ?_
  refine va_get (D := D) (ci := 8) (v := .int (iI (fa))) (C := R_MD) (T := F_MD) (N := 26) hx hb hts in_MD hown hK hP 0 rfl rfl 0 (by decide) (hts _ k_733) (fun _ h9 => h9) rfl d_MD_thrown_1 ?_
  exact ret _ 4 (iI (fa)) d_MD_thrown_4 (rfl)

def lsF (d : Nat) (mo : Int) : Bool := (if ((dateZ (d)) / (100)) % (100) = mo then (if wDay ((d : Int)) = 7 then (if ((dateZ (d)) % (100)) + 7 ≤ 31 then (false) else (true)) else (false)) else (false))
set_option maxHeartbeats 4000000 in
set_option maxRecDepth 100000 in
theorem c_MD_isLastSunday (l : Launch) (D : va_G) (k : Nat → ClassId) (h0 aTx aDt aFe aRu aTa aBe aEn aMa aEx aAb aCo aNt aNb aNe aCf aCd aKi aFi aSe : Nat) (fa : Int) (ty : Int) (sh : Bool) (wt : Int) (rd : Int) (cd : Int) (at1 : Int) (d : Nat) (mo : Int) (hd : d < 1461) (hm : 0 ≤ mo ∧ mo ≤ 12) : Met l y_MD_isLastSunday wd_MD_isLastSunday rm_MD_isLastSunday (va_Pc [.ref h0, .int (iI ((d : Int))), .int (iI (mo))] (PRO D k [(h0, .inr (8, [.int (iI (fa)), .int (iI (ty)), .ref aTx, .int (bI (sh)), .ref aDt, .ref aFe, .ref aRu, .ref aTa, .ref aBe, .ref aEn, .ref aMa, .int (iI (wt)), .ref aEx, .ref aAb, .ref aCo, .int (iI (rd)), .ref aNt, .ref aNb, .ref aNe, .ref aCf, .ref aCd, .int (iI (cd)), .int (iI (at1)), .ref aKi, .ref aFi, .ref aSe])), (aDt, .inl (k 0, 1461, .inl (aZ (dateZ))))])) (QRi (fun r : Int32 => r = (bI ((lsF d mo))))) 0 0 nA := by
  refine r_z (by decide) rfl (Nat.le_of_ble_eq_true rfl) ?_
  intro p e s m args below meth c Q ls hx hb hml hown hts hpre hl ret
  obtain ⟨hP, hK, hX⟩ := hpre
  have hS : va_S nA s.heap s.heap [] := va_S.rf
  have hl : lv_has ls 4 [(0, .ref h0), (1, .int (iI ((d : Int)))), (2, .int (iI (mo)))] := hl
  have hb9 := dateZ_bd hd
  refine lv_aload_n hx hb d_MD_isLastSunday_0 rfl (lv_at hl 0 rfl) ?_
  refine va_get (D := D) (ci := 8) (v := .ref aDt) (C := R_MD) (T := F_MD) (N := 26) hx hb hts in_MD hown hK hP 0 rfl rfl 4 (by decide) (hts _ k_737) (fun _ h9 => h9) rfl d_MD_isLastSunday_1 ?_
  refine lv_iload_n hx hb d_MD_isLastSunday_4 rfl (lv_at hl 1 rfl) ?_
  refine x_iald hx hb hK hP 1 0 rfl rfl (d) rfl hd (by omega) d_MD_isLastSunday_5 ?_
  refine z_top (show _ = iI (dateZ (d)) from rfl) ?_
  refine z_bipush hx hb d_MD_isLastSunday_6 (by decide) ?_
  refine z_idiv hx hb d_MD_isLastSunday_8 ⟨by omega, by omega⟩ (by omega) ⟨by omega, by omega⟩ (by omega) ?_
  refine z_bipush hx hb d_MD_isLastSunday_9 (by decide) ?_
  refine z_irem hx hb d_MD_isLastSunday_11 ⟨by omega, by omega⟩ (by omega) ⟨by omega, by omega⟩ (by omega) ?_
  refine lv_istore_n (lv' := [(3, .int (iI (((dateZ (d)) / (100)) % (100)))), (0, .ref h0), (1, .int (iI ((d : Int)))), (2, .int (iI (mo)))]) hx hb d_MD_isLastSunday_12 rfl hl (by decide) rfl (fun ls hl => ?_)
  refine lv_iload_n hx hb d_MD_isLastSunday_13 rfl (lv_at hl 0 rfl) ?_
  refine lv_iload_n hx hb d_MD_isLastSunday_14 rfl (lv_at hl 3 rfl) ?_
  refine z_icmp_ne (tgt := 48) hx hb d_MD_isLastSunday_15 (by decide) ⟨by omega, by omega⟩ ⟨by omega, by omega⟩ (fun h15 => ?_) (fun h15 => ?_)
  · refine z_iconst hx hb d_MD_isLastSunday_48 ?_
    have e9 : lsF d mo = false := by unfold lsF; rw [if_neg h15]
    exact ret _ 49 false d_MD_isLastSunday_49 ((congrArg (fun q9 => bI q9) e9).symm)
  · refine lv_iload_n hx hb d_MD_isLastSunday_18 rfl (lv_at hl 2 rfl) ?_
    refine rc_i (va_runS (As := [.int (iI ((d : Int)))]) (rest := []) ⟨hx, hb, hml, hown, hts⟩ (c_MD_weekday l D k ((d : Int)) ((by omega))) ⟨callB_of 1 hts (good_MD_weekday) rfl rfl rfl (hts _ k_67) (hts _ k_891) (by decide +kernel) ⟨Nat.le_of_ble_eq_true rfl, Nat.le_of_ble_eq_true rfl⟩, (hts _ k_892)⟩ ⟨fun a U g mk q => ⟨q.1, q.2.1, va_K.moved (u := U) (U := U.calling g mk a) (Vm.Alike.refl U.vm) q.2.2.1, q.2.2.2.calling⟩, fun U hU hW => ⟨rfl, by rw [hU]; exact (hP.sub (ws' := []) [] rfl), va_K.moved hW.alike hK, by rw [hU]; exact hX.warm hW⟩⟩ rfl rfl hl.1 rfl (lv_room (Nat.le_of_ble_eq_true rfl)) d_MD_isLastSunday_19 ⟨Nat.le_of_ble_eq_true rfl, Nat.le_of_ble_eq_true rfl⟩) (fun xr_1 h_xr_1 => ?_)
    subst h_xr_1
    have hw9 := wDay_bd (z := (d : Int)) (by omega)
    refine z_bipush hx hb d_MD_isLastSunday_22 (by decide) ?_
    refine z_icmp_ne (tgt := 48) hx hb d_MD_isLastSunday_24 (by decide) ⟨by omega, by omega⟩ ⟨by omega, by omega⟩ (fun h24 => ?_) (fun h24 => ?_)
    · refine z_iconst hx hb d_MD_isLastSunday_48 ?_
      have e9 : lsF d mo = false := by unfold lsF; rw [if_pos h15, if_neg h24]
      exact ret _ 49 false d_MD_isLastSunday_49 ((congrArg (fun q9 => bI q9) e9).symm)
    · refine lv_aload_n hx hb d_MD_isLastSunday_27 rfl (lv_at hl 1 rfl) ?_
      refine va_get (D := D) (ci := 8) (v := .ref aDt) (C := R_MD) (T := F_MD) (N := 26) hx hb hts in_MD hown hK hP 0 rfl rfl 4 (by decide) (hts _ k_737) (fun _ h9 => h9) rfl d_MD_isLastSunday_28 ?_
      refine lv_iload_n hx hb d_MD_isLastSunday_31 rfl (lv_at hl 2 rfl) ?_
      refine x_iald hx hb hK hP 1 0 rfl rfl (d) rfl hd (by omega) d_MD_isLastSunday_32 ?_
      refine z_top (show _ = iI (dateZ (d)) from rfl) ?_
      refine z_bipush hx hb d_MD_isLastSunday_33 (by decide) ?_
      refine z_irem hx hb d_MD_isLastSunday_35 ⟨by omega, by omega⟩ (by omega) ⟨by omega, by omega⟩ (by omega) ?_
      refine z_bipush hx hb d_MD_isLastSunday_36 (by decide) ?_
      refine z_iadd hx hb d_MD_isLastSunday_38 ?_
      refine z_bipush hx hb d_MD_isLastSunday_39 (by decide) ?_
      refine z_icmp_le (tgt := 48) hx hb d_MD_isLastSunday_41 (by decide) ⟨by omega, by omega⟩ ⟨by omega, by omega⟩ (fun h41 => ?_) (fun h41 => ?_)
      · refine z_iconst hx hb d_MD_isLastSunday_48 ?_
        have e9 : lsF d mo = false := by unfold lsF; rw [if_pos h15, if_pos h24, if_pos h41]
        exact ret _ 49 false d_MD_isLastSunday_49 ((congrArg (fun q9 => bI q9) e9).symm)
      · refine z_iconst hx hb d_MD_isLastSunday_44 ?_
        refine lv_goto (tgt := 49) hx hb d_MD_isLastSunday_45 (by decide) ?_
        have e9 : lsF d mo = true := by unfold lsF; rw [if_pos h15, if_pos h24, if_neg h41]
        exact ret _ 49 true d_MD_isLastSunday_49 ((congrArg (fun q9 => bI q9) e9).symm)

def loF (sh : Bool) (d : Nat) (q : Int) : Bool := (if sh = true then (if q = 4 then (if (lsF d 3) = true then (true) else (false)) else (if q = 5 then (if (lsF d 3) = true then (true) else (false)) else (false))) else (false))
set_option maxHeartbeats 4000000 in
set_option maxRecDepth 100000 in
theorem c_MD_isLost (l : Launch) (D : va_G) (k : Nat → ClassId) (h0 aTx aDt aFe aRu aTa aBe aEn aMa aEx aAb aCo aNt aNb aNe aCf aCd aKi aFi aSe : Nat) (fa : Int) (ty : Int) (sh : Bool) (wt : Int) (rd : Int) (cd : Int) (at1 : Int) (d : Nat) (q : Int) (hd : d < 1461) (hq : rg q) : Met l y_MD_isLost wd_MD_isLost rm_MD_isLost (va_Pc [.ref h0, .int (iI ((d : Int))), .int (iI (q))] (PRO D k [(h0, .inr (8, [.int (iI (fa)), .int (iI (ty)), .ref aTx, .int (bI (sh)), .ref aDt, .ref aFe, .ref aRu, .ref aTa, .ref aBe, .ref aEn, .ref aMa, .int (iI (wt)), .ref aEx, .ref aAb, .ref aCo, .int (iI (rd)), .ref aNt, .ref aNb, .ref aNe, .ref aCf, .ref aCd, .int (iI (cd)), .int (iI (at1)), .ref aKi, .ref aFi, .ref aSe])), (aDt, .inl (k 0, 1461, .inl (aZ (dateZ))))])) (QRi (fun r : Int32 => r = (bI ((loF sh d q))))) 0 0 nA := by
  refine r_z (by decide) rfl (Nat.le_of_ble_eq_true rfl) ?_
  intro p e s m args below meth c Q ls hx hb hml hown hts hpre hl ret
  obtain ⟨hP, hK, hX⟩ := hpre
  have hS : va_S nA s.heap s.heap [] := va_S.rf
  have hl : lv_has ls 3 [(0, .ref h0), (1, .int (iI ((d : Int)))), (2, .int (iI (q)))] := hl
  obtain ⟨q1, q2⟩ := hq
  refine lv_aload_n hx hb d_MD_isLost_0 rfl (lv_at hl 0 rfl) ?_
  refine va_get (D := D) (ci := 8) (v := .int (bI (sh))) (C := R_MD) (T := F_MD) (N := 26) hx hb hts in_MD hown hK hP 0 rfl rfl 3 (by decide) (hts _ k_736) (fun _ h9 => h9) rfl d_MD_isLost_1 ?_
  refine b_if_eq (tgt := 30) hx hb d_MD_isLost_4 (by decide) (fun h4 => ?_) (fun h4 => ?_)
  · refine z_iconst hx hb d_MD_isLost_30 ?_
    have e9 : loF sh d q = false := by unfold loF; rw [if_neg (Bool.eq_false_iff.mp h4)]
    exact ret _ 31 false d_MD_isLost_31 ((congrArg (fun q9 => bI q9) e9).symm)
  · refine lv_iload_n hx hb d_MD_isLost_7 rfl (lv_at hl 2 rfl) ?_
    refine z_iconst hx hb d_MD_isLost_8 ?_
    refine z_icmp_eq (tgt := 17) hx hb d_MD_isLost_9 (by decide) ⟨by omega, by omega⟩ ⟨by omega, by omega⟩ (fun h9 => ?_) (fun h9 => ?_)
    · refine lv_aload_n hx hb d_MD_isLost_17 rfl (lv_at hl 0 rfl) ?_
      refine lv_iload_n hx hb d_MD_isLost_18 rfl (lv_at hl 1 rfl) ?_
      refine z_iconst hx hb d_MD_isLost_19 ?_
      refine rc_i (va_runV (As := [.int (iI ((d : Int))), .int (iI (3))]) (rest := []) (b := h0) ⟨hx, hb, hml, hown, hts⟩ (c_MD_isLastSunday l D k (h0) (aTx) (aDt) (aFe) (aRu) (aTa) (aBe) (aEn) (aMa) (aEx) (aAb) (aCo) (aNt) (aNb) (aNe) (aCf) (aCd) (aKi) (aFi) (aSe) (fa) (ty) (sh) (wt) (rd) (cd) (at1) (d) (3) ((by omega)) ((by omega))) ⟨callB_of 2 hts (good_MD_isLastSunday) rfl rfl rfl (hts _ k_67) (hts _ k_922) (by decide +kernel) ⟨Nat.le_of_ble_eq_true rfl, Nat.le_of_ble_eq_true rfl⟩, (hts _ k_924), (hts _ k_48)⟩ ⟨fun a U g mk q => ⟨q.1, q.2.1, va_K.moved (u := U) (U := U.calling g mk a) (Vm.Alike.refl U.vm) q.2.2.1, q.2.2.2.calling⟩, (va_recv (q0 := 0) hK hP rfl rfl), fun U hU hW => ⟨rfl, by rw [hU]; exact hP, va_K.moved hW.alike hK, by rw [hU]; exact hX.warm hW⟩⟩ rfl rfl hl.1 rfl (lv_room (Nat.le_of_ble_eq_true rfl)) d_MD_isLost_20 ⟨Nat.le_of_ble_eq_true rfl, Nat.le_of_ble_eq_true rfl⟩) (fun xr_1 h_xr_1 => ?_)
      subst h_xr_1
      refine b_if_eq (tgt := 30) hx hb d_MD_isLost_23 (by decide) (fun h23 => ?_) (fun h23 => ?_)
      · refine z_iconst hx hb d_MD_isLost_30 ?_
        have e9 : loF sh d q = false := by unfold loF; rw [if_pos h4, if_pos h9, if_neg (Bool.eq_false_iff.mp h23)]
        exact ret _ 31 false d_MD_isLost_31 ((congrArg (fun q9 => bI q9) e9).symm)
      · refine z_iconst hx hb d_MD_isLost_26 ?_
        refine lv_goto (tgt := 31) hx hb d_MD_isLost_27 (by decide) ?_
        have e9 : loF sh d q = true := by unfold loF; rw [if_pos h4, if_pos h9, if_pos h23]
        exact ret _ 31 true d_MD_isLost_31 ((congrArg (fun q9 => bI q9) e9).symm)
    · refine lv_iload_n hx hb d_MD_isLost_12 rfl (lv_at hl 2 rfl) ?_
      refine z_iconst hx hb d_MD_isLost_13 ?_
      refine z_icmp_ne (tgt := 30) hx hb d_MD_isLost_14 (by decide) ⟨by omega, by omega⟩ ⟨by omega, by omega⟩ (fun h14 => ?_) (fun h14 => ?_)
      · refine z_iconst hx hb d_MD_isLost_30 ?_
        have e9 : loF sh d q = false := by unfold loF; rw [if_pos h4, if_neg h9, if_neg h14]
        exact ret _ 31 false d_MD_isLost_31 ((congrArg (fun q9 => bI q9) e9).symm)
      · refine lv_aload_n hx hb d_MD_isLost_17 rfl (lv_at hl 0 rfl) ?_
        refine lv_iload_n hx hb d_MD_isLost_18 rfl (lv_at hl 1 rfl) ?_
        refine z_iconst hx hb d_MD_isLost_19 ?_
        refine rc_i (va_runV (As := [.int (iI ((d : Int))), .int (iI (3))]) (rest := []) (b := h0) ⟨hx, hb, hml, hown, hts⟩ (c_MD_isLastSunday l D k (h0) (aTx) (aDt) (aFe) (aRu) (aTa) (aBe) (aEn) (aMa) (aEx) (aAb) (aCo) (aNt) (aNb) (aNe) (aCf) (aCd) (aKi) (aFi) (aSe) (fa) (ty) (sh) (wt) (rd) (cd) (at1) (d) (3) ((by omega)) ((by omega))) ⟨callB_of 2 hts (good_MD_isLastSunday) rfl rfl rfl (hts _ k_67) (hts _ k_922) (by decide +kernel) ⟨Nat.le_of_ble_eq_true rfl, Nat.le_of_ble_eq_true rfl⟩, (hts _ k_924), (hts _ k_48)⟩ ⟨fun a U g mk q => ⟨q.1, q.2.1, va_K.moved (u := U) (U := U.calling g mk a) (Vm.Alike.refl U.vm) q.2.2.1, q.2.2.2.calling⟩, (va_recv (q0 := 0) hK hP rfl rfl), fun U hU hW => ⟨rfl, by rw [hU]; exact hP, va_K.moved hW.alike hK, by rw [hU]; exact hX.warm hW⟩⟩ rfl rfl hl.1 rfl (lv_room (Nat.le_of_ble_eq_true rfl)) d_MD_isLost_20 ⟨Nat.le_of_ble_eq_true rfl, Nat.le_of_ble_eq_true rfl⟩) (fun xr_2 h_xr_2 => ?_)
        subst h_xr_2
        refine b_if_eq (tgt := 30) hx hb d_MD_isLost_23 (by decide) (fun h23 => ?_) (fun h23 => ?_)
        · refine z_iconst hx hb d_MD_isLost_30 ?_
          have e9 : loF sh d q = false := by unfold loF; rw [if_pos h4, if_neg h9, if_pos h14, if_neg (Bool.eq_false_iff.mp h23)]
          exact ret _ 31 false d_MD_isLost_31 ((congrArg (fun q9 => bI q9) e9).symm)
        · refine z_iconst hx hb d_MD_isLost_26 ?_
          refine lv_goto (tgt := 31) hx hb d_MD_isLost_27 (by decide) ?_
          have e9 : loF sh d q = true := by unfold loF; rw [if_pos h4, if_neg h9, if_pos h14, if_pos h23]
          exact ret _ 31 true d_MD_isLost_31 ((congrArg (fun q9 => bI q9) e9).symm)

def twF (sh : Bool) (d : Nat) (q : Int) : Bool := (if sh = true then (if q = 4 then (if (lsF d 10) = true then (true) else (false)) else (if q = 5 then (if (lsF d 10) = true then (true) else (false)) else (false))) else (false))
set_option maxHeartbeats 4000000 in
set_option maxRecDepth 100000 in
theorem c_MD_isTwice (l : Launch) (D : va_G) (k : Nat → ClassId) (h0 aTx aDt aFe aRu aTa aBe aEn aMa aEx aAb aCo aNt aNb aNe aCf aCd aKi aFi aSe : Nat) (fa : Int) (ty : Int) (sh : Bool) (wt : Int) (rd : Int) (cd : Int) (at1 : Int) (d : Nat) (q : Int) (hd : d < 1461) (hq : rg q) : Met l y_MD_isTwice wd_MD_isTwice rm_MD_isTwice (va_Pc [.ref h0, .int (iI ((d : Int))), .int (iI (q))] (PRO D k [(h0, .inr (8, [.int (iI (fa)), .int (iI (ty)), .ref aTx, .int (bI (sh)), .ref aDt, .ref aFe, .ref aRu, .ref aTa, .ref aBe, .ref aEn, .ref aMa, .int (iI (wt)), .ref aEx, .ref aAb, .ref aCo, .int (iI (rd)), .ref aNt, .ref aNb, .ref aNe, .ref aCf, .ref aCd, .int (iI (cd)), .int (iI (at1)), .ref aKi, .ref aFi, .ref aSe])), (aDt, .inl (k 0, 1461, .inl (aZ (dateZ))))])) (QRi (fun r : Int32 => r = (bI ((twF sh d q))))) 0 0 nA := by
  refine r_z (by decide) rfl (Nat.le_of_ble_eq_true rfl) ?_
  intro p e s m args below meth c Q ls hx hb hml hown hts hpre hl ret
  obtain ⟨hP, hK, hX⟩ := hpre
  have hS : va_S nA s.heap s.heap [] := va_S.rf
  have hl : lv_has ls 3 [(0, .ref h0), (1, .int (iI ((d : Int)))), (2, .int (iI (q)))] := hl
  obtain ⟨q1, q2⟩ := hq
  refine lv_aload_n hx hb d_MD_isTwice_0 rfl (lv_at hl 0 rfl) ?_
  refine va_get (D := D) (ci := 8) (v := .int (bI (sh))) (C := R_MD) (T := F_MD) (N := 26) hx hb hts in_MD hown hK hP 0 rfl rfl 3 (by decide) (hts _ k_736) (fun _ h9 => h9) rfl d_MD_isTwice_1 ?_
  refine b_if_eq (tgt := 31) hx hb d_MD_isTwice_4 (by decide) (fun h4 => ?_) (fun h4 => ?_)
  · refine z_iconst hx hb d_MD_isTwice_31 ?_
    have e9 : twF sh d q = false := by unfold twF; rw [if_neg (Bool.eq_false_iff.mp h4)]
    exact ret _ 32 false d_MD_isTwice_32 ((congrArg (fun q9 => bI q9) e9).symm)
  · refine lv_iload_n hx hb d_MD_isTwice_7 rfl (lv_at hl 2 rfl) ?_
    refine z_iconst hx hb d_MD_isTwice_8 ?_
    refine z_icmp_eq (tgt := 17) hx hb d_MD_isTwice_9 (by decide) ⟨by omega, by omega⟩ ⟨by omega, by omega⟩ (fun h9 => ?_) (fun h9 => ?_)
    · refine lv_aload_n hx hb d_MD_isTwice_17 rfl (lv_at hl 0 rfl) ?_
      refine lv_iload_n hx hb d_MD_isTwice_18 rfl (lv_at hl 1 rfl) ?_
      refine z_bipush hx hb d_MD_isTwice_19 (by decide) ?_
      refine rc_i (va_runV (As := [.int (iI ((d : Int))), .int (iI (10))]) (rest := []) (b := h0) ⟨hx, hb, hml, hown, hts⟩ (c_MD_isLastSunday l D k (h0) (aTx) (aDt) (aFe) (aRu) (aTa) (aBe) (aEn) (aMa) (aEx) (aAb) (aCo) (aNt) (aNb) (aNe) (aCf) (aCd) (aKi) (aFi) (aSe) (fa) (ty) (sh) (wt) (rd) (cd) (at1) (d) (10) ((by omega)) ((by omega))) ⟨callB_of 2 hts (good_MD_isLastSunday) rfl rfl rfl (hts _ k_67) (hts _ k_922) (by decide +kernel) ⟨Nat.le_of_ble_eq_true rfl, Nat.le_of_ble_eq_true rfl⟩, (hts _ k_924), (hts _ k_48)⟩ ⟨fun a U g mk q => ⟨q.1, q.2.1, va_K.moved (u := U) (U := U.calling g mk a) (Vm.Alike.refl U.vm) q.2.2.1, q.2.2.2.calling⟩, (va_recv (q0 := 0) hK hP rfl rfl), fun U hU hW => ⟨rfl, by rw [hU]; exact hP, va_K.moved hW.alike hK, by rw [hU]; exact hX.warm hW⟩⟩ rfl rfl hl.1 rfl (lv_room (Nat.le_of_ble_eq_true rfl)) d_MD_isTwice_21 ⟨Nat.le_of_ble_eq_true rfl, Nat.le_of_ble_eq_true rfl⟩) (fun xr_1 h_xr_1 => ?_)
      subst h_xr_1
      refine b_if_eq (tgt := 31) hx hb d_MD_isTwice_24 (by decide) (fun h24 => ?_) (fun h24 => ?_)
      · refine z_iconst hx hb d_MD_isTwice_31 ?_
        have e9 : twF sh d q = false := by unfold twF; rw [if_pos h4, if_pos h9, if_neg (Bool.eq_false_iff.mp h24)]
        exact ret _ 32 false d_MD_isTwice_32 ((congrArg (fun q9 => bI q9) e9).symm)
      · refine z_iconst hx hb d_MD_isTwice_27 ?_
        refine lv_goto (tgt := 32) hx hb d_MD_isTwice_28 (by decide) ?_
        have e9 : twF sh d q = true := by unfold twF; rw [if_pos h4, if_pos h9, if_pos h24]
        exact ret _ 32 true d_MD_isTwice_32 ((congrArg (fun q9 => bI q9) e9).symm)
    · refine lv_iload_n hx hb d_MD_isTwice_12 rfl (lv_at hl 2 rfl) ?_
      refine z_iconst hx hb d_MD_isTwice_13 ?_
      refine z_icmp_ne (tgt := 31) hx hb d_MD_isTwice_14 (by decide) ⟨by omega, by omega⟩ ⟨by omega, by omega⟩ (fun h14 => ?_) (fun h14 => ?_)
      · refine z_iconst hx hb d_MD_isTwice_31 ?_
        have e9 : twF sh d q = false := by unfold twF; rw [if_pos h4, if_neg h9, if_neg h14]
        exact ret _ 32 false d_MD_isTwice_32 ((congrArg (fun q9 => bI q9) e9).symm)
      · refine lv_aload_n hx hb d_MD_isTwice_17 rfl (lv_at hl 0 rfl) ?_
        refine lv_iload_n hx hb d_MD_isTwice_18 rfl (lv_at hl 1 rfl) ?_
        refine z_bipush hx hb d_MD_isTwice_19 (by decide) ?_
        refine rc_i (va_runV (As := [.int (iI ((d : Int))), .int (iI (10))]) (rest := []) (b := h0) ⟨hx, hb, hml, hown, hts⟩ (c_MD_isLastSunday l D k (h0) (aTx) (aDt) (aFe) (aRu) (aTa) (aBe) (aEn) (aMa) (aEx) (aAb) (aCo) (aNt) (aNb) (aNe) (aCf) (aCd) (aKi) (aFi) (aSe) (fa) (ty) (sh) (wt) (rd) (cd) (at1) (d) (10) ((by omega)) ((by omega))) ⟨callB_of 2 hts (good_MD_isLastSunday) rfl rfl rfl (hts _ k_67) (hts _ k_922) (by decide +kernel) ⟨Nat.le_of_ble_eq_true rfl, Nat.le_of_ble_eq_true rfl⟩, (hts _ k_924), (hts _ k_48)⟩ ⟨fun a U g mk q => ⟨q.1, q.2.1, va_K.moved (u := U) (U := U.calling g mk a) (Vm.Alike.refl U.vm) q.2.2.1, q.2.2.2.calling⟩, (va_recv (q0 := 0) hK hP rfl rfl), fun U hU hW => ⟨rfl, by rw [hU]; exact hP, va_K.moved hW.alike hK, by rw [hU]; exact hX.warm hW⟩⟩ rfl rfl hl.1 rfl (lv_room (Nat.le_of_ble_eq_true rfl)) d_MD_isTwice_21 ⟨Nat.le_of_ble_eq_true rfl, Nat.le_of_ble_eq_true rfl⟩) (fun xr_2 h_xr_2 => ?_)
        subst h_xr_2
        refine b_if_eq (tgt := 31) hx hb d_MD_isTwice_24 (by decide) (fun h24 => ?_) (fun h24 => ?_)
        · refine z_iconst hx hb d_MD_isTwice_31 ?_
          have e9 : twF sh d q = false := by unfold twF; rw [if_pos h4, if_neg h9, if_pos h14, if_neg (Bool.eq_false_iff.mp h24)]
          exact ret _ 32 false d_MD_isTwice_32 ((congrArg (fun q9 => bI q9) e9).symm)
        · refine z_iconst hx hb d_MD_isTwice_27 ?_
          refine lv_goto (tgt := 32) hx hb d_MD_isTwice_28 (by decide) ?_
          have e9 : twF sh d q = true := by unfold twF; rw [if_pos h4, if_neg h9, if_pos h14, if_pos h24]
          exact ret _ 32 true d_MD_isTwice_32 ((congrArg (fun q9 => bI q9) e9).symm)

def rfF (z : Int) : Bool × Int := (if z ≤ 0 then (false, z) else (true, z))
set_option maxHeartbeats 4000000 in
set_option maxRecDepth 100000 in
theorem c_MD_refused (l : Launch) (D : va_G) (k : Nat → ClassId) (sz : Nat) (h0 aTx aDt aFe aRu aTa aBe aEn aMa aEx aAb aCo aNt aNb aNe aCf aCd aKi aFi aSe : Nat) (fa : Int) (ty : Int) (sh : Bool) (wt : Int) (rd : Int) (cd : Int) (at1 : Int) (z : Int) (hz : rg z) : Met l y_MD_refused wd_MD_refused rm_MD_refused (va_Pc [.ref h0, .int (iI (z))] (PRW D k [(h0, .inr (8, [.int (iI (fa)), .int (iI (ty)), .ref aTx, .int (bI (sh)), .ref aDt, .ref aFe, .ref aRu, .ref aTa, .ref aBe, .ref aEn, .ref aMa, .int (iI (wt)), .ref aEx, .ref aAb, .ref aCo, .int (iI (rd)), .ref aNt, .ref aNb, .ref aNe, .ref aCf, .ref aCd, .int (iI (cd)), .int (iI (at1)), .ref aKi, .ref aFi, .ref aSe]))] sz)) (va_Qi (fun (r : Int32) (u : Unit) => r = (bI ((rfF z).1))) (fun _ t => BRW D [(h0, .inr (8, [.int (iI (fa)), .int (iI (ty)), .ref aTx, .int (bI (sh)), .ref aDt, .ref aFe, .ref aRu, .ref aTa, .ref aBe, .ref aEn, .ref aMa, .int (iI (wt)), .ref aEx, .ref aAb, .ref aCo, .int (iI (rd)), .ref aNt, .ref aNb, .ref aNe, .ref aCf, .ref aCd, .int (iI (cd)), .int (iI (at1)), .ref aKi, .ref aFi, .ref aSe]))] sz [(h0, .inr (8, [.int (iI ((rfF z).2)), .int (iI (ty)), .ref aTx, .int (bI (sh)), .ref aDt, .ref aFe, .ref aRu, .ref aTa, .ref aBe, .ref aEn, .ref aMa, .int (iI (wt)), .ref aEx, .ref aAb, .ref aCo, .int (iI (rd)), .ref aNt, .ref aNb, .ref aNe, .ref aCf, .ref aCd, .int (iI (cd)), .int (iI (at1)), .ref aKi, .ref aFi, .ref aSe]))] t) (va_A [(h0, .inr (8, [.int (iI (fa)), .int (iI (ty)), .ref aTx, .int (bI (sh)), .ref aDt, .ref aFe, .ref aRu, .ref aTa, .ref aBe, .ref aEn, .ref aMa, .int (iI (wt)), .ref aEx, .ref aAb, .ref aCo, .int (iI (rd)), .ref aNt, .ref aNb, .ref aNe, .ref aCf, .ref aCd, .int (iI (cd)), .int (iI (at1)), .ref aKi, .ref aFi, .ref aSe]))] sz)) 0 0 (va_A [(h0, .inr (8, [.int (iI (fa)), .int (iI (ty)), .ref aTx, .int (bI (sh)), .ref aDt, .ref aFe, .ref aRu, .ref aTa, .ref aBe, .ref aEn, .ref aMa, .int (iI (wt)), .ref aEx, .ref aAb, .ref aCo, .int (iI (rd)), .ref aNt, .ref aNb, .ref aNe, .ref aCf, .ref aCd, .int (iI (cd)), .int (iI (at1)), .ref aKi, .ref aFi, .ref aSe]))] sz) := by
  refine e_z (by decide) rfl (Nat.le_of_ble_eq_true rfl) ?_
  intro p e s m args below meth c Q ls hx hb hml hown hts hpre hl ret
  obtain ⟨hsz, hP, hK, hD0, hX⟩ := hpre
  subst hsz
  have hD := hD0.self (sz := s.heap.size)
  have hA : ∀ q : Nat, s.heap.size ≤ q → (va_A [(h0, .inr (8, [.int (iI (fa)), .int (iI (ty)), .ref aTx, .int (bI (sh)), .ref aDt, .ref aFe, .ref aRu, .ref aTa, .ref aBe, .ref aEn, .ref aMa, .int (iI (wt)), .ref aEx, .ref aAb, .ref aCo, .int (iI (rd)), .ref aNt, .ref aNb, .ref aNe, .ref aCf, .ref aCd, .int (iI (cd)), .int (iI (at1)), .ref aKi, .ref aFi, .ref aSe]))] s.heap.size) q := fun q h => Or.inr h
  have hS : va_S (va_A [(h0, .inr (8, [.int (iI (fa)), .int (iI (ty)), .ref aTx, .int (bI (sh)), .ref aDt, .ref aFe, .ref aRu, .ref aTa, .ref aBe, .ref aEn, .ref aMa, .int (iI (wt)), .ref aEx, .ref aAb, .ref aCo, .int (iI (rd)), .ref aNt, .ref aNb, .ref aNe, .ref aCf, .ref aCd, .int (iI (cd)), .int (iI (at1)), .ref aKi, .ref aFi, .ref aSe]))] s.heap.size) s.heap s.heap [] := va_S.rf
  have hl : lv_has ls 2 [(0, .ref h0), (1, .int (iI (z)))] := hl
  obtain ⟨q1, q2⟩ := hz
  refine lv_aload_n hx hb d_MD_refused_0 rfl (lv_at hl 0 rfl) ?_
  refine lv_iload_n hx hb d_MD_refused_1 rfl (lv_at hl 1 rfl) ?_
  refine va_put (D := D) (ci := 8) (v := .int (iI (z))) (ty := .int) (C := R_MD) (T := F_MD) (N := 26) hx hb hts in_MD t_MD t_MD_ok n_MD hown hK hP hD hS 0 rfl rfl 0 (by decide) (hts _ k_733) (fun _ h9 => h9) rfl (by decide +kernel) rfl rfl (Nat.le_of_ble_eq_true rfl) d_MD_refused_2 (fun H locs hP hD hS => ?_)
  have hP : va_P D classes [(h0, .inr (8, [.int (iI (z)), .int (iI (ty)), .ref aTx, .int (bI (sh)), .ref aDt, .ref aFe, .ref aRu, .ref aTa, .ref aBe, .ref aEn, .ref aMa, .int (iI (wt)), .ref aEx, .ref aAb, .ref aCo, .int (iI (rd)), .ref aNt, .ref aNb, .ref aNe, .ref aCf, .ref aCd, .int (iI (cd)), .int (iI (at1)), .ref aKi, .ref aFi, .ref aSe]))] H := hP
  have hD : va_D (va_A [(h0, .inr (8, [.int (iI (fa)), .int (iI (ty)), .ref aTx, .int (bI (sh)), .ref aDt, .ref aFe, .ref aRu, .ref aTa, .ref aBe, .ref aEn, .ref aMa, .int (iI (wt)), .ref aEx, .ref aAb, .ref aCo, .int (iI (rd)), .ref aNt, .ref aNb, .ref aNe, .ref aCf, .ref aCd, .int (iI (cd)), .int (iI (at1)), .ref aKi, .ref aFi, .ref aSe]))] s.heap.size) [(h0, .inr (8, [.int (iI (z)), .int (iI (ty)), .ref aTx, .int (bI (sh)), .ref aDt, .ref aFe, .ref aRu, .ref aTa, .ref aBe, .ref aEn, .ref aMa, .int (iI (wt)), .ref aEx, .ref aAb, .ref aCo, .int (iI (rd)), .ref aNt, .ref aNb, .ref aNe, .ref aCf, .ref aCd, .int (iI (cd)), .int (iI (at1)), .ref aKi, .ref aFi, .ref aSe]))] := hD
  refine lv_iload_n hx hb d_MD_refused_5 rfl (lv_at hl 1 rfl) ?_
  refine z_if_le (tgt := 13) hx hb d_MD_refused_6 (by decide) ⟨by omega, by omega⟩ (fun h6 => ?_) (fun h6 => ?_)
  · refine z_iconst hx hb d_MD_refused_13 ?_
    have e9 : rfF z = (false, z) := by unfold rfF; rw [if_pos h6]
    exact ret _ _ _ 14 false () d_MD_refused_14 hS ((congrArg (fun q9 => bI q9.1) e9).symm) (fun t ht _ => ⟨by rw [e9, ht]; exact hP, by rw [e9]; exact hD⟩)
  · refine z_iconst hx hb d_MD_refused_9 ?_
    refine lv_goto (tgt := 14) hx hb d_MD_refused_10 (by decide) ?_
    have e9 : rfF z = (true, z) := by unfold rfF; rw [if_neg h6]
    exact ret _ _ _ 14 true () d_MD_refused_14 hS ((congrArg (fun q9 => bI q9.1) e9).symm) (fun t ht _ => ⟨by rw [e9, ht]; exact hP, by rw [e9]; exact hD⟩)

set_option maxHeartbeats 4000000 in
set_option maxRecDepth 100000 in
theorem c_MD_isMatch (l : Launch) (D : va_G) (k : Nat → ClassId) (h0 aTx aDt aFe aRu aTa aBe aEn aMa aEx aAb aCo aNt aNb aNe aCf aCd aKi aFi aSe : Nat) (fa : Int) (ty : Int) (sh : Bool) (wt : Int) (rd : Int) (cd : Int) (at1 : Int) (mM : Nat → Int) (cc : Nat) (z : Int) (rn : Nat) (hM : ∀ j, 0 ≤ mM j ∧ mM j < 4096) (hc : cc < 3) (hz : -1 ≤ z ∧ z ≤ 1460) (hr : rn < 12) : Met l y_MD_isMatch wd_MD_isMatch rm_MD_isMatch (va_Pc [.ref h0, .int (iI ((cc : Int))), .int (iI (z)), .int (iI ((rn : Int)))] (PRO D k [(h0, .inr (8, [.int (iI (fa)), .int (iI (ty)), .ref aTx, .int (bI (sh)), .ref aDt, .ref aFe, .ref aRu, .ref aTa, .ref aBe, .ref aEn, .ref aMa, .int (iI (wt)), .ref aEx, .ref aAb, .ref aCo, .int (iI (rd)), .ref aNt, .ref aNb, .ref aNe, .ref aCf, .ref aCd, .int (iI (cd)), .int (iI (at1)), .ref aKi, .ref aFi, .ref aSe])), (aMa, .inl (k 0, 4383, .inl (aZ (mM))))])) (QRi (fun r : Int32 => r = (bI (isM mM cc z rn)))) 0 0 nA := by
  refine r_z (by decide) rfl (Nat.le_of_ble_eq_true rfl) ?_
  intro p e s m args below meth c Q ls hx hb hml hown hts hpre hl ret
  obtain ⟨hP, hK, hX⟩ := hpre
  have hS : va_S nA s.heap s.heap [] := va_S.rf
  have hl : lv_has ls 4 [(0, .ref h0), (1, .int (iI ((cc : Int)))), (2, .int (iI (z))), (3, .int (iI ((rn : Int))))] := hl
  refine lv_iload_n hx hb d_MD_isMatch_0 rfl (lv_at hl 2 rfl) ?_
  refine z_if_lt (tgt := 28) hx hb d_MD_isMatch_1 (by decide) ⟨by omega, by omega⟩ (fun h1 => ?_) (fun h1 => ?_)
  · refine z_iconst hx hb d_MD_isMatch_28 ?_
    exact ret _ 29 false d_MD_isMatch_29 (congrArg bI (by unfold isM; first | (rw [show (mM (1461 * cc + z.toNat)).toNat = fn by omega]; simp; omega) | (rw [decide_eq_false (by omega)]; rfl)))
  · refine lv_aload_n hx hb d_MD_isMatch_4 rfl (lv_at hl 0 rfl) ?_
    refine va_get (D := D) (ci := 8) (v := .ref aMa) (C := R_MD) (T := F_MD) (N := 26) hx hb hts in_MD hown hK hP 0 rfl rfl 10 (by decide) (hts _ k_743) (fun _ h9 => h9) rfl d_MD_isMatch_5 ?_
    refine z_sipush hx hb d_MD_isMatch_8 (by decide) ?_
    refine lv_iload_n hx hb d_MD_isMatch_11 rfl (lv_at hl 1 rfl) ?_
    refine z_imul hx hb d_MD_isMatch_12 ?_
    refine lv_iload_n hx hb d_MD_isMatch_13 rfl (lv_at hl 2 rfl) ?_
    refine z_iadd hx hb d_MD_isMatch_14 ?_
    refine x_iald hx hb hK hP 1 0 rfl rfl (1461 * cc + z.toNat) (by omega) (by omega) (by omega) d_MD_isMatch_15 ?_
    refine z_top (show _ = iI (mM (1461 * cc + z.toNat)) from rfl) ?_
    have hbd1 := hM (1461 * cc + z.toNat)
    refine lv_iload_n hx hb d_MD_isMatch_16 rfl (lv_at hl 3 rfl) ?_
    refine lv_ishr hx hb d_MD_isMatch_17 ?_
    refine z_iconst hx hb d_MD_isMatch_18 ?_
    refine lv_iand hx hb d_MD_isMatch_19 ?_
    obtain ⟨fn, hfn⟩ : ∃ fn : Nat, (fn : Int) = mM (1461 * cc + z.toNat) := ⟨(mM (1461 * cc + z.toNat)).toNat, by omega⟩
    refine z_top (show (((iI (mM (1461 * cc + z.toNat))) >>> ((iI ((rn : Int))) &&& 31)) &&& (iI (1))) = (iI (((fn / 2 ^ rn % 2 : Nat) : Int))) from (by rw [← hfn]; exact iI_bitw fn rn (by omega) (by omega))) ?_
    refine z_iconst hx hb d_MD_isMatch_20 ?_
    refine z_icmp_ne (tgt := 28) hx hb d_MD_isMatch_21 (by decide) ⟨by omega, by omega⟩ ⟨by omega, by omega⟩ (fun h21 => ?_) (fun h21 => ?_)
    · refine z_iconst hx hb d_MD_isMatch_28 ?_
      exact ret _ 29 false d_MD_isMatch_29 (congrArg bI (by unfold isM; first | (rw [show (mM (1461 * cc + z.toNat)).toNat = fn by omega]; simp; omega) | (rw [decide_eq_false (by omega)]; rfl)))
    · refine z_iconst hx hb d_MD_isMatch_24 ?_
      refine lv_goto (tgt := 29) hx hb d_MD_isMatch_25 (by decide) ?_
      exact ret _ 29 true d_MD_isMatch_29 (congrArg bI (by unfold isM; first | (rw [show (mM (1461 * cc + z.toNat)).toNat = fn by omega]; simp; omega) | (rw [decide_eq_false (by omega)]; rfl)))

def covF (mB : Nat → Int) (mE : Nat → Int) (mM : Nat → Int) (cc : Nat) (d : Nat) (q : Int) (rn : Nat) : Bool := (if mE (12 * cc + rn) ≤ mB (12 * cc + rn) then (if q < mB (12 * cc + rn) then (if mE (12 * cc + rn) ≤ q then (false) else (if isM mM cc (((d : Int)) - 1) rn = true then (true) else (false))) else (if isM mM cc ((d : Int)) rn = true then (true) else (if mE (12 * cc + rn) ≤ q then (false) else (if isM mM cc (((d : Int)) - 1) rn = true then (true) else (false))))) else (if q < mB (12 * cc + rn) then (false) else (if mE (12 * cc + rn) ≤ q then (false) else (if isM mM cc ((d : Int)) rn = true then (true) else (false)))))
set_option maxHeartbeats 4000000 in
set_option maxRecDepth 100000 in
theorem c_MD_isCovered (l : Launch) (D : va_G) (k : Nat → ClassId) (h0 aTx aDt aFe aRu aTa aBe aEn aMa aEx aAb aCo aNt aNb aNe aCf aCd aKi aFi aSe : Nat) (fa : Int) (ty : Int) (sh : Bool) (wt : Int) (rd : Int) (cd : Int) (at1 : Int) (mB : Nat → Int) (mE : Nat → Int) (mM : Nat → Int) (cc : Nat) (d : Nat) (q : Int) (rn : Nat) (hB : ∀ j, 0 ≤ mB j ∧ mB j ≤ 48) (hE : ∀ j, 0 ≤ mE j ∧ mE j ≤ 48) (hM : ∀ j, 0 ≤ mM j ∧ mM j < 4096) (hc : cc < 3) (hd : d < 1461) (hq : 0 ≤ q ∧ q ≤ 47) (hr : rn < 12) : Met l y_MD_isCovered wd_MD_isCovered rm_MD_isCovered (va_Pc [.ref h0, .int (iI ((cc : Int))), .int (iI ((d : Int))), .int (iI (q)), .int (iI ((rn : Int)))] (PRO D k [(h0, .inr (8, [.int (iI (fa)), .int (iI (ty)), .ref aTx, .int (bI (sh)), .ref aDt, .ref aFe, .ref aRu, .ref aTa, .ref aBe, .ref aEn, .ref aMa, .int (iI (wt)), .ref aEx, .ref aAb, .ref aCo, .int (iI (rd)), .ref aNt, .ref aNb, .ref aNe, .ref aCf, .ref aCd, .int (iI (cd)), .int (iI (at1)), .ref aKi, .ref aFi, .ref aSe])), (aBe, .inl (k 0, 36, .inl (aZ (mB)))), (aEn, .inl (k 0, 36, .inl (aZ (mE)))), (aMa, .inl (k 0, 4383, .inl (aZ (mM))))])) (QRi (fun r : Int32 => r = (bI ((covF mB mE mM cc d q rn))))) 0 0 nA := by
  refine r_z (by decide) rfl (Nat.le_of_ble_eq_true rfl) ?_
  intro p e s m args below meth c Q ls hx hb hml hown hts hpre hl ret
  obtain ⟨hP, hK, hX⟩ := hpre
  have hS : va_S nA s.heap s.heap [] := va_S.rf
  have hl : lv_has ls 7 [(0, .ref h0), (1, .int (iI ((cc : Int)))), (2, .int (iI ((d : Int)))), (3, .int (iI (q))), (4, .int (iI ((rn : Int))))] := hl
  refine lv_aload_n hx hb d_MD_isCovered_0 rfl (lv_at hl 0 rfl) ?_
  refine va_get (D := D) (ci := 8) (v := .ref aBe) (C := R_MD) (T := F_MD) (N := 26) hx hb hts in_MD hown hK hP 0 rfl rfl 8 (by decide) (hts _ k_741) (fun _ h9 => h9) rfl d_MD_isCovered_1 ?_
  refine z_bipush hx hb d_MD_isCovered_4 (by decide) ?_
  refine lv_iload_n hx hb d_MD_isCovered_6 rfl (lv_at hl 1 rfl) ?_
  refine z_imul hx hb d_MD_isCovered_7 ?_
  refine lv_iload hx hb d_MD_isCovered_8 (lv_at hl 4 rfl) ?_
  refine z_iadd hx hb d_MD_isCovered_10 ?_
  refine x_iald hx hb hK hP 1 0 rfl rfl (12 * cc + rn) (by omega) (by omega) (by omega) d_MD_isCovered_11 ?_
  refine z_top (show _ = iI (mB (12 * cc + rn)) from rfl) ?_
  have hbd1 := hB (12 * cc + rn)
  refine lv_istore (lv' := [(5, .int (iI (mB (12 * cc + rn)))), (0, .ref h0), (1, .int (iI ((cc : Int)))), (2, .int (iI ((d : Int)))), (3, .int (iI (q))), (4, .int (iI ((rn : Int))))]) hx hb d_MD_isCovered_12 hl (by decide) rfl (fun ls hl => ?_)
  refine lv_aload_n hx hb d_MD_isCovered_14 rfl (lv_at hl 1 rfl) ?_
  refine va_get (D := D) (ci := 8) (v := .ref aEn) (C := R_MD) (T := F_MD) (N := 26) hx hb hts in_MD hown hK hP 0 rfl rfl 9 (by decide) (hts _ k_742) (fun _ h9 => h9) rfl d_MD_isCovered_15 ?_
  refine z_bipush hx hb d_MD_isCovered_18 (by decide) ?_
  refine lv_iload_n hx hb d_MD_isCovered_20 rfl (lv_at hl 2 rfl) ?_
  refine z_imul hx hb d_MD_isCovered_21 ?_
  refine lv_iload hx hb d_MD_isCovered_22 (lv_at hl 5 rfl) ?_
  refine z_iadd hx hb d_MD_isCovered_24 ?_
  refine x_iald hx hb hK hP 2 0 rfl rfl (12 * cc + rn) (by omega) (by omega) (by omega) d_MD_isCovered_25 ?_
  refine z_top (show _ = iI (mE (12 * cc + rn)) from rfl) ?_
  have hbd2 := hE (12 * cc + rn)
  refine lv_istore (lv' := [(6, .int (iI (mE (12 * cc + rn)))), (5, .int (iI (mB (12 * cc + rn)))), (0, .ref h0), (1, .int (iI ((cc : Int)))), (2, .int (iI ((d : Int)))), (3, .int (iI (q))), (4, .int (iI ((rn : Int))))]) hx hb d_MD_isCovered_26 hl (by decide) rfl (fun ls hl => ?_)
  refine lv_iload hx hb d_MD_isCovered_28 (lv_at hl 1 rfl) ?_
  refine lv_iload hx hb d_MD_isCovered_30 (lv_at hl 0 rfl) ?_
  refine z_icmp_ge (tgt := 64) hx hb d_MD_isCovered_32 (by decide) ⟨by omega, by omega⟩ ⟨by omega, by omega⟩ (fun h32 => ?_) (fun h32 => ?_)
  · refine lv_iload_n hx hb d_MD_isCovered_64 rfl (lv_at hl 5 rfl) ?_
    refine lv_iload hx hb d_MD_isCovered_65 (lv_at hl 1 rfl) ?_
    refine z_icmp_lt (tgt := 81) hx hb d_MD_isCovered_67 (by decide) ⟨by omega, by omega⟩ ⟨by omega, by omega⟩ (fun h67 => ?_) (fun h67 => ?_)
    · refine lv_iload_n hx hb d_MD_isCovered_81 rfl (lv_at hl 5 rfl) ?_
      refine lv_iload hx hb d_MD_isCovered_82 (lv_at hl 0 rfl) ?_
      refine z_icmp_ge (tgt := 104) hx hb d_MD_isCovered_84 (by decide) ⟨by omega, by omega⟩ ⟨by omega, by omega⟩ (fun h84 => ?_) (fun h84 => ?_)
      · refine z_iconst hx hb d_MD_isCovered_104 ?_
        have e9 : covF mB mE mM cc d q rn = false := by unfold covF; rw [if_pos h32, if_pos h67, if_pos h84]
        exact ret _ 105 false d_MD_isCovered_105 ((congrArg (fun q9 => bI q9) e9).symm)
      · refine lv_aload_n hx hb d_MD_isCovered_87 rfl (lv_at hl 2 rfl) ?_
        refine lv_iload_n hx hb d_MD_isCovered_88 rfl (lv_at hl 3 rfl) ?_
        refine lv_iload_n hx hb d_MD_isCovered_89 rfl (lv_at hl 4 rfl) ?_
        refine z_iconst hx hb d_MD_isCovered_90 ?_
        refine z_isub hx hb d_MD_isCovered_91 ?_
        refine lv_iload hx hb d_MD_isCovered_92 (lv_at hl 6 rfl) ?_
        refine rc_i (va_runV (As := [.int (iI ((cc : Int))), .int (iI (((d : Int)) - 1)), .int (iI ((rn : Int)))]) (rest := []) (b := h0) ⟨hx, hb, hml, hown, hts⟩ (c_MD_isMatch l D k (h0) (aTx) (aDt) (aFe) (aRu) (aTa) (aBe) (aEn) (aMa) (aEx) (aAb) (aCo) (aNt) (aNb) (aNe) (aCf) (aCd) (aKi) (aFi) (aSe) (fa) (ty) (sh) (wt) (rd) (cd) (at1) (mM) (cc) (((d : Int)) - 1) (rn) (hM) ((by omega)) ((by omega)) ((by omega))) ⟨callB_of 3 hts (good_MD_isMatch) rfl rfl rfl (hts _ k_67) (hts _ k_938) (by decide +kernel) ⟨Nat.le_of_ble_eq_true rfl, Nat.le_of_ble_eq_true rfl⟩, (hts _ k_940), (hts _ k_52)⟩ ⟨fun a U g mk q => ⟨q.1, q.2.1, va_K.moved (u := U) (U := U.calling g mk a) (Vm.Alike.refl U.vm) q.2.2.1, q.2.2.2.calling⟩, (va_recv (q0 := 0) hK hP rfl rfl), fun U hU hW => ⟨rfl, by rw [hU]; exact (hP.sub (ws' := [(h0, .inr (8, [.int (iI (fa)), .int (iI (ty)), .ref aTx, .int (bI (sh)), .ref aDt, .ref aFe, .ref aRu, .ref aTa, .ref aBe, .ref aEn, .ref aMa, .int (iI (wt)), .ref aEx, .ref aAb, .ref aCo, .int (iI (rd)), .ref aNt, .ref aNb, .ref aNe, .ref aCf, .ref aCd, .int (iI (cd)), .int (iI (at1)), .ref aKi, .ref aFi, .ref aSe])), (aMa, .inl (k 0, 4383, .inl (aZ (mM))))]) [0, 3] rfl), va_K.moved hW.alike hK, by rw [hU]; exact hX.warm hW⟩⟩ rfl rfl hl.1 rfl (lv_room (Nat.le_of_ble_eq_true rfl)) d_MD_isCovered_94 ⟨Nat.le_of_ble_eq_true rfl, Nat.le_of_ble_eq_true rfl⟩) (fun xr_1 h_xr_1 => ?_)
        subst h_xr_1
        refine b_if_eq (tgt := 104) hx hb d_MD_isCovered_97 (by decide) (fun h97 => ?_) (fun h97 => ?_)
        · refine z_iconst hx hb d_MD_isCovered_104 ?_
          have e9 : covF mB mE mM cc d q rn = false := by unfold covF; rw [if_pos h32, if_pos h67, if_neg h84, if_neg (Bool.eq_false_iff.mp h97)]
          exact ret _ 105 false d_MD_isCovered_105 ((congrArg (fun q9 => bI q9) e9).symm)
        · refine z_iconst hx hb d_MD_isCovered_100 ?_
          refine lv_goto (tgt := 105) hx hb d_MD_isCovered_101 (by decide) ?_
          have e9 : covF mB mE mM cc d q rn = true := by unfold covF; rw [if_pos h32, if_pos h67, if_neg h84, if_pos h97]
          exact ret _ 105 true d_MD_isCovered_105 ((congrArg (fun q9 => bI q9) e9).symm)
    · refine lv_aload_n hx hb d_MD_isCovered_70 rfl (lv_at hl 2 rfl) ?_
      refine lv_iload_n hx hb d_MD_isCovered_71 rfl (lv_at hl 3 rfl) ?_
      refine lv_iload_n hx hb d_MD_isCovered_72 rfl (lv_at hl 4 rfl) ?_
      refine lv_iload hx hb d_MD_isCovered_73 (lv_at hl 6 rfl) ?_
      refine rc_i (va_runV (As := [.int (iI ((cc : Int))), .int (iI ((d : Int))), .int (iI ((rn : Int)))]) (rest := []) (b := h0) ⟨hx, hb, hml, hown, hts⟩ (c_MD_isMatch l D k (h0) (aTx) (aDt) (aFe) (aRu) (aTa) (aBe) (aEn) (aMa) (aEx) (aAb) (aCo) (aNt) (aNb) (aNe) (aCf) (aCd) (aKi) (aFi) (aSe) (fa) (ty) (sh) (wt) (rd) (cd) (at1) (mM) (cc) ((d : Int)) (rn) (hM) ((by omega)) ((by omega)) ((by omega))) ⟨callB_of 3 hts (good_MD_isMatch) rfl rfl rfl (hts _ k_67) (hts _ k_938) (by decide +kernel) ⟨Nat.le_of_ble_eq_true rfl, Nat.le_of_ble_eq_true rfl⟩, (hts _ k_940), (hts _ k_52)⟩ ⟨fun a U g mk q => ⟨q.1, q.2.1, va_K.moved (u := U) (U := U.calling g mk a) (Vm.Alike.refl U.vm) q.2.2.1, q.2.2.2.calling⟩, (va_recv (q0 := 0) hK hP rfl rfl), fun U hU hW => ⟨rfl, by rw [hU]; exact (hP.sub (ws' := [(h0, .inr (8, [.int (iI (fa)), .int (iI (ty)), .ref aTx, .int (bI (sh)), .ref aDt, .ref aFe, .ref aRu, .ref aTa, .ref aBe, .ref aEn, .ref aMa, .int (iI (wt)), .ref aEx, .ref aAb, .ref aCo, .int (iI (rd)), .ref aNt, .ref aNb, .ref aNe, .ref aCf, .ref aCd, .int (iI (cd)), .int (iI (at1)), .ref aKi, .ref aFi, .ref aSe])), (aMa, .inl (k 0, 4383, .inl (aZ (mM))))]) [0, 3] rfl), va_K.moved hW.alike hK, by rw [hU]; exact hX.warm hW⟩⟩ rfl rfl hl.1 rfl (lv_room (Nat.le_of_ble_eq_true rfl)) d_MD_isCovered_75 ⟨Nat.le_of_ble_eq_true rfl, Nat.le_of_ble_eq_true rfl⟩) (fun xr_2 h_xr_2 => ?_)
      subst h_xr_2
      refine b_if_ne (tgt := 100) hx hb d_MD_isCovered_78 (by decide) (fun h78 => ?_) (fun h78 => ?_)
      · refine z_iconst hx hb d_MD_isCovered_100 ?_
        refine lv_goto (tgt := 105) hx hb d_MD_isCovered_101 (by decide) ?_
        have e9 : covF mB mE mM cc d q rn = true := by unfold covF; rw [if_pos h32, if_neg h67, if_pos h78]
        exact ret _ 105 true d_MD_isCovered_105 ((congrArg (fun q9 => bI q9) e9).symm)
      · refine lv_iload_n hx hb d_MD_isCovered_81 rfl (lv_at hl 5 rfl) ?_
        refine lv_iload hx hb d_MD_isCovered_82 (lv_at hl 0 rfl) ?_
        refine z_icmp_ge (tgt := 104) hx hb d_MD_isCovered_84 (by decide) ⟨by omega, by omega⟩ ⟨by omega, by omega⟩ (fun h84 => ?_) (fun h84 => ?_)
        · refine z_iconst hx hb d_MD_isCovered_104 ?_
          have e9 : covF mB mE mM cc d q rn = false := by unfold covF; rw [if_pos h32, if_neg h67, if_neg (Bool.eq_false_iff.mp h78), if_pos h84]
          exact ret _ 105 false d_MD_isCovered_105 ((congrArg (fun q9 => bI q9) e9).symm)
        · refine lv_aload_n hx hb d_MD_isCovered_87 rfl (lv_at hl 2 rfl) ?_
          refine lv_iload_n hx hb d_MD_isCovered_88 rfl (lv_at hl 3 rfl) ?_
          refine lv_iload_n hx hb d_MD_isCovered_89 rfl (lv_at hl 4 rfl) ?_
          refine z_iconst hx hb d_MD_isCovered_90 ?_
          refine z_isub hx hb d_MD_isCovered_91 ?_
          refine lv_iload hx hb d_MD_isCovered_92 (lv_at hl 6 rfl) ?_
          refine rc_i (va_runV (As := [.int (iI ((cc : Int))), .int (iI (((d : Int)) - 1)), .int (iI ((rn : Int)))]) (rest := []) (b := h0) ⟨hx, hb, hml, hown, hts⟩ (c_MD_isMatch l D k (h0) (aTx) (aDt) (aFe) (aRu) (aTa) (aBe) (aEn) (aMa) (aEx) (aAb) (aCo) (aNt) (aNb) (aNe) (aCf) (aCd) (aKi) (aFi) (aSe) (fa) (ty) (sh) (wt) (rd) (cd) (at1) (mM) (cc) (((d : Int)) - 1) (rn) (hM) ((by omega)) ((by omega)) ((by omega))) ⟨callB_of 3 hts (good_MD_isMatch) rfl rfl rfl (hts _ k_67) (hts _ k_938) (by decide +kernel) ⟨Nat.le_of_ble_eq_true rfl, Nat.le_of_ble_eq_true rfl⟩, (hts _ k_940), (hts _ k_52)⟩ ⟨fun a U g mk q => ⟨q.1, q.2.1, va_K.moved (u := U) (U := U.calling g mk a) (Vm.Alike.refl U.vm) q.2.2.1, q.2.2.2.calling⟩, (va_recv (q0 := 0) hK hP rfl rfl), fun U hU hW => ⟨rfl, by rw [hU]; exact (hP.sub (ws' := [(h0, .inr (8, [.int (iI (fa)), .int (iI (ty)), .ref aTx, .int (bI (sh)), .ref aDt, .ref aFe, .ref aRu, .ref aTa, .ref aBe, .ref aEn, .ref aMa, .int (iI (wt)), .ref aEx, .ref aAb, .ref aCo, .int (iI (rd)), .ref aNt, .ref aNb, .ref aNe, .ref aCf, .ref aCd, .int (iI (cd)), .int (iI (at1)), .ref aKi, .ref aFi, .ref aSe])), (aMa, .inl (k 0, 4383, .inl (aZ (mM))))]) [0, 3] rfl), va_K.moved hW.alike hK, by rw [hU]; exact hX.warm hW⟩⟩ rfl rfl hl.1 rfl (lv_room (Nat.le_of_ble_eq_true rfl)) d_MD_isCovered_94 ⟨Nat.le_of_ble_eq_true rfl, Nat.le_of_ble_eq_true rfl⟩) (fun xr_3 h_xr_3 => ?_)
          subst h_xr_3
          refine b_if_eq (tgt := 104) hx hb d_MD_isCovered_97 (by decide) (fun h97 => ?_) (fun h97 => ?_)
          · refine z_iconst hx hb d_MD_isCovered_104 ?_
            have e9 : covF mB mE mM cc d q rn = false := by unfold covF; rw [if_pos h32, if_neg h67, if_neg (Bool.eq_false_iff.mp h78), if_neg h84, if_neg (Bool.eq_false_iff.mp h97)]
            exact ret _ 105 false d_MD_isCovered_105 ((congrArg (fun q9 => bI q9) e9).symm)
          · refine z_iconst hx hb d_MD_isCovered_100 ?_
            refine lv_goto (tgt := 105) hx hb d_MD_isCovered_101 (by decide) ?_
            have e9 : covF mB mE mM cc d q rn = true := by unfold covF; rw [if_pos h32, if_neg h67, if_neg (Bool.eq_false_iff.mp h78), if_neg h84, if_pos h97]
            exact ret _ 105 true d_MD_isCovered_105 ((congrArg (fun q9 => bI q9) e9).symm)
  · refine lv_iload_n hx hb d_MD_isCovered_35 rfl (lv_at hl 5 rfl) ?_
    refine lv_iload hx hb d_MD_isCovered_36 (lv_at hl 1 rfl) ?_
    refine z_icmp_lt (tgt := 62) hx hb d_MD_isCovered_38 (by decide) ⟨by omega, by omega⟩ ⟨by omega, by omega⟩ (fun h38 => ?_) (fun h38 => ?_)
    · refine z_iconst hx hb d_MD_isCovered_62 ?_
      have e9 : covF mB mE mM cc d q rn = false := by unfold covF; rw [if_neg h32, if_pos h38]
      exact ret _ 63 false d_MD_isCovered_63 ((congrArg (fun q9 => bI q9) e9).symm)
    · refine lv_iload_n hx hb d_MD_isCovered_41 rfl (lv_at hl 5 rfl) ?_
      refine lv_iload hx hb d_MD_isCovered_42 (lv_at hl 0 rfl) ?_
      refine z_icmp_ge (tgt := 62) hx hb d_MD_isCovered_44 (by decide) ⟨by omega, by omega⟩ ⟨by omega, by omega⟩ (fun h44 => ?_) (fun h44 => ?_)
      · refine z_iconst hx hb d_MD_isCovered_62 ?_
        have e9 : covF mB mE mM cc d q rn = false := by unfold covF; rw [if_neg h32, if_neg h38, if_pos h44]
        exact ret _ 63 false d_MD_isCovered_63 ((congrArg (fun q9 => bI q9) e9).symm)
      · refine lv_aload_n hx hb d_MD_isCovered_47 rfl (lv_at hl 2 rfl) ?_
        refine lv_iload_n hx hb d_MD_isCovered_48 rfl (lv_at hl 3 rfl) ?_
        refine lv_iload_n hx hb d_MD_isCovered_49 rfl (lv_at hl 4 rfl) ?_
        refine lv_iload hx hb d_MD_isCovered_50 (lv_at hl 6 rfl) ?_
        refine rc_i (va_runV (As := [.int (iI ((cc : Int))), .int (iI ((d : Int))), .int (iI ((rn : Int)))]) (rest := []) (b := h0) ⟨hx, hb, hml, hown, hts⟩ (c_MD_isMatch l D k (h0) (aTx) (aDt) (aFe) (aRu) (aTa) (aBe) (aEn) (aMa) (aEx) (aAb) (aCo) (aNt) (aNb) (aNe) (aCf) (aCd) (aKi) (aFi) (aSe) (fa) (ty) (sh) (wt) (rd) (cd) (at1) (mM) (cc) ((d : Int)) (rn) (hM) ((by omega)) ((by omega)) ((by omega))) ⟨callB_of 3 hts (good_MD_isMatch) rfl rfl rfl (hts _ k_67) (hts _ k_938) (by decide +kernel) ⟨Nat.le_of_ble_eq_true rfl, Nat.le_of_ble_eq_true rfl⟩, (hts _ k_940), (hts _ k_52)⟩ ⟨fun a U g mk q => ⟨q.1, q.2.1, va_K.moved (u := U) (U := U.calling g mk a) (Vm.Alike.refl U.vm) q.2.2.1, q.2.2.2.calling⟩, (va_recv (q0 := 0) hK hP rfl rfl), fun U hU hW => ⟨rfl, by rw [hU]; exact (hP.sub (ws' := [(h0, .inr (8, [.int (iI (fa)), .int (iI (ty)), .ref aTx, .int (bI (sh)), .ref aDt, .ref aFe, .ref aRu, .ref aTa, .ref aBe, .ref aEn, .ref aMa, .int (iI (wt)), .ref aEx, .ref aAb, .ref aCo, .int (iI (rd)), .ref aNt, .ref aNb, .ref aNe, .ref aCf, .ref aCd, .int (iI (cd)), .int (iI (at1)), .ref aKi, .ref aFi, .ref aSe])), (aMa, .inl (k 0, 4383, .inl (aZ (mM))))]) [0, 3] rfl), va_K.moved hW.alike hK, by rw [hU]; exact hX.warm hW⟩⟩ rfl rfl hl.1 rfl (lv_room (Nat.le_of_ble_eq_true rfl)) d_MD_isCovered_52 ⟨Nat.le_of_ble_eq_true rfl, Nat.le_of_ble_eq_true rfl⟩) (fun xr_4 h_xr_4 => ?_)
        subst h_xr_4
        refine b_if_eq (tgt := 62) hx hb d_MD_isCovered_55 (by decide) (fun h55 => ?_) (fun h55 => ?_)
        · refine z_iconst hx hb d_MD_isCovered_62 ?_
          have e9 : covF mB mE mM cc d q rn = false := by unfold covF; rw [if_neg h32, if_neg h38, if_neg h44, if_neg (Bool.eq_false_iff.mp h55)]
          exact ret _ 63 false d_MD_isCovered_63 ((congrArg (fun q9 => bI q9) e9).symm)
        · refine z_iconst hx hb d_MD_isCovered_58 ?_
          refine lv_goto (tgt := 63) hx hb d_MD_isCovered_59 (by decide) ?_
          have e9 : covF mB mE mM cc d q rn = true := by unfold covF; rw [if_neg h32, if_neg h38, if_neg h44, if_pos h55]
          exact ret _ 63 true d_MD_isCovered_63 ((congrArg (fun q9 => bI q9) e9).symm)

set_option maxHeartbeats 4000000 in
set_option maxRecDepth 100000 in
theorem c_MD_decides (l : Launch) (D : va_G) (k : Nat → ClassId) (h0 aTx aDt aFe aRu aTa aBe aEn aMa aEx aAb aCo aNt aNb aNe aCf aCd aKi aFi aSe : Nat) (fa : Int) (ty : Int) (sh : Bool) (wt : Int) (rd : Int) (cd : Int) (at1 : Int) (mR : Nat → Int) (mB : Nat → Int) (mE : Nat → Int) (mM : Nat → Int) (cc : Nat) (d : Nat) (q : Int) (hR : ∀ j, 0 ≤ mR j ∧ mR j ≤ 12) (hB : ∀ j, 0 ≤ mB j ∧ mB j ≤ 48) (hE : ∀ j, 0 ≤ mE j ∧ mE j ≤ 48) (hM : ∀ j, 0 ≤ mM j ∧ mM j < 4096) (hc : cc < 3) (hd : d < 1461) (hq : 0 ≤ q ∧ q ≤ 47) : Met l y_MD_decides wd_MD_decides rm_MD_decides (va_Pc [.ref h0, .int (iI ((cc : Int))), .int (iI ((d : Int))), .int (iI (q))] (PRO D k [(h0, .inr (8, [.int (iI (fa)), .int (iI (ty)), .ref aTx, .int (bI (sh)), .ref aDt, .ref aFe, .ref aRu, .ref aTa, .ref aBe, .ref aEn, .ref aMa, .int (iI (wt)), .ref aEx, .ref aAb, .ref aCo, .int (iI (rd)), .ref aNt, .ref aNb, .ref aNe, .ref aCf, .ref aCd, .int (iI (cd)), .int (iI (at1)), .ref aKi, .ref aFi, .ref aSe])), (aRu, .inl (k 0, 3, .inl (aZ (mR)))), (aBe, .inl (k 0, 36, .inl (aZ (mB)))), (aEn, .inl (k 0, 36, .inl (aZ (mE)))), (aMa, .inl (k 0, 4383, .inl (aZ (mM))))])) (QRi (fun r : Int32 => r = (iI (((decM (covF mB mE mM cc d q) (mR cc).toNat : Nat) : Int))))) 0 0 nA := by
  refine r_i (by decide) rfl (Nat.le_of_ble_eq_true rfl) ?_
  intro p e s m args below meth c Q ls hx hb hml hown hts hpre hl ret
  obtain ⟨hP, hK, hX⟩ := hpre
  have hS : va_S nA s.heap s.heap [] := va_S.rf
  have hl : lv_has ls 5 [(0, .ref h0), (1, .int (iI ((cc : Int)))), (2, .int (iI ((d : Int)))), (3, .int (iI (q)))] := hl
  refine lv_aload_n hx hb d_MD_decides_0 rfl (lv_at hl 0 rfl) ?_
  refine va_get (D := D) (ci := 8) (v := .ref aRu) (C := R_MD) (T := F_MD) (N := 26) hx hb hts in_MD hown hK hP 0 rfl rfl 6 (by decide) (hts _ k_739) (fun _ h9 => h9) rfl d_MD_decides_1 ?_
  refine lv_iload_n hx hb d_MD_decides_4 rfl (lv_at hl 1 rfl) ?_
  refine x_iald hx hb hK hP 1 0 rfl rfl (cc) rfl hc (by omega) d_MD_decides_5 ?_
  refine z_top (show _ = iI (mR (cc)) from rfl) ?_
  have hbd1 := hR (cc)
  refine lv_istore (lv' := [(4, .int (iI (mR (cc)))), (0, .ref h0), (1, .int (iI ((cc : Int)))), (2, .int (iI ((d : Int)))), (3, .int (iI (q)))]) hx hb d_MD_decides_6 hl (by decide) rfl (fun ls hl => ?_)
  have L8 : ∀ (fu : Nat) (r : Nat) (z : Int) (ls : Array Slot), z = (r : Int) → r ≤ 12 → decM (covF mB mE mM cc d q) r = decM (covF mB mE mM cc d q) (mR cc).toNat → r < fu → lv_has ls 5 [(0, .ref h0), (1, .int (iI ((cc : Int)))), (2, .int (iI ((d : Int)))), (3, .int (iI (q))), (4, .int (iI (z)))] → W p l e rm_MD_decides s m args below meth c s.heap [] 0 0 Q (F0 m 8 ls []) := by
    intro fu
    induction fu with
    | zero => intro r z ls hz hr hw hmu; exact absurd hmu (Nat.not_lt_zero _)
    | succ fu ih8 =>
      intro r z ls hz hr hw hmu hl
      subst hz
      refine lv_iload hx hb d_MD_decides_8 (lv_at hl 4 rfl) ?_
      refine z_if_le (tgt := 33) hx hb d_MD_decides_10 (by decide) ⟨by omega, by omega⟩ (fun h10 => ?_) (fun h10 => ?_)
      · refine lv_iload hx hb d_MD_decides_33 (lv_at hl 4 rfl) ?_
        exact ret _ 35 (iI ((r : Int))) d_MD_decides_35 (congrArg (fun x : Nat => iI (x : Int)) (by rw [← hw]; first | (rw [show r = 0 by omega]; rfl) | (obtain ⟨k9, rfl⟩ : ∃ k9, r = k9 + 1 := ⟨r - 1, by omega⟩; exact (decM_t h24).symm)))
      · refine lv_aload_n hx hb d_MD_decides_13 rfl (lv_at hl 0 rfl) ?_
        refine lv_iload_n hx hb d_MD_decides_14 rfl (lv_at hl 1 rfl) ?_
        refine lv_iload_n hx hb d_MD_decides_15 rfl (lv_at hl 2 rfl) ?_
        refine lv_iload_n hx hb d_MD_decides_16 rfl (lv_at hl 3 rfl) ?_
        refine lv_iload hx hb d_MD_decides_17 (lv_at hl 4 rfl) ?_
        refine z_iconst hx hb d_MD_decides_19 ?_
        refine z_isub hx hb d_MD_decides_20 ?_
        refine z_top (show (iI (((r : Int)) - 1)) = (iI (((r - 1 : Nat) : Int))) from congrArg iI (by omega)) ?_
        refine rc_i (va_runV (As := [.int (iI ((cc : Int))), .int (iI ((d : Int))), .int (iI (q)), .int (iI (((r - 1 : Nat) : Int)))]) (rest := []) (b := h0) ⟨hx, hb, hml, hown, hts⟩ (c_MD_isCovered l D k (h0) (aTx) (aDt) (aFe) (aRu) (aTa) (aBe) (aEn) (aMa) (aEx) (aAb) (aCo) (aNt) (aNb) (aNe) (aCf) (aCd) (aKi) (aFi) (aSe) (fa) (ty) (sh) (wt) (rd) (cd) (at1) (mB) (mE) (mM) (cc) (d) (q) (r - 1) (hB) (hE) (hM) ((by omega)) ((by omega)) ((by omega)) ((by omega))) ⟨callB_of 4 hts (good_MD_isCovered) rfl rfl rfl (hts _ k_67) (hts _ k_934) (by decide +kernel) ⟨Nat.le_of_ble_eq_true rfl, Nat.le_of_ble_eq_true rfl⟩, (hts _ k_936), (hts _ k_51)⟩ ⟨fun a U g mk q => ⟨q.1, q.2.1, va_K.moved (u := U) (U := U.calling g mk a) (Vm.Alike.refl U.vm) q.2.2.1, q.2.2.2.calling⟩, (va_recv (q0 := 0) hK hP rfl rfl), fun U hU hW => ⟨rfl, by rw [hU]; exact (hP.sub (ws' := [(h0, .inr (8, [.int (iI (fa)), .int (iI (ty)), .ref aTx, .int (bI (sh)), .ref aDt, .ref aFe, .ref aRu, .ref aTa, .ref aBe, .ref aEn, .ref aMa, .int (iI (wt)), .ref aEx, .ref aAb, .ref aCo, .int (iI (rd)), .ref aNt, .ref aNb, .ref aNe, .ref aCf, .ref aCd, .int (iI (cd)), .int (iI (at1)), .ref aKi, .ref aFi, .ref aSe])), (aBe, .inl (k 0, 36, .inl (aZ (mB)))), (aEn, .inl (k 0, 36, .inl (aZ (mE)))), (aMa, .inl (k 0, 4383, .inl (aZ (mM))))]) [0, 2, 3, 4] rfl), va_K.moved hW.alike hK, by rw [hU]; exact hX.warm hW⟩⟩ rfl rfl hl.1 rfl (lv_room (Nat.le_of_ble_eq_true rfl)) d_MD_decides_21 ⟨Nat.le_of_ble_eq_true rfl, Nat.le_of_ble_eq_true rfl⟩) (fun xr_1 h_xr_1 => ?_)
        subst h_xr_1
        refine b_if_ne (tgt := 33) hx hb d_MD_decides_24 (by decide) (fun h24 => ?_) (fun h24 => ?_)
        · refine lv_iload hx hb d_MD_decides_33 (lv_at hl 4 rfl) ?_
          exact ret _ 35 (iI ((r : Int))) d_MD_decides_35 (congrArg (fun x : Nat => iI (x : Int)) (by rw [← hw]; first | (rw [show r = 0 by omega]; rfl) | (obtain ⟨k9, rfl⟩ : ∃ k9, r = k9 + 1 := ⟨r - 1, by omega⟩; exact (decM_t h24).symm)))
        · refine z_iinc (k := 4) (a := (r : Int)) (lv' := [(4, .int (iI (((r : Int)) + (-1)))), (0, .ref h0), (1, .int (iI ((cc : Int)))), (2, .int (iI ((d : Int)))), (3, .int (iI (q)))]) hx hb d_MD_decides_27 hl rfl (by decide) rfl (fun ls hl => ?_)
          refine lv_goto (tgt := 8) hx hb d_MD_decides_30 (by decide) ?_
          exact ih8 (r - 1) ((r : Int) + (-1)) ls (by omega) (by omega) (by rw [← hw]; obtain ⟨k9, rfl⟩ : ∃ k9, r = k9 + 1 := ⟨r - 1, by omega⟩; exact (decM_f h24).symm) (by omega) (lv_sub hl [1, 2, 3, 4, 0] rfl)
  exact L8 (_) ((mR cc).toNat) (mR cc) ls (by have := hR cc; omega) (by have := hR cc; omega) (by rfl) (Nat.lt_succ_self _) (lv_sub hl [1, 2, 3, 4, 0] rfl)

set_option maxHeartbeats 4000000 in
set_option maxRecDepth 100000 in
theorem c_MD_tariffOf (l : Launch) (D : va_G) (k : Nat → ClassId) (h0 aTx aDt aFe aRu aTa aBe aEn aMa aEx aAb aCo aNt aNb aNe aCf aCd aKi aFi aSe : Nat) (fa : Int) (ty : Int) (sh : Bool) (wt : Int) (rd : Int) (cd : Int) (at1 : Int) (mR : Nat → Int) (mT : Nat → Int) (mB : Nat → Int) (mE : Nat → Int) (mM : Nat → Int) (cc : Nat) (d : Nat) (q : Int) (hR : ∀ j, 0 ≤ mR j ∧ mR j ≤ 12) (hB : ∀ j, 0 ≤ mB j ∧ mB j ≤ 48) (hE : ∀ j, 0 ≤ mE j ∧ mE j ≤ 48) (hM : ∀ j, 0 ≤ mM j ∧ mM j < 4096) (hc : cc < 3) (hd : d < 1461) (hq : 0 ≤ q ∧ q ≤ 47) : Met l y_MD_tariffOf wd_MD_tariffOf rm_MD_tariffOf (va_Pc [.ref h0, .int (iI ((cc : Int))), .int (iI ((d : Int))), .int (iI (q))] (PRO D k [(h0, .inr (8, [.int (iI (fa)), .int (iI (ty)), .ref aTx, .int (bI (sh)), .ref aDt, .ref aFe, .ref aRu, .ref aTa, .ref aBe, .ref aEn, .ref aMa, .int (iI (wt)), .ref aEx, .ref aAb, .ref aCo, .int (iI (rd)), .ref aNt, .ref aNb, .ref aNe, .ref aCf, .ref aCd, .int (iI (cd)), .int (iI (at1)), .ref aKi, .ref aFi, .ref aSe])), (aRu, .inl (k 0, 3, .inl (aZ (mR)))), (aTa, .inl (k 0, 36, .inl (aZ (mT)))), (aBe, .inl (k 0, 36, .inl (aZ (mB)))), (aEn, .inl (k 0, 36, .inl (aZ (mE)))), (aMa, .inl (k 0, 4383, .inl (aZ (mM))))])) (QRi (fun r : Int32 => r = (iI (if decM (covF mB mE mM cc d q) (mR cc).toNat = 0 then 0 else mT (12 * cc + (decM (covF mB mE mM cc d q) (mR cc).toNat) - 1))))) 0 0 nA := by
  refine r_i (by decide) rfl (Nat.le_of_ble_eq_true rfl) ?_
  intro p e s m args below meth c Q ls hx hb hml hown hts hpre hl ret
  obtain ⟨hP, hK, hX⟩ := hpre
  have hS : va_S nA s.heap s.heap [] := va_S.rf
  have hl : lv_has ls 5 [(0, .ref h0), (1, .int (iI ((cc : Int)))), (2, .int (iI ((d : Int)))), (3, .int (iI (q)))] := hl
  refine lv_aload_n hx hb d_MD_tariffOf_0 rfl (lv_at hl 0 rfl) ?_
  refine lv_iload_n hx hb d_MD_tariffOf_1 rfl (lv_at hl 1 rfl) ?_
  refine lv_iload_n hx hb d_MD_tariffOf_2 rfl (lv_at hl 2 rfl) ?_
  refine lv_iload_n hx hb d_MD_tariffOf_3 rfl (lv_at hl 3 rfl) ?_
  refine rc_i (va_runV (As := [.int (iI ((cc : Int))), .int (iI ((d : Int))), .int (iI (q))]) (rest := []) (b := h0) ⟨hx, hb, hml, hown, hts⟩ (c_MD_decides l D k (h0) (aTx) (aDt) (aFe) (aRu) (aTa) (aBe) (aEn) (aMa) (aEx) (aAb) (aCo) (aNt) (aNb) (aNe) (aCf) (aCd) (aKi) (aFi) (aSe) (fa) (ty) (sh) (wt) (rd) (cd) (at1) (mR) (mB) (mE) (mM) (cc) (d) (q) (hR) (hB) (hE) (hM) ((by omega)) ((by omega)) ((by omega))) ⟨callB_of 3 hts (good_MD_decides) rfl rfl rfl (hts _ k_67) (hts _ k_930) (by decide +kernel) ⟨Nat.le_of_ble_eq_true rfl, Nat.le_of_ble_eq_true rfl⟩, (hts _ k_932), (hts _ k_50)⟩ ⟨fun a U g mk q => ⟨q.1, q.2.1, va_K.moved (u := U) (U := U.calling g mk a) (Vm.Alike.refl U.vm) q.2.2.1, q.2.2.2.calling⟩, (va_recv (q0 := 0) hK hP rfl rfl), fun U hU hW => ⟨rfl, by rw [hU]; exact (hP.sub (ws' := [(h0, .inr (8, [.int (iI (fa)), .int (iI (ty)), .ref aTx, .int (bI (sh)), .ref aDt, .ref aFe, .ref aRu, .ref aTa, .ref aBe, .ref aEn, .ref aMa, .int (iI (wt)), .ref aEx, .ref aAb, .ref aCo, .int (iI (rd)), .ref aNt, .ref aNb, .ref aNe, .ref aCf, .ref aCd, .int (iI (cd)), .int (iI (at1)), .ref aKi, .ref aFi, .ref aSe])), (aRu, .inl (k 0, 3, .inl (aZ (mR)))), (aBe, .inl (k 0, 36, .inl (aZ (mB)))), (aEn, .inl (k 0, 36, .inl (aZ (mE)))), (aMa, .inl (k 0, 4383, .inl (aZ (mM))))]) [0, 1, 3, 4, 5] rfl), va_K.moved hW.alike hK, by rw [hU]; exact hX.warm hW⟩⟩ rfl rfl hl.1 rfl (lv_room (Nat.le_of_ble_eq_true rfl)) d_MD_tariffOf_4 ⟨Nat.le_of_ble_eq_true rfl, Nat.le_of_ble_eq_true rfl⟩) (fun xr_1 h_xr_1 => ?_)
  subst h_xr_1
  have hdl := decM_le (covF mB mE mM cc d q) (mR cc).toNat
  have hrr := hR cc
  generalize hdv : decM (covF mB mE mM cc d q) (mR cc).toNat = dv at hdl ⊢
  refine lv_istore (lv' := [(4, .int (iI ((dv : Int)))), (0, .ref h0), (1, .int (iI ((cc : Int)))), (2, .int (iI ((d : Int)))), (3, .int (iI (q)))]) hx hb d_MD_tariffOf_7 hl (by decide) rfl (fun ls hl => ?_)
  refine lv_iload hx hb d_MD_tariffOf_9 (lv_at hl 0 rfl) ?_
  refine z_if_ne (tgt := 18) hx hb d_MD_tariffOf_11 (by decide) ⟨by omega, by omega⟩ (fun h11 => ?_) (fun h11 => ?_)
  · refine lv_aload_n hx hb d_MD_tariffOf_18 rfl (lv_at hl 1 rfl) ?_
    refine va_get (D := D) (ci := 8) (v := .ref aTa) (C := R_MD) (T := F_MD) (N := 26) hx hb hts in_MD hown hK hP 0 rfl rfl 7 (by decide) (hts _ k_740) (fun _ h9 => h9) rfl d_MD_tariffOf_19 ?_
    refine z_bipush hx hb d_MD_tariffOf_22 (by decide) ?_
    refine lv_iload_n hx hb d_MD_tariffOf_24 rfl (lv_at hl 2 rfl) ?_
    refine z_imul hx hb d_MD_tariffOf_25 ?_
    refine lv_iload hx hb d_MD_tariffOf_26 (lv_at hl 0 rfl) ?_
    refine z_iadd hx hb d_MD_tariffOf_28 ?_
    refine z_iconst hx hb d_MD_tariffOf_29 ?_
    refine z_isub hx hb d_MD_tariffOf_30 ?_
    refine x_iald hx hb hK hP 2 0 rfl rfl (12 * cc + dv - 1) (by omega) (by omega) (by omega) d_MD_tariffOf_31 ?_
    refine z_top (show _ = iI (mT (12 * cc + dv - 1)) from rfl) ?_
    exact ret _ 32 (iI (mT (12 * cc + dv - 1))) d_MD_tariffOf_32 (by rw [hdv, if_neg (by omega)])
  · refine z_iconst hx hb d_MD_tariffOf_14 ?_
    refine lv_goto (tgt := 32) hx hb d_MD_tariffOf_15 (by decide) ?_
    exact ret _ 32 (iI (0)) d_MD_tariffOf_32 (by rw [hdv, if_pos (by omega)])

def wrF (mR : Nat → Int) (cz : Int) (z : Int) (q : Int) : Int := (if cz < 0 then (1) else (if 2 < cz then (1) else (if z < 0 then (1) else (if 1461 ≤ z then (1) else (if q < 0 then (1) else (if 48 ≤ q then (1) else (if mR (cz.toNat) = 0 then (2) else (0))))))))
set_option maxHeartbeats 4000000 in
set_option maxRecDepth 100000 in
theorem c_MD_wrong (l : Launch) (D : va_G) (k : Nat → ClassId) (h0 aTx aDt aFe aRu aTa aBe aEn aMa aEx aAb aCo aNt aNb aNe aCf aCd aKi aFi aSe : Nat) (fa : Int) (ty : Int) (sh : Bool) (wt : Int) (rd : Int) (cd : Int) (at1 : Int) (mR : Nat → Int) (cz : Int) (z : Int) (q : Int) (hR : ∀ j, 0 ≤ mR j ∧ mR j ≤ 12) (h1 : rg cz) (h2 : rg z) (h3 : rg q) : Met l y_MD_wrong wd_MD_wrong rm_MD_wrong (va_Pc [.ref h0, .int (iI (cz)), .int (iI (z)), .int (iI (q))] (PRO D k [(h0, .inr (8, [.int (iI (fa)), .int (iI (ty)), .ref aTx, .int (bI (sh)), .ref aDt, .ref aFe, .ref aRu, .ref aTa, .ref aBe, .ref aEn, .ref aMa, .int (iI (wt)), .ref aEx, .ref aAb, .ref aCo, .int (iI (rd)), .ref aNt, .ref aNb, .ref aNe, .ref aCf, .ref aCd, .int (iI (cd)), .int (iI (at1)), .ref aKi, .ref aFi, .ref aSe])), (aRu, .inl (k 0, 3, .inl (aZ (mR))))])) (QRi (fun r : Int32 => r = (iI ((wrF mR cz z q))))) 0 0 nA := by
  refine r_i (by decide) rfl (Nat.le_of_ble_eq_true rfl) ?_
  intro p e s m args below meth c Q ls hx hb hml hown hts hpre hl ret
  obtain ⟨hP, hK, hX⟩ := hpre
  have hS : va_S nA s.heap s.heap [] := va_S.rf
  have hl : lv_has ls 5 [(0, .ref h0), (1, .int (iI (cz))), (2, .int (iI (z))), (3, .int (iI (q)))] := hl
  obtain ⟨q1, q2⟩ := h1
  obtain ⟨q3, q4⟩ := h2
  obtain ⟨q5, q6⟩ := h3
  refine lv_iload_n hx hb d_MD_wrong_0 rfl (lv_at hl 1 rfl) ?_
  refine z_if_lt (tgt := 34) hx hb d_MD_wrong_1 (by decide) ⟨by omega, by omega⟩ (fun h1 => ?_) (fun h1 => ?_)
  · refine z_iconst hx hb d_MD_wrong_34 ?_
    refine lv_istore (lv' := [(4, .int (iI (0))), (0, .ref h0), (1, .int (iI (cz))), (2, .int (iI (z))), (3, .int (iI (q)))]) hx hb d_MD_wrong_35 hl (by decide) rfl (fun ls hl => ?_)
    refine lv_iload hx hb d_MD_wrong_37 (lv_at hl 0 rfl) ?_
    refine z_if_ne (tgt := 46) hx hb d_MD_wrong_39 (by decide) ⟨by omega, by omega⟩ (fun h39 => absurd h39 (by decide)) (fun h39 => ?_)
    refine z_iconst hx hb d_MD_wrong_42 ?_
    refine lv_goto (tgt := 60) hx hb d_MD_wrong_43 (by decide) ?_
    have e9 : wrF mR cz z q = 1 := by unfold wrF; rw [if_pos h1]
    exact ret _ 60 (iI (1)) d_MD_wrong_60 ((congrArg (fun q9 => iI q9) e9).symm)
  · refine lv_iload_n hx hb d_MD_wrong_4 rfl (lv_at hl 1 rfl) ?_
    refine z_iconst hx hb d_MD_wrong_5 ?_
    refine z_icmp_gt (tgt := 34) hx hb d_MD_wrong_6 (by decide) ⟨by omega, by omega⟩ ⟨by omega, by omega⟩ (fun h6 => ?_) (fun h6 => ?_)
    · refine z_iconst hx hb d_MD_wrong_34 ?_
      refine lv_istore (lv' := [(4, .int (iI (0))), (0, .ref h0), (1, .int (iI (cz))), (2, .int (iI (z))), (3, .int (iI (q)))]) hx hb d_MD_wrong_35 hl (by decide) rfl (fun ls hl => ?_)
      refine lv_iload hx hb d_MD_wrong_37 (lv_at hl 0 rfl) ?_
      refine z_if_ne (tgt := 46) hx hb d_MD_wrong_39 (by decide) ⟨by omega, by omega⟩ (fun h39 => absurd h39 (by decide)) (fun h39 => ?_)
      refine z_iconst hx hb d_MD_wrong_42 ?_
      refine lv_goto (tgt := 60) hx hb d_MD_wrong_43 (by decide) ?_
      have e9 : wrF mR cz z q = 1 := by unfold wrF; rw [if_neg h1, if_pos h6]
      exact ret _ 60 (iI (1)) d_MD_wrong_60 ((congrArg (fun q9 => iI q9) e9).symm)
    · refine lv_iload_n hx hb d_MD_wrong_9 rfl (lv_at hl 2 rfl) ?_
      refine z_if_lt (tgt := 34) hx hb d_MD_wrong_10 (by decide) ⟨by omega, by omega⟩ (fun h10 => ?_) (fun h10 => ?_)
      · refine z_iconst hx hb d_MD_wrong_34 ?_
        refine lv_istore (lv' := [(4, .int (iI (0))), (0, .ref h0), (1, .int (iI (cz))), (2, .int (iI (z))), (3, .int (iI (q)))]) hx hb d_MD_wrong_35 hl (by decide) rfl (fun ls hl => ?_)
        refine lv_iload hx hb d_MD_wrong_37 (lv_at hl 0 rfl) ?_
        refine z_if_ne (tgt := 46) hx hb d_MD_wrong_39 (by decide) ⟨by omega, by omega⟩ (fun h39 => absurd h39 (by decide)) (fun h39 => ?_)
        refine z_iconst hx hb d_MD_wrong_42 ?_
        refine lv_goto (tgt := 60) hx hb d_MD_wrong_43 (by decide) ?_
        have e9 : wrF mR cz z q = 1 := by unfold wrF; rw [if_neg h1, if_neg h6, if_pos h10]
        exact ret _ 60 (iI (1)) d_MD_wrong_60 ((congrArg (fun q9 => iI q9) e9).symm)
      · refine lv_iload_n hx hb d_MD_wrong_13 rfl (lv_at hl 2 rfl) ?_
        refine z_sipush hx hb d_MD_wrong_14 (by decide) ?_
        refine z_icmp_ge (tgt := 34) hx hb d_MD_wrong_17 (by decide) ⟨by omega, by omega⟩ ⟨by omega, by omega⟩ (fun h17 => ?_) (fun h17 => ?_)
        · refine z_iconst hx hb d_MD_wrong_34 ?_
          refine lv_istore (lv' := [(4, .int (iI (0))), (0, .ref h0), (1, .int (iI (cz))), (2, .int (iI (z))), (3, .int (iI (q)))]) hx hb d_MD_wrong_35 hl (by decide) rfl (fun ls hl => ?_)
          refine lv_iload hx hb d_MD_wrong_37 (lv_at hl 0 rfl) ?_
          refine z_if_ne (tgt := 46) hx hb d_MD_wrong_39 (by decide) ⟨by omega, by omega⟩ (fun h39 => absurd h39 (by decide)) (fun h39 => ?_)
          refine z_iconst hx hb d_MD_wrong_42 ?_
          refine lv_goto (tgt := 60) hx hb d_MD_wrong_43 (by decide) ?_
          have e9 : wrF mR cz z q = 1 := by unfold wrF; rw [if_neg h1, if_neg h6, if_neg h10, if_pos h17]
          exact ret _ 60 (iI (1)) d_MD_wrong_60 ((congrArg (fun q9 => iI q9) e9).symm)
        · refine lv_iload_n hx hb d_MD_wrong_20 rfl (lv_at hl 3 rfl) ?_
          refine z_if_lt (tgt := 34) hx hb d_MD_wrong_21 (by decide) ⟨by omega, by omega⟩ (fun h21 => ?_) (fun h21 => ?_)
          · refine z_iconst hx hb d_MD_wrong_34 ?_
            refine lv_istore (lv' := [(4, .int (iI (0))), (0, .ref h0), (1, .int (iI (cz))), (2, .int (iI (z))), (3, .int (iI (q)))]) hx hb d_MD_wrong_35 hl (by decide) rfl (fun ls hl => ?_)
            refine lv_iload hx hb d_MD_wrong_37 (lv_at hl 0 rfl) ?_
            refine z_if_ne (tgt := 46) hx hb d_MD_wrong_39 (by decide) ⟨by omega, by omega⟩ (fun h39 => absurd h39 (by decide)) (fun h39 => ?_)
            refine z_iconst hx hb d_MD_wrong_42 ?_
            refine lv_goto (tgt := 60) hx hb d_MD_wrong_43 (by decide) ?_
            have e9 : wrF mR cz z q = 1 := by unfold wrF; rw [if_neg h1, if_neg h6, if_neg h10, if_neg h17, if_pos h21]
            exact ret _ 60 (iI (1)) d_MD_wrong_60 ((congrArg (fun q9 => iI q9) e9).symm)
          · refine lv_iload_n hx hb d_MD_wrong_24 rfl (lv_at hl 3 rfl) ?_
            refine z_bipush hx hb d_MD_wrong_25 (by decide) ?_
            refine z_icmp_ge (tgt := 34) hx hb d_MD_wrong_27 (by decide) ⟨by omega, by omega⟩ ⟨by omega, by omega⟩ (fun h27 => ?_) (fun h27 => ?_)
            · refine z_iconst hx hb d_MD_wrong_34 ?_
              refine lv_istore (lv' := [(4, .int (iI (0))), (0, .ref h0), (1, .int (iI (cz))), (2, .int (iI (z))), (3, .int (iI (q)))]) hx hb d_MD_wrong_35 hl (by decide) rfl (fun ls hl => ?_)
              refine lv_iload hx hb d_MD_wrong_37 (lv_at hl 0 rfl) ?_
              refine z_if_ne (tgt := 46) hx hb d_MD_wrong_39 (by decide) ⟨by omega, by omega⟩ (fun h39 => absurd h39 (by decide)) (fun h39 => ?_)
              refine z_iconst hx hb d_MD_wrong_42 ?_
              refine lv_goto (tgt := 60) hx hb d_MD_wrong_43 (by decide) ?_
              have e9 : wrF mR cz z q = 1 := by unfold wrF; rw [if_neg h1, if_neg h6, if_neg h10, if_neg h17, if_neg h21, if_pos h27]
              exact ret _ 60 (iI (1)) d_MD_wrong_60 ((congrArg (fun q9 => iI q9) e9).symm)
            · refine z_iconst hx hb d_MD_wrong_30 ?_
              refine lv_goto (tgt := 35) hx hb d_MD_wrong_31 (by decide) ?_
              refine lv_istore (lv' := [(4, .int (iI (1))), (0, .ref h0), (1, .int (iI (cz))), (2, .int (iI (z))), (3, .int (iI (q)))]) hx hb d_MD_wrong_35 hl (by decide) rfl (fun ls hl => ?_)
              refine lv_iload hx hb d_MD_wrong_37 (lv_at hl 0 rfl) ?_
              refine z_if_ne (tgt := 46) hx hb d_MD_wrong_39 (by decide) ⟨by omega, by omega⟩ (fun h39 => ?_) (fun h39 => absurd h39 (by decide))
              refine lv_aload_n hx hb d_MD_wrong_46 rfl (lv_at hl 1 rfl) ?_
              refine va_get (D := D) (ci := 8) (v := .ref aRu) (C := R_MD) (T := F_MD) (N := 26) hx hb hts in_MD hown hK hP 0 rfl rfl 6 (by decide) (hts _ k_739) (fun _ h9 => h9) rfl d_MD_wrong_47 ?_
              refine lv_iload_n hx hb d_MD_wrong_50 rfl (lv_at hl 2 rfl) ?_
              refine x_iald hx hb hK hP 1 0 rfl rfl (cz.toNat) (by omega) (by omega) (by omega) d_MD_wrong_51 ?_
              refine z_top (show _ = iI (mR (cz.toNat)) from rfl) ?_
              have hbd1 := hR (cz.toNat)
              refine z_if_ne (tgt := 59) hx hb d_MD_wrong_52 (by decide) ⟨by omega, by omega⟩ (fun h52 => ?_) (fun h52 => ?_)
              · refine z_iconst hx hb d_MD_wrong_59 ?_
                have e9 : wrF mR cz z q = 0 := by unfold wrF; rw [if_neg h1, if_neg h6, if_neg h10, if_neg h17, if_neg h21, if_neg h27, if_neg h52]
                exact ret _ 60 (iI (0)) d_MD_wrong_60 ((congrArg (fun q9 => iI q9) e9).symm)
              · refine z_iconst hx hb d_MD_wrong_55 ?_
                refine lv_goto (tgt := 60) hx hb d_MD_wrong_56 (by decide) ?_
                have e9 : wrF mR cz z q = 2 := by unfold wrF; rw [if_neg h1, if_neg h6, if_neg h10, if_neg h17, if_neg h21, if_neg h27, if_pos h52]
                exact ret _ 60 (iI (2)) d_MD_wrong_60 ((congrArg (fun q9 => iI q9) e9).symm)

def wr2F (mR : Nat → Int) (cz : Int) (z : Int) : Int := (if cz < 0 then (1) else (if 2 < cz then (1) else (if z < 0 then (1) else (if 2 < z then (1) else (if mR ((cz).toNat) = 0 then (2) else (if mR ((z).toNat) = 0 then (2) else (0)))))))
set_option maxHeartbeats 4000000 in
set_option maxRecDepth 100000 in
theorem c_MD_wrongTwo (l : Launch) (D : va_G) (k : Nat → ClassId) (h0 aTx aDt aFe aRu aTa aBe aEn aMa aEx aAb aCo aNt aNb aNe aCf aCd aKi aFi aSe : Nat) (fa : Int) (ty : Int) (sh : Bool) (wt : Int) (rd : Int) (cd : Int) (at1 : Int) (mR : Nat → Int) (cz : Int) (z : Int) (hR : ∀ j, 0 ≤ mR j ∧ mR j ≤ 12) (h1 : rg cz) (h2 : rg z) : Met l y_MD_wrongTwo wd_MD_wrongTwo rm_MD_wrongTwo (va_Pc [.ref h0, .int (iI (cz)), .int (iI (z))] (PRO D k [(h0, .inr (8, [.int (iI (fa)), .int (iI (ty)), .ref aTx, .int (bI (sh)), .ref aDt, .ref aFe, .ref aRu, .ref aTa, .ref aBe, .ref aEn, .ref aMa, .int (iI (wt)), .ref aEx, .ref aAb, .ref aCo, .int (iI (rd)), .ref aNt, .ref aNb, .ref aNe, .ref aCf, .ref aCd, .int (iI (cd)), .int (iI (at1)), .ref aKi, .ref aFi, .ref aSe])), (aRu, .inl (k 0, 3, .inl (aZ (mR))))])) (QRi (fun r : Int32 => r = (iI ((wr2F mR cz z))))) 0 0 nA := by
  refine r_i (by decide) rfl (Nat.le_of_ble_eq_true rfl) ?_
  intro p e s m args below meth c Q ls hx hb hml hown hts hpre hl ret
  obtain ⟨hP, hK, hX⟩ := hpre
  have hS : va_S nA s.heap s.heap [] := va_S.rf
  have hl : lv_has ls 4 [(0, .ref h0), (1, .int (iI (cz))), (2, .int (iI (z)))] := hl
  obtain ⟨q1, q2⟩ := h1
  obtain ⟨q3, q4⟩ := h2
  refine lv_iload_n hx hb d_MD_wrongTwo_0 rfl (lv_at hl 1 rfl) ?_
  refine z_if_lt (tgt := 22) hx hb d_MD_wrongTwo_1 (by decide) ⟨by omega, by omega⟩ (fun h1 => ?_) (fun h1 => ?_)
  · refine z_iconst hx hb d_MD_wrongTwo_22 ?_
    refine lv_istore_n (lv' := [(3, .int (iI (0))), (0, .ref h0), (1, .int (iI (cz))), (2, .int (iI (z)))]) hx hb d_MD_wrongTwo_23 rfl hl (by decide) rfl (fun ls hl => ?_)
    refine lv_iload_n hx hb d_MD_wrongTwo_24 rfl (lv_at hl 0 rfl) ?_
    refine z_if_ne (tgt := 32) hx hb d_MD_wrongTwo_25 (by decide) ⟨by omega, by omega⟩ (fun h25 => absurd h25 (by decide)) (fun h25 => ?_)
    refine z_iconst hx hb d_MD_wrongTwo_28 ?_
    refine lv_goto (tgt := 55) hx hb d_MD_wrongTwo_29 (by decide) ?_
    have e9 : wr2F mR cz z = 1 := by unfold wr2F; rw [if_pos h1]
    exact ret _ 55 (iI (1)) d_MD_wrongTwo_55 ((congrArg (fun q9 => iI q9) e9).symm)
  · refine lv_iload_n hx hb d_MD_wrongTwo_4 rfl (lv_at hl 1 rfl) ?_
    refine z_iconst hx hb d_MD_wrongTwo_5 ?_
    refine z_icmp_gt (tgt := 22) hx hb d_MD_wrongTwo_6 (by decide) ⟨by omega, by omega⟩ ⟨by omega, by omega⟩ (fun h6 => ?_) (fun h6 => ?_)
    · refine z_iconst hx hb d_MD_wrongTwo_22 ?_
      refine lv_istore_n (lv' := [(3, .int (iI (0))), (0, .ref h0), (1, .int (iI (cz))), (2, .int (iI (z)))]) hx hb d_MD_wrongTwo_23 rfl hl (by decide) rfl (fun ls hl => ?_)
      refine lv_iload_n hx hb d_MD_wrongTwo_24 rfl (lv_at hl 0 rfl) ?_
      refine z_if_ne (tgt := 32) hx hb d_MD_wrongTwo_25 (by decide) ⟨by omega, by omega⟩ (fun h25 => absurd h25 (by decide)) (fun h25 => ?_)
      refine z_iconst hx hb d_MD_wrongTwo_28 ?_
      refine lv_goto (tgt := 55) hx hb d_MD_wrongTwo_29 (by decide) ?_
      have e9 : wr2F mR cz z = 1 := by unfold wr2F; rw [if_neg h1, if_pos h6]
      exact ret _ 55 (iI (1)) d_MD_wrongTwo_55 ((congrArg (fun q9 => iI q9) e9).symm)
    · refine lv_iload_n hx hb d_MD_wrongTwo_9 rfl (lv_at hl 2 rfl) ?_
      refine z_if_lt (tgt := 22) hx hb d_MD_wrongTwo_10 (by decide) ⟨by omega, by omega⟩ (fun h10 => ?_) (fun h10 => ?_)
      · refine z_iconst hx hb d_MD_wrongTwo_22 ?_
        refine lv_istore_n (lv' := [(3, .int (iI (0))), (0, .ref h0), (1, .int (iI (cz))), (2, .int (iI (z)))]) hx hb d_MD_wrongTwo_23 rfl hl (by decide) rfl (fun ls hl => ?_)
        refine lv_iload_n hx hb d_MD_wrongTwo_24 rfl (lv_at hl 0 rfl) ?_
        refine z_if_ne (tgt := 32) hx hb d_MD_wrongTwo_25 (by decide) ⟨by omega, by omega⟩ (fun h25 => absurd h25 (by decide)) (fun h25 => ?_)
        refine z_iconst hx hb d_MD_wrongTwo_28 ?_
        refine lv_goto (tgt := 55) hx hb d_MD_wrongTwo_29 (by decide) ?_
        have e9 : wr2F mR cz z = 1 := by unfold wr2F; rw [if_neg h1, if_neg h6, if_pos h10]
        exact ret _ 55 (iI (1)) d_MD_wrongTwo_55 ((congrArg (fun q9 => iI q9) e9).symm)
      · refine lv_iload_n hx hb d_MD_wrongTwo_13 rfl (lv_at hl 2 rfl) ?_
        refine z_iconst hx hb d_MD_wrongTwo_14 ?_
        refine z_icmp_gt (tgt := 22) hx hb d_MD_wrongTwo_15 (by decide) ⟨by omega, by omega⟩ ⟨by omega, by omega⟩ (fun h15 => ?_) (fun h15 => ?_)
        · refine z_iconst hx hb d_MD_wrongTwo_22 ?_
          refine lv_istore_n (lv' := [(3, .int (iI (0))), (0, .ref h0), (1, .int (iI (cz))), (2, .int (iI (z)))]) hx hb d_MD_wrongTwo_23 rfl hl (by decide) rfl (fun ls hl => ?_)
          refine lv_iload_n hx hb d_MD_wrongTwo_24 rfl (lv_at hl 0 rfl) ?_
          refine z_if_ne (tgt := 32) hx hb d_MD_wrongTwo_25 (by decide) ⟨by omega, by omega⟩ (fun h25 => absurd h25 (by decide)) (fun h25 => ?_)
          refine z_iconst hx hb d_MD_wrongTwo_28 ?_
          refine lv_goto (tgt := 55) hx hb d_MD_wrongTwo_29 (by decide) ?_
          have e9 : wr2F mR cz z = 1 := by unfold wr2F; rw [if_neg h1, if_neg h6, if_neg h10, if_pos h15]
          exact ret _ 55 (iI (1)) d_MD_wrongTwo_55 ((congrArg (fun q9 => iI q9) e9).symm)
        · refine z_iconst hx hb d_MD_wrongTwo_18 ?_
          refine lv_goto (tgt := 23) hx hb d_MD_wrongTwo_19 (by decide) ?_
          refine lv_istore_n (lv' := [(3, .int (iI (1))), (0, .ref h0), (1, .int (iI (cz))), (2, .int (iI (z)))]) hx hb d_MD_wrongTwo_23 rfl hl (by decide) rfl (fun ls hl => ?_)
          refine lv_iload_n hx hb d_MD_wrongTwo_24 rfl (lv_at hl 0 rfl) ?_
          refine z_if_ne (tgt := 32) hx hb d_MD_wrongTwo_25 (by decide) ⟨by omega, by omega⟩ (fun h25 => ?_) (fun h25 => absurd h25 (by decide))
          refine lv_aload_n hx hb d_MD_wrongTwo_32 rfl (lv_at hl 1 rfl) ?_
          refine va_get (D := D) (ci := 8) (v := .ref aRu) (C := R_MD) (T := F_MD) (N := 26) hx hb hts in_MD hown hK hP 0 rfl rfl 6 (by decide) (hts _ k_739) (fun _ h9 => h9) rfl d_MD_wrongTwo_33 ?_
          refine lv_iload_n hx hb d_MD_wrongTwo_36 rfl (lv_at hl 2 rfl) ?_
          refine x_iald hx hb hK hP 1 0 rfl rfl ((cz).toNat) (by omega) (by omega) (by omega) d_MD_wrongTwo_37 ?_
          refine z_top (show _ = iI (mR ((cz).toNat)) from rfl) ?_
          have hbd1 := hR ((cz).toNat)
          refine z_if_eq (tgt := 50) hx hb d_MD_wrongTwo_38 (by decide) ⟨by omega, by omega⟩ (fun h38 => ?_) (fun h38 => ?_)
          · refine z_iconst hx hb d_MD_wrongTwo_50 ?_
            refine lv_goto (tgt := 55) hx hb d_MD_wrongTwo_51 (by decide) ?_
            have e9 : wr2F mR cz z = 2 := by unfold wr2F; rw [if_neg h1, if_neg h6, if_neg h10, if_neg h15, if_pos h38]
            exact ret _ 55 (iI (2)) d_MD_wrongTwo_55 ((congrArg (fun q9 => iI q9) e9).symm)
          · refine lv_aload_n hx hb d_MD_wrongTwo_41 rfl (lv_at hl 1 rfl) ?_
            refine va_get (D := D) (ci := 8) (v := .ref aRu) (C := R_MD) (T := F_MD) (N := 26) hx hb hts in_MD hown hK hP 0 rfl rfl 6 (by decide) (hts _ k_739) (fun _ h9 => h9) rfl d_MD_wrongTwo_42 ?_
            refine lv_iload_n hx hb d_MD_wrongTwo_45 rfl (lv_at hl 3 rfl) ?_
            refine x_iald hx hb hK hP 1 0 rfl rfl ((z).toNat) (by omega) (by omega) (by omega) d_MD_wrongTwo_46 ?_
            refine z_top (show _ = iI (mR ((z).toNat)) from rfl) ?_
            have hbd2 := hR ((z).toNat)
            refine z_if_ne (tgt := 54) hx hb d_MD_wrongTwo_47 (by decide) ⟨by omega, by omega⟩ (fun h47 => ?_) (fun h47 => ?_)
            · refine z_iconst hx hb d_MD_wrongTwo_54 ?_
              have e9 : wr2F mR cz z = 0 := by unfold wr2F; rw [if_neg h1, if_neg h6, if_neg h10, if_neg h15, if_neg h38, if_neg h47]
              exact ret _ 55 (iI (0)) d_MD_wrongTwo_55 ((congrArg (fun q9 => iI q9) e9).symm)
            · refine z_iconst hx hb d_MD_wrongTwo_50 ?_
              refine lv_goto (tgt := 55) hx hb d_MD_wrongTwo_51 (by decide) ?_
              have e9 : wr2F mR cz z = 2 := by unfold wr2F; rw [if_neg h1, if_neg h6, if_neg h10, if_neg h15, if_neg h38, if_pos h47]
              exact ret _ 55 (iI (2)) d_MD_wrongTwo_55 ((congrArg (fun q9 => iI q9) e9).symm)
