section CHL
variable {tx : Nat → Int} {n p : Nat} {lo hi c : Int}
theorem chT_c (tx : Nat → Int) (n p : Nat) : (p < n ∧ chT tx n p = tx p) ∨ (n ≤ p ∧ chT tx n p = 0) := by
  unfold chT
  by_cases h : p < n
  · exact Or.inl ⟨h, if_pos h⟩
  · exact Or.inr ⟨by omega, if_neg h⟩
theorem tk_t (h : chT tx n p = c) (h0 : ¬ c = 0) : tkF tx n (p : Int) c = (true, ((p + 1 : Nat) : Int)) := by
  rcases chT_c tx n p with ⟨hp, e⟩ | ⟨hp, e⟩
  · unfold tkF
    rw [if_neg (by omega), Int.toNat_natCast, if_pos (by omega)]
    rfl
  · exact absurd (h.symm.trans e) h0
theorem tk_f (h : ¬ chT tx n p = c) : tkF tx n (p : Int) c = (false, (p : Int)) := by
  unfold tkF
  rcases chT_c tx n p with ⟨hp, e⟩ | ⟨hp, e⟩
  · rw [if_neg (by omega), Int.toNat_natCast, if_neg (by omega)]
  · rw [if_pos (by omega)]
theorem tn1_t (h : (48 ≤ chT tx n p ∧ chT tx n p ≤ 57) ∧ chT tx n p - 48 ≤ hi ∧ lo ≤ chT tx n p - 48) : tn1 tx n (p : Int) lo hi = (chT tx n p - 48, ((p + 1 : Nat) : Int)) := by
  rcases chT_c tx n p with ⟨hp, e⟩ | ⟨hp, e⟩
  · rw [e] at h ⊢
    unfold tn1
    rw [if_neg (by omega), Int.toNat_natCast, if_neg (by omega), if_pos (by omega), if_neg (by omega), if_pos (by omega)]
    exact Prod.ext (by show 0 + (tx p - 48) * 1 = tx p - 48; omega) rfl
  · omega
theorem tn1_f (h : ¬ ((48 ≤ chT tx n p ∧ chT tx n p ≤ 57) ∧ chT tx n p - 48 ≤ hi ∧ lo ≤ chT tx n p - 48)) : tn1 tx n (p : Int) lo hi = (-1, (p : Int)) := by
  unfold tn1
  rcases chT_c tx n p with ⟨hp, e⟩ | ⟨hp, e⟩
  · rw [e] at h
    rw [if_neg (by omega), Int.toNat_natCast]
    generalize tx p = t at h ⊢
    repeat' split
    all_goals first | rfl | (exfalso; omega)
  · rw [if_pos (by omega)]
/-- the first digit of a number of two -/
def G1 (c lo hi : Int) : Prop := (48 ≤ c ∧ c ≤ 57) ∧ 10 * (c - 48) ≤ hi ∧ lo ≤ 10 * (c - 48) + 9
def G2 (c1 c lo hi : Int) : Prop := (48 ≤ c ∧ c ≤ 57) ∧ 10 * (c1 - 48) + (c - 48) ≤ hi ∧ lo ≤ 10 * (c1 - 48) + (c - 48)
theorem tn10_a (h : ¬ G1 (chT tx n p) lo hi) : tn10 tx n (p : Int) lo hi = (-1, (p : Int)) := by
  unfold tn10
  unfold G1 at h
  rcases chT_c tx n p with ⟨hp, e⟩ | ⟨hp, e⟩
  · rw [e] at h
    rw [if_neg (by omega), Int.toNat_natCast]
    generalize tx p = t at h ⊢
    by_cases h1 : t < 48
    · rw [if_pos h1]
    · rw [if_neg h1]
      by_cases h2 : t ≤ 57
      · rw [if_pos h2]
        by_cases h3 : hi < 0 + (t - 48) * 10
        · rw [if_pos h3]
        · rw [if_neg h3, if_neg (by omega)]
      · rw [if_neg h2]
  · rw [if_pos (by omega)]
theorem tn10_s (h : G1 (chT tx n p) lo hi) : tn10 tx n (p : Int) lo hi = (if (n : Int) ≤ (p : Int) + 1 then (-1, (p : Int) + 1) else (if tx (((p : Int) + 1).toNat) < 48 then (-1, (p : Int) + 1) else (if tx (((p : Int) + 1).toNat) ≤ 57 then (if hi < (0 + (((chT tx n p) - 48) * 10)) + (((tx (((p : Int) + 1).toNat)) - 48) * 1) then (-1, (p : Int) + 1) else (if lo ≤ (((0 + (((chT tx n p) - 48) * 10)) + (((tx (((p : Int) + 1).toNat)) - 48) * 1)) + 1) - 1 then ((0 + (((chT tx n p) - 48) * 10)) + (((tx (((p : Int) + 1).toNat)) - 48) * 1), ((p : Int) + 1) + 1) else (-1, (p : Int) + 1))) else (-1, (p : Int) + 1)))) := by
  unfold G1 at h
  rcases chT_c tx n p with ⟨hp, e⟩ | ⟨hp, e⟩
  · unfold tn10
    rw [e] at h ⊢
    rw [if_neg (by omega), Int.toNat_natCast, if_neg (by omega), if_pos (by omega), if_neg (by omega), if_pos (by omega)]
  · omega
theorem p1_nat (p : Nat) : ((p : Int) + 1).toNat = p + 1 := by omega
theorem tn10_b (h : G1 (chT tx n p) lo hi) (h2 : ¬ G2 (chT tx n p) (chT tx n (p + 1)) lo hi) : tn10 tx n (p : Int) lo hi = (-1, ((p + 1 : Nat) : Int)) := by
  rw [tn10_s h, p1_nat]
  unfold G2 at h2
  generalize chT tx n p = c1 at h h2 ⊢
  rcases chT_c tx n (p + 1) with ⟨hp, e⟩ | ⟨hp, e⟩
  · rw [e] at h2
    rw [if_neg (by omega)]
    generalize tx (p + 1) = t at h2 ⊢
    by_cases k1 : t < 48
    · rw [if_pos k1]; rfl
    · rw [if_neg k1]
      by_cases k2 : t ≤ 57
      · rw [if_pos k2]
        by_cases k3 : hi < (0 + (c1 - 48) * 10) + (t - 48) * 1
        · rw [if_pos k3]; rfl
        · rw [if_neg k3, if_neg (by omega)]; rfl
      · rw [if_neg k2]; rfl
  · rw [if_pos (by omega)]; rfl
theorem tn10_c (h : G1 (chT tx n p) lo hi) (h2 : G2 (chT tx n p) (chT tx n (p + 1)) lo hi) : tn10 tx n (p : Int) lo hi = (10 * (chT tx n p - 48) + (chT tx n (p + 1) - 48), ((p + 2 : Nat) : Int)) := by
  rw [tn10_s h, p1_nat]
  unfold G2 at h2
  generalize chT tx n p = c1 at h h2 ⊢
  rcases chT_c tx n (p + 1) with ⟨hp, e⟩ | ⟨hp, e⟩
  · rw [e] at h2 ⊢
    rw [if_neg (by omega), if_neg (by omega), if_pos (by omega), if_neg (by omega), if_pos (by omega)]
    exact Prod.ext (by show 0 + (c1 - 48) * 10 + (tx (p + 1) - 48) * 1 = 10 * (c1 - 48) + (tx (p + 1) - 48); omega) rfl
  · omega
theorem G1_n (h : G1 (chT tx n p) lo hi) : p < n := chT_n (tx := tx) (by unfold G1 at h; omega)
theorem inF_i (c lo hi : Int) : inF c lo hi = true ↔ lo ≤ c ∧ c ≤ hi := by
  constructor
  · exact inF_t
  · intro h
    unfold inF
    rw [if_neg (by omega), if_neg (by omega)]
theorem inF_n {c lo hi : Int} (h : ¬ (lo ≤ c ∧ c ≤ hi)) : inF c lo hi = false := by
  cases hq : inF c lo hi with
  | false => rfl
  | true => exact absurd (inF_t hq) h
end CHL
/-- an atom's two numbers -/
def RT.at (X : RT) (j : Nat) (f g : Int) : RT := mkR X.rr X.nt X.nb X.ne X.cf X.ce X.cl X.an X.kd (updZ X.fi j f) (updZ X.se j g)
theorem updZ_u (f : Nat → Int) (j : Nat) (x y : Int) : updZ (updZ f j x) j y = updZ f j y := by
  funext i
  unfold updZ
  by_cases h : i = j
  · rw [if_pos h, if_pos h]
  · rw [if_neg h, if_neg h, if_neg h]
theorem updZ_id {f : Nat → Int} {j : Nat} {x : Int} (h : f j = x) : updZ f j x = f := by
  funext i
  unfold updZ
  by_cases e : i = j
  · rw [if_pos e, e, h]
  · rw [if_neg e]
section ATS
variable {X : RT} {j : Nat} {f g : Int}
theorem at_fi : (X.at j f g).fi (j : Int).toNat = f := by
  rw [Int.toNat_natCast]
  exact updZ_s _ _ _
theorem at_se : (X.at j f g).se (j : Int).toNat = g := by
  rw [Int.toNat_natCast]
  exact updZ_s _ _ _
theorem at_sFi (v : Int) : (X.at j f g).sFi (updZ (X.at j f g).fi (j : Int).toNat v) = X.at j v g := by
  rw [Int.toNat_natCast]
  show mkR X.rr X.nt X.nb X.ne X.cf X.ce X.cl X.an X.kd (updZ (updZ X.fi j f) j v) (updZ X.se j g) = _
  rw [updZ_u]
  rfl
theorem at_sSe (v : Int) : (X.at j f g).sSe (updZ (X.at j f g).se (j : Int).toNat v) = X.at j f v := by
  rw [Int.toNat_natCast]
  show mkR X.rr X.nt X.nb X.ne X.cf X.ce X.cl X.an X.kd (updZ X.fi j f) (updZ (updZ X.se j g) j v) = _
  rw [updZ_u]
  rfl
theorem at_id (h1 : X.fi j = f) (h2 : X.se j = g) : X.at j f g = X := by
  show mkR X.rr X.nt X.nb X.ne X.cf X.ce X.cl X.an X.kd (updZ X.fi j f) (updZ X.se j g) = _
  rw [updZ_id h1, updZ_id h2]
  rfl
theorem at_BX (h : BX X) : BX (X.at j f g) := h
theorem BX.nbo (h : BX X) : NBO X := ⟨h.2.2.2.1, h.2.2.2.2⟩
theorem ix20 {wh c : Int} (hj : j ≤ 59) (hc : 0 ≤ c ∧ c ≤ 8) (hw : 20 ≤ wh ∧ wh ≤ 26) (hf : 0 ≤ f ∧ f ≤ 100000) (hg : -1 ≤ g ∧ g ≤ 100000) (h20 : wh = 20 → f < 256 ∧ 0 ≤ g) (h22 : wh = 22 → 0 ≤ g) : IX (X.at j f g) wh (j : Int) c :=
  ⟨hc, ⟨by omega, by omega⟩, by omega, fun h => by omega, fun h => by omega, fun _ => by rw [at_fi, at_se]; omega, fun h => by rw [at_fi, at_se]; exact h20 h, fun h => by rw [at_se]; exact h22 h⟩
end ATS
section RLD
variable {tx : Nat → Int} {n : Nat} {res : Int} {Z : RT → Prop} {p : Nat} {L P : List SI} {X X' : RT} {wh a c : Int} {gd : Bool}
/-- a character that must be good -/
theorem RL_d (htx : ∀ j, 0 ≤ tx j ∧ tx j ≤ 126) (hL : L.length ≤ 296) (hB : BX X) (hI : IX X wh a c) (hT : TKR wh a c (chT tx n p) X (bZ gd) P X') (h1 : gd = true → p < n ∧ RL tx n res Z (p + 1) (P ++ L) X') (h0 : gd = false → res = (p : Int) ∧ Z X') : RL tx n res Z p ((wh, a, c) :: L) X := by
  cases gd with
  | true => obtain ⟨k1, k2⟩ := h1 rfl; exact RL_1 htx hL hB hI hT k1 k2
  | false => obtain ⟨k1, k2⟩ := h0 rfl; exact RL_f htx hL hB hI hT (Or.inl rfl) k1 k2
end RLD
section TKJ
variable {X : RT} {j : Nat} {f g ch : Int}
theorem ta_22_0 : TKR 22 (j : Int) 0 ch (X.at j f g) (bZ (inF (ch - 48) 0 1)) [(22, (j : Int), 1)] (X.at j (ch - 48) g) := by
  have h := tk_22_0 (X := X.at j f g) (a := (j : Int)) (ch := ch)
  simp only [at_fi, at_se, at_sFi, at_sSe] at h
  exact h
theorem ta_22_1 : TKR 22 (j : Int) 1 ch (X.at j f g) (bZ (if f = 0 then inF (ch - 48) 1 9 else inF (ch - 48) 0 2)) [(22, (j : Int), 2)] (X.at j ((10 * (f)) + (ch - 48)) g) := by
  have h := tk_22_1 (X := X.at j f g) (a := (j : Int)) (ch := ch)
  simp only [at_fi, at_se, at_sFi, at_sSe] at h
  exact h
theorem ta_22_2 : TKR 22 (j : Int) 2 ch (X.at j f g) (bZ (inF (ch - 48) 0 (if f = 2 then 2 else 3))) [(22, (j : Int), 3)] (X.at j ((10 * (f)) + (ch - 48)) g) := by
  have h := tk_22_2 (X := X.at j f g) (a := (j : Int)) (ch := ch)
  simp only [at_fi, at_se, at_sFi, at_sSe] at h
  exact h
theorem ta_22_3 : TKR 22 (j : Int) 3 ch (X.at j f g) (bZ (inF (ch - 48) 0 9 && inF (((f) % 10) * 10 + (ch - 48)) 1 (mML 2000 ((f) / 10)))) [(22, (j : Int), 4)] (X.at j ((10 * (f)) + (ch - 48)) g) := by
  have h := tk_22_3 (X := X.at j f g) (a := (j : Int)) (ch := ch)
  simp only [at_fi, at_se, at_sFi, at_sSe] at h
  exact h
theorem ta_22_5 : TKR 22 (j : Int) 5 ch (X.at j f g) (bZ (inF (ch - 48) 0 1)) [(22, (j : Int), 6)] (X.at j f (ch - 48)) := by
  have h := tk_22_5 (X := X.at j f g) (a := (j : Int)) (ch := ch)
  simp only [at_fi, at_se, at_sFi, at_sSe] at h
  exact h
theorem ta_22_6 : TKR 22 (j : Int) 6 ch (X.at j f g) (bZ (if g = 0 then inF (ch - 48) 1 9 else inF (ch - 48) 0 2)) [(22, (j : Int), 7)] (X.at j f ((10 * (g)) + (ch - 48))) := by
  have h := tk_22_6 (X := X.at j f g) (a := (j : Int)) (ch := ch)
  simp only [at_fi, at_se, at_sFi, at_sSe] at h
  exact h
theorem ta_22_7 : TKR 22 (j : Int) 7 ch (X.at j f g) (bZ (inF (ch - 48) 0 (if g = 2 then 2 else 3))) [(22, (j : Int), 8)] (X.at j f ((10 * (g)) + (ch - 48))) := by
  have h := tk_22_7 (X := X.at j f g) (a := (j : Int)) (ch := ch)
  simp only [at_fi, at_se, at_sFi, at_sSe] at h
  exact h
theorem ta_22_8 : TKR 22 (j : Int) 8 ch (X.at j f g) (bZ (inF (ch - 48) 0 9 && inF (((g) % 10) * 10 + (ch - 48)) 1 (mML 2000 ((g) / 10)))) [] (X.at j f ((10 * (g)) + (ch - 48))) := by
  have h := tk_22_8 (X := X.at j f g) (a := (j : Int)) (ch := ch)
  simp only [at_fi, at_se, at_sFi, at_sSe] at h
  exact h
theorem ta_22_4 : TKR 22 (j : Int) 4 ch (X.at j f g) (bZ (decide (ch = 45))) [(22, (j : Int), 5)] (X.at j (f) g) := by
  have h := tk_22_4 (X := X.at j f g) (a := (j : Int)) (ch := ch)
  simp only [at_fi, at_se, at_sFi, at_sSe] at h
  exact h
theorem ta_26_0 : TKR 26 (j : Int) 0 ch (X.at j f g) (bZ (decide (ch - 48 = 2))) [(26, (j : Int), 1)] (X.at j f g) := by
  have h := tk_26_0 (X := X.at j f g) (a := (j : Int)) (ch := ch)
  exact h
theorem ta_26_1 : TKR 26 (j : Int) 1 ch (X.at j f g) (bZ (decide (ch - 48 = 0))) [(26, (j : Int), 2)] (X.at j f g) := by
  have h := tk_26_1 (X := X.at j f g) (a := (j : Int)) (ch := ch)
  exact h
theorem ta_26_2 : TKR 26 (j : Int) 2 ch (X.at j f g) (bZ (decide (ch - 48 = 0))) [(26, (j : Int), 3)] (X.at j f g) := by
  have h := tk_26_2 (X := X.at j f g) (a := (j : Int)) (ch := ch)
  exact h
theorem ta_26_4 : TKR 26 (j : Int) 4 ch (X.at j f g) (bZ (decide (ch = 45))) [(26, (j : Int), 5)] (X.at j f g) := by
  have h := tk_26_4 (X := X.at j f g) (a := (j : Int)) (ch := ch)
  exact h
theorem ta_26_5 : TKR 26 (j : Int) 5 ch (X.at j f g) (bZ (decide (ch - 48 = 2))) [(26, (j : Int), 6)] (X.at j f g) := by
  have h := tk_26_5 (X := X.at j f g) (a := (j : Int)) (ch := ch)
  exact h
theorem ta_26_6 : TKR 26 (j : Int) 6 ch (X.at j f g) (bZ (decide (ch - 48 = 0))) [(26, (j : Int), 7)] (X.at j f g) := by
  have h := tk_26_6 (X := X.at j f g) (a := (j : Int)) (ch := ch)
  exact h
theorem ta_26_7 : TKR 26 (j : Int) 7 ch (X.at j f g) (bZ (decide (ch - 48 = 0))) [(26, (j : Int), 8)] (X.at j f g) := by
  have h := tk_26_7 (X := X.at j f g) (a := (j : Int)) (ch := ch)
  exact h
theorem ta_26_3 : TKR 26 (j : Int) 3 ch (X.at j f g) (bZ (inF (ch - 48) 0 3)) [(26, (j : Int), 4)] (X.at j (2000 + (ch - 48)) g) := by
  have h := tk_26_3 (X := X.at j f g) (a := (j : Int)) (ch := ch)
  simp only [at_fi, at_se, at_sFi, at_sSe] at h
  exact h
theorem ta_26_8 : TKR 26 (j : Int) 8 ch (X.at j f g) (bZ (inF (ch - 48) ((f) - 2000) 3)) [] (X.at j f (2000 + (ch - 48))) := by
  have h := tk_26_8 (X := X.at j f g) (a := (j : Int)) (ch := ch)
  simp only [at_fi, at_se, at_sFi, at_sSe] at h
  exact h
theorem ta_23 : TKR 23 (j : Int) 0 ch (X.at j f g) (bZ (inF (ch - 48) 0 1)) [] (X.at j (ch - 48) g) := by
  have h := tk_23 (X := X.at j f g) (a := (j : Int)) (ch := ch)
  simp only [at_fi, at_se, at_sFi, at_sSe] at h
  exact h
theorem ta_25_0 : TKR 25 (j : Int) 0 ch (X.at j f g) (bZ (decide (ch = 43 ∨ ch = 45))) [(25, (j : Int), 1)] (X.at j f (if ch = 45 then -1 else 1)) := by
  have h := tk_25_0 (X := X.at j f g) (a := (j : Int)) (ch := ch)
  simp only [at_fi, at_se, at_sFi, at_sSe] at h
  exact h
theorem ta_25_1 : TKR 25 (j : Int) 1 ch (X.at j f g) (bZ (inF (ch - 48) 0 9)) [(25, (j : Int), 2)] (X.at j ((10 * (f)) + (ch - 48)) g) := by
  have h := tk_25_1 (X := X.at j f g) (a := (j : Int)) (ch := ch)
  simp only [at_fi, at_se, at_sFi, at_sSe] at h
  exact h
theorem ta_25_2 : TKR 25 (j : Int) 2 ch (X.at j f g) (bZ (inF (ch - 48) 0 9)) [] (X.at j ((10 * (f)) + (ch - 48)) g) := by
  have h := tk_25_2 (X := X.at j f g) (a := (j : Int)) (ch := ch)
  simp only [at_fi, at_se, at_sFi, at_sSe] at h
  exact h
theorem ta_21_0 : TKR 21 (j : Int) 0 ch (X.at j f g) (bZ (decide (ch = 76) || inF (ch - 48) 1 5)) [(21, (j : Int), 1)] (X.at j (if ch = 76 then 9 else ch - 48) g) := by
  have h := tk_21_0 (X := X.at j f g) (a := (j : Int)) (ch := ch)
  simp only [at_fi, at_se, at_sFi, at_sSe] at h
  exact h
theorem ta_21_1 : TKR 21 (j : Int) 1 ch (X.at j f g) (bZ (inF (ch - 48) 1 7)) [] (X.at j f (ch - 48)) := by
  have h := tk_21_1 (X := X.at j f g) (a := (j : Int)) (ch := ch)
  simp only [at_fi, at_se, at_sFi, at_sSe] at h
  exact h
theorem ta_24_0 : TKR 24 (j : Int) 0 ch (X.at j f g) (bZ ((inF (ch - 48) 0 9) && decide ((0 : Int) = 0 ∨ 0 < 10 * f + (ch - 48)))) [(24, (j : Int), 1)] (X.at j ((10 * (f)) + (ch - 48)) g) := by
  have h := tk_24_0 (X := X.at j f g) (a := (j : Int)) (ch := ch)
  simp only [at_fi, at_se, at_sFi, at_sSe] at h
  exact h
theorem ta_24_1 : TKR 24 (j : Int) 1 ch (X.at j f g) (bZ ((inF (ch - 48) 0 9) && decide ((1 : Int) = 0 ∨ 0 < 10 * f + (ch - 48)))) [(24, (j : Int), 2)] (X.at j ((10 * (f)) + (ch - 48)) g) := by
  have h := tk_24_1 (X := X.at j f g) (a := (j : Int)) (ch := ch)
  simp only [at_fi, at_se, at_sFi, at_sSe] at h
  exact h
theorem ta_24_2 : TKR 24 (j : Int) 2 ch (X.at j f g) (bZ ((inF (ch - 48) 0 9) && decide ((if (2 : Int) = 2 then 10 * (ch - 48) else g + (ch - 48)) < f))) [(24, (j : Int), 3)] (X.at j f (if (2 : Int) = 2 then 10 * (ch - 48) else g + (ch - 48))) := by
  have h := tk_24_2 (X := X.at j f g) (a := (j : Int)) (ch := ch)
  simp only [at_fi, at_se, at_sFi, at_sSe] at h
  exact h
theorem ta_24_3 : TKR 24 (j : Int) 3 ch (X.at j f g) (bZ ((inF (ch - 48) 0 9) && decide ((if (3 : Int) = 2 then 10 * (ch - 48) else g + (ch - 48)) < f))) [] (X.at j f (if (3 : Int) = 2 then 10 * (ch - 48) else g + (ch - 48))) := by
  have h := tk_24_3 (X := X.at j f g) (a := (j : Int)) (ch := ch)
  simp only [at_fi, at_se, at_sFi, at_sSe] at h
  exact h
theorem ta_20t {c : Int} (h : inF (ch - 48) (g + 1) 7 = true) : TKR 20 (j : Int) c ch (X.at j f g) 1 [(20, (j : Int), 1)] (X.at j (orb f (ch - 48)) (ch - 48)) := by
  have h1 := tk_20t (X := X.at j f g) (a := (j : Int)) (ch := ch) (c := c) (by rw [at_se]; exact h)
  rw [at_fi, at_sFi] at h1
  have e : (X.at j (orb f (ch - 48)) g).sSe (updZ (X.at j f g).se (j : Int).toNat (ch - 48)) = X.at j (orb f (ch - 48)) (ch - 48) := by
    rw [Int.toNat_natCast]
    show mkR X.rr X.nt X.nb X.ne X.cf X.ce X.cl X.an X.kd (updZ X.fi j (orb f (ch - 48))) (updZ (updZ X.se j g) j (ch - 48)) = _
    rw [updZ_u]
    rfl
  rw [e] at h1
  exact h1
theorem ta_20f {c : Int} (h : inF (ch - 48) (g + 1) 7 = false) : TKR 20 (j : Int) c ch (X.at j f g) (if c = 0 then 0 else 2) [] (X.at j f g) := tk_20f (by rw [at_se]; exact h)
end TKJ
