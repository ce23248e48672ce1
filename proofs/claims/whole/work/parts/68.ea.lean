-- ===== the two clocks and the two calendars of dates are one =====
set_option maxRecDepth 100000 in
theorem sun_all : (List.range 1461).all (fun d => decide (lsF d 3 = decide (losZ (yIx (d : Int)).toNat = (d : Int))) && decide (lsF d 10 = decide (dblZ (yIx (d : Int)).toNat = (d : Int)))) = true := by decide +kernel
theorem sun_at {d : Nat} (h : d < 1461) : lsF d 3 = decide (losZ (yIx (d : Int)).toNat = (d : Int)) ∧ lsF d 10 = decide (dblZ (yIx (d : Int)).toNat = (d : Int)) := by
  have h1 := List.all_eq_true.mp sun_all d (List.mem_range.mpr h)
  simpa only [Bool.and_eq_true, decide_eq_true_eq] using h1
theorem lo_eq {sh : Bool} {d : Nat} (q : Int) (h : d < 1461) : loF sh d q = lostZ sh d q := by
  unfold loF lostZ lose shf
  rw [(sun_at h).1]
  cases sh
  · simp
  · by_cases h4 : q = 4
    · simp [h4]
    · by_cases h5 : q = 5
      · simp [h5]
      · have : ¬ (4 ≤ q ∧ q < 6) := by omega
        by_cases q4 : 4 ≤ q
        · have q6 : ¬ q < 6 := by omega
          simp [h4, h5, q6]
        · simp [h4, h5, q4]
theorem tw_eq {sh : Bool} {d : Nat} (q : Int) (h : d < 1461) : twF sh d q = (shf q && dble sh d) := by
  unfold twF dble shf
  rw [(sun_at h).2]
  cases sh
  · simp
  · by_cases h4 : q = 4
    · simp [h4]
    · by_cases h5 : q = 5
      · simp [h5]
      · by_cases q4 : 4 ≤ q
        · have q6 : ¬ q < 6 := by omega
          simp [h4, h5, q6]
        · simp [h4, h5, q4]
theorem lo_4 {sh : Bool} {d : Nat} (h : d < 1461) : loF sh d 4 = lose sh d := by
  rw [lo_eq 4 h]
  rfl
theorem tw_4 {sh : Bool} {d : Nat} (h : d < 1461) : twF sh d 4 = dble sh d := by
  rw [tw_eq 4 h]
  rfl
theorem tw_5 {sh : Bool} {d : Nat} (h : d < 1461) : twF sh d 5 = dble sh d := by
  rw [tw_eq 5 h]
  rfl
def st1 (d : Nat) : Bool := decide (stZ true (d + 1) = stZ true d + 48 - (if lose true d = true then 2 else 0) + (if dble true d = true then 2 else 0)) && !(lose true d && dble true d)
set_option maxRecDepth 100000 in
theorem st_all : (List.range 1461).all st1 = true := by decide +kernel
theorem lose_f (d : Nat) : lose false d = false := rfl
theorem dble_f (d : Nat) : dble false d = false := rfl
theorem st_at {sh : Bool} {d : Nat} (h : d < 1461) : stZ sh (d + 1) = stZ sh d + 48 - (if lose sh d = true then 2 else 0) + (if dble sh d = true then 2 else 0) ∧ ¬ (lose sh d = true ∧ dble sh d = true) := by
  cases sh
  · rw [lose_f, dble_f]
    unfold stZ summ
    simp
    omega
  · have h1 := List.all_eq_true.mp st_all d (List.mem_range.mpr h)
    unfold st1 at h1
    simp only [Bool.and_eq_true, decide_eq_true_eq, Bool.not_eq_true'] at h1
    refine ⟨h1.1, fun q => ?_⟩
    rw [q.1, q.2] at h1
    cases h1.2
theorem stZ_0 (sh : Bool) : stZ sh 0 = 0 := by cases sh <;> decide
theorem stZ_e (sh : Bool) : stZ sh 1461 = 70128 := by cases sh <;> decide +kernel
theorem tmS_eq (sh : Bool) : ∀ d, d ≤ 1461 → tmS sh d = stZ sh d
  | 0, _ => (stZ_0 sh).symm
  | d + 1, h => by
    have ih := tmS_eq sh d (by omega)
    show tmS sh d + 48 - (if loF sh d 4 = true then 2 else 0) + (if twF sh d 4 = true then 2 else 0) = _
    rw [ih, lo_4 (by omega), tw_4 (by omega), (st_at (by omega)).1]
theorem ld_or {sh : Bool} {d : Nat} (h : d < 1461) : lose sh d = false ∨ dble sh d = false := by
  have hx := (st_at (sh := sh) h).2
  cases hl : lose sh d
  · exact Or.inl rfl
  · right
    cases hn : dble sh d
    · rfl
    · exact absurd ⟨hl, hn⟩ hx
theorem tm_eq {sh : Bool} {d : Nat} (q : Int) (sec : Bool) (h : d < 1461) (hq : 0 ≤ q ∧ q ≤ 47) : tmM sh d q sec = tmZ sh d q sec := by
  unfold tmM tmZ shf
  rw [tmS_eq sh d (by omega), lo_4 h, tw_4 h]
  rcases ld_or (sh := sh) h with hl | hn
  · rw [hl]
    cases dble sh d <;> cases sec <;> simp only [Bool.false_eq_true, false_and, and_false, true_and, and_true, if_false, if_true, not_true_eq_false, not_false_eq_true, true_or, or_true, false_or, or_false, Bool.and_eq_true, decide_eq_true_eq, reduceIte] <;> (repeat' split) <;> omega
  · rw [hn]
    cases lose sh d <;> cases sec <;> simp only [Bool.false_eq_true, false_and, and_false, true_and, and_true, if_false, if_true, not_true_eq_false, not_false_eq_true, true_or, or_true, false_or, or_false, Bool.and_eq_true, decide_eq_true_eq, reduceIte] <;> (repeat' split) <;> omega
/-- a time on the clock, told -/
theorem sh_at {sh : Bool} {x0 : Int} : ∀ (k i : Nat), i + k = 1461 → stZ sh i ≤ x0 → (x0 < 70128 → ∃ d, i ≤ d ∧ d < 1461 ∧ stZ sh d ≤ x0 ∧ x0 < stZ sh (d + 1) ∧ shL sh k i (x0 - stZ sh i) = ((1000 * (d : Int)) + (10 * shQ sh d (x0 - stZ sh d))) + shN sh d (x0 - stZ sh d)) ∧ (70128 ≤ x0 → shL sh k i (x0 - stZ sh i) = -1)
  | 0, i, hi, hs => by
    refine ⟨fun h => ?_, fun _ => rfl⟩
    rw [show i = 1461 by omega, stZ_e] at hs
    omega
  | k + 1, i, hi, hs => by
    have hst := (st_at (sh := sh) (d := i) (by omega)).1
    have hln : lenM sh i = stZ sh (i + 1) - stZ sh i := by
      unfold lenM
      rw [lo_4 (by omega), tw_4 (by omega)]
      omega
    by_cases c : x0 < stZ sh (i + 1)
    · have hb : stZ sh (i + 1) ≤ 70128 := by
        have := stZ_bd (on := sh) (d := i + 1)
        by_cases q : i + 1 = 1461
        · rw [q, stZ_e]
          omega
        · omega
      refine ⟨fun _ => ⟨i, Nat.le_refl _, by omega, hs, c, shL_t (by omega)⟩, fun h => by omega⟩
    · rw [shL_s (by omega)]
      have ih := sh_at (sh := sh) (x0 := x0) k (i + 1) (by omega) (by omega)
      have e : x0 - stZ sh i - lenM sh i = x0 - stZ sh (i + 1) := by omega
      rw [e]
      refine ⟨fun h => ?_, ih.2⟩
      obtain ⟨d, h1, h2⟩ := ih.1 h
      exact ⟨d, by omega, h2⟩
theorem tellD_eq {sh : Bool} {x0 : Int} {d : Nat} (hd : d < 1461) (h1 : stZ sh d ≤ x0) (h2 : x0 < stZ sh (d + 1)) (h0 : 0 ≤ x0) : tellD sh x0 = d := by
  have b1 := stZ_bd (on := sh) (d := d)
  have b2 := stZ_bd (on := sh) (d := d + 1)
  unfold tellD
  by_cases q : (x0 / 48).toNat = d
  · rw [q, if_neg (by omega)]
  · have q2 : (x0 / 48).toNat + 1 = d := by omega
    rw [q2, if_pos ⟨by omega, h1⟩]
theorem tellQ_eq {sh : Bool} {d : Nat} {x : Int} (hd : d < 1461) (h0 : 0 ≤ x) : ((1000 * (d : Int)) + (10 * shQ sh d x)) + shN sh d x = tellQ sh d x := by
  unfold tellQ shN shQ shf
  rw [lo_4 hd, tw_4 hd]
  rcases ld_or (sh := sh) hd with hl | hn
  · rw [hl]
    cases dble sh d <;> simp only [Bool.false_eq_true, false_and, and_false, true_and, and_true, if_false, if_true, not_true_eq_false, not_false_eq_true, true_or, or_true, false_or, or_false, Bool.and_eq_true, decide_eq_true_eq, reduceIte] <;> (repeat' split) <;> omega
  · rw [hn]
    cases lose sh d <;> simp only [Bool.false_eq_true, false_and, and_false, true_and, and_true, if_false, if_true, not_true_eq_false, not_false_eq_true, true_or, or_true, false_or, or_false, Bool.and_eq_true, decide_eq_true_eq, reduceIte] <;> (repeat' split) <;> omega
theorem clock_eq (sh : Bool) (x0 : Int) : (if x0 < 0 then -1 else shL sh 1461 0 x0) = (if x0 < 0 ∨ 70128 ≤ x0 then -1 else tellQ sh (tellD sh x0) (x0 - stZ sh (tellD sh x0))) := by
  by_cases h0 : x0 < 0
  · rw [if_pos h0, if_pos (Or.inl h0)]
  · have h := sh_at (sh := sh) (x0 := x0) 1461 0 rfl (by rw [stZ_0]; omega)
    rw [stZ_0, Int.sub_zero] at h
    rw [if_neg h0]
    by_cases h1 : 70128 ≤ x0
    · rw [if_pos (Or.inr h1)]
      exact h.2 h1
    · rw [if_neg (by omega)]
      obtain ⟨d, -, hd, a, b, hs⟩ := h.1 (by omega)
      rw [hs, tellD_eq hd a b (by omega)]
      exact tellQ_eq hd (by omega)
-- ===== dates =====
set_option maxRecDepth 100000 in
theorem dz_all : (List.range 1460).all (fun d => decide (dateZ d < dateZ (d + 1))) = true := by decide +kernel
theorem dz_lt {a b : Nat} (h : a < b) (hb : b < 1461) : dateZ a < dateZ b := by
  obtain ⟨k, rfl⟩ : ∃ k, b = a + k + 1 := ⟨b - a - 1, by omega⟩
  clear h
  induction k with
  | zero => exact of_decide_eq_true (List.all_eq_true.mp dz_all a (List.mem_range.mpr (by omega)))
  | succ k ih =>
    have h1 := ih (by omega)
    have h2 : dateZ (a + k + 1) < dateZ (a + k + 1 + 1) := of_decide_eq_true (List.all_eq_true.mp dz_all (a + k + 1) (List.mem_range.mpr (by omega)))
    exact Int.lt_trans h1 h2
theorem dz_inj {a b : Nat} (ha : a < 1461) (hb : b < 1461) (h : dateZ a = dateZ b) : a = b := by
  rcases Nat.lt_trichotomy a b with q | q | q
  · have := dz_lt q hb
    omega
  · exact q
  · have := dz_lt q ha
    omega
theorem findM_eq {z : Int} {n : Nat} (hn : n < 1461) (hz : dateZ n = z) : ∀ k, n < k → k ≤ 1461 → findM z k = (n : Int)
  | 0, h, _ => by omega
  | k + 1, h, hk => by
    show (if dateZ k = z then (k : Int) else findM z k) = _
    by_cases c : k = n
    · subst c
      rw [if_pos hz]
    · rw [if_neg (fun q => c (dz_inj (by omega) hn (by rw [q, hz])))]
      exact findM_eq hn hz k (by omega) (by omega)
theorem mml_eq {y m : Int} (hy : 2000 ≤ y ∧ y ≤ 2003) (hm : 1 ≤ m ∧ m ≤ 12) : mML y m = mLen y m := by
  obtain ⟨yn, rfl⟩ : ∃ yn : Nat, y = 2000 + (yn : Int) := ⟨(y - 2000).toNat, by omega⟩
  obtain ⟨mn, rfl⟩ : ∃ mn : Nat, m = (mn : Int) + 1 := ⟨(m - 1).toNat, by omega⟩
  exact (yr_at (y := yn) (by omega)).2.2.2.2 mn (by omega)
theorem dayOf_eq (y m o : Int) : (mdoF y m o).1 = dNum y m o := by
  unfold mdoF
  by_cases h1 : y < 2000
  · rw [if_pos h1, dNum_out (by omega)]
  rw [if_neg h1]
  by_cases h2 : 2003 < y
  · rw [if_pos h2, dNum_out (by omega)]
  rw [if_neg h2]
  by_cases h3 : m < 1
  · rw [if_pos h3]
    by_cases q : o < 1
    · rw [dNum_out (by omega)]
    · rw [dNum_out]
      rw [mLen_0 (Or.inl h3)]
      omega
  rw [if_neg h3]
  by_cases h4 : 12 < m
  · rw [if_pos h4]
    by_cases q : o < 1
    · rw [dNum_out (by omega)]
    · rw [dNum_out]
      rw [mLen_0 (Or.inr h4)]
      omega
  rw [if_neg h4]
  by_cases h5 : o < 1
  · rw [if_pos h5, dNum_out (by omega)]
  rw [if_neg h5, mml_eq ⟨by omega, by omega⟩ ⟨by omega, by omega⟩]
  by_cases h6 : o ≤ mLen y m
  · rw [if_pos h6, dNum_in (by omega)]
    obtain ⟨yn, rfl⟩ : ∃ yn : Nat, y = 2000 + (yn : Int) := ⟨(y - 2000).toNat, by omega⟩
    obtain ⟨mn, rfl⟩ : ∃ mn : Nat, m = (mn : Int) + 1 := ⟨(m - 1).toNat, by omega⟩
    obtain ⟨on, rfl⟩ : ∃ on : Nat, o = (on : Int) + 1 := ⟨(o - 1).toNat, by omega⟩
    have e : ((mn : Int) + 1 - 1).toNat = mn := by omega
    rw [e]
    have hs := mSum_le (2000 + (yn : Int)) mn
    have hf : 0 ≤ fDay (2000 + (yn : Int)) := by
      unfold fDay
      split <;> omega
    obtain ⟨n, hn⟩ : ∃ n : Nat, (n : Int) = fDay (2000 + (yn : Int)) + mSum (2000 + (yn : Int)) mn + (on : Int) := ⟨(fDay (2000 + (yn : Int)) + mSum (2000 + (yn : Int)) mn + (on : Int)).toNat, by omega⟩
    obtain ⟨k1, k2, -, -⟩ := alm_at (y := yn) (m := mn) (o := on) (n := n) (by omega) (by omega) (by omega) hn
    show findM _ 1461 = _
    rw [findM_eq k1 k2 1461 k1 (Nat.le_refl _)]
    omega
  · rw [if_neg h6, dNum_out (by omega)]
