-- ===== how many bits: Long.bitCount as it is written =====
/-- the bits of n below k, counted -/
def cntB (n : Nat) : Nat → Nat
  | 0 => 0
  | k + 1 => cntB n k + n / 2 ^ k % 2
theorem cntB_add (n : Nat) (a : Nat) : ∀ k, cntB n (a + k) = cntB n a + cntB (n / 2 ^ a) k
  | 0 => rfl
  | k + 1 => by
    show cntB n (a + k) + n / 2 ^ (a + k) % 2 = cntB n a + (cntB (n / 2 ^ a) k + n / 2 ^ a / 2 ^ k % 2)
    rw [cntB_add n a k, Nat.div_div_eq_div_mul, ← Nat.pow_add]
    omega
theorem cntB_mod (n a : Nat) : ∀ k, k ≤ a → cntB (n % 2 ^ a) k = cntB n k
  | 0, _ => rfl
  | k + 1, h => by
    show cntB (n % 2 ^ a) k + n % 2 ^ a / 2 ^ k % 2 = cntB n k + n / 2 ^ k % 2
    rw [cntB_mod n a k (by omega)]
    have e : (n % 2 ^ a).testBit k = n.testBit k := by
      rw [Nat.testBit_mod_two_pow]
      simp; omega
    have f : ∀ x : Nat, x / 2 ^ k % 2 = if x.testBit k = true then 1 else 0 := fun x => by
      rw [Nat.testBit_eq_decide_div_mod_eq]
      by_cases q : x / 2 ^ k % 2 = 1
      · simp [q]
      · have : x / 2 ^ k % 2 = 0 := by omega
        simp [this]
    rw [f, f, e]
def ofD : List Nat → Nat
  | [] => 0
  | x :: xs => 2 ^ 8 * ofD xs + x
def mkD (m : Nat) : Nat → Nat
  | 0 => 0
  | k + 1 => 2 ^ 8 * mkD m k + m
theorem land_d {a b c d : Nat} (hb : b < 2 ^ 8) (hd : d < 2 ^ 8) : (2 ^ 8 * a + b) &&& (2 ^ 8 * c + d) = 2 ^ 8 * (a &&& c) + (b &&& d) := by
  apply Nat.eq_of_testBit_eq
  intro j
  rw [Nat.testBit_and, Nat.testBit_two_pow_mul_add _ hb, Nat.testBit_two_pow_mul_add _ hd, Nat.testBit_two_pow_mul_add _ (Nat.lt_of_le_of_lt Nat.and_le_left hb)]
  by_cases h : j < 8
  · simp [h]
  · simp [h]
def a8 (x : Nat) : Nat := x - (x / 2 &&& 85)
def b8 (x : Nat) : Nat := (x &&& 51) + (x / 4 &&& 51)
def c8 (x : Nat) : Nat := x % 16 + x / 16
theorem a8_all : (List.range 256).all (fun x => decide ((x / 2 + 128) &&& 85 = x / 2 &&& 85) && decide (a8 x < 256) && decide (b8 (a8 x) < 256) && decide (b8 (a8 x) % 16 ≤ 4) && decide (b8 (a8 x) / 16 ≤ 4) && decide (c8 (b8 (a8 x)) = cntB x 8) && decide (cntB x 8 ≤ 8)) = true := by decide +kernel
theorem b8_all : (List.range 256).all (fun x => decide ((x / 4 + 64) &&& 51 = x / 4 &&& 51) && decide ((x / 4 + 128) &&& 51 = x / 4 &&& 51) && decide ((x / 4 + 192) &&& 51 = x / 4 &&& 51) && decide (b8 x < 256)) = true := by decide +kernel
theorem c8_all : (List.range 256).all (fun x => decide (x &&& 15 = x % 16)) = true := by decide +kernel
theorem a8_at {x : Nat} (h : x < 256) : (x / 2 + 128) &&& 85 = x / 2 &&& 85 ∧ a8 x < 256 ∧ b8 (a8 x) < 256 ∧ b8 (a8 x) % 16 ≤ 4 ∧ b8 (a8 x) / 16 ≤ 4 ∧ c8 (b8 (a8 x)) = cntB x 8 ∧ cntB x 8 ≤ 8 := by
  have h1 := List.all_eq_true.mp a8_all x (List.mem_range.mpr h)
  simpa only [Bool.and_eq_true, decide_eq_true_eq, and_assoc] using h1
theorem b8_at {x : Nat} (h : x < 256) : (x / 4 + 64) &&& 51 = x / 4 &&& 51 ∧ (x / 4 + 128) &&& 51 = x / 4 &&& 51 ∧ (x / 4 + 192) &&& 51 = x / 4 &&& 51 ∧ b8 x < 256 := by
  have h1 := List.all_eq_true.mp b8_all x (List.mem_range.mpr h)
  simpa only [Bool.and_eq_true, decide_eq_true_eq, and_assoc] using h1
theorem c8_at {x : Nat} (h : x < 256) : x &&& 15 = x % 16 := of_decide_eq_true (List.all_eq_true.mp c8_all x (List.mem_range.mpr h))
theorem stepA : ∀ xs : List Nat, (∀ x ∈ xs, x < 256) → ofD xs - (ofD xs / 2 &&& mkD 85 xs.length) = ofD (xs.map a8) ∧ (ofD xs / 2 &&& mkD 85 xs.length) ≤ ofD xs
  | [], _ => ⟨rfl, Nat.le_refl _⟩
  | x :: xs, h => by
    have hx : x < 256 := h x List.mem_cons_self
    obtain ⟨i1, i2⟩ := stepA xs (fun y hy => h y (List.mem_cons_of_mem _ hy))
    have e : ofD (x :: xs) / 2 = 2 ^ 8 * (ofD xs / 2) + (x / 2 + 128 * (ofD xs % 2)) := by
      show (2 ^ 8 * ofD xs + x) / 2 = _
      omega
    have e2 : (x / 2 + 128 * (ofD xs % 2)) &&& 85 = x / 2 &&& 85 := by
      have hm : ofD xs % 2 = 0 ∨ ofD xs % 2 = 1 := by omega
      rcases hm with hm | hm
      · rw [hm]; rfl
      · rw [hm]; exact (a8_at hx).1
    have e3 : (ofD (x :: xs) / 2 &&& mkD 85 (x :: xs).length) = 2 ^ 8 * (ofD xs / 2 &&& mkD 85 xs.length) + (x / 2 &&& 85) := by
      rw [e]
      show (2 ^ 8 * (ofD xs / 2) + (x / 2 + 128 * (ofD xs % 2))) &&& (2 ^ 8 * mkD 85 xs.length + 85) = _
      rw [land_d (by omega) (by decide), e2]
    have hle : (x / 2 &&& 85) ≤ x := Nat.le_trans Nat.and_le_left (Nat.div_le_self _ _)
    rw [e3]
    show 2 ^ 8 * ofD xs + x - _ = 2 ^ 8 * ofD (xs.map a8) + a8 x ∧ _ ≤ 2 ^ 8 * ofD xs + x
    rw [← i1]
    unfold a8
    omega
theorem stepB : ∀ xs : List Nat, (∀ x ∈ xs, x < 256) → (ofD xs &&& mkD 51 xs.length) + (ofD xs / 4 &&& mkD 51 xs.length) = ofD (xs.map b8)
  | [], _ => rfl
  | x :: xs, h => by
    have hx : x < 256 := h x List.mem_cons_self
    have ih := stepB xs (fun y hy => h y (List.mem_cons_of_mem _ hy))
    have e : ofD (x :: xs) / 4 = 2 ^ 8 * (ofD xs / 4) + (x / 4 + 64 * (ofD xs % 4)) := by
      show (2 ^ 8 * ofD xs + x) / 4 = _
      omega
    obtain ⟨q1, q2, q3, -⟩ := b8_at hx
    have e2 : (x / 4 + 64 * (ofD xs % 4)) &&& 51 = x / 4 &&& 51 := by
      have hm : ofD xs % 4 = 0 ∨ ofD xs % 4 = 1 ∨ ofD xs % 4 = 2 ∨ ofD xs % 4 = 3 := by omega
      rcases hm with hm | hm | hm | hm
      · rw [hm]; rfl
      · rw [hm]; exact q1
      · rw [hm]; exact q2
      · rw [hm]; exact q3
    rw [e]
    show ((2 ^ 8 * ofD xs + x) &&& (2 ^ 8 * mkD 51 xs.length + 51)) + ((2 ^ 8 * (ofD xs / 4) + (x / 4 + 64 * (ofD xs % 4))) &&& (2 ^ 8 * mkD 51 xs.length + 51)) = 2 ^ 8 * ofD (xs.map b8) + b8 x
    rw [land_d (by omega) (by decide), land_d (by omega) (by decide), e2, ← ih]
    unfold b8
    omega
theorem stepC : ∀ xs : List Nat, (∀ x ∈ xs, x < 256 ∧ x % 16 ≤ 4 ∧ x / 16 ≤ 4) → (ofD xs + ofD xs / 16) &&& mkD 15 xs.length = ofD (xs.map c8) ∧ ofD xs % 16 ≤ 4
  | [], _ => ⟨rfl, by decide⟩
  | x :: xs, h => by
    obtain ⟨hx, h1, h2⟩ := h x List.mem_cons_self
    obtain ⟨i1, i2⟩ := stepC xs (fun y hy => h y (List.mem_cons_of_mem _ hy))
    have e : ofD (x :: xs) + ofD (x :: xs) / 16 = 2 ^ 8 * (ofD xs + ofD xs / 16) + (x + x / 16 + 16 * (ofD xs % 16)) := by
      show (2 ^ 8 * ofD xs + x) + (2 ^ 8 * ofD xs + x) / 16 = _
      omega
    rw [e]
    show (2 ^ 8 * (ofD xs + ofD xs / 16) + (x + x / 16 + 16 * (ofD xs % 16))) &&& (2 ^ 8 * mkD 15 xs.length + 15) = 2 ^ 8 * ofD (xs.map c8) + c8 x ∧ (2 ^ 8 * ofD xs + x) % 16 ≤ 4
    rw [land_d (by omega) (by decide), i1, c8_at (by omega)]
    unfold c8
    omega
theorem digs {n : Nat} (h : n < 2 ^ 64) : n = ofD [n % 256, n / 256 % 256, n / 65536 % 256, n / 16777216 % 256, n / 4294967296 % 256, n / 1099511627776 % 256, n / 281474976710656 % 256, n / 72057594037927936 % 256] := by
  show n = 2 ^ 8 * (2 ^ 8 * (2 ^ 8 * (2 ^ 8 * (2 ^ 8 * (2 ^ 8 * (2 ^ 8 * (2 ^ 8 * 0 + n / 72057594037927936 % 256) + n / 281474976710656 % 256) + n / 1099511627776 % 256) + n / 4294967296 % 256) + n / 16777216 % 256) + n / 65536 % 256) + n / 256 % 256) + n % 256
  omega
def bcN (n : Nat) : Nat :=
  let a := n - (n / 2 &&& 6148914691236517205)
  let b := (a &&& 3689348814741910323) + (a / 4 &&& 3689348814741910323)
  let c := (b + b / 16) &&& 1085102592571150095
  let d := c + c / 256
  let e := d + d / 65536
  let f := e + e / 4294967296
  f % 128
theorem bcN_eq {n : Nat} (h : n < 2 ^ 64) : bcN n = cntB n 64 := by
  have hc : cntB n 64 = cntB (n % 256) 8 + (cntB (n / 256 % 256) 8 + (cntB (n / 65536 % 256) 8 + (cntB (n / 16777216 % 256) 8 + (cntB (n / 4294967296 % 256) 8 + (cntB (n / 1099511627776 % 256) 8 + (cntB (n / 281474976710656 % 256) 8 + cntB (n / 72057594037927936 % 256) 8)))))) := by
    have m : ∀ x : Nat, cntB (x % 256) 8 = cntB x 8 := fun x => cntB_mod x 8 8 (Nat.le_refl _)
    rw [m, m, m, m, m, m, m, m]
    have s : ∀ (x k : Nat), cntB x (8 + k) = cntB x 8 + cntB (x / 256) k := fun x k => cntB_add x 8 k
    have d : ∀ (x a b c : Nat), a * b = c → x / a / b = x / c := fun x a b c hh => by rw [Nat.div_div_eq_div_mul, hh]
    show cntB n (8 + (8 + (8 + (8 + (8 + (8 + (8 + 8))))))) = _
    rw [s, s, s, s, s, s, s, d n 256 256 65536 rfl, d n 65536 256 16777216 rfl, d n 16777216 256 4294967296 rfl, d n 4294967296 256 1099511627776 rfl, d n 1099511627776 256 281474976710656 rfl, d n 281474976710656 256 72057594037927936 rfl]
  rw [hc]
  have hd := digs h
  generalize hx0 : n % 256 = x0 at hd ⊢
  generalize hx1 : n / 256 % 256 = x1 at hd ⊢
  generalize hx2 : n / 65536 % 256 = x2 at hd ⊢
  generalize hx3 : n / 16777216 % 256 = x3 at hd ⊢
  generalize hx4 : n / 4294967296 % 256 = x4 at hd ⊢
  generalize hx5 : n / 1099511627776 % 256 = x5 at hd ⊢
  generalize hx6 : n / 281474976710656 % 256 = x6 at hd ⊢
  generalize hx7 : n / 72057594037927936 % 256 = x7 at hd ⊢
  have b0 : x0 < 256 := by omega
  have b1 : x1 < 256 := by omega
  have b2 : x2 < 256 := by omega
  have b3 : x3 < 256 := by omega
  have b4 : x4 < 256 := by omega
  have b5 : x5 < 256 := by omega
  have b6 : x6 < 256 := by omega
  have b7 : x7 < 256 := by omega
  clear hx0 hx1 hx2 hx3 hx4 hx5 hx6 hx7 hc h
  have hm : ∀ y ∈ [x0, x1, x2, x3, x4, x5, x6, x7], y < 256 := by simp [b0, b1, b2, b3, b4, b5, b6, b7]
  have sA := (stepA [x0, x1, x2, x3, x4, x5, x6, x7] hm).1
  have sB := stepB ([x0, x1, x2, x3, x4, x5, x6, x7].map a8) (fun y hy => by obtain ⟨z, hz, rfl⟩ := List.mem_map.mp hy; exact (a8_at (hm z hz)).2.1)
  have sC := (stepC (([x0, x1, x2, x3, x4, x5, x6, x7].map a8).map b8) (fun y hy => by
    obtain ⟨z, hz, rfl⟩ := List.mem_map.mp hy
    obtain ⟨v, hv, rfl⟩ := List.mem_map.mp hz
    have := a8_at (hm v hv)
    exact ⟨this.2.2.1, this.2.2.2.1, this.2.2.2.2.1⟩)).1
  rw [← hd] at sA
  have l1 : mkD 85 [x0, x1, x2, x3, x4, x5, x6, x7].length = 6148914691236517205 := by show mkD 85 8 = _; decide
  have l2 : mkD 51 ([x0, x1, x2, x3, x4, x5, x6, x7].map a8).length = 3689348814741910323 := by show mkD 51 8 = _; decide
  have l3 : mkD 15 (([x0, x1, x2, x3, x4, x5, x6, x7].map a8).map b8).length = 1085102592571150095 := by show mkD 15 8 = _; decide
  rw [l1] at sA
  rw [l2] at sB
  rw [l3] at sC
  unfold bcN
  simp only
  rw [sA, sB, sC]
  have c0 := a8_at b0
  have c1 := a8_at b1
  have c2 := a8_at b2
  have c3 := a8_at b3
  have c4 := a8_at b4
  have c5 := a8_at b5
  have c6 := a8_at b6
  have c7 := a8_at b7
  have hC : ofD ((([x0, x1, x2, x3, x4, x5, x6, x7].map a8).map b8).map c8) = ofD [cntB x0 8, cntB x1 8, cntB x2 8, cntB x3 8, cntB x4 8, cntB x5 8, cntB x6 8, cntB x7 8] := by
    show ofD [c8 (b8 (a8 x0)), c8 (b8 (a8 x1)), c8 (b8 (a8 x2)), c8 (b8 (a8 x3)), c8 (b8 (a8 x4)), c8 (b8 (a8 x5)), c8 (b8 (a8 x6)), c8 (b8 (a8 x7))] = _
    rw [c0.2.2.2.2.2.1, c1.2.2.2.2.2.1, c2.2.2.2.2.2.1, c3.2.2.2.2.2.1, c4.2.2.2.2.2.1, c5.2.2.2.2.2.1, c6.2.2.2.2.2.1, c7.2.2.2.2.2.1]
  rw [hC]
  replace c0 := c0.2.2.2.2.2.2
  replace c1 := c1.2.2.2.2.2.2
  replace c2 := c2.2.2.2.2.2.2
  replace c3 := c3.2.2.2.2.2.2
  replace c4 := c4.2.2.2.2.2.2
  replace c5 := c5.2.2.2.2.2.2
  replace c6 := c6.2.2.2.2.2.2
  replace c7 := c7.2.2.2.2.2.2
  generalize cntB x0 8 = p0 at c0 ⊢
  generalize cntB x1 8 = p1 at c1 ⊢
  generalize cntB x2 8 = p2 at c2 ⊢
  generalize cntB x3 8 = p3 at c3 ⊢
  generalize cntB x4 8 = p4 at c4 ⊢
  generalize cntB x5 8 = p5 at c5 ⊢
  generalize cntB x6 8 = p6 at c6 ⊢
  generalize cntB x7 8 = p7 at c7 ⊢
  have eo : ofD [p0, p1, p2, p3, p4, p5, p6, p7] = p0 + 256 * p1 + 65536 * p2 + 16777216 * p3 + 4294967296 * p4 + 1099511627776 * p5 + 281474976710656 * p6 + 72057594037927936 * p7 := by
    show 2 ^ 8 * (2 ^ 8 * (2 ^ 8 * (2 ^ 8 * (2 ^ 8 * (2 ^ 8 * (2 ^ 8 * (2 ^ 8 * 0 + p7) + p6) + p5) + p4) + p3) + p2) + p1) + p0 = _
    omega
  generalize ofD [p0, p1, p2, p3, p4, p5, p6, p7] = C at eo ⊢
  clear sA sB sC hC hd hm
  have h1 : C / 256 = p1 + 256 * p2 + 65536 * p3 + 16777216 * p4 + 4294967296 * p5 + 1099511627776 * p6 + 281474976710656 * p7 := by omega
  have hd : C + C / 256 = (p0 + p1) + 256 * (p1 + p2) + 65536 * (p2 + p3) + 16777216 * (p3 + p4) + 4294967296 * (p4 + p5) + 1099511627776 * (p5 + p6) + 281474976710656 * (p6 + p7) + 72057594037927936 * p7 := by omega
  generalize C + C / 256 = d at hd ⊢
  clear eo h1
  have h2 : d / 65536 = (p2 + p3) + 256 * (p3 + p4) + 65536 * (p4 + p5) + 16777216 * (p5 + p6) + 4294967296 * (p6 + p7) + 1099511627776 * p7 := by omega
  have he : d + d / 65536 = (p0 + p1 + p2 + p3) + 256 * (p1 + p2 + p3 + p4) + 65536 * (p2 + p3 + p4 + p5) + 16777216 * (p3 + p4 + p5 + p6) + 4294967296 * (p4 + p5 + p6 + p7) + 1099511627776 * (p5 + p6 + p7) + 281474976710656 * (p6 + p7) + 72057594037927936 * p7 := by omega
  generalize d + d / 65536 = e at he ⊢
  clear hd h2
  have h3 : e / 4294967296 = (p4 + p5 + p6 + p7) + 256 * (p5 + p6 + p7) + 65536 * (p6 + p7) + 16777216 * p7 := by omega
  rw [h3, he]
  omega
theorem sh_k {n k : Nat} (hn : n < 2 ^ 64) (hk : k < 64) : (((lN n).toUInt64 >>> ((iI (k : Int)).toInt64.toUInt64 &&& Int64.toUInt64 63)).toInt64) = lN (n / 2 ^ k) := by
  rw [iI_nat]
  exact wb_shr hn hk
theorem bcRaw_steps {x a b c d e f : Int64} (ha : x - ((x.toUInt64 >>> ((iI 1).toInt64.toUInt64 &&& Int64.toUInt64 63)).toInt64 &&& 6148914691236517205) = a) (hb : (a &&& 3689348814741910323) + ((a.toUInt64 >>> ((iI 2).toInt64.toUInt64 &&& Int64.toUInt64 63)).toInt64 &&& 3689348814741910323) = b) (hc : (b + (b.toUInt64 >>> ((iI 4).toInt64.toUInt64 &&& Int64.toUInt64 63)).toInt64) &&& 1085102592571150095 = c)
    (hd : c + (c.toUInt64 >>> ((iI 8).toInt64.toUInt64 &&& Int64.toUInt64 63)).toInt64 = d) (he : d + (d.toUInt64 >>> ((iI 16).toInt64.toUInt64 &&& Int64.toUInt64 63)).toInt64 = e) (hf : e + (e.toUInt64 >>> ((iI 32).toInt64.toUInt64 &&& Int64.toUInt64 63)).toInt64 = f) : bcRaw x = f.toInt32 &&& iI 127 := by
  subst ha hb hc hd he hf
  rfl
theorem bcRaw_eq {n : Nat} (h : n < 2 ^ 64) : bcRaw (lN n) = iI ((cntB n 64 : Nat) : Int) := by
  have ha : (n / 2 &&& 6148914691236517205) ≤ n := Nat.le_trans Nat.and_le_left (Nat.div_le_self _ _)
  rw [← bcN_eq h, iI_nat]
  unfold bcN
  simp only
  have s1 : (((lN n).toUInt64 >>> ((iI 1).toInt64.toUInt64 &&& Int64.toUInt64 63)).toInt64) = lN (n / 2) := sh_k (n := n) (k := 1) h (by decide)
  have w1 : lN (n / 2) &&& 6148914691236517205 = lN (n / 2 &&& 6148914691236517205) := wb_and (a := n / 2) (b := 6148914691236517205) (by omega) (by decide)
  have q1 : lN n - ((((lN n).toUInt64 >>> ((iI 1).toInt64.toUInt64 &&& Int64.toUInt64 63)).toInt64) &&& 6148914691236517205) = lN (n - (n / 2 &&& 6148914691236517205)) := by rw [s1, w1, lN_sub ha]
  have hA2 : n - (n / 2 &&& 6148914691236517205) < 2 ^ 64 := by omega
  generalize n - (n / 2 &&& 6148914691236517205) = A at hA2 q1 ⊢
  have s2 : (((lN A).toUInt64 >>> ((iI 2).toInt64.toUInt64 &&& Int64.toUInt64 63)).toInt64) = lN (A / 4) := sh_k (n := A) (k := 2) hA2 (by decide)
  have w2 : lN A &&& 3689348814741910323 = lN (A &&& 3689348814741910323) := wb_and (a := A) (b := 3689348814741910323) hA2 (by decide)
  have w3 : lN (A / 4) &&& 3689348814741910323 = lN (A / 4 &&& 3689348814741910323) := wb_and (a := A / 4) (b := 3689348814741910323) (by omega) (by decide)
  have q2 : (lN A &&& 3689348814741910323) + ((((lN A).toUInt64 >>> ((iI 2).toInt64.toUInt64 &&& Int64.toUInt64 63)).toInt64) &&& 3689348814741910323) = lN ((A &&& 3689348814741910323) + (A / 4 &&& 3689348814741910323)) := by rw [s2, w2, w3, lN_add]
  have hB1 : (A &&& 3689348814741910323) ≤ 3689348814741910323 := Nat.and_le_right
  have hB2 : (A / 4 &&& 3689348814741910323) ≤ 3689348814741910323 := Nat.and_le_right
  have hB3 : (A &&& 3689348814741910323) + (A / 4 &&& 3689348814741910323) < 2 ^ 63 := by omega
  generalize (A &&& 3689348814741910323) + (A / 4 &&& 3689348814741910323) = B at hB3 q2 ⊢
  have s3 : (((lN B).toUInt64 >>> ((iI 4).toInt64.toUInt64 &&& Int64.toUInt64 63)).toInt64) = lN (B / 16) := sh_k (n := B) (k := 4) (by omega) (by decide)
  have w4 : lN (B + B / 16) &&& 1085102592571150095 = lN ((B + B / 16) &&& 1085102592571150095) := wb_and (a := B + B / 16) (b := 1085102592571150095) (by omega) (by decide)
  have q3 : (lN B + (((lN B).toUInt64 >>> ((iI 4).toInt64.toUInt64 &&& Int64.toUInt64 63)).toInt64)) &&& 1085102592571150095 = lN ((B + B / 16) &&& 1085102592571150095) := by rw [s3, lN_add, w4]
  have hC1 : (B + B / 16) &&& 1085102592571150095 ≤ 1085102592571150095 := Nat.and_le_right
  generalize (B + B / 16) &&& 1085102592571150095 = C at hC1 q3 ⊢
  have s4 : (((lN C).toUInt64 >>> ((iI 8).toInt64.toUInt64 &&& Int64.toUInt64 63)).toInt64) = lN (C / 256) := sh_k (n := C) (k := 8) (by omega) (by decide)
  have q4 : lN C + (((lN C).toUInt64 >>> ((iI 8).toInt64.toUInt64 &&& Int64.toUInt64 63)).toInt64) = lN (C + C / 256) := by rw [s4, lN_add]
  have hD1 : C + C / 256 < 2 ^ 62 := by omega
  generalize C + C / 256 = Dd at hD1 q4 ⊢
  have s5 : (((lN Dd).toUInt64 >>> ((iI 16).toInt64.toUInt64 &&& Int64.toUInt64 63)).toInt64) = lN (Dd / 65536) := sh_k (n := Dd) (k := 16) (by omega) (by decide)
  have q5 : lN Dd + (((lN Dd).toUInt64 >>> ((iI 16).toInt64.toUInt64 &&& Int64.toUInt64 63)).toInt64) = lN (Dd + Dd / 65536) := by rw [s5, lN_add]
  have hE1 : Dd + Dd / 65536 < 2 ^ 63 := by omega
  generalize Dd + Dd / 65536 = Ee at hE1 q5 ⊢
  have s6 : (((lN Ee).toUInt64 >>> ((iI 32).toInt64.toUInt64 &&& Int64.toUInt64 63)).toInt64) = lN (Ee / 4294967296) := sh_k (n := Ee) (k := 32) (by omega) (by decide)
  have q6 : lN Ee + (((lN Ee).toUInt64 >>> ((iI 32).toInt64.toUInt64 &&& Int64.toUInt64 63)).toInt64) = lN (Ee + Ee / 4294967296) := by rw [s6, lN_add]
  generalize Ee + Ee / 4294967296 = Ff at q6 ⊢
  rw [bcRaw_steps q1 q2 q3 q4 q5 q6, lN_i]
  apply Int32.toBitVec_inj.mp
  apply BitVec.eq_of_toNat_eq
  rw [Int32.toBitVec_and, BitVec.toNat_and]
  have z1 : (nI Ff).toBitVec.toNat = Ff % 2 ^ 32 := by
    show (BitVec.ofNat 32 Ff).toNat = _
    rw [BitVec.toNat_ofNat]
  have z2 : (nI (Ff % 128)).toBitVec.toNat = Ff % 128 := by
    show (BitVec.ofNat 32 (Ff % 128)).toNat = _
    rw [BitVec.toNat_ofNat]
    omega
  have z3 : (iI 127).toBitVec.toNat = 2 ^ 7 - 1 := by decide
  rw [z1, z2, z3, Nat.and_two_pow_sub_one_eq_mod]
  omega
