-- ===== words of bits and what they say of the cells =====
def H48 (w : Int64) : Prop := ∀ j, 48 ≤ j → lb w j = false
theorem lb_all_b : (List.range 64).all (fun j => decide (lb 281474976710655 j = decide (j < 48)) && decide (lb 281474976710607 j = (decide (j < 48) && !(shf (j : Int)))) && decide (lb 48 j = shf (j : Int))) = true := by decide +kernel
theorem lb_lit {j : Nat} (h : j < 64) : lb 281474976710655 j = decide (j < 48) ∧ lb 281474976710607 j = (decide (j < 48) && !(shf (j : Int))) ∧ lb 48 j = shf (j : Int) := by
  have h1 := List.all_eq_true.mp lb_all_b j (List.mem_range.mpr h)
  simpa only [Bool.and_eq_true, decide_eq_true_eq, and_assoc] using h1
theorem cOf_bit {on : Bool} {d j : Nat} (h : j < 48) : lb (cOf on d) j = !(lostZ on d (j : Int)) := by
  obtain ⟨h1, h2, -⟩ := lb_lit (j := j) (by omega)
  unfold cOf lostZ
  have hj : decide (j < 48) = true := decide_eq_true h
  cases hl : lose on d
  · simp [h1, hj]
  · simp [h2, hj]
theorem cOf_48 (on : Bool) (d : Nat) : H48 (cOf on d) := fun j h => (cOf_hi h).1
theorem and_48 {a b : Int64} (h : H48 b) : H48 (a &&& b) := fun j hj => by rw [lb_and, h j hj, Bool.and_false]
theorem and_48' {a b : Int64} (h : H48 a) : H48 (a &&& b) := fun j hj => by rw [lb_and, h j hj, Bool.false_and]
theorem pk_bit {n b : Nat} {x : Int64} {j : Nat} (h : j < 64) : lb (pk n b x) j = (if n / 2 ^ b % 2 = 0 then !(lb x j) else lb x j) := by
  unfold pk
  split
  · exact lb_not x h
  · rfl
theorem cw_tab : ∀ n : Nat, n < 16 → ∀ a b c d : Bool, ((((if n / 2 ^ 0 % 2 = 0 then !a else a) && (if n / 2 ^ 1 % 2 = 0 then !b else b)) && (if n / 2 ^ 2 % 2 = 0 then !c else c)) && (if n / 2 ^ 3 % 2 = 0 then !d else d)) = decide (bN a + 2 * bN b + 4 * bN c + 8 * bN d = (n : Int)) := by decide +kernel
theorem cW_bit {T : PN} {d n j : Nat} (hn : n < 16) (h : j < 48) : lb (cW T d n) j = decide (gT T d j = (n : Int)) := by
  unfold cW cnWith gT cnGet
  rw [lb_and, lb_and, lb_and, lb_and, pk_bit (by omega), pk_bit (by omega), pk_bit (by omega), pk_bit (by omega), (lb_lit (j := j) (by omega)).1, decide_eq_true h, Bool.true_and]
  exact cw_tab n hn _ _ _ _
theorem cW_48 (T : PN) (d n : Nat) : H48 (cW T d n) := fun j hj => by
  unfold cW cnWith
  rw [lb_and, lb_and, lb_and, lb_and, (cOf_hi (on := true) (d := 0) hj).2.2]
  simp
theorem aw_tab : ∀ a b c d : Bool, ((((false || a) || b) || c) || d) = decide (¬ bN a + 2 * bN b + 4 * bN c + 8 * bN d ≤ 0) := by decide +kernel
theorem aW_bit (T : PN) (d j : Nat) : lb (aW T d) j = decide (¬ gT T d j ≤ 0) := by
  unfold aW cnAny gT cnGet
  rw [lb_or, lb_or, lb_or, lb_or, lb_0]
  exact aw_tab _ _ _ _
theorem uw_tab : ∀ a b c d a' b' c' d' : Bool, ((((false || (a ^^ a')) || (b ^^ b')) || (c ^^ c')) || (d ^^ d')) = decide (¬ bN a + 2 * bN b + 4 * bN c + 8 * bN d = bN a' + 2 * bN b' + 4 * bN c' + 8 * bN d') := by decide +kernel
theorem uW_bit (T N : PN) (d j : Nat) : lb (uW T N d) j = decide (¬ gT T d j = gT N d j) := by
  unfold uW cnAny gT cnGet
  rw [lb_or, lb_or, lb_or, lb_or, lb_0, lb_xor, lb_xor, lb_xor, lb_xor]
  exact uw_tab _ _ _ _ _ _ _ _
theorem w_zero {w : Int64} (hw : H48 w) : w = 0 ↔ ∀ j, j < 48 → lb w j = false := by
  constructor
  · intro h j _
    rw [h, lb_0]
  · intro h
    apply lb_ext
    intro j _
    rw [lb_0]
    by_cases q : j < 48
    · exact h j q
    · exact hw j (by omega)
theorem low_48 {w : Int64} (hw : H48 w) (h : ¬ w = 0) : lowK w < 48 := by
  obtain ⟨-, h2, -⟩ := lowK_spec h
  apply Classical.byContradiction
  intro q
  rw [hw _ (by omega)] at h2
  cases h2
theorem firstH_skip {P : Nat → Bool} : ∀ (k n m : Nat), (∀ j, j < k → P (n + j) = false) → firstH P (k + m) n = firstH P m (n + k)
  | 0, n, m, _ => by rw [Nat.zero_add, Nat.add_zero]
  | k + 1, n, m, h => by
    rw [show k + 1 + m = (k + m) + 1 by omega, firstH_s (n := n) (show P n = false from h 0 (by omega)), firstH_skip k (n + 1) m (fun j hj => by rw [show n + 1 + j = n + (j + 1) by omega]; exact h (j + 1) (by omega)), show n + 1 + k = n + (k + 1) by omega]
theorem firstH_48 {P : Nat → Bool} {w : Int64} (hw : H48 w) (n m : Nat) (hb : ∀ j, j < 48 → lb w j = P (n + j)) : firstH P (48 + m) n = if w = 0 then firstH P m (n + 48) else some (n + lowK w) := by
  by_cases c : w = 0
  · rw [if_pos c]
    exact firstH_skip 48 n m (fun j hj => by rw [← hb j hj]; exact (w_zero hw).mp c j hj)
  · rw [if_neg c]
    have h1 := low_48 hw c
    obtain ⟨-, h2, h3⟩ := lowK_spec c
    rw [show 48 + m = lowK w + ((47 - lowK w + m) + 1) by omega, firstH_skip (lowK w) n _ (fun j hj => by rw [← hb j (by omega)]; exact h3 j hj), firstH_t (by rw [← hb _ h1]; exact h2)]
theorem fhZ_some {d k : Nat} (h : k < 48) : fhZ (some (48 * d + k)) = 100 * (d : Int) + (k : Int) := by
  show 100 * (((48 * d + k) / 48 : Nat) : Int) + (((48 * d + k) % 48 : Nat) : Int) = _
  rw [show (48 * d + k) / 48 = d by omega, show (48 * d + k) % 48 = k by omega]
theorem compare_eq {on : Bool} {T N : PN} {f g : Nat → Int → Int} (hf : ∀ d j : Nat, d < 1461 → j < 48 → gT T d j = f d (j : Int)) (hg : ∀ d j : Nat, d < 1461 → j < 48 → gT N d j = g d (j : Int)) : ∀ k d, d + k = 1461 → cmpL on T N k d = iI (fhZ (firstH (cmH on f g) (48 * k) (48 * d)))
  | 0, d, _ => rfl
  | k + 1, d, h => by
    have hw : H48 (uW T N d &&& cOf on d) := and_48 (cOf_48 on d)
    have hb : ∀ j, j < 48 → lb (uW T N d &&& cOf on d) j = cmH on f g (48 * d + j) := fun j hj => by
      rw [lb_and, uW_bit, cOf_bit hj, cmH_eq hj, lo_eq _ (by omega), hf d j (by omega) hj, hg d j (by omega) hj, Bool.and_comm]
    rw [show 48 * (k + 1) = 48 + 48 * k by omega, firstH_48 hw (48 * d) (48 * k) hb]
    by_cases c : uW T N d &&& cOf on d = 0
    · rw [cmpL_s c, if_pos c, compare_eq hf hg k (d + 1) (by omega), show 48 * (d + 1) = 48 * d + 48 by omega]
    · rw [cmpL_t c, if_neg c, fhZ_some (low_48 hw c), lowR_eq c, iI_add]
theorem inside_eq {on : Bool} {T N : PN} {f g : Nat → Int → Int} (hf : ∀ d j : Nat, d < 1461 → j < 48 → gT T d j = f d (j : Int)) (hg : ∀ d j : Nat, d < 1461 → j < 48 → gT N d j = g d (j : Int)) (hp : ∀ d q, 0 ≤ g d q) : ∀ k d, d + k = 1461 → insL on T N k d = (firstH (inH on f g) (48 * k) (48 * d)).isNone
  | 0, d, _ => rfl
  | k + 1, d, h => by
    have hw : H48 ((aW T d &&& (aW N d ^^^ (-1))) &&& cOf on d) := and_48 (cOf_48 on d)
    have hb : ∀ j, j < 48 → lb ((aW T d &&& (aW N d ^^^ (-1))) &&& cOf on d) j = inH on f g (48 * d + j) := fun j hj => by
      rw [lb_and, lb_and, aW_bit, lb_not _ (by omega), aW_bit, cOf_bit hj, inH_eq hj, lo_eq _ (by omega), hf d j (by omega) hj, hg d j (by omega) hj]
      have h0 := hp d (j : Int)
      have e : (!(decide (¬ g d (j : Int) ≤ 0))) = decide (g d (j : Int) = 0) := by
        by_cases q : g d (j : Int) = 0
        · simp [q]
        · have : ¬ g d (j : Int) ≤ 0 := by omega
          simp [q, this]
      rw [e]
      cases lostZ on d (j : Int) <;> simp
    rw [show 48 * (k + 1) = 48 + 48 * k by omega, firstH_48 hw (48 * d) (48 * k) hb]
    by_cases c : (aW T d &&& (aW N d ^^^ (-1))) &&& cOf on d = 0
    · rw [insL_s c, if_pos c, inside_eq hf hg hp k (d + 1) (by omega), show 48 * (d + 1) = 48 * d + 48 by omega]
    · rw [insL_t c, if_neg c]
      rfl
/-- a rule decides some cell -/
theorem decL_iff {on : Bool} {N : PN} {r : Nat} (hr : r < 16) : ∀ k d, decL on N r k d = true ↔ ∃ i j : Nat, d ≤ i ∧ i < d + k ∧ j < 48 ∧ lostZ on i (j : Int) = false ∧ gT N i j = (r : Int)
  | 0, d => by
    constructor
    · intro h; cases h
    · intro ⟨i, j, h1, h2, _⟩; omega
  | k + 1, d => by
    have hw : H48 (cW N d r &&& cOf on d) := and_48 (cOf_48 on d)
    have hb : ∀ j, j < 48 → lb (cW N d r &&& cOf on d) j = (decide (gT N d j = (r : Int)) && !(lostZ on d (j : Int))) := fun j hj => by rw [lb_and, cW_bit hr hj, cOf_bit hj]
    by_cases c : cW N d r &&& cOf on d = 0
    · rw [decL_s c, decL_iff hr k (d + 1)]
      constructor
      · intro ⟨i, j, h1, h2, h3⟩
        exact ⟨i, j, by omega, by omega, h3⟩
      · intro ⟨i, j, h1, h2, h3, h4, h5⟩
        by_cases q : i = d
        · subst q
          have := (w_zero hw).mp c j h3
          rw [hb j h3, h4] at this
          simp [h5] at this
        · exact ⟨i, j, by omega, by omega, h3, h4, h5⟩
    · rw [decL_t c]
      refine ⟨fun _ => ?_, fun _ => rfl⟩
      have h1 := low_48 hw c
      obtain ⟨-, h2, -⟩ := lowK_spec c
      rw [hb _ h1] at h2
      simp only [Bool.and_eq_true, decide_eq_true_eq, Bool.not_eq_true'] at h2
      exact ⟨d, lowK (cW N d r &&& cOf on d), Nat.le_refl _, by omega, h1, h2.2, h2.1⟩
theorem tb_iff (x r : Nat) : x / 2 ^ r % 2 = 1 ↔ x.testBit r = true := by
  rw [Nat.testBit_eq_decide_div_mod_eq]
  simp
theorem usF_iff {f : Nat → Nat} {R : Nat} (hR : R ≤ 12) (hf : ∀ n, f n ≤ R) (r : Nat) : ∀ k, (usF f k).toNat / 2 ^ r % 2 = 1 ↔ ∃ n, n < k ∧ f n = r + 1
  | 0 => by
    constructor
    · intro h
      have : (0 : Nat) / 2 ^ r % 2 = 1 := h
      simp at this
    · intro ⟨n, h, _⟩; omega
  | k + 1 => by
    have ih := usF_iff hR hf r k
    have hu := (usF_bd hR hf k).1
    show (if f k = 0 then usF f k else orb (usF f k) ((f k : Int) - 1)).toNat / 2 ^ r % 2 = 1 ↔ _
    by_cases c : f k = 0
    · rw [if_pos c, ih]
      constructor
      · intro ⟨n, h1, h2⟩; exact ⟨n, by omega, h2⟩
      · intro ⟨n, h1, h2⟩
        refine ⟨n, ?_, h2⟩
        have : n ≠ k := fun q => by rw [q, c] at h2; omega
        omega
    · rw [if_neg c]
      unfold orb
      rw [Int.toNat_natCast, tb_iff, Nat.testBit_or, Nat.testBit_two_pow]
      rw [tb_iff] at ih
      constructor
      · intro h
        rw [Bool.or_eq_true] at h
        rcases h with h | h
        · obtain ⟨n, h1, h2⟩ := ih.mp h
          exact ⟨n, by omega, h2⟩
        · refine ⟨k, by omega, ?_⟩
          have := of_decide_eq_true h
          omega
      · intro ⟨n, h1, h2⟩
        rw [Bool.or_eq_true]
        by_cases q : n = k
        · right
          subst q
          exact decide_eq_true (by omega)
        · left
          exact ih.mpr ⟨n, by omega, h2⟩
theorem dead_eq {on : Bool} {N : PN} {dv : Nat → Int → Nat} {R : Nat} {i0 : Int} (hR : R ≤ 12) (hdv : ∀ d q, dv d q ≤ R) (hg : ∀ d j : Nat, d < 1461 → j < 48 → gT N d j = ((dv d (j : Int) : Nat) : Int)) : ∀ k r n, r + k = R → ddM (usF (dfM on dv) 70128) i0 k r n = ddL on N i0 k (r + 1) n
  | 0, r, n, _ => rfl
  | k + 1, r, n, h => by
    have hf : ∀ n, dfM on dv n ≤ R := fun n => by
      unfold dfM
      split
      · exact Nat.zero_le _
      · exact hdv _ _
    have hi : (usF (dfM on dv) 70128).toNat / 2 ^ r % 2 = 1 ↔ decL on N (r + 1) 1461 0 = true := by
      rw [usF_iff hR hf, decL_iff (by omega)]
      constructor
      · intro ⟨n, h1, h2⟩
        have hm : n % 48 < 48 := Nat.mod_lt _ (by decide)
        have hn : n = 48 * (n / 48) + n % 48 := by omega
        rw [hn, dfM_eq hm, lo_eq _ (by omega)] at h2
        refine ⟨n / 48, n % 48, Nat.zero_le _, by omega, hm, ?_, ?_⟩
        · cases q : lostZ on (n / 48) ((n % 48 : Nat) : Int)
          · rfl
          · rw [q, if_pos rfl] at h2; omega
        · rw [hg _ _ (by omega) hm]
          cases q : lostZ on (n / 48) ((n % 48 : Nat) : Int)
          · rw [q] at h2
            simp only [Bool.false_eq_true, if_false] at h2
            rw [h2]
          · rw [q, if_pos rfl] at h2; omega
      · intro ⟨i, j, _, h2, h3, h4, h5⟩
        refine ⟨48 * i + j, by omega, ?_⟩
        rw [dfM_eq h3, lo_eq _ (by omega), h4]
        simp only [Bool.false_eq_true, if_false]
        rw [hg i j (by omega) h3] at h5
        omega
    rw [ddM_s]
    by_cases c : decL on N (r + 1) 1461 0 = true
    · have h1 := hi.mpr c
      rw [if_neg (by omega), ddL_1 c]
      exact dead_eq hR hdv hg k (r + 1) n (by omega)
    · have h1 : ¬ (usF (dfM on dv) 70128).toNat / 2 ^ r % 2 = 1 := fun q => c (hi.mp q)
      have h2 : decL on N (r + 1) 1461 0 = false := by simpa using c
      rw [if_pos (by omega)]
      by_cases e : (n : Int) = i0
      · rw [if_pos e, ddL_2 h2 e]
        omega
      · rw [if_neg e, ddL_3 h2 e]
        exact dead_eq hR hdv hg k (r + 1) (n + 1) (by omega)
-- ===== sums =====
def smN (g : Nat → Int) : Nat → Int
  | 0 => 0
  | k + 1 => smN g k + g k
theorem sumH_skip {g : Nat → Int} : ∀ (k n m : Nat) (x : Int), sumH g (k + m) n x = sumH g m (n + k) (x + smN (fun j => g (n + j)) k)
  | 0, n, m, x => by
    rw [Nat.zero_add, Nat.add_zero]
    show _ = sumH g m n (x + 0)
    rw [Int.add_zero]
  | k + 1, n, m, x => by
    rw [show k + 1 + m = k + (m + 1) by omega, sumH_skip k n (m + 1) x]
    show sumH g m (n + k + 1) (x + smN (fun j => g (n + j)) k + g (n + k)) = sumH g m (n + (k + 1)) (x + (smN (fun j => g (n + j)) k + g (n + k)))
    rw [Int.add_assoc, Nat.add_assoc]
theorem smN_congr {f g : Nat → Int} : ∀ k, (∀ j, j < k → f j = g j) → smN f k = smN g k
  | 0, _ => rfl
  | k + 1, h => by
    show smN f k + f k = smN g k + g k
    rw [smN_congr k (fun j hj => h j (by omega)), h k (by omega)]
theorem smN_add (f g : Nat → Int) : ∀ k, smN f k + smN g k = smN (fun j => f j + g j) k
  | 0 => rfl
  | k + 1 => by
    show smN f k + f k + (smN g k + g k) = smN (fun j => f j + g j) k + (f k + g k)
    rw [← smN_add f g k]
    omega
theorem smN_0 : ∀ k, smN (fun _ => 0) k = 0
  | 0 => rfl
  | k + 1 => by
    show smN (fun _ => 0) k + 0 = 0
    rw [smN_0 k]
    rfl
theorem cnt_sm {n : Nat} (h : n < 2 ^ 64) : ∀ k, k ≤ 64 → ((cntB n k : Nat) : Int) = smN (fun j => bN (lb (lN n) j)) k
  | 0, _ => rfl
  | k + 1, hk => by
    show ((cntB n k + n / 2 ^ k % 2 : Nat) : Int) = smN (fun j => bN (lb (lN n) j)) k + bN (lb (lN n) k)
    rw [← cnt_sm h k (by omega)]
    have e : lb (lN n) k = n.testBit k := by
      unfold lb
      rw [wb_tb, BitVec.getLsbD_ofNat]
      have : k < 64 := by omega
      simp [this]
    have f : ((n / 2 ^ k % 2 : Nat) : Int) = bN (n.testBit k) := by
      rw [Nat.testBit_eq_decide_div_mod_eq]
      by_cases q : n / 2 ^ k % 2 = 1
      · simp [q, bN]
      · have : n / 2 ^ k % 2 = 0 := by omega
        simp [this, bN]
    rw [e, ← f]
    omega
theorem bc_sm {w : Int64} (hw : H48 w) : bcRaw w = iI (smN (fun j => bN (lb w j)) 48) := by
  obtain ⟨n, hn, rfl⟩ := wb_of w
  rw [bcRaw_eq hn, cnt_sm hn 64 (Nat.le_refl _)]
  have e : smN (fun j => bN (lb (lN n) j)) 64 = smN (fun j => bN (lb (lN n) j)) 48 := by
    have key : ∀ k, smN (fun j => bN (lb (lN n) j)) (48 + k) = smN (fun j => bN (lb (lN n) j)) 48 := by
      intro k
      induction k with
      | zero => rfl
      | succ k ih =>
        show smN (fun j => bN (lb (lN n) j)) (48 + k) + bN (lb (lN n) (48 + k)) = _
        rw [ih, hw (48 + k) (by omega)]
        show _ + 0 = _
        omega
    exact key 16
  rw [e]
theorem tms_eq {on : Bool} {T : PN} {f : Nat → Int → Int} {t d : Nat} (ht : t < 16) (hd : d < 1461) (hf : ∀ j : Nat, j < 48 → gT T d j = f d (j : Int)) : tmsRaw on d (cW T d t) = iI (smN (fun j => ttG on f (t : Int) (48 * d + j)) 48) := by
  have h1 : H48 (cW T d t &&& cOf on d) := and_48 (cOf_48 on d)
  have h2 : H48 (cW T d t &&& 48) := and_48' (cW_48 T d t)
  have hx := (st_at (sh := on) hd).2
  have p1 : ∀ j, j < 48 → lb (cW T d t &&& cOf on d) j = (decide (f d (j : Int) = (t : Int)) && !(lostZ on d (j : Int))) := fun j hj => by rw [lb_and, cW_bit ht hj, cOf_bit hj, hf j hj]
  have p2 : ∀ j, j < 48 → lb (cW T d t &&& 48) j = (decide (f d (j : Int) = (t : Int)) && shf (j : Int)) := fun j hj => by rw [lb_and, cW_bit ht hj, (lb_lit (j := j) (by omega)).2.2, hf j hj]
  unfold tmsRaw
  cases hb : dble on d
  · simp only [Bool.false_eq_true, if_false]
    rw [bc_sm h1]
    refine congrArg iI (smN_congr 48 fun j hj => ?_)
    rw [p1 j hj, ttG_eq hj, lo_eq _ hd, tw_eq _ hd, hb, Bool.and_false]
    by_cases q : f d (j : Int) = (t : Int)
    · cases lostZ on d (j : Int) <;> simp [q, bN]
    · cases lostZ on d (j : Int) <;> simp [q, bN]
  · simp only [if_true]
    have hl : lose on d = false := by
      cases q : lose on d
      · rfl
      · exact absurd ⟨q, hb⟩ hx
    rw [bc_sm h1, bc_sm h2, iI_add, smN_add]
    refine congrArg iI (smN_congr 48 fun j hj => ?_)
    rw [p1 j hj, p2 j hj, ttG_eq hj, lo_eq _ hd, tw_eq _ hd, hb, Bool.and_true]
    have l0 : lostZ on d (j : Int) = false := by unfold lostZ; rw [hl, Bool.and_false]
    rw [l0]
    by_cases q : f d (j : Int) = (t : Int)
    · cases shf (j : Int) <;> simp [q, bN]
    · cases shf (j : Int) <;> simp [q, bN]
theorem total_eq {on : Bool} {T : PN} {f : Nat → Int → Int} {t to1 : Nat} (ht : t < 16) (hto : to1 ≤ 1461) (hf : ∀ d j : Nat, d < 1461 → j < 48 → gT T d j = f d (j : Int)) : ∀ k d x, d + k = to1 → totL on T t k d (iI x) = iI (sumH (ttG on f (t : Int)) (48 * k) (48 * d) x)
  | 0, d, x, _ => rfl
  | k + 1, d, x, h => by
    show totL on T t k (d + 1) (iI x + tmsRaw on d (cW T d t)) = _
    rw [tms_eq ht (by omega) (fun j hj => hf d j (by omega) hj), iI_add, total_eq ht hto hf k (d + 1) _ (by omega), show 48 * (k + 1) = 48 + 48 * k by omega, sumH_skip 48 (48 * d) (48 * k) x, show 48 * (d + 1) = 48 * d + 48 by omega]
theorem sumH_0 {g : Nat → Int} (hg : ∀ n, g n = 0) : ∀ k n x, sumH g k n x = x
  | 0, _, _ => rfl
  | k + 1, n, x => by
    show sumH g k (n + 1) (x + g n) = x
    rw [hg, Int.add_zero]
    exact sumH_0 hg k (n + 1) x
