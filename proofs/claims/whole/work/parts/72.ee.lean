-- ===== next: both take the first later time with another tariff =====
def VP (sh : Bool) (d c : Nat) (ag : Bool) : Prop := c < 48 ∧ (ag = true → 4 ≤ c ∧ dble sh d = true) ∧ (d = 1461 → c = 0 ∧ ag = false)
/-- a place's time; of a lost one the time of the last before it -/
def tpP (sh : Bool) (d c : Nat) (ag : Bool) : Int := if lostZ sh d (c : Int) = true then stZ sh d + 3 else tmZ sh d (c : Int) ag
theorem stZ_mono {sh : Bool} {a b : Nat} (h : a ≤ b) : stZ sh a ≤ stZ sh b := by
  have h1 := stZ_bd (on := sh) (d := a)
  have h2 := stZ_bd (on := sh) (d := b)
  by_cases e : a = b
  · rw [e]; exact Int.le_refl _
  · omega
theorem nxP_t {sh : Bool} {d c : Nat} {ag : Bool} (hd : d < 1461) (hv : VP sh d c ag) : VP sh (nxP sh d c ag).1 (nxP sh d c ag).2.1 (nxP sh d c ag).2.2 ∧ (nxP sh d c ag).1 ≤ 1461 ∧ tpP sh (nxP sh d c ag).1 (nxP sh d c ag).2.1 (nxP sh d c ag).2.2 = tpP sh d c ag + (if lostZ sh (nxP sh d c ag).1 ((nxP sh d c ag).2.1 : Int) = true then 0 else 1) := by
  obtain ⟨v1, v2, -⟩ := hv
  unfold nxP
  rw [tw_5 hd]
  have hst := (st_at (sh := sh) hd).1
  by_cases h1 : c = 5 ∧ ag = false ∧ dble sh d = true
  · rw [if_pos h1]
    obtain ⟨rfl, rfl, hb⟩ := h1
    have hl : lose sh d = false := by
      rcases ld_or (sh := sh) hd with q | q
      · exact q
      · rw [hb] at q; cases q
    refine ⟨⟨by show 4 < 48; decide, fun _ => ⟨by show 4 ≤ 4; decide, hb⟩, fun z => absurd z (by show ¬ d = 1461; omega)⟩, by show d ≤ 1461; omega, ?_⟩
    unfold tpP lostZ tmZ shf
    rw [hl, hb]
    simp
    omega
  · rw [if_neg h1]
    by_cases h2 : c + 1 = 48
    · rw [if_pos h2]
      refine ⟨⟨by show 0 < 48; decide, fun z => (by cases z), fun _ => ⟨rfl, rfl⟩⟩, by show d + 1 ≤ 1461; omega, ?_⟩
      have ec : c = 47 := by omega
      subst ec
      show tpP sh (d + 1) 0 false = tpP sh d 47 ag + (if lostZ sh (d + 1) ((0 : Nat) : Int) = true then 0 else 1)
      have e1 : tpP sh (d + 1) 0 false = stZ sh (d + 1) := by
        unfold tpP lostZ tmZ shf
        simp
      have e2 : lostZ sh (d + 1) ((0 : Nat) : Int) = false := by unfold lostZ shf; simp
      rw [e1, e2, hst]
      unfold tpP lostZ tmZ shf
      rcases ld_or (sh := sh) hd with hl | hn
      · rw [hl]
        cases dble sh d <;> simp <;> omega
      · rw [hn]
        cases lose sh d <;> simp <;> omega
    · rw [if_neg h2]
      refine ⟨⟨by show c + 1 < 48; omega, fun z => ⟨by have := (v2 z).1; show 4 ≤ c + 1; omega, (v2 z).2⟩, fun z => absurd z (by show ¬ d = 1461; omega)⟩, by show d ≤ 1461; omega, ?_⟩
      show tpP sh d (c + 1) ag = tpP sh d c ag + (if lostZ sh d ((c + 1 : Nat) : Int) = true then 0 else 1)
      have hc5 : ag = false → dble sh d = true → ¬ c = 5 := fun a b e => h1 ⟨e, a, b⟩
      unfold tpP lostZ tmZ shf
      rcases ld_or (sh := sh) hd with hl | hn
      · rw [hl]
        cases hb : dble sh d
        · simp
          omega
        · cases hg : ag
          · have := hc5 hg hb
            simp only [Bool.and_false, Bool.false_eq_true, false_and, and_false, or_false, if_false, and_true]
            repeat' split
            all_goals omega
          · have := (v2 hg).1
            simp only [Bool.and_false, Bool.false_eq_true, false_and, and_false, if_false, and_true, true_and, Bool.and_eq_true, decide_eq_true_eq]
            repeat' split
            all_goals omega
      · rw [hn]
        cases lose sh d
        · simp
          omega
        · simp only [Bool.and_true, Bool.and_eq_true, decide_eq_true_eq, and_true, Bool.false_eq_true, and_false, if_false]
          repeat' split
          all_goals omega
theorem tm_rng {sh : Bool} {d c : Nat} {ag : Bool} (hd : d < 1461) (hv : VP sh d c ag) (hl : lostZ sh d (c : Int) = false) : stZ sh d ≤ tmZ sh d (c : Int) ag ∧ tmZ sh d (c : Int) ag < stZ sh (d + 1) := by
  obtain ⟨v1, v2, -⟩ := hv
  rw [(st_at (sh := sh) hd).1]
  unfold lostZ shf at hl
  unfold tmZ shf
  rcases ld_or (sh := sh) hd with q | q
  · rw [q]
    cases hb : dble sh d
    · simp
      omega
    · simp only [Bool.false_eq_true, and_false, if_false, if_true, and_true, Bool.and_eq_true, decide_eq_true_eq]
      repeat' split
      all_goals omega
  · rw [q]
    cases hb : lose sh d
    · simp
      omega
    · rw [hb] at hl
      simp only [Bool.and_true, Bool.and_eq_false_iff, decide_eq_false_iff_not] at hl
      simp only [Bool.false_eq_true, and_false, if_false, if_true, and_true]
      repeat' split
      all_goals omega
theorem tm_inj {sh : Bool} {d c e : Nat} {ag bg : Bool} (hd : d < 1461) (hv : VP sh d c ag) (hw : VP sh d e bg) (hl : lostZ sh d (c : Int) = false) (hm : lostZ sh d (e : Int) = false) (h : tmZ sh d (c : Int) ag = tmZ sh d (e : Int) bg) : c = e := by
  obtain ⟨v1, v2, -⟩ := hv
  obtain ⟨w1, w2, -⟩ := hw
  unfold lostZ shf at hl hm
  unfold tmZ shf at h
  rcases ld_or (sh := sh) hd with q | q
  · rw [q] at h
    cases hb : dble sh d
    · rw [hb] at h
      simp at h
      omega
    · rw [hb] at h
      simp only [Bool.false_eq_true, and_false, if_false, and_true, Bool.and_eq_true, decide_eq_true_eq] at h
      split at h <;> split at h <;> omega
  · rw [q] at h
    cases hb : lose sh d
    · rw [hb] at h
      simp at h
      omega
    · rw [hb] at h hl hm
      simp only [Bool.and_true, Bool.and_eq_false_iff, decide_eq_false_iff_not] at hl hm
      simp only [Bool.false_eq_true, and_false, if_false, and_true] at h
      split at h <;> split at h <;> omega
def XQ (sh : Bool) (f : Nat → Int → Int) (t t0 x : Int) : Prop := ∃ (d c : Nat) (ag : Bool), d < 1461 ∧ VP sh d c ag ∧ lostZ sh d (c : Int) = false ∧ ¬ f d (c : Int) = t ∧ tmZ sh d (c : Int) ag = x ∧ t0 < x
def NR (sh : Bool) (f : Nat → Int → Int) (t t0 r : Int) : Prop := (r = -1 ∧ ∀ x, ¬ XQ sh f t t0 x) ∨ ∃ x, XQ sh f t t0 x ∧ (∀ y, XQ sh f t t0 y → x ≤ y) ∧ r = x - t0
theorem NR_uniq {sh : Bool} {f : Nat → Int → Int} {t t0 a b : Int} (ha : NR sh f t t0 a) (hb : NR sh f t t0 b) : a = b := by
  rcases ha with ⟨h1, h2⟩ | ⟨x, h1, h2, h3⟩
  · rcases hb with ⟨g1, _⟩ | ⟨y, g1, _, _⟩
    · rw [h1, g1]
    · exact absurd g1 (h2 y)
  · rcases hb with ⟨_, g2⟩ | ⟨y, g1, g2, g3⟩
    · exact absurd h1 (g2 x)
    · have := h2 y g1
      have := g2 x h1
      omega
theorem nx_model {sh : Bool} {f : Nat → Int → Int} {t t0 : Int} : ∀ (k d c : Nat) (ag : Bool) (n : Int), d ≤ 1461 → VP sh d c ag → nxMu d c ag < k → n = tpP sh d c ag - t0 → t0 ≤ tpP sh d c ag → (∀ x, XQ sh f t t0 x → tpP sh d c ag < x) → NR sh f t t0 (nxM sh f t k d c ag n)
  | 0, d, c, ag, n, _, _, h, _, _, _ => absurd h (by omega)
  | k + 1, d, c, ag, n, hd, hv, hm, hn, ht, hX => by
    rw [nxM_s]
    by_cases h1 : 1461 ≤ d
    · rw [if_pos h1]
      left
      refine ⟨rfl, fun x hx => ?_⟩
      have h2 := hX x hx
      obtain ⟨d2, c2, a2, g1, g2, g3, g4, g5, g6⟩ := hx
      have h3 := (tm_rng g1 g2 g3).2
      have h4 : stZ sh (d2 + 1) ≤ stZ sh 1461 := stZ_mono (by omega)
      have ed : d = 1461 := by omega
      obtain ⟨rfl, rfl⟩ := hv.2.2 ed
      subst ed
      have e1 : tpP sh 1461 0 false = stZ sh 1461 := by
        unfold tpP lostZ tmZ shf
        simp
      omega
    · rw [if_neg h1]
      obtain ⟨p1, p2, p3⟩ := nxP_t (by omega) hv
      have hmu := (nxP_mu (sh := sh) (d := d) (c := c) (ag := ag) (by omega) hv.1 (fun z => (hv.2.1 z).1)).1
      generalize nxP sh d c ag = P at p1 p2 p3 hmu ⊢
      obtain ⟨d', c', a'⟩ := P
      simp only at p1 p2 p3 hmu ⊢
      by_cases h2 : 1461 ≤ d'
      · rw [if_pos h2]
        have ed : d' = 1461 := by omega
        have hl : lostZ sh d' (c' : Int) = false := by
          rw [(p1.2.2 ed).1]
          unfold lostZ shf
          simp
        rw [hl] at p3
        simp only [Bool.false_eq_true, if_false] at p3
        -- nothing comes behind the last day: the next step ends it
        have h3 : nxM sh f t k d' c' a' n = -1 := by
          cases k with
          | zero => rfl
          | succ k => rw [nxM_s, if_pos h2]
        rw [h3]
        left
        refine ⟨rfl, fun x hx => ?_⟩
        have h4 := hX x hx
        obtain ⟨d2, c2, a2, g1, g2, g3, g4, g5, g6⟩ := hx
        have h5 := (tm_rng g1 g2 g3).2
        have h6 : stZ sh (d2 + 1) ≤ stZ sh 1461 := stZ_mono (by omega)
        have e1 : tpP sh d' c' a' = stZ sh 1461 := by
          rw [ed, (p1.2.2 ed).1, (p1.2.2 ed).2]
          unfold tpP lostZ tmZ shf
          simp
        omega
      · rw [if_neg h2]
        rw [lo_eq (c' : Int) (by omega)]
        cases hl : lostZ sh d' (c' : Int)
        · rw [hl] at p3
          simp only [Bool.false_eq_true, if_false] at p3 ⊢
          have e2 : tpP sh d' c' a' = tmZ sh d' (c' : Int) a' := by unfold tpP; rw [hl]; simp
          by_cases h3 : f d' (c' : Int) = t
          · rw [if_pos h3]
            refine nx_model k d' c' a' (n + 1) p2 p1 (by omega) (by omega) (by omega) (fun x hx => ?_)
            have h4 := hX x hx
            by_cases h5 : x = tpP sh d' c' a'
            · exfalso
              obtain ⟨d2, c2, a2, g1, g2, g3, g4, g5, g6⟩ := hx
              have r1 := tm_rng (by omega) p1 hl
              have r2 := tm_rng g1 g2 g3
              have ed : d2 = d' := by
                rcases Nat.lt_trichotomy d2 d' with z | z | z
                · have := stZ_mono (sh := sh) (show d2 + 1 ≤ d' by omega)
                  omega
                · exact z
                · have := stZ_mono (sh := sh) (show d' + 1 ≤ d2 by omega)
                  omega
              subst ed
              have ec := tm_inj g1 g2 p1 g3 hl (by omega)
              subst ec
              exact g4 h3
            · omega
          · rw [if_neg h3]
            right
            refine ⟨tmZ sh d' (c' : Int) a', ⟨d', c', a', by omega, p1, hl, h3, rfl, by omega⟩, fun y hy => ?_, by omega⟩
            have := hX y hy
            omega
        · rw [hl] at p3
          simp only [if_true] at p3 ⊢
          exact nx_model k d' c' a' n p2 p1 (by omega) (by omega) (by omega) (fun x hx => by have := hX x hx; omega)
theorem bel_all : (List.range 49).all (fun m => (List.range 64).all (fun j => decide (lb (cBel m) j = decide (j < m)) && decide (lb ((1 : Int64) <<< ((iI ((m : Int))).toInt64 &&& 63)) j = decide (j = m)))) = true := by decide +kernel
theorem bel_at {m j : Nat} (hm : m ≤ 48) (hj : j < 64) : lb (cBel m) j = decide (j < m) ∧ lb ((1 : Int64) <<< ((iI ((m : Int))).toInt64 &&& 63)) j = decide (j = m) := by
  have h1 := List.all_eq_true.mp bel_all m (List.mem_range.mpr (by omega))
  have h2 := List.all_eq_true.mp h1 j (List.mem_range.mpr hj)
  simpa only [Bool.and_eq_true, decide_eq_true_eq] using h2
theorem cBeh_bit {on : Bool} {d q j : Nat} (hq : q < 48) (hj : j < 48) : lb (cBeh on d q) j = ((!(lostZ on d (j : Int)) && decide (q < j)) || ((shf (q : Int) && dble on d) && (shf (j : Int) && decide (¬ j = q)))) := by
  have h1 := (bel_at (m := q + 1) (j := j) (by omega) (by omega)).1
  have h2 := (bel_at (m := q) (j := j) (by omega) (by omega)).2
  have e : (!(decide (j < q + 1))) = decide (q < j) := by
    by_cases z : q < j
    · have : ¬ j < q + 1 := by omega
      simp [z, this]
    · have : j < q + 1 := by omega
      simp [z, this]
  unfold cBeh
  cases hb : (shf (q : Int) && dble on d)
  · simp only [Bool.false_eq_true, if_false, Bool.false_and, Bool.or_false]
    rw [lb_and, cOf_bit hj, lb_not _ (by omega), h1, e]
  · simp only [if_true, Bool.true_and]
    rw [lb_or, lb_and, cOf_bit hj, lb_not _ (by omega), h1, e, lb_and, (lb_lit (j := j) (by omega)).2.2, lb_not _ (by omega), h2]
    by_cases z : j = q
    · simp [z]
    · simp [z]
theorem nxL_spec {on : Bool} {T : PN} {t : Nat} : ∀ (k d : Nat) (w : Int64), d + k = 1460 → d ≤ (nxL on T t k d w).1 ∧ (nxL on T t k d w).1 ≤ 1460 ∧ ((nxL on T t k d w).1 = d → (nxL on T t k d w).2 = w) ∧ (d < (nxL on T t k d w).1 → w = 0 ∧ (nxL on T t k d w).2 = nxW on T t (nxL on T t k d w).1) ∧ (∀ i, d < i → i < (nxL on T t k d w).1 → nxW on T t i = 0) ∧ ((nxL on T t k d w).2 = 0 → (nxL on T t k d w).1 = 1460)
  | 0, d, w, h => ⟨Nat.le_refl _, by show d ≤ 1460; omega, fun _ => rfl, fun z => absurd z (by show ¬ d < d; omega), fun i h1 h2 => absurd h2 (by show ¬ i < d; omega), fun _ => by show d = 1460; omega⟩
  | k + 1, d, w, h => by
    by_cases c : w = 0
    · rw [nxL_s c]
      obtain ⟨h1, h2, h3, h4, h5, h6⟩ := nxL_spec (on := on) (T := T) (t := t) k (d + 1) (nxW on T t (d + 1)) (by omega)
      refine ⟨by omega, h2, fun z => absurd z (by omega), fun _ => ⟨c, ?_⟩, fun i q1 q2 => ?_, h6⟩
      · by_cases e : (nxL on T t k (d + 1) (nxW on T t (d + 1))).1 = d + 1
        · rw [h3 e, e]
        · exact (h4 (by omega)).2
      · by_cases e : i = d + 1
        · rw [e]
          exact (h4 (by omega)).1
        · exact h5 i (by omega) q2
    · rw [nxL_e c]
      exact ⟨Nat.le_refl _, by show d ≤ 1460; omega, fun _ => rfl, fun z => absurd z (by show ¬ d < d; omega), fun i h1 h2 => absurd h2 (by show ¬ i < d; omega), fun z => absurd z c⟩
theorem nx_class {on : Bool} {T : PN} {f : Nat → Int → Int} {d q tn : Nat} (hd : d < 1461) (hq : q < 48) (ht : tn < 16) (hf : ∀ d j : Nat, d < 1461 → j < 48 → gT T d j = f d (j : Int)) (hl : lostZ on d (q : Int) = false) (he : f d (q : Int) = (tn : Int)) : NR on f (tn : Int) (tmZ on d (q : Int) false) (nxZ on d q (nxL on T tn (1460 - d) d (cBeh on d q &&& (cW T d tn ^^^ (-1))))) := by
  obtain ⟨s1, s2, s3, s4, s5, s6⟩ := nxL_spec (on := on) (T := T) (t := tn) (1460 - d) d (cBeh on d q &&& (cW T d tn ^^^ (-1))) (by omega)
  generalize nxL on T tn (1460 - d) d (cBeh on d q &&& (cW T d tn ^^^ (-1))) = R at s1 s2 s3 s4 s5 s6 ⊢
  obtain ⟨fd, w⟩ := R
  simp only at s1 s2 s3 s4 s5 s6
  have hv0 : VP on d q false := ⟨hq, fun z => (by cases z), fun z => absurd z (by omega)⟩
  have b0 : ∀ j, j < 48 → lb (cBeh on d q &&& (cW T d tn ^^^ (-1))) j = (((!(lostZ on d (j : Int)) && decide (q < j)) || ((shf (q : Int) && dble on d) && (shf (j : Int) && decide (¬ j = q)))) && !(decide (f d (j : Int) = (tn : Int)))) := fun j hj => by
    rw [lb_and, cBeh_bit hq hj, lb_not _ (by omega), cW_bit ht hj, hf d j hd hj]
  have b1 : ∀ i j, i < 1461 → j < 48 → lb (nxW on T tn i) j = (!(lostZ on i (j : Int)) && !(decide (f i (j : Int) = (tn : Int)))) := fun i j hi hj => by
    unfold nxW
    rw [lb_and, cOf_bit hj, lb_not _ (by omega), cW_bit ht hj, hf i j hi hj]
  have h48 : H48 w := fun j hj => by
    by_cases e : fd = d
    · rw [s3 e, lb_and, cBeh_hi hj]
      rfl
    · rw [(s4 (by omega)).2]
      exact nxW_hi hj
  have hx := ld_or (sh := on) hd
  -- a later time of the same day has its bit
  have hbit : ∀ (c : Nat) (ag : Bool), VP on d c ag → lostZ on d (c : Int) = false → ¬ f d (c : Int) = (tn : Int) → tmZ on d (q : Int) false < tmZ on d (c : Int) ag → lb (cBeh on d q &&& (cW T d tn ^^^ (-1))) c = true ∧ (c < q → tmZ on d (q : Int) false + 1 ≤ tmZ on d (c : Int) ag ∧ c = 4 ∧ q = 5 ∧ dble on d = true) := by
    intro c ag hv hlc hne hlt
    have hcq : ¬ c = q := fun z => hne (by rw [z]; exact he)
    have key : c < q → c = 4 ∧ q = 5 ∧ dble on d = true := by
      intro hc
      obtain ⟨v1, v2, -⟩ := hv
      unfold lostZ shf at hl hlc
      unfold tmZ shf at hlt
      rcases hx with z | z
      · rw [z] at hlt
        cases hb : dble on d
        · rw [hb] at hlt
          simp at hlt
          omega
        · rw [hb] at hlt
          cases hg : ag
          · rw [hg] at hlt
            simp only [Bool.false_eq_true, and_false, false_and, or_false, if_false, and_true] at hlt
            split at hlt <;> split at hlt <;> omega
          · rw [hg] at hlt
            have h4 := (v2 hg).1
            simp only [Bool.false_eq_true, and_false, false_and, or_false, if_false, and_true, true_and, Bool.and_eq_true, decide_eq_true_eq] at hlt
            refine ⟨?_, ?_, rfl⟩
            · split at hlt <;> split at hlt <;> omega
            · split at hlt <;> split at hlt <;> omega
      · rw [z] at hlt
        cases hb : lose on d
        · rw [hb] at hlt
          simp at hlt
          omega
        · rw [hb] at hlt hl hlc
          simp only [Bool.and_true, Bool.and_eq_false_iff, decide_eq_false_iff_not] at hl hlc
          simp only [Bool.false_eq_true, and_false, if_false, and_true] at hlt
          split at hlt <;> split at hlt <;> omega
    refine ⟨?_, fun hc => ⟨by omega, key hc⟩⟩
    rw [b0 c hv.1]
    have e1 : (!(decide (f d (c : Int) = (tn : Int)))) = true := by simp [hne]
    rw [e1, Bool.and_true, hlc]
    by_cases z : q < c
    · simp [z]
    · obtain ⟨k1, k2, k3⟩ := key (by omega)
      subst k1 k2
      rw [k3]
      decide
  unfold nxZ
  simp only
  by_cases c : w = 0
  · rw [if_pos c]
    left
    refine ⟨rfl, fun x hx9 => ?_⟩
    obtain ⟨d2, c2, a2, g1, g2, g3, g4, g5, g6⟩ := hx9
    have r2 := tm_rng g1 g2 g3
    have r0 := tm_rng hd hv0 hl
    by_cases e : d2 = d
    · subst e
      have hb := (hbit c2 a2 g2 g3 g4 (by omega)).1
      have hz : cBeh on d2 q &&& (cW T d2 tn ^^^ (-1)) = 0 := by
        by_cases e2 : fd = d2
        · rw [← s3 e2]; exact c
        · exact (s4 (by omega)).1
      rw [hz, lb_0] at hb
      cases hb
    · have hgt : d < d2 := by
        rcases Nat.lt_trichotomy d2 d with z | z | z
        · have := stZ_mono (sh := on) (show d2 + 1 ≤ d by omega)
          omega
        · exact absurd z e
        · exact z
      have hfd : fd = 1460 := s6 c
      have hz : nxW on T tn d2 = 0 := by
        by_cases e2 : d2 = fd
        · rw [e2, ← (s4 (by omega)).2]; exact c
        · exact s5 d2 hgt (by omega)
      have hb := b1 d2 c2 g1 g2.1
      rw [hz, lb_0, g3] at hb
      simp [g4] at hb
  · rw [if_neg c]
    have k48 := low_48 h48 c
    obtain ⟨-, kb, kl⟩ := lowK_spec c
    generalize lowK w = k0 at k48 kb kl ⊢
    right
    by_cases e : fd = d
    · subst e
      rw [s3 rfl] at kb kl
      have hb := b0 k0 k48
      rw [kb] at hb
      simp only [decide_true, Bool.true_and]
      have hb2 : (((!(lostZ on fd (k0 : Int)) && decide (q < k0)) || ((shf (q : Int) && dble on fd) && (shf (k0 : Int) && decide (¬ k0 = q)))) = true) ∧ ¬ f fd (k0 : Int) = (tn : Int) := by
        have := hb.symm
        simp only [Bool.and_eq_true, Bool.not_eq_true', decide_eq_false_iff_not] at this
        exact this
      obtain ⟨hb3, hne⟩ := hb2
      by_cases hk : k0 < q
      · -- the second of two
        have h4 : (shf (q : Int) && dble on fd) = true ∧ (shf (k0 : Int) && decide (¬ k0 = q)) = true := by
          have z : ¬ q < k0 := by omega
          simp only [z, decide_false, Bool.and_false, Bool.false_or, Bool.and_eq_true] at hb3 ⊢
          exact hb3
        have hdb : dble on fd = true := by
          have := h4.1
          simp only [Bool.and_eq_true] at this
          exact this.2
        have hq5 : q = 5 ∧ k0 = 4 := by
          have z1 := h4.1
          have z2 := h4.2
          unfold shf at z1 z2
          simp only [Bool.and_eq_true, decide_eq_true_eq] at z1 z2
          omega
        obtain ⟨rfl, rfl⟩ := hq5
        have hlf : lose on fd = false := by
          rcases hx with z | z
          · exact z
          · rw [hdb] at z; cases z
        have e1 : tmZ on fd ((4 : Nat) : Int) true = stZ on fd + 6 := by
          unfold tmZ shf
          rw [hdb, hlf]
          simp
          omega
        have e2 : tmZ on fd ((5 : Nat) : Int) false = stZ on fd + 5 := by
          unfold tmZ shf
          rw [hdb, hlf]
          simp
        have e3 : decide (((4 : Nat) : Int) < ((5 : Nat) : Int)) = true := by decide
        rw [e3]
        refine ⟨tmZ on fd ((4 : Nat) : Int) true, ⟨fd, 4, true, hd, ⟨by decide, fun _ => ⟨by decide, hdb⟩, fun z => absurd z (by omega)⟩, by unfold lostZ; rw [hlf, Bool.and_false], hne, rfl, by omega⟩, fun y hy => ?_, rfl⟩
        obtain ⟨d2, c2, a2, g1, g2, g3, g4, g5, g6⟩ := hy
        omega
      · have hkq : q < k0 := by
          rcases Nat.lt_trichotomy k0 q with z | z | z
          · exact absurd z hk
          · exact absurd (by rw [z]; exact he) hne
          · exact z
        have hlk : lostZ on fd (k0 : Int) = false := by
          rcases hx with z | z
          · unfold lostZ; rw [z, Bool.and_false]
          · rw [z] at hb3
            simp only [Bool.and_false, Bool.false_and, Bool.or_false, Bool.and_eq_true, Bool.not_eq_true'] at hb3
            exact hb3.1
        have e3 : decide ((k0 : Int) < (q : Int)) = false := decide_eq_false (by omega)
        rw [e3]
        have hvk : VP on fd k0 false := ⟨k48, fun z => (by cases z), fun z => absurd z (by omega)⟩
        have hmono : ∀ (c2 : Nat) (a2 : Bool), VP on fd c2 a2 → lostZ on fd (c2 : Int) = false → k0 ≤ c2 → tmZ on fd (k0 : Int) false ≤ tmZ on fd (c2 : Int) a2 := by
          intro c2 a2 w2 hl2 hle
          unfold lostZ shf at hl2 hlk
          unfold tmZ shf
          rcases hx with z | z
          · rw [z]
            cases hdz : dble on fd
            · simp only [Bool.false_eq_true, and_false, if_false]
              omega
            · simp only [Bool.false_eq_true, and_false, if_false, false_and, or_false, and_true]
              repeat' split
              all_goals omega
          · rw [z]
            cases hz : lose on fd
            · simp only [Bool.false_eq_true, and_false, if_false]
              omega
            · rw [hz] at hl2 hlk
              simp only [Bool.and_true, Bool.and_eq_false_iff, decide_eq_false_iff_not] at hl2 hlk
              simp only [Bool.false_eq_true, and_false, if_false, and_true]
              repeat' split
              all_goals omega
        have hlt : tmZ on fd (q : Int) false < tmZ on fd (k0 : Int) false := by
          have h1 : tmZ on fd (q : Int) false ≠ tmZ on fd (k0 : Int) false := fun z => by
            have := tm_inj hd hv0 hvk hl hlk z
            omega
          have h2 : tmZ on fd (q : Int) false ≤ tmZ on fd (k0 : Int) false := by
            unfold lostZ shf at hl hlk
            unfold tmZ shf
            rcases hx with z | z
            · rw [z]
              cases hdz : dble on fd
              · simp only [Bool.false_eq_true, and_false, if_false]
                omega
              · simp only [Bool.false_eq_true, and_false, if_false, false_and, or_false, and_true]
                repeat' split
                all_goals omega
            · rw [z]
              cases hz : lose on fd
              · simp only [Bool.false_eq_true, and_false, if_false]
                omega
              · rw [hz] at hl hlk
                simp only [Bool.and_true, Bool.and_eq_false_iff, decide_eq_false_iff_not] at hl hlk
                simp only [Bool.false_eq_true, and_false, if_false, and_true]
                repeat' split
                all_goals omega
          omega
        refine ⟨tmZ on fd (k0 : Int) false, ⟨fd, k0, false, hd, hvk, hlk, hne, rfl, hlt⟩, fun y hy => ?_, rfl⟩
        obtain ⟨d2, c2, a2, g1, g2, g3, g4, g5, g6⟩ := hy
        have r2 := tm_rng g1 g2 g3
        have rk := tm_rng hd hvk hlk
        by_cases ed : d2 = fd
        · subst ed
          have hb9 := hbit c2 a2 g2 g3 g4 (by omega)
          have hge : k0 ≤ c2 := by
            apply Classical.byContradiction
            intro z
            have := kl c2 (by omega)
            rw [hb9.1] at this
            cases this
          have := hmono c2 a2 g2 g3 hge
          omega
        · rcases Nat.lt_trichotomy d2 fd with z | z | z
          · have := stZ_mono (sh := on) (show d2 + 1 ≤ fd by omega)
            have r0 := tm_rng hd hv0 hl
            omega
          · exact absurd z ed
          · have := stZ_mono (sh := on) (show fd + 1 ≤ d2 by omega)
            omega
    · have hlt : d < fd := by omega
      obtain ⟨hw0, hw⟩ := s4 hlt
      rw [hw] at kb kl
      have hb := b1 fd k0 (by omega) k48
      rw [kb] at hb
      have hb2 : lostZ on fd (k0 : Int) = false ∧ ¬ f fd (k0 : Int) = (tn : Int) := by
        have := hb.symm
        simp only [Bool.and_eq_true, Bool.not_eq_true', decide_eq_false_iff_not] at this
        exact this
      have e0 : decide (fd = d) = false := decide_eq_false (by omega)
      rw [e0, Bool.false_and]
      have hvk : VP on fd k0 false := ⟨k48, fun z => (by cases z), fun z => absurd z (by omega)⟩
      have r0 := tm_rng hd hv0 hl
      have rk := tm_rng (by omega) hvk hb2.1
      have hst := stZ_mono (sh := on) (show d + 1 ≤ fd by omega)
      refine ⟨tmZ on fd (k0 : Int) false, ⟨fd, k0, false, by omega, hvk, hb2.1, hb2.2, rfl, by omega⟩, fun y hy => ?_, rfl⟩
      obtain ⟨d2, c2, a2, g1, g2, g3, g4, g5, g6⟩ := hy
      have r2 := tm_rng g1 g2 g3
      by_cases ed : d2 = fd
      · subst ed
        have hb9 := b1 d2 c2 g1 g2.1
        have hge : k0 ≤ c2 := by
          apply Classical.byContradiction
          intro z
          have := kl c2 (by omega)
          rw [this, g3] at hb9
          simp [g4] at hb9
        have hl2 := g3
        have hlk := hb2.1
        have hy2 := ld_or (sh := on) g1
        have hm : tmZ on d2 (k0 : Int) false ≤ tmZ on d2 (c2 : Int) a2 := by
          unfold lostZ shf at hl2 hlk
          unfold tmZ shf
          rcases hy2 with z | z
          · rw [z]
            cases hdz : dble on d2
            · simp only [Bool.false_eq_true, and_false, if_false]
              omega
            · simp only [Bool.false_eq_true, and_false, if_false, false_and, or_false, and_true]
              repeat' split
              all_goals omega
          · rw [z]
            cases hz : lose on d2
            · simp only [Bool.false_eq_true, and_false, if_false]
              omega
            · rw [hz] at hl2 hlk
              simp only [Bool.and_true, Bool.and_eq_false_iff, decide_eq_false_iff_not] at hl2 hlk
              simp only [Bool.false_eq_true, and_false, if_false, and_true]
              repeat' split
              all_goals omega
        omega
      · rcases Nat.lt_trichotomy d2 fd with z | z | z
        · by_cases e2 : d2 = d
          · subst e2
            have hb9 := (hbit c2 a2 g2 g3 g4 (by omega)).1
            rw [hw0, lb_0] at hb9
            cases hb9
          · by_cases e3 : d2 < d
            · have := stZ_mono (sh := on) (show d2 + 1 ≤ d by omega)
              omega
            · have hz := s5 d2 (by omega) z
              have hb9 := b1 d2 c2 g1 g2.1
              rw [hz, lb_0, g3] at hb9
              simp [g4] at hb9
        · exact absurd z ed
        · have := stZ_mono (sh := on) (show fd + 1 ≤ d2 by omega)
          omega
theorem next_eq {on : Bool} {T : PN} {f : Nat → Int → Int} {d q : Nat} (hd : d < 1461) (hq : q < 48) (hb : ∀ d q, 0 ≤ f d q ∧ f d q ≤ 9) (hf : ∀ d j : Nat, d < 1461 → j < 48 → gT T d j = f d (j : Int)) : (if loF on d (q : Int) = true then -1 else nxM on f (f d (q : Int)) (nxMu d q false + 1) d q false 0) = (if lostZ on d (q : Int) = true then -1 else nxZ on d q (nxL on T (gT T d q).toNat (1460 - d) d (cBeh on d q &&& (cW T d (gT T d q).toNat ^^^ (-1))))) := by
  rw [lo_eq _ hd]
  cases hl : lostZ on d (q : Int)
  · simp only [Bool.false_eq_true, if_false]
    have h9 := hb d (q : Int)
    rw [hf d q hd hq]
    obtain ⟨tn, htn⟩ : ∃ tn : Nat, (tn : Int) = f d (q : Int) := ⟨(f d (q : Int)).toNat, by omega⟩
    rw [← htn, Int.toNat_natCast]
    have hv0 : VP on d q false := ⟨hq, fun z => (by cases z), fun z => absurd z (by omega)⟩
    have e : tpP on d q false = tmZ on d (q : Int) false := by unfold tpP; rw [hl]; simp
    refine NR_uniq (nx_model (nxMu d q false + 1) d q false 0 (by omega) hv0 (by omega) (by omega) (by omega) (fun x hx => ?_)) (nx_class hd hq (by omega) hf hl htn.symm)
    obtain ⟨_, _, _, _, _, _, _, _, h⟩ := hx
    omega
  · simp only [if_true]
