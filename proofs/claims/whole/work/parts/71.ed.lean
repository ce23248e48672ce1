-- ===== runs of a day =====
theorem rnT_0 {t c i : Int} {s : S4} (h : ¬ 0 < t) : rnT t c i s = (s.1, s.2.1, s.2.2.1, t) := by
  unfold rnT rnN
  simp only [h, false_and, if_false]
  by_cases z : t = s.2.2.2
  · rw [if_pos z, ← z]
  · rw [if_neg z]
theorem rnT_eq {t c i : Int} {s : S4} (h : t = s.2.2.2) (hn : ¬ s.1 = i) : rnT t c i s = (s.1, s.2.1, s.2.2.1, t) := by
  unfold rnT
  rw [if_pos h, if_neg (fun z => hn z.2), ← h]
theorem rnT_eqi {t c i : Int} {s : S4} (h : t = s.2.2.2) (hp : 0 < t) (hi : s.1 = i) : rnT t c i s = (s.1, s.2.1, c, t) := by
  unfold rnT
  rw [if_pos h, if_pos ⟨hp, hi⟩, ← h]
theorem rnT_new {t c i : Int} {s : S4} (h : ¬ t = s.2.2.2) (hp : 0 < t) (hn : ¬ s.1 + 1 = i) : rnT t c i s = (s.1 + 1, s.2.1, s.2.2.1, t) := by
  unfold rnT rnN
  simp only [hp, hn, if_true, if_false, and_false]
  rw [if_neg h]
theorem rnT_hit {t c i : Int} {s : S4} (h : ¬ t = s.2.2.2) (hp : 0 < t) (hi : s.1 + 1 = i) : rnT t c i s = (s.1 + 1, c, c, t) := by
  unfold rnT rnN
  simp only [hp, hi, if_true, and_true]
  rw [if_neg h]
theorem rn_C {sh : Bool} {f : Int → Int} {d : Nat} {i : Int} (hf : ∀ q, 0 ≤ f q) {q0 la : Int} : ∀ (k q : Nat) (n now : Int), q + k = 48 → rnF sh f d i q = (n, q0, la, now) → (i < n ∨ (n = i ∧ now = 0)) → (rnF sh f d i 48).2.1 = q0 ∧ (rnF sh f d i 48).2.2.1 = la
  | 0, q, n, now, h, h1, _ => by
    have e : q = 48 := by omega
    rw [← e, h1]
    exact ⟨rfl, rfl⟩
  | k + 1, q, n, now, h, h1, h3 => by
    cases hl : loF sh d (q : Int)
    · have e := rnF_s (sh := sh) (f := f) (d := d) (i := i) (c := q) hl
      have hp := hf (q : Int)
      rw [h1] at e
      by_cases p : 0 < f (q : Int)
      · by_cases c : f (q : Int) = now
        · rw [rnT_eq c (by show ¬ n = i; omega)] at e
          exact rn_C hf k (q + 1) n (f (q : Int)) (by omega) e (by omega)
        · rw [rnT_new c p (by show ¬ n + 1 = i; omega)] at e
          exact rn_C hf k (q + 1) (n + 1) (f (q : Int)) (by omega) e (by omega)
      · rw [rnT_0 p] at e
        exact rn_C hf k (q + 1) n (f (q : Int)) (by omega) e (by omega)
    · have e := rnF_l (sh := sh) (f := f) (d := d) (i := i) (c := q) hl
      exact rn_C hf k (q + 1) n now (by omega) (by rw [e]; exact h1) h3
theorem rn_B {sh : Bool} {T : PN} {f : Int → Int} {d : Nat} {i : Int} (hd : d < 1461) (hf : ∀ q, 0 ≤ f q) (hT : ∀ j : Nat, j < 48 → gT T d j = f (j : Int)) {q0 t : Int} (ht : 0 < t) : ∀ (k q : Nat) (la : Int), q + k = 48 → rnF sh f d i q = (i, q0, la, t) → (rnF sh f d i 48).2.1 = q0 ∧ (rnF sh f d i 48).2.2.1 = lrL sh T d t k q la
  | 0, q, la, h, h1 => by
    have e : q = 48 := by omega
    rw [← e, h1]
    exact ⟨rfl, rfl⟩
  | k + 1, q, la, h, h1 => by
    rw [lrL_s, ← lo_eq (q : Int) hd, hT q (by omega)]
    cases hl : loF sh d (q : Int)
    · have e := rnF_s (sh := sh) (f := f) (d := d) (i := i) (c := q) hl
      have hp := hf (q : Int)
      rw [h1] at e
      simp only [Bool.false_eq_true, if_false]
      by_cases c : f (q : Int) = t
      · rw [rnT_eqi (t := f (q : Int)) (i := i) (s := (i, q0, la, t)) c (by omega) rfl] at e
        rw [if_pos c]
        rw [c] at e
        exact rn_B hd hf hT ht k (q + 1) (q : Int) (by omega) e
      · rw [if_neg c]
        by_cases p : 0 < f (q : Int)
        · rw [rnT_new c p (by show ¬ i + 1 = i; omega)] at e
          exact rn_C hf k (q + 1) (i + 1) (f (q : Int)) (by omega) e (by omega)
        · rw [rnT_0 p] at e
          exact rn_C hf k (q + 1) i (f (q : Int)) (by omega) e (by omega)
    · have e := rnF_l (sh := sh) (f := f) (d := d) (i := i) (c := q) hl
      simp only [if_true]
      exact rn_B hd hf hT ht k (q + 1) la (by omega) (by rw [e]; exact h1)
theorem rn_A {sh : Bool} {T : PN} {f : Int → Int} {d : Nat} {i : Int} (hd : d < 1461) (hf : ∀ q, 0 ≤ f q) (hT : ∀ j : Nat, j < 48 → gT T d j = f (j : Int)) : ∀ (k q : Nat) (t : Int) (b : Nat), q + k = 48 → rnF sh f d i q = ((b : Int) - 1, -1, -1, t) → (i < 0 ∨ (b : Int) ≤ i) → (0 < t → 1 ≤ b) → 0 ≤ t →
    (frL sh T d i k q t b = -1 ∧ (rnF sh f d i 48).2.1 = -1) ∨ ∃ q0 : Nat, q0 < 48 ∧ frL sh T d i k q t b = (q0 : Int) ∧ (rnF sh f d i 48).2.1 = (q0 : Int) ∧ (rnF sh f d i 48).2.2.1 = lrL sh T d (gT T d q0) (47 - q0) (q0 + 1) (q0 : Int)
  | 0, q, t, b, h, h1, _, _, _ => by
    have e : q = 48 := by omega
    left
    rw [← e, h1]
    exact ⟨rfl, rfl⟩
  | k + 1, q, t, b, h, h1, h2, h3, h4 => by
    rw [frL_s, ← lo_eq (q : Int) hd, hT q (by omega)]
    cases hl : loF sh d (q : Int)
    · have e := rnF_s (sh := sh) (f := f) (d := d) (i := i) (c := q) hl
      have hp := hf (q : Int)
      rw [h1] at e
      simp only [Bool.false_eq_true, if_false]
      by_cases c : f (q : Int) ≤ 0
      · rw [if_pos c]
        rw [rnT_0 (by omega)] at e
        exact rn_A hd hf hT k (q + 1) (f (q : Int)) b (by omega) e h2 (fun z => absurd z (by omega)) hp
      · rw [if_neg c]
        by_cases z : f (q : Int) = t
        · rw [if_pos z]
          rw [rnT_eq z (by show ¬ (b : Int) - 1 = i; omega)] at e
          exact rn_A hd hf hT k (q + 1) (f (q : Int)) b (by omega) e h2 (fun _ => by omega) hp
        · rw [if_neg z]
          have eb : (b : Int) - 1 + 1 = (b : Int) := by omega
          by_cases y : (b : Int) = i
          · rw [if_pos y]
            rw [rnT_hit z (by omega) (by show (b : Int) - 1 + 1 = i; omega)] at e
            have e3 : rnF sh f d i (q + 1) = (i, (q : Int), (q : Int), f (q : Int)) := by
              rw [e]
              show ((b : Int) - 1 + 1, _, _, _) = _
              rw [eb, y]
            right
            refine ⟨q, by omega, rfl, ?_⟩
            have hB := rn_B (sh := sh) (T := T) hd hf hT (i := i) (q0 := (q : Int)) (t := f (q : Int)) (by omega) k (q + 1) (q : Int) (by omega) e3
            rw [hT q (by omega), show 47 - q = k by omega]
            exact hB
          · rw [if_neg y]
            rw [rnT_new z (by omega) (by show ¬ (b : Int) - 1 + 1 = i; omega)] at e
            have e2 : rnF sh f d i (q + 1) = (((b + 1 : Nat) : Int) - 1, -1, -1, f (q : Int)) := by
              rw [e]
              show ((b : Int) - 1 + 1, _, _, _) = _
              rw [show ((b + 1 : Nat) : Int) - 1 = (b : Int) - 1 + 1 by omega]
            exact rn_A hd hf hT k (q + 1) (f (q : Int)) (b + 1) (by omega) e2 (by omega) (fun _ => by omega) hp
    · have e := rnF_l (sh := sh) (f := f) (d := d) (i := i) (c := q) hl
      simp only [if_true]
      exact rn_A hd hf hT k (q + 1) t b (by omega) (by rw [e]; exact h1) h2 h3 h4
theorem run_eq {sh : Bool} {T : PN} {f : Int → Int} {d : Nat} {i wh : Int} (hd : d < 1461) (hf : ∀ q, 0 ≤ f q) (hT : ∀ j : Nat, j < 48 → gT T d j = f (j : Int)) : rnZ f (rnF sh f d i 48) wh = runF sh T d (frL sh T d i 48 0 0 0) wh := by
  have h := rn_A (sh := sh) (T := T) hd hf hT (i := i) 48 0 0 0 rfl rfl (by omega) (fun z => by omega) (Int.le_refl _)
  unfold rnZ runF
  rcases h with ⟨h1, h2⟩ | ⟨q0, h0, h1, h2, h3⟩
  · rw [h1, h2, if_pos (Or.inl rfl), if_pos rfl]
  · rw [h1, h2, h3]
    have hn : ¬ (q0 : Int) = -1 := by omega
    rw [if_neg hn]
    have e : ((q0 : Int)).toNat = q0 := by omega
    rw [e]
    by_cases w0 : wh = 0
    · rw [if_neg (by omega), if_pos w0, if_pos w0]
    · by_cases w1 : wh = 1
      · rw [if_neg (by omega), if_neg w0, if_pos w1, if_neg w0, if_pos w1]
      · by_cases w2 : wh = 2
        · rw [if_neg (by omega), if_neg w0, if_neg w1, if_neg w0, if_neg w1, if_pos w2, hT q0 h0]
        · rw [if_pos (by omega), if_neg w0, if_neg w1, if_neg w2]
