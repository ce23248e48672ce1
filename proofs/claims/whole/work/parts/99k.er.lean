/-- laying a rule over a plan: what a cell holds then -/
theorem pkp_bit {v b : Nat} {w x : Int64} {j : Nat} (h : j < 64) : lb (pkp v b w x) j = (if lb x j then decide (¬ v / 2 ^ b % 2 = 0) else lb w j) := by
  unfold pkp
  by_cases hv : v / 2 ^ b % 2 = 0
  · rw [if_pos hv, lb_and, lb_not _ h, decide_eq_false (fun q => q hv)]
    cases lb x j <;> cases lb w j <;> rfl
  · rw [if_neg hv, lb_or, decide_eq_true hv]
    cases lb x j <;> cases lb w j <;> rfl
theorem layM_bit {v : Nat} {x : Nat → Int64} {M : Nat → Nat → Int64} {b d j : Nat} (hd : d < 1461) (h : j < 64) : lb (layM v x M 1461 b d) j = (if lb (x d) j then decide (¬ v / 2 ^ b % 2 = 0) else lb (M b d) j) := by
  unfold layM
  by_cases hx : x d = 0
  · rw [if_neg (fun q => q.2 hx), hx, lb_0]
    rfl
  · rw [if_pos ⟨hd, hx⟩, pkp_bit h]
theorem nib_all : (List.range 16).all (fun v => decide (bN (decide (¬ v / 2 ^ 0 % 2 = 0)) + 2 * bN (decide (¬ v / 2 ^ 1 % 2 = 0)) + 4 * bN (decide (¬ v / 2 ^ 2 % 2 = 0)) + 8 * bN (decide (¬ v / 2 ^ 3 % 2 = 0)) = (v : Int))) = true := by decide +kernel
theorem nib_at {v : Nat} (h : v < 16) : bN (decide (¬ v / 2 ^ 0 % 2 = 0)) + 2 * bN (decide (¬ v / 2 ^ 1 % 2 = 0)) + 4 * bN (decide (¬ v / 2 ^ 2 % 2 = 0)) + 8 * bN (decide (¬ v / 2 ^ 3 % 2 = 0)) = (v : Int) :=
  of_decide_eq_true (List.all_eq_true.mp nib_all v (List.mem_range.mpr h))
theorem gT_lay {v : Nat} {x : Nat → Int64} {T : PN} {d j : Nat} (hv : v < 16) (hd : d < 1461) (h : j < 64) : gT (layM v x T 1461) d j = (if lb (x d) j then (v : Int) else gT T d j) := by
  unfold gT cnGet
  rw [layM_bit hd h, layM_bit hd h, layM_bit hd h, layM_bit hd h]
  cases lb (x d) j
  · rfl
  · exact nib_at hv
/-- whether a rule holds at a half hour, by its span and its matcher's days -/
def pvD (M : Nat → Bool) : Nat → Bool
  | 0 => false
  | d + 1 => M d
def cvP (b e : Int) (M : Nat → Bool) (d : Nat) (q : Int) : Bool := if e ≤ b then (if q < b then (if e ≤ q then false else pvD M d) else (M d || (if e ≤ q then false else pvD M d))) else (if q < b then false else (if e ≤ q then false else M d))
theorem cel_bit {f : Nat → Int64} {b e d j : Nat} (hb : b ≤ 48) (he : e ≤ 48) (hne : ¬ b = e) (hj : j < 48) : lb (cel f b e d) j = cvP (b : Int) (e : Int) (dsb f) d (j : Int) := by
  have h1 := (bel_at (m := b) (j := j) hb (by omega)).1
  have h2 := (bel_at (m := e) (j := j) he (by omega)).1
  have hp : prv f d = pvD (dsb f) d := by cases d <;> rfl
  have hs : ∀ (c : Bool) (x : Int64), lb (selL c x) j = (c && lb x j) := fun c x => by
    unfold selL
    cases c
    · rw [if_neg Bool.false_ne_true, lb_0]; rfl
    · rw [if_pos rfl]; rfl
  unfold cel
  rw [lb_or, hs, hs, hp]
  generalize dsb f = M
  unfold onD onB cvP
  rw [lb_and, lb_not _ (by omega), h1]
  by_cases c : e < b
  · rw [decide_eq_true (show (e : Int) < (b : Int) by omega), if_pos rfl, if_pos rfl, if_pos (show (e : Int) ≤ (b : Int) by omega), h2, (lb_lit (j := j) (by omega)).1, decide_eq_true hj]
    by_cases c1 : j < b
    · rw [decide_eq_true c1, if_pos (show (j : Int) < (b : Int) by omega)]
      by_cases c2 : j < e
      · rw [decide_eq_true c2, if_neg (show ¬ (e : Int) ≤ (j : Int) by omega)]
        cases M d <;> cases pvD M d <;> rfl
      · rw [decide_eq_false c2, if_pos (show (e : Int) ≤ (j : Int) by omega)]
        cases M d <;> cases pvD M d <;> rfl
    · rw [decide_eq_false c1, if_neg (show ¬ (j : Int) < (b : Int) by omega), decide_eq_false (show ¬ j < e by omega), if_pos (show (e : Int) ≤ (j : Int) by omega)]
      cases M d <;> cases pvD M d <;> rfl
  · rw [decide_eq_false (show ¬ (e : Int) < (b : Int) by omega), if_neg Bool.false_ne_true, if_neg Bool.false_ne_true, if_neg (show ¬ (e : Int) ≤ (b : Int) by omega), h2, lb_0]
    by_cases c1 : j < b
    · rw [decide_eq_true c1, if_pos (show (j : Int) < (b : Int) by omega)]
      cases M d <;> cases pvD M d <;> cases decide (j < e) <;> rfl
    · rw [decide_eq_false c1, if_neg (show ¬ (j : Int) < (b : Int) by omega)]
      by_cases c2 : j < e
      · rw [decide_eq_true c2, if_neg (show ¬ (e : Int) ≤ (j : Int) by omega)]
        cases M d <;> cases pvD M d <;> rfl
      · rw [decide_eq_false c2, if_pos (show (e : Int) ≤ (j : Int) by omega)]
        cases M d <;> cases pvD M d <;> rfl
theorem cvP_c {b e : Int} {M M' : Nat → Bool} {d : Nat} {q : Int} (hd : d < 1461) (h : ∀ i, i < 1461 → M' i = M i) : cvP b e M' d q = cvP b e M d q := by
  have h1 : pvD M' d = pvD M d := by
    cases d with
    | zero => rfl
    | succ d => exact h d (by omega)
  unfold cvP
  rw [h1, h d hd]
/-- the rules that are read, over their codes -/
def OLD (X : RT) (rl : Nat) (Mf : Nat → Nat → Bool) : Prop := ∀ r : Nat, r < rl → (0 ≤ X.cf r ∧ X.cf r ≤ X.cf (r + 1) ∧ X.cf (r + 1) ≤ X.cl) ∧ (∀ j : Nat, X.cf r ≤ (j : Int) → (j : Int) < X.cf (r + 1) → CE1 X (X.ce j)) ∧ (∀ d, d < 1461 → mtM X.cf X.ce X.kd X.fi X.se d r = Mf r d) ∧ (0 ≤ X.nt r ∧ X.nt r ≤ 9) ∧ (0 ≤ X.nb r ∧ X.nb r ≤ 48) ∧ (0 ≤ X.ne r ∧ X.ne r ≤ 48)
theorem mtM_c {cf ce kd fi se cf' ce' kd' fi' se' : Nat → Int} {d r : Nat} (h1 : cf' r = cf r) (h2 : cf' (r + 1) = cf (r + 1)) (h0 : 0 ≤ cf r ∧ cf r ≤ cf (r + 1)) (h : ∀ i : Nat, cf r ≤ (i : Int) → (i : Int) < cf (r + 1) → ce' i = ce i ∧ (ce i = 100 ∨ ce i = 101 ∨ ce i = 102 ∨ (kd' (ce i).toNat = kd (ce i).toNat ∧ fi' (ce i).toNat = fi (ce i).toNat ∧ se' (ce i).toNat = se (ce i).toNat))) : mtM cf' ce' kd' fi' se' d r = mtM cf ce kd fi se d r := by
  unfold mtM
  rw [h1, h2, mFold_c _ _ _ (fun i h3 h4 => h i (by omega) (by omega))]
theorem OLD.ext {X X' : RT} {rl : Nat} {Mf : Nat → Nat → Bool} (h : OLD X rl Mf) (hE : EXT X X') : OLD X' rl Mf := by
  intro r hr
  obtain ⟨h1, h2, h3, h4, h5, h6⟩ := h r hr
  obtain ⟨⟨e1, e2, e3, e4, e5⟩, ⟨e6, e7⟩, e8, e9⟩ := id hE
  rw [e2, e3, e4, e5]
  refine ⟨⟨h1.1, h1.2.1, by omega⟩, fun j hj hl => ?_, fun d hd => ?_, h4, h5, h6⟩
  · rw [e8 j (by omega)]
    exact (h2 j hj hl).ext hE
  · rw [← h3 d hd]
    refine mtM_c rfl rfl ⟨h1.1, h1.2.1⟩ (fun i hi hl => ⟨e8 i (by omega), ?_⟩)
    rcases h2 i hi hl with q | q | q | ⟨q1, q2, _⟩
    · exact Or.inl q
    · exact Or.inr (Or.inl q)
    · exact Or.inr (Or.inr (Or.inl q))
    · exact Or.inr (Or.inr (Or.inr (e9 _ (by omega))))
/-- one rule that is read changes the numbers of its own row alone -/
def RWX (X X' : RT) (rl : Nat) : Prop := (∀ r : Nat, r < rl → X'.nt r = X.nt r ∧ X'.nb r = X.nb r ∧ X'.ne r = X.ne r) ∧ (∀ r : Nat, r ≤ rl → X'.cf r = X.cf r) ∧ X'.ce = X.ce ∧ X'.cl = X.cl ∧ X'.an = X.an ∧ X'.kd = X.kd ∧ X'.fi = X.fi ∧ X'.se = X.se
theorem OLD.rw {X X' : RT} {rl : Nat} {Mf : Nat → Nat → Bool} (h : OLD X rl Mf) (hE : RWX X X' rl) : OLD X' rl Mf := by
  intro r hr
  obtain ⟨h1, h2, h3, h4, h5, h6⟩ := h r hr
  obtain ⟨w1, w2, w3, w4, w5, w6, w7, w8⟩ := hE
  obtain ⟨v1, v2, v3⟩ := w1 r hr
  have c1 := w2 r (by omega)
  have c2 := w2 (r + 1) (by omega)
  rw [v1, v2, v3, c1, c2, w4]
  refine ⟨h1, fun j hj hl => ?_, fun d hd => ?_, h4, h5, h6⟩
  · have := h2 j hj hl
    unfold CE1 at this ⊢
    rw [w3, w5, w6, w7, w8]
    exact this
  · rw [← h3 d hd, w3, w6, w7, w8]
    exact mtM_c c1 c2 ⟨h1.1, h1.2.1⟩ (fun i _ _ => ⟨rfl, Or.inr (Or.inr (Or.inr ⟨rfl, rfl, rfl⟩))⟩)
/-- the plan by the rules -/
def PLN (T N : PN) (nt nb ne : Nat → Int) (Mf : Nat → Nat → Bool) (rl : Nat) : Prop := ∀ d j : Nat, d < 1461 → j < 48 → gT N d j = ((decM (fun r => cvP (nb r) (ne r) (Mf r) d (j : Int)) rl : Nat) : Int) ∧ gT T d j = (if decM (fun r => cvP (nb r) (ne r) (Mf r) d (j : Int)) rl = 0 then 0 else nt (decM (fun r => cvP (nb r) (ne r) (Mf r) d (j : Int)) rl - 1))
theorem decM_c {f g : Nat → Bool} : ∀ r, (∀ i, i < r → g i = f i) → decM g r = decM f r
  | 0, _ => rfl
  | r + 1, h => by
    have ih := decM_c r (fun i hi => h i (by omega))
    have h1 := h r (by omega)
    cases hf : f r with
    | true => rw [decM_t hf, decM_t (h1.trans hf)]
    | false => rw [decM_f hf, decM_f (h1.trans hf), ih]
theorem PLN_s {T N : PN} {nt nb ne nt' nb' ne' : Nat → Int} {Mf Mf' : Nat → Nat → Bool} {rl : Nat} (h : PLN T N nt nb ne Mf rl) (hr : rl < 12) (hc : ∀ r, r < rl → nt' r = nt r ∧ nb' r = nb r ∧ ne' r = ne r ∧ ∀ d, d < 1461 → Mf' r d = Mf r d) {f : Nat → Int64} {b e t : Nat} (hb : b ≤ 48) (he : e ≤ 48) (hne : ¬ b = e) (ht : t ≤ 9) (h1 : nt' rl = (t : Int)) (h2 : nb' rl = (b : Int)) (h3 : ne' rl = (e : Int)) (h4 : ∀ d, d < 1461 → Mf' rl d = dsb f d) :
    PLN (layM t (cel f b e) T 1461) (layM (rl + 1) (cel f b e) N 1461) nt' nb' ne' Mf' (rl + 1) := by
  intro d j hd hj
  obtain ⟨g1, g2⟩ := h d j hd hj
  have hc1 : ∀ r, r < rl → cvP (nb' r) (ne' r) (Mf' r) d (j : Int) = cvP (nb r) (ne r) (Mf r) d (j : Int) := fun r hr2 => by
    obtain ⟨k1, k2, k3, k4⟩ := hc r hr2
    rw [k2, k3, cvP_c hd k4]
  have hd1 : decM (fun r => cvP (nb' r) (ne' r) (Mf' r) d (j : Int)) rl = decM (fun r => cvP (nb r) (ne r) (Mf r) d (j : Int)) rl := decM_c rl hc1
  have hn : cvP (nb' rl) (ne' rl) (Mf' rl) d (j : Int) = lb (cel f b e d) j := by
    rw [cel_bit hb he hne hj, h2, h3, cvP_c hd h4]
  have hle := decM_le (fun r => cvP (nb r) (ne r) (Mf r) d (j : Int)) rl
  rw [gT_lay (by omega) hd (by omega), gT_lay (by omega) hd (by omega)]
  cases hx : lb (cel f b e d) j with
  | true =>
    rw [decM_t (hn.trans hx)]
    rw [if_pos rfl, if_pos rfl, if_neg (Nat.succ_ne_zero rl)]
    exact ⟨rfl, by rw [Nat.add_sub_cancel, h1]⟩
  | false =>
    rw [decM_f (hn.trans hx), hd1]
    rw [if_neg Bool.false_ne_true, if_neg Bool.false_ne_true]
    refine ⟨g1, g2.trans ?_⟩
    by_cases hz : decM (fun r => cvP (nb r) (ne r) (Mf r) d (j : Int)) rl = 0
    · rw [if_pos hz, if_pos hz]
    · rw [if_neg hz, if_neg hz, (hc _ (by omega)).1]
