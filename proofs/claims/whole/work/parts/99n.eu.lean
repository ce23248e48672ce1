theorem stM_bit (P : Nat → Bool) (i : Nat) : ∀ r, (stM P r).toNat.testBit i = (decide (i < r) && P i)
  | 0 => by
    rw [decide_eq_false (Nat.not_lt_zero i), Bool.false_and]
    exact Nat.zero_testBit i
  | r + 1 => by
    have ih := stM_bit P i r
    show (if P r = true then orb (stM P r) (r : Int) else stM P r).toNat.testBit i = _
    cases hp : P r with
    | true =>
      rw [if_pos rfl]
      unfold orb
      rw [Int.toNat_natCast, Nat.testBit_or, ih, Int.toNat_natCast, Nat.testBit_two_pow]
      by_cases h : r = i
      · subst h
        rw [hp, decide_eq_true rfl, Bool.or_true, decide_eq_true (Nat.lt_succ_self r)]
        rfl
      · rw [decide_eq_false h, Bool.or_false]
        congr 1
        exact decide_eq_decide.mpr (by omega)
    | false =>
      rw [if_neg Bool.false_ne_true, ih]
      by_cases h : r = i
      · subst h; rw [hp, Bool.and_false, Bool.and_false]
      · congr 1
        exact decide_eq_decide.mpr (by omega)
theorem cpG_in {g : Nat → Int} {b : Nat} {f : Nat → Int} {r i : Nat} (h : i < r) : cpG g b f r (b + i) = f i := by
  unfold cpG
  rw [if_pos (by omega), show b + i - b = i by omega]
theorem cpG_out {g : Nat → Int} {b : Nat} {f : Nat → Int} {r j : Nat} (h : j < b ∨ b + r ≤ j) : cpG g b f r j = g j := by
  unfold cpG
  rw [if_neg (by omega)]
theorem isM_c {mM mM' : Nat → Int} {c : Nat} {z : Int} {r : Nat} (h : 0 ≤ z → mM' (1461 * c + z.toNat) = mM (1461 * c + z.toNat)) : isM mM' c z r = isM mM c z r := by
  unfold isM
  by_cases hz : 0 ≤ z
  · rw [h hz]
  · rw [decide_eq_false hz]; rfl
theorem isM_new {mM : Nat → Int} {cc : Nat} {Q : Nat → Nat → Bool} {rl d r : Nat} (hd : d < 1461) (hr : r < rl) : isM (cpG mM (1461 * cc) (fun d => stM (Q d) rl) 1461) cc (d : Int) r = Q d r := by
  unfold isM
  rw [decide_eq_true (show (0 : Int) ≤ (d : Int) by omega), Bool.true_and, Int.toNat_natCast, cpG_in hd, ← Nat.testBit_eq_decide_div_mod_eq, stM_bit, decide_eq_true hr, Bool.true_and]
theorem isM_neg {mM : Nat → Int} {c : Nat} {z : Int} {r : Nat} (h : z < 0) : isM mM c z r = false := by
  unfold isM
  rw [decide_eq_false (by omega)]; rfl
theorem ite_b (b : Bool) : (if b = true then true else false) = b := by cases b <;> rfl
theorem covF_cv {mB mE mM : Nat → Int} {cc d : Nat} {q : Int} {rn : Nat} {b e : Int} {M : Nat → Bool} (h1 : mB (12 * cc + rn) = b) (h2 : mE (12 * cc + rn) = e) (h3 : isM mM cc (d : Int) rn = M d) (h4 : isM mM cc ((d : Int) - 1) rn = pvD M d) : covF mB mE mM cc d q rn = cvP b e M d q := by
  unfold covF cvP
  rw [h1, h2, h3, h4, ite_b, ite_b]
  cases M d <;> rfl
theorem covF_c {mB mE mM mB' mE' mM' : Nat → Int} {c d : Nat} {q : Int} {rn : Nat} (h1 : mB' (12 * c + rn) = mB (12 * c + rn)) (h2 : mE' (12 * c + rn) = mE (12 * c + rn)) (h3 : isM mM' c (d : Int) rn = isM mM c (d : Int) rn) (h4 : isM mM' c ((d : Int) - 1) rn = isM mM c ((d : Int) - 1) rn) : covF mB' mE' mM' c d q rn = covF mB mE mM c d q rn := by
  unfold covF
  rw [h1, h2, h3, h4]
theorem sWaT (wa : Int) (ex ab co : Nat → Int) (X : RT) (v : Int) : MS.sWa ((wa, ex, ab, co, X) : MS) v = ((v, ex, ab, co, X) : MS) := rfl
theorem raI_mk (wa : Int) (ex ab co : Nat → Int) (X : RT) : raI ((wa, ex, ab, co, X) : MS) = (((0 : Int) + 1, updZ ex (0 : Int).toNat 0, updZ ab (0 : Int).toNat 0, updZ co (0 : Int).toNat 0, mkR 0 X.nt X.nb X.ne (updZ X.cf 0 0) X.ce 0 0 X.kd X.fi X.se) : MS) := by
  unfold raI
  rw [sWaT, sRrT, cfT, sCfT, sClT, sAnT, pushT]
  rfl
section PRS
variable {tx : Nat → Int} {n : Nat}
theorem inv_0 {X : RT} (hN : NBO X) (rs : RS) : INV 0 (mkR 0 X.nt X.nb X.ne (updZ X.cf 0 0) X.ce 0 0 X.kd X.fi X.se) (rdI rs) 0 (fun _ _ => false) := by
  refine ⟨rfl, ⟨⟨(show (0 : Int) ≤ 0 by decide), (show (0 : Int) ≤ 12 by decide)⟩, ⟨(show (0 : Int) ≤ 0 by decide), (show (0 : Int) ≤ 108 by decide)⟩, ⟨(show (0 : Int) ≤ 0 by decide), (show (0 : Int) ≤ 58 by decide)⟩, hN.1, hN.2⟩, (show (0 : Int) ≤ ((0 : Nat) : Int) by decide), (show 2 * (0 : Int) ≤ ((0 : Nat) : Int) by decide), (show updZ X.cf 0 0 0 = (0 : Int) from updZ_y), fun r h => absurd h (Nat.not_lt_zero r), rfl, fun d j hd hj => ?_⟩
  have hg : gT (fun _ => zW) d j = 0 := by
    unfold gT cnGet
    rw [lb_0]
    rfl
  exact ⟨hg, hg⟩
theorem parse_R (htx : ∀ j, 0 ≤ tx j ∧ tx j ≤ 126) (hn : n ≤ 100) (ms : MS) (rs : RS) (hN : NBO ms.2.2.2.2) :
    ((rdF tx n 12 (rdI rs)).1 = false → ∃ (kf : Nat) (mf : MS), RunsTo tx n (rdF tx n 12 (rdI rs)).2.1 mf kf 0 (raI ms) ∧ NBO mf.2.2.2.2) ∧
    ((rdF tx n 12 (rdI rs)).1 = true → ∃ (kf : Nat) (mf : MS), RunsTo tx n (-1) mf kf 0 (raI ms) ∧ ∃ (rl : Nat) (Mf : Nat → Nat → Bool), INV n mf.2.2.2.2 (rdF tx n 12 (rdI rs)).2 rl Mf ∧ 0 < rl) := by
  obtain ⟨wa, ex, ab, co, X⟩ := ms
  rw [raI_mk]
  have hS : SKL ((0 : Int) + 1) (updZ ex (0 : Int).toNat 0) (updZ ab (0 : Int).toNat 0) (updZ co (0 : Int).toNat 0) [(0, 0, 0)] := SKL.push (L := []) ⟨rfl, fun i q h => by rw [List.reverse_nil] at h; exact absurd h (by rw [List.getElem?_nil]; exact fun q => nomatch q)⟩ 0 0 0
  have h1 := fun (res : Int) (Z : RT → Prop) => rd_go (res := res) (Z := Z) htx hn 11 0 _ (rdI rs) 0 _ (inv_0 hN rs) rfl (Nat.zero_le n) rfl
  refine ⟨fun h => ?_, fun h => ?_⟩
  · exact (h1 (rdF tx n 12 (rdI rs)).2.1 NBO).1 h rfl (fun Y hY => hY) _ _ _ _ hS
  · exact (h1 (-1) (fun X' => ∃ (rl : Nat) (Mf : Nat → Nat → Bool), INV n X' (rdF tx n 12 (rdI rs)).2 rl Mf ∧ 0 < rl)).2 h rfl (fun X' rl' Mf' hI hr => ⟨rl', Mf', hI, hr⟩) _ _ _ _ hS
end PRS
/-- what sy_compile wants of a text that is good -/
theorem inv_out {n : Nat} (hn : n ≤ 100) {X : RT} {q : RS} {rl : Nat} {Mf : Nat → Nat → Bool} (h : INV n X q rl Mf) : (X.rr = (rl : Int) ∧ rl ≤ 12) ∧ rsL q = rl ∧ NBO X ∧ (∀ r : Nat, r < rl → RK X.cf X.ce X.kd X.fi X.se r) ∧ (∀ r : Nat, r < rl → (0 ≤ X.nt r ∧ X.nt r ≤ 9) ∧ (0 ≤ X.nb r ∧ X.nb r ≤ 48) ∧ (0 ≤ X.ne r ∧ X.ne r ≤ 48)) ∧
    (∀ (cc : Nat) (mT mB mE mM : Nat → Int) (d j : Nat), d < 1461 → j < 48 → gT (rsN q) d j = ((decM (covF (cpG mB (12 * cc) X.nb rl) (cpG mE (12 * cc) X.ne rl) (cpG mM (1461 * cc) (fun d => stM (mtM X.cf X.ce X.kd X.fi X.se d) rl) 1461) cc d (j : Int)) rl : Nat) : Int) ∧
      gT (rsT q) d j = (if decM (covF (cpG mB (12 * cc) X.nb rl) (cpG mE (12 * cc) X.ne rl) (cpG mM (1461 * cc) (fun d => stM (mtM X.cf X.ce X.kd X.fi X.se d) rl) 1461) cc d (j : Int)) rl = 0 then 0 else cpG mT (12 * cc) X.nt rl (12 * cc + decM (covF (cpG mB (12 * cc) X.nb rl) (cpG mE (12 * cc) X.ne rl) (cpG mM (1461 * cc) (fun d => stM (mtM X.cf X.ce X.kd X.fi X.se d) rl) 1461) cc d (j : Int)) rl - 1))) := by
  obtain ⟨i1, i2, i3, i4, i5, i6, i7, i8⟩ := h
  have hrl : rl ≤ 12 := by have := i2.1.2; omega
  refine ⟨⟨i1, hrl⟩, i7, i2.nbo, fun r hr => ?_, fun r hr => (i6 r hr).2.2.2, fun cc mT mB mE mM d j hd hj => ?_⟩
  · obtain ⟨o1, o2, _⟩ := i6 r hr
    refine ⟨⟨o1.1, o1.2.1, by omega⟩, fun j hj hl => ?_⟩
    rcases o2 j hj hl with q | q | q | ⟨q1, q2, q3⟩
    · exact Or.inl q
    · exact Or.inr (Or.inl q)
    · exact Or.inr (Or.inr (Or.inl q))
    · exact Or.inr (Or.inr (Or.inr ⟨q1, by have := i2.2.2.1.2; omega, q3⟩))
  · obtain ⟨g1, g2⟩ := i8 d j hd hj
    have hc : decM (covF (cpG mB (12 * cc) X.nb rl) (cpG mE (12 * cc) X.ne rl) (cpG mM (1461 * cc) (fun d => stM (mtM X.cf X.ce X.kd X.fi X.se d) rl) 1461) cc d (j : Int)) rl = decM (fun r => cvP (X.nb r) (X.ne r) (Mf r) d (j : Int)) rl := by
      refine decM_c rl (fun r hr => ?_)
      obtain ⟨_, _, o3, _⟩ := i6 r hr
      refine covF_cv (cpG_in hr) (cpG_in hr) ?_ ?_
      · rw [isM_new hd hr, o3 d hd]
      · cases d with
        | zero => exact isM_neg (by decide)
        | succ d =>
          rw [show ((d + 1 : Nat) : Int) - 1 = (d : Int) by omega, isM_new (by omega) hr, o3 d (by omega)]
          rfl
    rw [hc]
    refine ⟨g1, g2.trans ?_⟩
    have hle := decM_le (fun r => cvP (X.nb r) (X.ne r) (Mf r) d (j : Int)) rl
    generalize decM (fun r => cvP (X.nb r) (X.ne r) (Mf r) d (j : Int)) rl = k at hle ⊢
    by_cases hz : k = 0
    · rw [if_pos hz, if_pos hz]
    · rw [if_neg hz, if_neg hz, show 12 * cc + k - 1 = 12 * cc + (k - 1) by omega, cpG_in (by omega)]
