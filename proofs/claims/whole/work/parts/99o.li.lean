/-- how the two objects' numbers stand to each other -/
def REL (n : Nat) (tx : Nat → Int) (TT NN : Nat → Nat → Nat → Int64) (rl : Nat → Nat) (mR mT mB mE mM : Nat → Int) : Prop := n ≤ 100 ∧ (∀ j, 0 ≤ tx j ∧ tx j ≤ 126) ∧ (∀ j, 0 ≤ mR j ∧ mR j ≤ 12) ∧ (∀ j, 0 ≤ mT j ∧ mT j ≤ 9) ∧ (∀ j, 0 ≤ mB j ∧ mB j ≤ 48) ∧ (∀ j, 0 ≤ mE j ∧ mE j ≤ 48) ∧ (∀ j, 0 ≤ mM j ∧ mM j < 4096) ∧ (∀ c, c < 3 → ((rl c : Nat) : Int) = mR c) ∧
  (∀ c, c < 3 → 0 < rl c → ∀ d j : Nat, d < 1461 → j < 48 → gT (TT c) d j = tfM mR mT mB mE mM c d (j : Int) ∧ gT (NN c) d j = ((dvM mR mB mE mM c d (j : Int) : Nat) : Int))
theorem cpG_bd {P : Int → Prop} {g f : Nat → Int} {b r : Nat} (h1 : ∀ j, P (g j)) (h2 : ∀ i, i < r → P (f i)) (j : Nat) : P (cpG g b f r j) := by
  unfold cpG
  by_cases h : b ≤ j ∧ j < b + r
  · rw [if_pos h]; exact h2 _ (by omega)
  · rw [if_neg h]; exact h1 j
theorem rel_ok {n : Nat} {tx : Nat → Int} {TT NN : Nat → Nat → Nat → Int64} {rl : Nat → Nat} {mR mT mB mE mM : Nat → Int} (h : REL n tx TT NN rl mR mT mB mE mM) {c : Nat} (hc : c < 3) {X : RT} {q : RS} {r0 : Nat} {Mf : Nat → Nat → Bool} (hI : INV n X q r0 Mf) (hn : n ≤ 100) :
    REL 0 tx (updP TT c (rsT q)) (updP NN c (rsN q)) (updN rl c (rsL q)) (updZ mR c X.rr) (cpG mT (12 * c) X.nt X.rr.toNat) (cpG mB (12 * c) X.nb X.rr.toNat) (cpG mE (12 * c) X.ne X.rr.toNat) (cpG mM (1461 * c) (fun d => stM (mtM X.cf X.ce X.kd X.fi X.se d) X.rr.toNat) 1461) := by
  obtain ⟨_, htx, hR, hT, hB, hE, hM, hrl, hpl⟩ := h
  obtain ⟨⟨o1, o2⟩, o3, o4, o5, o6, o7⟩ := inv_out hn hI
  have ort : X.rr.toNat = r0 := by omega
  rw [ort, o1, o3]
  refine ⟨Nat.zero_le _, htx, fun j => ?_, cpG_bd (P := fun z => 0 ≤ z ∧ z ≤ 9) hT (fun i hi => (o6 i hi).1), cpG_bd (P := fun z => 0 ≤ z ∧ z ≤ 48) hB (fun i hi => (o6 i hi).2.1), cpG_bd (P := fun z => 0 ≤ z ∧ z ≤ 48) hE (fun i hi => (o6 i hi).2.2), cpG_bd (P := fun z => 0 ≤ z ∧ z < 4096) hM (fun i hi => stM_bd _ r0 o2), fun e he => ?_, fun e he hpos d j hd hj => ?_⟩
  · by_cases hj : j = c
    · rw [hj, updZ_y]; omega
    · rw [updZ_n hj]; exact hR j
  · unfold updN
    by_cases hj : e = c
    · rw [if_pos hj, hj, updZ_y]
    · rw [if_neg hj, updZ_n hj]; exact hrl e he
  · by_cases hj2 : e = c
    · subst hj2
      obtain ⟨g1, g2⟩ := o7 e mT mB mE mM d j hd hj
      have e1 : (updZ mR e (r0 : Int) e).toNat = r0 := by rw [updZ_y, Int.toNat_natCast]
      unfold tfM dvM updP
      rw [if_pos rfl, if_pos rfl, e1]
      exact ⟨g2, g1⟩
    · have hpos2 : 0 < rl e := by
        unfold updN at hpos
        rw [if_neg hj2] at hpos
        exact hpos
      obtain ⟨g1, g2⟩ := hpl e he hpos2 d j hd hj
      have hre := hR e
      have e1 : (updZ mR c (r0 : Int) e).toNat = (mR e).toNat := by rw [updZ_n hj2]
      have e2 : dvM (updZ mR c (r0 : Int)) (cpG mB (12 * c) X.nb r0) (cpG mE (12 * c) X.ne r0) (cpG mM (1461 * c) (fun d => stM (mtM X.cf X.ce X.kd X.fi X.se d) r0) 1461) e d (j : Int) = dvM mR mB mE mM e d (j : Int) := by
        unfold dvM
        rw [e1]
        refine decM_c _ (fun r hr => covF_c (cpG_out (by omega)) (cpG_out (by omega)) (isM_c (fun hz => cpG_out (by omega))) (isM_c (fun hz => cpG_out (by omega))))
      have hle : dvM mR mB mE mM e d (j : Int) ≤ (mR e).toNat := decM_le _ _
      unfold tfM at g1 ⊢
      rw [e2]
      unfold updP
      rw [if_neg hj2, if_neg hj2]
      refine ⟨g1.trans ?_, g2⟩
      generalize dvM mR mB mE mM e d (j : Int) = k at hle ⊢
      by_cases hz : k = 0
      · rw [if_pos hz, if_pos hz]
      · rw [if_neg hz, if_neg hz, cpG_out (by omega)]
theorem rdF_pl {tx : Nat → Int} {n : Nat} (hn : n ≤ 100) : ∀ (k : Nat) (q : RS), 0 ≤ q.1 ∧ q.1 ≤ (n : Int) → 0 ≤ (rdF tx n k q).2.1 ∧ (rdF tx n k q).2.1 ≤ (n : Int)
  | 0, q, h => h
  | k + 1, q, h => by
    have hb := rrF_bd (tx := tx) (n := n) (q := q) hn h
    unfold Pr at hb
    have ht := tkF_bd (tx := tx) (n := n) (pl := (rrF tx n q).2.1) (ch := 59) hn ⟨hb.1, hb.2.1⟩
    rw [rdF_s]
    by_cases c1 : (rrF tx n q).1 = true
    · rw [if_pos c1]
      by_cases c2 : (rrF tx n q).2.1 = (n : Int)
      · rw [if_pos c2]; exact ⟨hb.1, hb.2.1⟩
      · rw [if_neg c2]
        by_cases c3 : k = 0
        · rw [if_pos c3]; exact ⟨hb.1, hb.2.1⟩
        · rw [if_neg c3]
          by_cases c4 : (tkF tx n (rrF tx n q).2.1 59).1 = true
          · rw [if_pos c4]; exact rdF_pl hn k _ ht
          · rw [if_neg c4]; exact ht
    · rw [if_neg c1]; exact ⟨hb.1, hb.2.1⟩
/-- the loop's invariant -/
def IV (k : Nat → ClassId) (h0 : Nat) (ur yo ya eo ea : Nat → Nat) (hm : Nat) (um : Nat → Nat) (R M : va_W) : Prop := ∃ (po : Nat → Nat) (v0 : Nat) (pb : Nat → Nat → Nat) (tx : Nat → Int) (n : Nat) (on : Bool) (rs : RS) (tv : Value) (l2n : Int) (TT NN : Nat → Nat → Nat → Int64) (rl : Nat → Nat) (fa : Int) (ms : MS) (mR mT mB mE mM : Nat → Int),
  R = (RCX k h0 ur yo ya eo ea po v0 pb tx ((n : Nat) : Int) on rs tv l2n TT NN rl) ∧ M = (MDX k hm um fa ((n : Nat) : Int) on ms tx mR mT mB mE mM) ∧ REL n tx TT NN rl mR mT mB mE mM ∧ NBO ms.2.2.2.2
theorem iv_0 {k : Nat → ClassId} {h0 : Nat} {ur yo ya eo ea : Nat → Nat} {hm : Nat} {um : Nat → Nat} (R M : va_W) (h : IV k h0 ur yo ya eo ea hm um R M) : ∃ q1 q2 : List Value, R[0]? = some (h0, .inr (0, q1)) ∧ M[0]? = some (hm, .inr (8, q2)) := by
  obtain ⟨po, v0, pb, tx, n, on, rs, tv, l2n, TT, NN, rl, fa, ms, mR, mT, mB, mE, mM, rfl, rfl, _⟩ := h
  exact ⟨_, _, rfl, rfl⟩
theorem zof (v : Int32) : ∃ z : Int, v = iI z ∧ rg z := ⟨v.toInt, (iI_of v).symm, rg_of v⟩
theorem wrF_1 {mR : Nat → Int} {cz z q : Int} (h : cz < 0 ∨ 3 ≤ cz ∨ z < 0 ∨ 1461 ≤ z ∨ q < 0 ∨ 48 ≤ q) : wrF mR cz z q = 1 := by
  unfold wrF
  repeat' split
  all_goals omega
theorem wrF_2 {mR : Nat → Int} {c : Nat} {z q : Int} (hc : c < 3) (hz : 0 ≤ z ∧ z < 1461) (hq : 0 ≤ q ∧ q < 48) (h : mR c = 0) : wrF mR (c : Int) z q = 2 := by
  unfold wrF
  rw [if_neg (by omega), if_neg (by omega), if_neg (by omega), if_neg (by omega), if_neg (by omega), if_neg (by omega), Int.toNat_natCast, if_pos h]
theorem wrF_0 {mR : Nat → Int} {c : Nat} {z q : Int} (hc : c < 3) (hz : 0 ≤ z ∧ z < 1461) (hq : 0 ≤ q ∧ q < 48) (h : ¬ mR c = 0) : wrF mR (c : Int) z q = 0 := by
  unfold wrF
  rw [if_neg (by omega), if_neg (by omega), if_neg (by omega), if_neg (by omega), if_neg (by omega), if_neg (by omega), Int.toNat_natCast, if_neg h]
theorem wr2F_1 {mR : Nat → Int} {cz z : Int} (h : cz < 0 ∨ 3 ≤ cz ∨ z < 0 ∨ 3 ≤ z) : wr2F mR cz z = 1 := by
  unfold wr2F
  repeat' split
  all_goals omega
theorem wr2F_2 {mR : Nat → Int} {c d : Nat} (hc : c < 3) (hd : d < 3) (h : mR c = 0 ∨ mR d = 0) : wr2F mR (c : Int) (d : Int) = 2 := by
  unfold wr2F
  rw [if_neg (by omega), if_neg (by omega), if_neg (by omega), if_neg (by omega), Int.toNat_natCast, Int.toNat_natCast]
  by_cases h1 : mR c = 0
  · rw [if_pos h1]
  · rw [if_neg h1, if_pos (h.resolve_left h1)]
theorem wr2F_0 {mR : Nat → Int} {c d : Nat} (hc : c < 3) (hd : d < 3) (h : ¬ mR c = 0) (h2 : ¬ mR d = 0) : wr2F mR (c : Int) (d : Int) = 0 := by
  unfold wr2F
  rw [if_neg (by omega), if_neg (by omega), if_neg (by omega), if_neg (by omega), Int.toNat_natCast, Int.toNat_natCast, if_neg h, if_neg h2]
theorem nof {z : Int} (h : 0 ≤ z) : ∃ c : Nat, z = (c : Int) := ⟨z.toNat, by omega⟩
theorem ttG_0 {sh : Bool} {f : Nat → Int → Int} {w : Int} (hf : ∀ d q, 0 ≤ f d q ∧ f d q ≤ 9) (hw : w < 0 ∨ 9 < w) (n : Nat) : ttG sh f w n = 0 := by
  unfold ttG
  have := hf (n / 48) ((n % 48 : Nat) : Int)
  split
  · rfl
  · rw [if_neg (by omega)]
theorem mda_eq (z wh : Int) : (mdaF z wh).1 = (if z < 0 ∨ 1461 ≤ z then -1 else if wh = 0 then dateZ z.toNat else if wh = 1 then wDay z else if wh = 2 then weekZ z else -1) := by
  unfold mdaF
  by_cases h1 : z < 0
  · rw [if_pos h1, if_pos (Or.inl h1)]
  · rw [if_neg h1]
    by_cases h2 : 1461 ≤ z
    · rw [if_pos h2, if_pos (Or.inr h2)]
    · rw [if_neg h2, if_neg (show ¬ (z < 0 ∨ 1461 ≤ z) by omega)]
      by_cases h3 : wh < 0
      · rw [if_pos h3, if_neg (by omega), if_neg (by omega), if_neg (by omega)]
      · rw [if_neg h3]
        by_cases h4 : wh ≤ 2
        · rw [if_pos h4]
          by_cases h5 : wh = 0
          · rw [if_pos h5, if_pos h5]
          · rw [if_neg h5, if_neg h5]
            by_cases h6 : wh = 1
            · rw [if_pos h6, if_pos h6]
            · rw [if_neg h6, if_neg h6, if_pos (by omega)]
        · rw [if_neg h4, if_neg (by omega), if_neg (by omega), if_neg (by omega)]
theorem chv_z (v : Int32) : ∃ ch : Int, chv v = iI ch ∧ 0 ≤ ch ∧ ch ≤ 65535 := by
  refine ⟨(v.toUInt32.toNat % 65536 : Nat), ?_, by omega, by omega⟩
  unfold chv
  rw [iI_nat]
  apply Int32.toInt_inj.mp
  have h1 : (v.toUInt32 % 65536).toNat = v.toUInt32.toNat % 65536 := by rw [UInt32.toNat_mod]; rfl
  have h2 : v.toUInt32.toNat % 65536 < 65536 := Nat.mod_lt _ (by decide)
  generalize v.toUInt32.toNat % 65536 = x at h1 h2 ⊢
  rw [show v.toUInt32 % 65536 = UInt32.ofNat x from by apply UInt32.toNat_inj.mp; rw [h1, UInt32.toNat_ofNat']; omega]
  rfl

set_option maxHeartbeats 4000000 in
set_option maxRecDepth 20000 in
theorem sy_at (l : Launch) (hlt : l.stackTraces = false) (D : va_G) {k : Nat → ClassId} {h0 : Nat} {ur yo ya eo ea : Nat → Nat} {hm : Nat} {um : Nat → Nat} (ao : Nat) (R M : va_W) (v1 v2 v3 : Int32) (hI : IV k h0 ur yo ya eo ea hm um R M) : ST_at l D k h0 hm ao (IV k h0 ur yo ya eo ea hm um) R M v1 v2 v3 := by
  obtain ⟨po, v0, pb, tx, n, on, rs, tv, l2n, TT, NN, rl, fa, ms, mR, mT, mB, mE, mM, rfl, rfl, hrel, hNB⟩ := hI
  have iv : ∀ fa : Int, IV k h0 ur yo ya eo ea hm um (RCX k h0 ur yo ya eo ea po v0 pb tx ((n : Nat) : Int) on rs tv l2n TT NN rl) (MDX k hm um fa ((n : Nat) : Int) on ms tx mR mT mB mE mM) := fun fa => ⟨po, v0, pb, tx, n, on, rs, tv, l2n, TT, NN, rl, fa, ms, mR, mT, mB, mE, mM, rfl, rfl, hrel, hNB⟩
  obtain ⟨hn, htx, hR, hT, hB, hE, hM, hrl, hpl⟩ := hrel
  obtain ⟨z1, rfl, g1⟩ := zof v1
  obtain ⟨z2, rfl, g2⟩ := zof v2
  obtain ⟨z3, rfl, g3⟩ := zof v3
  unfold ST_at
  by_cases hb : z1 < 0 ∨ 3 ≤ z1 ∨ z2 < 0 ∨ 1461 ≤ z2 ∨ z3 < 0 ∨ 48 ≤ z3
  · have hw := wrF_1 (mR := mR) hb
    refine ⟨_, _, iI (wrF mR z1 z2 z3), iI 0, rx_LW_at, 1, 6, iv (wrF mR z1 z2 z3), ⟨rfl, rfl, by decide, by decide⟩, ⟨by decide, by decide⟩, fun sz f0 => ⟨f0, fun h => absurd h (by rw [hw]; decide), ?_⟩, fun sz => x_MD_at_bad l D z1 z2 z3 hR g1 g2 g3 (by rw [hw]; decide) sz, x_MD_thrown l D⟩
    rw [hw]
    refine h_at_io l hlt D k sz h0 ao _ _ f0 _ _ _ rfl ?_
    by_cases hc : z1 < 0 ∨ 3 ≤ z1
    · exact xt_RC_at_c l hlt D z1 z2 z3 g1 hc
    · obtain ⟨c, rfl⟩ := nof (z := z1) (by omega)
      exact xt_RC_at_q l hlt D c z2 z3 (by omega) g2 g3 (by omega)
  obtain ⟨c, rfl⟩ := nof (z := z1) (by omega)
  obtain ⟨d, rfl⟩ := nof (z := z2) (by omega)
  obtain ⟨q, rfl⟩ := nof (z := z3) (by omega)
  have hc : c < 3 := by omega
  have hd : d < 1461 := by omega
  have hq : q < 48 := by omega
  by_cases hr0 : rl c = 0
  · have hw := wrF_2 (mR := mR) (z := (d : Int)) (q := (q : Int)) hc (by omega) (by omega) (by have := hrl c hc; omega)
    refine ⟨_, _, iI (wrF mR (c : Int) (d : Int) (q : Int)), iI 0, rx_LW_at, 1, 6, iv (wrF mR (c : Int) (d : Int) (q : Int)), ⟨rfl, rfl, by decide, by decide⟩, ⟨by decide, by decide⟩, fun sz f0 => ⟨f0, fun h => absurd h (by rw [hw]; decide), ?_⟩, fun sz => x_MD_at_bad l D (c : Int) (d : Int) (q : Int) hR g1 g2 g3 (by rw [hw]; decide) sz, x_MD_thrown l D⟩
    rw [hw]
    refine h_at_is l hlt D k sz h0 ao _ _ f0 _ _ _ rfl ?_
    exact xt_RC_at_p l hlt D c d (q : Int) hc hd (by omega) hr0
  · have he := (show (if lostZ on d (q : Int) = true then -1 else gT (TT c) d q) = (if loF on d (q : Int) = true then -1 else tfM mR mT mB mE mM c d (q : Int)) by rw [lo_eq _ hd, (hpl c hc (by omega) d q hd hq).1])
    refine ⟨_, _, iI 0, iI (if loF on d (q : Int) = true then -1 else tfM mR mT mB mE mM c d (q : Int)), rl_LW_at, 0, 0, iv 0, ⟨rfl, rfl, by decide, by decide⟩, ⟨by decide, by decide⟩, fun sz f0 => ⟨vp_updL f0 0 (iI (if loF on d (q : Int) = true then -1 else tfM mR mT mB mE mM c d (q : Int))).toInt64, fun _ => rfl, ?_⟩, fun sz => x_MD_at_ok l D c d q hR hB hE hM hc hd hq (wrF_0 hc (by omega) (by omega) (by have := hrl c hc; omega)) sz, x_MD_thrown l D⟩
    rw [← he]
    exact h_at_ok l hlt D k sz h0 ao _ _ f0 _ _ _ rfl _ (x_RC_at l D c d q hc (show 0 < rl c by omega) (show rl c < 1000 by have := hrl c hc; have := hR c; omega) hd hq)

set_option maxHeartbeats 4000000 in
set_option maxRecDepth 20000 in
theorem sy_which (l : Launch) (hlt : l.stackTraces = false) (D : va_G) {k : Nat → ClassId} {h0 : Nat} {ur yo ya eo ea : Nat → Nat} {hm : Nat} {um : Nat → Nat} (ao : Nat) (R M : va_W) (v1 v2 v3 : Int32) (hI : IV k h0 ur yo ya eo ea hm um R M) : ST_which l D k h0 hm ao (IV k h0 ur yo ya eo ea hm um) R M v1 v2 v3 := by
  obtain ⟨po, v0, pb, tx, n, on, rs, tv, l2n, TT, NN, rl, fa, ms, mR, mT, mB, mE, mM, rfl, rfl, hrel, hNB⟩ := hI
  have iv : ∀ fa : Int, IV k h0 ur yo ya eo ea hm um (RCX k h0 ur yo ya eo ea po v0 pb tx ((n : Nat) : Int) on rs tv l2n TT NN rl) (MDX k hm um fa ((n : Nat) : Int) on ms tx mR mT mB mE mM) := fun fa => ⟨po, v0, pb, tx, n, on, rs, tv, l2n, TT, NN, rl, fa, ms, mR, mT, mB, mE, mM, rfl, rfl, hrel, hNB⟩
  obtain ⟨hn, htx, hR, hT, hB, hE, hM, hrl, hpl⟩ := hrel
  obtain ⟨z1, rfl, g1⟩ := zof v1
  obtain ⟨z2, rfl, g2⟩ := zof v2
  obtain ⟨z3, rfl, g3⟩ := zof v3
  unfold ST_which
  by_cases hb : z1 < 0 ∨ 3 ≤ z1 ∨ z2 < 0 ∨ 1461 ≤ z2 ∨ z3 < 0 ∨ 48 ≤ z3
  · have hw := wrF_1 (mR := mR) hb
    refine ⟨_, _, iI (wrF mR z1 z2 z3), iI 0, rx_LW_which, 1, 6, iv (wrF mR z1 z2 z3), ⟨rfl, rfl, by decide, by decide⟩, ⟨by decide, by decide⟩, fun sz f0 => ⟨f0, fun h => absurd h (by rw [hw]; decide), ?_⟩, fun sz => x_MD_which_bad l D z1 z2 z3 hR g1 g2 g3 (by rw [hw]; decide) sz, x_MD_thrown l D⟩
    rw [hw]
    refine h_which_io l hlt D k sz h0 ao _ _ f0 _ _ _ rfl ?_
    by_cases hc : z1 < 0 ∨ 3 ≤ z1
    · exact xt_RC_which_c l hlt D z1 z2 z3 g1 hc
    · obtain ⟨c, rfl⟩ := nof (z := z1) (by omega)
      exact xt_RC_which_q l hlt D c z2 z3 (by omega) g2 g3 (by omega)
  obtain ⟨c, rfl⟩ := nof (z := z1) (by omega)
  obtain ⟨d, rfl⟩ := nof (z := z2) (by omega)
  obtain ⟨q, rfl⟩ := nof (z := z3) (by omega)
  have hc : c < 3 := by omega
  have hd : d < 1461 := by omega
  have hq : q < 48 := by omega
  by_cases hr0 : rl c = 0
  · have hw := wrF_2 (mR := mR) (z := (d : Int)) (q := (q : Int)) hc (by omega) (by omega) (by have := hrl c hc; omega)
    refine ⟨_, _, iI (wrF mR (c : Int) (d : Int) (q : Int)), iI 0, rx_LW_which, 1, 6, iv (wrF mR (c : Int) (d : Int) (q : Int)), ⟨rfl, rfl, by decide, by decide⟩, ⟨by decide, by decide⟩, fun sz f0 => ⟨f0, fun h => absurd h (by rw [hw]; decide), ?_⟩, fun sz => x_MD_which_bad l D (c : Int) (d : Int) (q : Int) hR g1 g2 g3 (by rw [hw]; decide) sz, x_MD_thrown l D⟩
    rw [hw]
    refine h_which_is l hlt D k sz h0 ao _ _ f0 _ _ _ rfl ?_
    exact xt_RC_which_p l hlt D c d (q : Int) hc hd (by omega) hr0
  · have he := (show (if lostZ on d (q : Int) = true then -1 else gT (NN c) d q) = (if loF on d (q : Int) = true then -1 else ((dvM mR mB mE mM c d (q : Int) : Nat) : Int)) by rw [lo_eq _ hd, (hpl c hc (by omega) d q hd hq).2])
    refine ⟨_, _, iI 0, iI (if loF on d (q : Int) = true then -1 else ((dvM mR mB mE mM c d (q : Int) : Nat) : Int)), rl_LW_which, 0, 0, iv 0, ⟨rfl, rfl, by decide, by decide⟩, ⟨by decide, by decide⟩, fun sz f0 => ⟨vp_updL f0 0 (iI (if loF on d (q : Int) = true then -1 else ((dvM mR mB mE mM c d (q : Int) : Nat) : Int))).toInt64, fun _ => rfl, ?_⟩, fun sz => x_MD_which_ok l D c d q hR hB hE hM hc hd hq (wrF_0 hc (by omega) (by omega) (by have := hrl c hc; omega)) sz, x_MD_thrown l D⟩
    rw [← he]
    exact h_which_ok l hlt D k sz h0 ao _ _ f0 _ _ _ rfl _ (x_RC_which l D c d q hc (show 0 < rl c by omega) (show rl c < 1000 by have := hrl c hc; have := hR c; omega) hd hq)

set_option maxHeartbeats 4000000 in
set_option maxRecDepth 20000 in
theorem sy_next (l : Launch) (hlt : l.stackTraces = false) (D : va_G) {k : Nat → ClassId} {h0 : Nat} {ur yo ya eo ea : Nat → Nat} {hm : Nat} {um : Nat → Nat} (ao : Nat) (R M : va_W) (v1 v2 v3 : Int32) (hI : IV k h0 ur yo ya eo ea hm um R M) : ST_next l D k h0 hm ao (IV k h0 ur yo ya eo ea hm um) R M v1 v2 v3 := by
  obtain ⟨po, v0, pb, tx, n, on, rs, tv, l2n, TT, NN, rl, fa, ms, mR, mT, mB, mE, mM, rfl, rfl, hrel, hNB⟩ := hI
  have iv : ∀ fa : Int, IV k h0 ur yo ya eo ea hm um (RCX k h0 ur yo ya eo ea po v0 pb tx ((n : Nat) : Int) on rs tv l2n TT NN rl) (MDX k hm um fa ((n : Nat) : Int) on ms tx mR mT mB mE mM) := fun fa => ⟨po, v0, pb, tx, n, on, rs, tv, l2n, TT, NN, rl, fa, ms, mR, mT, mB, mE, mM, rfl, rfl, hrel, hNB⟩
  obtain ⟨hn, htx, hR, hT, hB, hE, hM, hrl, hpl⟩ := hrel
  obtain ⟨z1, rfl, g1⟩ := zof v1
  obtain ⟨z2, rfl, g2⟩ := zof v2
  obtain ⟨z3, rfl, g3⟩ := zof v3
  unfold ST_next
  by_cases hb : z1 < 0 ∨ 3 ≤ z1 ∨ z2 < 0 ∨ 1461 ≤ z2 ∨ z3 < 0 ∨ 48 ≤ z3
  · have hw := wrF_1 (mR := mR) hb
    refine ⟨_, _, iI (wrF mR z1 z2 z3), iI 0, rx_LW_next, 1, 6, iv (wrF mR z1 z2 z3), ⟨rfl, rfl, by decide, by decide⟩, ⟨by decide, by decide⟩, fun sz f0 => ⟨f0, fun h => absurd h (by rw [hw]; decide), ?_⟩, fun sz => x_MD_next_bad l D z1 z2 z3 hR g1 g2 g3 (by rw [hw]; decide) sz, x_MD_thrown l D⟩
    rw [hw]
    refine h_next_io l hlt D k sz h0 ao _ _ f0 _ _ _ rfl ?_
    by_cases hc : z1 < 0 ∨ 3 ≤ z1
    · exact xt_RC_next_c l hlt D z1 z2 z3 g1 hc
    · obtain ⟨c, rfl⟩ := nof (z := z1) (by omega)
      exact xt_RC_next_q l hlt D c z2 z3 (by omega) g2 g3 (by omega)
  obtain ⟨c, rfl⟩ := nof (z := z1) (by omega)
  obtain ⟨d, rfl⟩ := nof (z := z2) (by omega)
  obtain ⟨q, rfl⟩ := nof (z := z3) (by omega)
  have hc : c < 3 := by omega
  have hd : d < 1461 := by omega
  have hq : q < 48 := by omega
  by_cases hr0 : rl c = 0
  · have hw := wrF_2 (mR := mR) (z := (d : Int)) (q := (q : Int)) hc (by omega) (by omega) (by have := hrl c hc; omega)
    refine ⟨_, _, iI (wrF mR (c : Int) (d : Int) (q : Int)), iI 0, rx_LW_next, 1, 6, iv (wrF mR (c : Int) (d : Int) (q : Int)), ⟨rfl, rfl, by decide, by decide⟩, ⟨by decide, by decide⟩, fun sz f0 => ⟨f0, fun h => absurd h (by rw [hw]; decide), ?_⟩, fun sz => x_MD_next_bad l D (c : Int) (d : Int) (q : Int) hR g1 g2 g3 (by rw [hw]; decide) sz, x_MD_thrown l D⟩
    rw [hw]
    refine h_next_is l hlt D k sz h0 ao _ _ f0 _ _ _ rfl ?_
    exact xt_RC_next_p l hlt D c d (q : Int) hc hd (by omega) hr0
  · have he := (next_eq (on := on) (T := TT c) (f := (tfM mR mT mB mE mM c)) hd hq (fun d q => tfM_bd hT c d q) (fun d j hd hj => (hpl c hc (by omega) d j hd hj).1)).symm
    refine ⟨_, _, iI 0, iI (if loF on d (q : Int) = true then -1 else nxM on (tfM mR mT mB mE mM c) (tfM mR mT mB mE mM c d (q : Int)) (nxMu d q false + 1) d q false 0), rl_LW_next, 0, 0, iv 0, ⟨rfl, rfl, by decide, by decide⟩, ⟨by decide, by decide⟩, fun sz f0 => ⟨vp_updL f0 0 (iI (if loF on d (q : Int) = true then -1 else nxM on (tfM mR mT mB mE mM c) (tfM mR mT mB mE mM c d (q : Int)) (nxMu d q false + 1) d q false 0)).toInt64, fun _ => rfl, ?_⟩, fun sz => x_MD_next_ok l D c d q hR hT hB hE hM hc hd hq (wrF_0 hc (by omega) (by omega) (by have := hrl c hc; omega)) sz, x_MD_thrown l D⟩
    rw [← he]
    exact h_next_ok l hlt D k sz h0 ao _ _ f0 _ _ _ rfl _ (x_RC_next l D c d q hc (show 0 < rl c by omega) (show rl c < 1000 by have := hrl c hc; have := hR c; omega) hd hq)

set_option maxHeartbeats 4000000 in
set_option maxRecDepth 20000 in
theorem sy_run (l : Launch) (hlt : l.stackTraces = false) (D : va_G) {k : Nat → ClassId} {h0 : Nat} {ur yo ya eo ea : Nat → Nat} {hm : Nat} {um : Nat → Nat} (ao : Nat) (R M : va_W) (v1 v2 v3 v4 : Int32) (hI : IV k h0 ur yo ya eo ea hm um R M) : ST_run l D k h0 hm ao (IV k h0 ur yo ya eo ea hm um) R M v1 v2 v3 v4 := by
  obtain ⟨po, v0, pb, tx, n, on, rs, tv, l2n, TT, NN, rl, fa, ms, mR, mT, mB, mE, mM, rfl, rfl, hrel, hNB⟩ := hI
  have iv : ∀ fa : Int, IV k h0 ur yo ya eo ea hm um (RCX k h0 ur yo ya eo ea po v0 pb tx ((n : Nat) : Int) on rs tv l2n TT NN rl) (MDX k hm um fa ((n : Nat) : Int) on ms tx mR mT mB mE mM) := fun fa => ⟨po, v0, pb, tx, n, on, rs, tv, l2n, TT, NN, rl, fa, ms, mR, mT, mB, mE, mM, rfl, rfl, hrel, hNB⟩
  obtain ⟨hn, htx, hR, hT, hB, hE, hM, hrl, hpl⟩ := hrel
  obtain ⟨z1, rfl, g1⟩ := zof v1
  obtain ⟨z2, rfl, g2⟩ := zof v2
  obtain ⟨z3, rfl, g3⟩ := zof v3
  obtain ⟨z4, rfl, g4⟩ := zof v4
  unfold ST_run
  by_cases hb : z1 < 0 ∨ 3 ≤ z1 ∨ z2 < 0 ∨ 1461 ≤ z2
  · have hw : wrF mR z1 z2 0 = 1 := wrF_1 (by omega)
    refine ⟨_, _, iI (wrF mR z1 z2 0), iI 0, rx_LW_run, 1, 6, iv (wrF mR z1 z2 0), ⟨rfl, rfl, by decide, by decide⟩, ⟨by decide, by decide⟩, fun sz f0 => ⟨f0, fun h => absurd h (by rw [hw]; decide), ?_⟩, fun sz => x_MD_run_bad l D z1 z2 z3 z4 hR g1 g2 (by rw [hw]; decide) sz, x_MD_thrown l D⟩
    rw [hw]
    refine h_run_io l hlt D k sz h0 ao _ _ f0 _ _ _ _ rfl ?_
    by_cases hc : z1 < 0 ∨ 3 ≤ z1
    · exact xt_RC_run_c l hlt D z1 z2 z3 z4 g1 hc
    · obtain ⟨c, rfl⟩ := nof (z := z1) (by omega)
      exact xt_RC_run_q l hlt D c z2 z3 z4 (by omega) g2 (by omega)
  obtain ⟨c, rfl⟩ := nof (z := z1) (by omega)
  obtain ⟨d, rfl⟩ := nof (z := z2) (by omega)
  have hc : c < 3 := by omega
  have hd : d < 1461 := by omega
  by_cases hr0 : rl c = 0
  · have hw := wrF_2 (mR := mR) (z := (d : Int)) (q := 0) hc (by omega) (by omega) (by have := hrl c hc; omega)
    refine ⟨_, _, iI (wrF mR (c : Int) (d : Int) 0), iI 0, rx_LW_run, 1, 6, iv (wrF mR (c : Int) (d : Int) 0), ⟨rfl, rfl, by decide, by decide⟩, ⟨by decide, by decide⟩, fun sz f0 => ⟨f0, fun h => absurd h (by rw [hw]; decide), ?_⟩, fun sz => x_MD_run_bad l D (c : Int) (d : Int) z3 z4 hR g1 g2 (by rw [hw]; decide) sz, x_MD_thrown l D⟩
    rw [hw]
    refine h_run_is l hlt D k sz h0 ao _ _ f0 _ _ _ _ rfl ?_
    exact xt_RC_run_p l hlt D c d z3 z4 hc hd hr0
  · have he := (run_eq (sh := on) (T := TT c) (f := tfM mR mT mB mE mM c d) (i := z3) (wh := z4) hd (fun q => (tfM_bd hT c d q).1) (fun j hj => (hpl c hc (by omega) d j hd hj).1)).symm
    refine ⟨_, _, iI 0, iI (rnZ (tfM mR mT mB mE mM c d) (rnF on (tfM mR mT mB mE mM c d) d z3 48) z4), rl_LW_run, 0, 0, iv 0, ⟨rfl, rfl, by decide, by decide⟩, ⟨by decide, by decide⟩, fun sz f0 => ⟨vp_updL f0 0 (iI (rnZ (tfM mR mT mB mE mM c d) (rnF on (tfM mR mT mB mE mM c d) d z3 48) z4)).toInt64, fun _ => rfl, ?_⟩, fun sz => x_MD_run_ok l D c d z3 z4 hR hT hB hE hM hc hd g3 g4 (wrF_0 hc (by omega) (by omega) (by have := hrl c hc; omega)) sz, x_MD_thrown l D⟩
    rw [← he]
    exact h_run_ok l hlt D k sz h0 ao _ _ f0 _ _ _ _ rfl _ (x_RC_run l D c d z3 z4 hc (show 0 < rl c by omega) (show rl c < 1000 by have := hrl c hc; have := hR c; omega) hd g3 g4)

set_option maxHeartbeats 4000000 in
set_option maxRecDepth 20000 in
theorem sy_dead (l : Launch) (hlt : l.stackTraces = false) (D : va_G) {k : Nat → ClassId} {h0 : Nat} {ur yo ya eo ea : Nat → Nat} {hm : Nat} {um : Nat → Nat} (ao : Nat) (R M : va_W) (v1 v2 : Int32) (hI : IV k h0 ur yo ya eo ea hm um R M) : ST_dead l D k h0 hm ao (IV k h0 ur yo ya eo ea hm um) R M v1 v2 := by
  obtain ⟨po, v0, pb, tx, n, on, rs, tv, l2n, TT, NN, rl, fa, ms, mR, mT, mB, mE, mM, rfl, rfl, hrel, hNB⟩ := hI
  have iv : ∀ fa : Int, IV k h0 ur yo ya eo ea hm um (RCX k h0 ur yo ya eo ea po v0 pb tx ((n : Nat) : Int) on rs tv l2n TT NN rl) (MDX k hm um fa ((n : Nat) : Int) on ms tx mR mT mB mE mM) := fun fa => ⟨po, v0, pb, tx, n, on, rs, tv, l2n, TT, NN, rl, fa, ms, mR, mT, mB, mE, mM, rfl, rfl, hrel, hNB⟩
  obtain ⟨hn, htx, hR, hT, hB, hE, hM, hrl, hpl⟩ := hrel
  obtain ⟨z1, rfl, g1⟩ := zof v1
  obtain ⟨z2, rfl, g2⟩ := zof v2
  unfold ST_dead
  by_cases hb : z1 < 0 ∨ 3 ≤ z1
  · have hw : wrF mR z1 0 0 = 1 := wrF_1 (by omega)
    refine ⟨_, _, iI (wrF mR z1 0 0), iI 0, rx_LW_dead, 1, 6, iv (wrF mR z1 0 0), ⟨rfl, rfl, by decide, by decide⟩, ⟨by decide, by decide⟩, fun sz f0 => ⟨f0, fun h => absurd h (by rw [hw]; decide), ?_⟩, fun sz => x_MD_dead_bad l D z1 z2 hR g1 (by rw [hw]; decide) sz, x_MD_thrown l D⟩
    rw [hw]
    refine h_dead_io l hlt D k sz h0 ao _ _ f0 _ _ rfl ?_
    exact xt_RC_dead_c l hlt D z1 z2 g1 hb
  obtain ⟨c, rfl⟩ := nof (z := z1) (by omega)
  have hc : c < 3 := by omega
  by_cases hr0 : rl c = 0
  · have hw := wrF_2 (mR := mR) (z := 0) (q := 0) hc (by omega) (by omega) (by have := hrl c hc; omega)
    refine ⟨_, _, iI (wrF mR (c : Int) 0 0), iI 0, rx_LW_dead, 1, 6, iv (wrF mR (c : Int) 0 0), ⟨rfl, rfl, by decide, by decide⟩, ⟨by decide, by decide⟩, fun sz f0 => ⟨f0, fun h => absurd h (by rw [hw]; decide), ?_⟩, fun sz => x_MD_dead_bad l D (c : Int) z2 hR g1 (by rw [hw]; decide) sz, x_MD_thrown l D⟩
    rw [hw]
    refine h_dead_is l hlt D k sz h0 ao _ _ f0 _ _ rfl ?_
    exact xt_RC_dead_p l hlt D c z2 hc hr0
  · have he := (show ddL on (NN c) z2 (rl c) 1 0 = ddM (usF (dfM on (dvM mR mB mE mM c)) 70128) z2 (mR c).toNat 0 0 by have h1 := hrl c hc; have h2 := hR c; rw [show rl c = (mR c).toNat by omega]; exact (dead_eq (on := on) (N := NN c) (dv := dvM mR mB mE mM c) (R := (mR c).toNat) (i0 := z2) (by omega) (fun d q => decM_le _ _) (fun d j hd hj => (hpl c hc (by omega) d j hd hj).2) _ 0 0 (by omega)).symm)
    refine ⟨_, _, iI 0, iI (ddM (usF (dfM on (dvM mR mB mE mM c)) 70128) z2 (mR c).toNat 0 0), rl_LW_dead, 0, 0, iv 0, ⟨rfl, rfl, by decide, by decide⟩, ⟨by decide, by decide⟩, fun sz f0 => ⟨vp_updL f0 0 (iI (ddM (usF (dfM on (dvM mR mB mE mM c)) 70128) z2 (mR c).toNat 0 0)).toInt64, fun _ => rfl, ?_⟩, fun sz => x_MD_dead_ok l D c z2 hR hB hE hM hc g2 (wrF_0 hc (by omega) (by omega) (by have := hrl c hc; omega)) sz, x_MD_thrown l D⟩
    rw [← he]
    exact h_dead_ok l hlt D k sz h0 ao _ _ f0 _ _ rfl _ (x_RC_dead l D c z2 hc (show 0 < rl c by omega) (show rl c < 1000 by have := hrl c hc; have := hR c; omega) (by have := hrl c hc; have := hR c; omega) g2)

set_option maxHeartbeats 4000000 in
set_option maxRecDepth 20000 in
theorem sy_total (l : Launch) (hlt : l.stackTraces = false) (D : va_G) {k : Nat → ClassId} {h0 : Nat} {ur yo ya eo ea : Nat → Nat} {hm : Nat} {um : Nat → Nat} (ao : Nat) (R M : va_W) (v1 v2 v3 v4 : Int32) (hI : IV k h0 ur yo ya eo ea hm um R M) : ST_total l D k h0 hm ao (IV k h0 ur yo ya eo ea hm um) R M v1 v2 v3 v4 := by
  obtain ⟨po, v0, pb, tx, n, on, rs, tv, l2n, TT, NN, rl, fa, ms, mR, mT, mB, mE, mM, rfl, rfl, hrel, hNB⟩ := hI
  have iv : ∀ fa : Int, IV k h0 ur yo ya eo ea hm um (RCX k h0 ur yo ya eo ea po v0 pb tx ((n : Nat) : Int) on rs tv l2n TT NN rl) (MDX k hm um fa ((n : Nat) : Int) on ms tx mR mT mB mE mM) := fun fa => ⟨po, v0, pb, tx, n, on, rs, tv, l2n, TT, NN, rl, fa, ms, mR, mT, mB, mE, mM, rfl, rfl, hrel, hNB⟩
  obtain ⟨hn, htx, hR, hT, hB, hE, hM, hrl, hpl⟩ := hrel
  obtain ⟨z1, rfl, g1⟩ := zof v1
  obtain ⟨z2, rfl, g2⟩ := zof v2
  obtain ⟨z3, rfl, g3⟩ := zof v3
  obtain ⟨z4, rfl, g4⟩ := zof v4
  unfold ST_total
  by_cases hb : z1 < 0 ∨ 3 ≤ z1 ∨ z2 < 0 ∨ z3 < z2 ∨ 1461 < z3
  · refine ⟨_, _, iI (1), iI 0, rx_LW_total, 1, 6, iv (1), ⟨rfl, rfl, by decide, by decide⟩, ⟨by decide, by decide⟩, fun sz f0 => ⟨f0, fun h => absurd h (by decide), ?_⟩, fun sz => x_MD_total_bad1 l D z1 z2 z3 z4 g1 g2 g3 (by omega) sz, x_MD_thrown l D⟩
    skip
    refine h_total_io l hlt D k sz h0 ao _ _ f0 _ _ _ _ rfl ?_
    by_cases hc : z1 < 0 ∨ 3 ≤ z1
    · exact xt_RC_total_c l hlt D z1 z2 z3 z4 g1 hc
    · obtain ⟨c, rfl⟩ := nof (z := z1) (by omega)
      exact xt_RC_total_f l hlt D c z2 z3 z4 (by omega) g2 g3 (by omega)
  obtain ⟨c, rfl⟩ := nof (z := z1) (by omega)
  have hc : c < 3 := by omega
  by_cases hr0 : rl c = 0
  · refine ⟨_, _, iI (2), iI 0, rx_LW_total, 1, 6, iv (2), ⟨rfl, rfl, by decide, by decide⟩, ⟨by decide, by decide⟩, fun sz f0 => ⟨f0, fun h => absurd h (by decide), ?_⟩, fun sz => x_MD_total_bad2 l D c z2 z3 z4 hc (by omega) (by have := hrl c hc; omega) sz, x_MD_thrown l D⟩
    skip
    refine h_total_is l hlt D k sz h0 ao _ _ f0 _ _ _ _ rfl ?_
    exact xt_RC_total_p l hlt D c z2 z3 z4 hc (by omega) hr0
  · obtain ⟨f9, rfl⟩ := nof (z := z2) (by omega)
    obtain ⟨t9, rfl⟩ := nof (z := z3) (by omega)
    have he := (show (if z4 < 0 ∨ 9 < z4 then iI 0 else totL on (TT c) z4.toNat (t9 - f9) f9 (iI 0)) = iI (sumH (ttG on (tfM mR mT mB mE mM c) z4) (48 * (t9 - f9)) (48 * f9) 0) by
        by_cases h4 : z4 < 0 ∨ 9 < z4
        · rw [if_pos h4, sumH_0 (ttG_0 (fun d q => tfM_bd hT c d q) h4)]
        · rw [if_neg h4, total_eq (on := on) (T := TT c) (f := (tfM mR mT mB mE mM c)) (t := z4.toNat) (to1 := t9) (by omega) (by omega) (fun d j hd hj => (hpl c hc (by omega) d j hd hj).1) (t9 - f9) f9 0 (by omega), show ((z4.toNat : Nat) : Int) = z4 by omega])
    refine ⟨_, _, iI 0, iI (sumH (ttG on (tfM mR mT mB mE mM c) z4) (48 * (t9 - f9)) (48 * f9) 0), rl_LW_total, 0, 0, iv 0, ⟨rfl, rfl, by decide, by decide⟩, ⟨by decide, by decide⟩, fun sz f0 => ⟨vp_updL f0 0 (iI (sumH (ttG on (tfM mR mT mB mE mM c) z4) (48 * (t9 - f9)) (48 * f9) 0)).toInt64, fun _ => rfl, ?_⟩, fun sz => x_MD_total_ok l D c f9 t9 z4 hR hT hB hE hM hc (by omega) (by omega) g4 (by have := hrl c hc; omega) sz, x_MD_thrown l D⟩
    rw [← he]
    exact h_total_ok l hlt D k sz h0 ao _ _ f0 _ _ _ _ rfl _ (x_RC_total l D c f9 t9 z4 hc (show 0 < rl c by omega) (show rl c < 1000 by have := hrl c hc; have := hR c; omega) (by omega) (by omega) g4)

set_option maxHeartbeats 4000000 in
set_option maxRecDepth 20000 in
theorem sy_compare (l : Launch) (hlt : l.stackTraces = false) (D : va_G) {k : Nat → ClassId} {h0 : Nat} {ur yo ya eo ea : Nat → Nat} {hm : Nat} {um : Nat → Nat} (ao : Nat) (R M : va_W) (v1 v2 : Int32) (hI : IV k h0 ur yo ya eo ea hm um R M) : ST_compare l D k h0 hm ao (IV k h0 ur yo ya eo ea hm um) R M v1 v2 := by
  obtain ⟨po, v0, pb, tx, n, on, rs, tv, l2n, TT, NN, rl, fa, ms, mR, mT, mB, mE, mM, rfl, rfl, hrel, hNB⟩ := hI
  have iv : ∀ fa : Int, IV k h0 ur yo ya eo ea hm um (RCX k h0 ur yo ya eo ea po v0 pb tx ((n : Nat) : Int) on rs tv l2n TT NN rl) (MDX k hm um fa ((n : Nat) : Int) on ms tx mR mT mB mE mM) := fun fa => ⟨po, v0, pb, tx, n, on, rs, tv, l2n, TT, NN, rl, fa, ms, mR, mT, mB, mE, mM, rfl, rfl, hrel, hNB⟩
  obtain ⟨hn, htx, hR, hT, hB, hE, hM, hrl, hpl⟩ := hrel
  obtain ⟨z1, rfl, g1⟩ := zof v1
  obtain ⟨z2, rfl, g2⟩ := zof v2
  unfold ST_compare
  by_cases hb : z1 < 0 ∨ 3 ≤ z1 ∨ z2 < 0 ∨ 3 ≤ z2
  · have hw := wr2F_1 (mR := mR) hb
    refine ⟨_, _, iI (wr2F mR z1 z2), iI 0, rx_LW_compare, 1, 6, iv (wr2F mR z1 z2), ⟨rfl, rfl, by decide, by decide⟩, ⟨by decide, by decide⟩, fun sz f0 => ⟨f0, fun h => absurd h (by rw [hw]; decide), ?_⟩, fun sz => x_MD_compare_bad l D z1 z2 hR g1 g2 (by rw [hw]; decide) sz, x_MD_thrown l D⟩
    rw [hw]
    refine h_compare_io l hlt D k sz h0 ao _ _ f0 _ _ rfl ?_
    by_cases hc : z1 < 0 ∨ 3 ≤ z1
    · exact xt_RC_compare_c l hlt D z1 z2 g1 hc
    · obtain ⟨c, rfl⟩ := nof (z := z1) (by omega)
      exact xt_RC_compare_d l hlt D c z2 (by omega) g2 (by omega)
  obtain ⟨c, rfl⟩ := nof (z := z1) (by omega)
  obtain ⟨d, rfl⟩ := nof (z := z2) (by omega)
  have hc : c < 3 := by omega
  have hd : d < 3 := by omega
  by_cases hr0 : rl c = 0 ∨ rl d = 0
  · have hw := wr2F_2 (mR := mR) hc hd (by have := hrl c hc; have := hrl d hd; omega)
    refine ⟨_, _, iI (wr2F mR (c : Int) (d : Int)), iI 0, rx_LW_compare, 1, 6, iv (wr2F mR (c : Int) (d : Int)), ⟨rfl, rfl, by decide, by decide⟩, ⟨by decide, by decide⟩, fun sz f0 => ⟨f0, fun h => absurd h (by rw [hw]; decide), ?_⟩, fun sz => x_MD_compare_bad l D (c : Int) (d : Int) hR g1 g2 (by rw [hw]; decide) sz, x_MD_thrown l D⟩
    rw [hw]
    refine h_compare_is l hlt D k sz h0 ao _ _ f0 _ _ rfl ?_
    by_cases hr1 : rl c = 0
    · exact xt_RC_compare_p l hlt D c d hc hd hr1
    · exact xt_RC_compare_r l hlt D c d hc hd (show 0 < rl c by omega) (show rl c < 1000 by have := hrl c hc; have := hR c; omega) (by omega)
  · have he := (show cmpL on (TT c) (TT d) 1461 0 = iI (fhZ (firstH (cmH on (tfM mR mT mB mE mM c) (tfM mR mT mB mE mM d)) 70128 0)) from compare_eq (on := on) (f := (tfM mR mT mB mE mM c)) (g := (tfM mR mT mB mE mM d)) (fun e9 j he hj => (hpl c hc (by omega) e9 j he hj).1) (fun e9 j he hj => (hpl d hd (by omega) e9 j he hj).1) 1461 0 (by decide))
    refine ⟨_, _, iI 0, iI (fhZ (firstH (cmH on (tfM mR mT mB mE mM c) (tfM mR mT mB mE mM d)) 70128 0)), rl_LW_compare, 0, 0, iv 0, ⟨rfl, rfl, by decide, by decide⟩, ⟨by decide, by decide⟩, fun sz f0 => ⟨vp_updL f0 0 (iI (fhZ (firstH (cmH on (tfM mR mT mB mE mM c) (tfM mR mT mB mE mM d)) 70128 0))).toInt64, fun _ => rfl, ?_⟩, fun sz => x_MD_compare_ok l D c d hR hT hB hE hM hc hd (wr2F_0 hc hd (by have := hrl c hc; omega) (by have := hrl d hd; omega)) sz, x_MD_thrown l D⟩
    rw [← he]
    exact h_compare_ok l hlt D k sz h0 ao _ _ f0 _ _ rfl _ (x_RC_compare l D c d hc hd (show 0 < rl c by omega) (show rl c < 1000 by have := hrl c hc; have := hR c; omega) (show 0 < rl d by omega) (show rl d < 1000 by have := hrl d hd; have := hR d; omega))

set_option maxHeartbeats 4000000 in
set_option maxRecDepth 20000 in
theorem sy_inside (l : Launch) (hlt : l.stackTraces = false) (D : va_G) {k : Nat → ClassId} {h0 : Nat} {ur yo ya eo ea : Nat → Nat} {hm : Nat} {um : Nat → Nat} (ao : Nat) (R M : va_W) (v1 v2 : Int32) (hI : IV k h0 ur yo ya eo ea hm um R M) : ST_inside l D k h0 hm ao (IV k h0 ur yo ya eo ea hm um) R M v1 v2 := by
  obtain ⟨po, v0, pb, tx, n, on, rs, tv, l2n, TT, NN, rl, fa, ms, mR, mT, mB, mE, mM, rfl, rfl, hrel, hNB⟩ := hI
  have iv : ∀ fa : Int, IV k h0 ur yo ya eo ea hm um (RCX k h0 ur yo ya eo ea po v0 pb tx ((n : Nat) : Int) on rs tv l2n TT NN rl) (MDX k hm um fa ((n : Nat) : Int) on ms tx mR mT mB mE mM) := fun fa => ⟨po, v0, pb, tx, n, on, rs, tv, l2n, TT, NN, rl, fa, ms, mR, mT, mB, mE, mM, rfl, rfl, hrel, hNB⟩
  obtain ⟨hn, htx, hR, hT, hB, hE, hM, hrl, hpl⟩ := hrel
  obtain ⟨z1, rfl, g1⟩ := zof v1
  obtain ⟨z2, rfl, g2⟩ := zof v2
  unfold ST_inside
  by_cases hb : z1 < 0 ∨ 3 ≤ z1 ∨ z2 < 0 ∨ 3 ≤ z2
  · have hw := wr2F_1 (mR := mR) hb
    refine ⟨_, _, iI (wr2F mR z1 z2), false, rx_LW_inside, 1, 6, iv (wr2F mR z1 z2), ⟨rfl, rfl, by decide, by decide⟩, ⟨by decide, by decide⟩, fun sz f0 => ⟨f0, fun h => absurd h (by rw [hw]; decide), ?_⟩, fun sz => x_MD_inside_bad l D z1 z2 hR g1 g2 (by rw [hw]; decide) sz, x_MD_thrown l D⟩
    rw [hw]
    refine h_inside_io l hlt D k sz h0 ao _ _ f0 _ _ rfl ?_
    by_cases hc : z1 < 0 ∨ 3 ≤ z1
    · exact xt_RC_inside_c l hlt D z1 z2 g1 hc
    · obtain ⟨c, rfl⟩ := nof (z := z1) (by omega)
      exact xt_RC_inside_d l hlt D c z2 (by omega) g2 (by omega)
  obtain ⟨c, rfl⟩ := nof (z := z1) (by omega)
  obtain ⟨d, rfl⟩ := nof (z := z2) (by omega)
  have hc : c < 3 := by omega
  have hd : d < 3 := by omega
  by_cases hr0 : rl c = 0 ∨ rl d = 0
  · have hw := wr2F_2 (mR := mR) hc hd (by have := hrl c hc; have := hrl d hd; omega)
    refine ⟨_, _, iI (wr2F mR (c : Int) (d : Int)), false, rx_LW_inside, 1, 6, iv (wr2F mR (c : Int) (d : Int)), ⟨rfl, rfl, by decide, by decide⟩, ⟨by decide, by decide⟩, fun sz f0 => ⟨f0, fun h => absurd h (by rw [hw]; decide), ?_⟩, fun sz => x_MD_inside_bad l D (c : Int) (d : Int) hR g1 g2 (by rw [hw]; decide) sz, x_MD_thrown l D⟩
    rw [hw]
    refine h_inside_is l hlt D k sz h0 ao _ _ f0 _ _ rfl ?_
    by_cases hr1 : rl c = 0
    · exact xt_RC_inside_p l hlt D c d hc hd hr1
    · exact xt_RC_inside_r l hlt D c d hc hd (show 0 < rl c by omega) (show rl c < 1000 by have := hrl c hc; have := hR c; omega) (by omega)
  · have he := (show insL on (TT c) (TT d) 1461 0 = (firstH (inH on (tfM mR mT mB mE mM c) (tfM mR mT mB mE mM d)) 70128 0).isNone from inside_eq (on := on) (f := (tfM mR mT mB mE mM c)) (g := (tfM mR mT mB mE mM d)) (fun e9 j he hj => (hpl c hc (by omega) e9 j he hj).1) (fun e9 j he hj => (hpl d hd (by omega) e9 j he hj).1) (fun e9 q => (tfM_bd hT d e9 q).1) 1461 0 (by decide))
    refine ⟨_, _, iI 0, ((firstH (inH on (tfM mR mT mB mE mM c) (tfM mR mT mB mE mM d)) 70128 0).isNone), rl_LW_inside, 0, 0, iv 0, ⟨rfl, rfl, by decide, by decide⟩, ⟨by decide, by decide⟩, fun sz f0 => ⟨vp_updL f0 0 (if (firstH (inH on (tfM mR mT mB mE mM c) (tfM mR mT mB mE mM d)) 70128 0).isNone then 1 else 0), fun _ => rfl, ?_⟩, fun sz => x_MD_inside_ok l D c d hR hT hB hE hM hc hd (wr2F_0 hc hd (by have := hrl c hc; omega) (by have := hrl d hd; omega)) sz, x_MD_thrown l D⟩
    rw [← he]
    exact h_inside_ok l hlt D k sz h0 ao _ _ f0 _ _ rfl _ (x_RC_inside l D c d hc hd (show 0 < rl c by omega) (show rl c < 1000 by have := hrl c hc; have := hR c; omega) (show 0 < rl d by omega) (show rl d < 1000 by have := hrl d hd; have := hR d; omega))

set_option maxHeartbeats 4000000 in
set_option maxRecDepth 20000 in
theorem sy_elapsed (l : Launch) (hlt : l.stackTraces = false) (D : va_G) {k : Nat → ClassId} {h0 : Nat} {ur yo ya eo ea : Nat → Nat} {hm : Nat} {um : Nat → Nat} (ao : Nat) (R M : va_W) (v1 v2 v3 : Int32) (hI : IV k h0 ur yo ya eo ea hm um R M) : ST_elapsed l D k h0 hm ao (IV k h0 ur yo ya eo ea hm um) R M v1 v2 v3 := by
  obtain ⟨po, v0, pb, tx, n, on, rs, tv, l2n, TT, NN, rl, fa, ms, mR, mT, mB, mE, mM, rfl, rfl, hrel, hNB⟩ := hI
  have iv : ∀ fa : Int, IV k h0 ur yo ya eo ea hm um (RCX k h0 ur yo ya eo ea po v0 pb tx ((n : Nat) : Int) on rs tv l2n TT NN rl) (MDX k hm um fa ((n : Nat) : Int) on ms tx mR mT mB mE mM) := fun fa => ⟨po, v0, pb, tx, n, on, rs, tv, l2n, TT, NN, rl, fa, ms, mR, mT, mB, mE, mM, rfl, rfl, hrel, hNB⟩
  obtain ⟨hn, htx, hR, hT, hB, hE, hM, hrl, hpl⟩ := hrel
  obtain ⟨z1, rfl, g1⟩ := zof v1
  obtain ⟨z2, rfl, g2⟩ := zof v2
  generalize hsec : nz v3 = sec
  unfold ST_elapsed
  rw [hsec]
  by_cases hb : z1 < 0 ∨ 1461 ≤ z1 ∨ z2 < 0 ∨ 48 ≤ z2
  · refine ⟨_, _, iI (1), iI 0, rx_LW_elapsed, 1, 6, iv (1), ⟨rfl, rfl, by decide, by decide⟩, ⟨by decide, by decide⟩, fun sz f0 => ⟨f0, fun h => absurd h (by decide), ?_⟩, fun sz => x_MD_elapsed_bad l D z1 z2 sec g1 g2 (by omega) sz, x_MD_thrown l D⟩
    skip
    refine h_elapsed_io l hlt D k sz h0 ao _ _ f0 _ _ _ rfl ?_
    exact xt_RC_elapsed_q l hlt D z1 z2 sec g1 g2 hb
  · obtain ⟨d, rfl⟩ := nof (z := z1) (by omega)
    have hd : d < 1461 := by omega
    have he := (show (if lostZ on d z2 = true then -1 else tmZ on d z2 sec) = (if loF on d z2 = true then -1 else tmM on d z2 sec) by rw [lo_eq _ hd, tm_eq z2 sec hd (by omega)])
    refine ⟨_, _, iI 0, iI (if loF on d z2 = true then -1 else tmM on d z2 sec), rl_LW_elapsed, 0, 0, iv 0, ⟨rfl, rfl, by decide, by decide⟩, ⟨by decide, by decide⟩, fun sz f0 => ⟨vp_updL f0 0 (iI (if loF on d z2 = true then -1 else tmM on d z2 sec)).toInt64, fun _ => rfl, ?_⟩, fun sz => x_MD_elapsed_ok l D d z2 sec hd (by omega) sz, x_MD_thrown l D⟩
    rw [← he]
    exact h_elapsed_ok l hlt D k sz h0 ao _ _ f0 _ _ _ rfl _ (x_RC_elapsed l D d z2 sec hd (by omega))

set_option maxHeartbeats 4000000 in
set_option maxRecDepth 20000 in
theorem sy_dayOf (l : Launch) (hlt : l.stackTraces = false) (D : va_G) {k : Nat → ClassId} {h0 : Nat} {ur yo ya eo ea : Nat → Nat} {hm : Nat} {um : Nat → Nat} (ao : Nat) (R M : va_W) (v1 v2 v3 : Int32) (hI : IV k h0 ur yo ya eo ea hm um R M) : ST_dayOf l D k h0 hm ao (IV k h0 ur yo ya eo ea hm um) R M v1 v2 v3 := by
  obtain ⟨po, v0, pb, tx, n, on, rs, tv, l2n, TT, NN, rl, fa, ms, mR, mT, mB, mE, mM, rfl, rfl, hrel, hNB⟩ := hI
  have iv : ∀ fa : Int, IV k h0 ur yo ya eo ea hm um (RCX k h0 ur yo ya eo ea po v0 pb tx ((n : Nat) : Int) on rs tv l2n TT NN rl) (MDX k hm um fa ((n : Nat) : Int) on ms tx mR mT mB mE mM) := fun fa => ⟨po, v0, pb, tx, n, on, rs, tv, l2n, TT, NN, rl, fa, ms, mR, mT, mB, mE, mM, rfl, rfl, hrel, hNB⟩
  obtain ⟨hn, htx, hR, hT, hB, hE, hM, hrl, hpl⟩ := hrel
  obtain ⟨z1, rfl, g1⟩ := zof v1
  obtain ⟨z2, rfl, g2⟩ := zof v2
  obtain ⟨z3, rfl, g3⟩ := zof v3
  unfold ST_dayOf
  have he := (dayOf_eq z1 z2 z3).symm
  refine ⟨_, iI ((mdoF z1 z2 z3).1), iv ((mdoF z1 z2 z3).2), ?_, fun sz => x_MD_dayOf l D z1 z2 z3 g1 g2 g3 sz⟩
  rw [← he]
  exact x_RC_dayOf l D z1 z2 z3 g1 g2 g3

set_option maxHeartbeats 4000000 in
set_option maxRecDepth 20000 in
theorem sy_dateOf (l : Launch) (hlt : l.stackTraces = false) (D : va_G) {k : Nat → ClassId} {h0 : Nat} {ur yo ya eo ea : Nat → Nat} {hm : Nat} {um : Nat → Nat} (ao : Nat) (R M : va_W) (v1 v2 : Int32) (hI : IV k h0 ur yo ya eo ea hm um R M) : ST_dateOf l D k h0 hm ao (IV k h0 ur yo ya eo ea hm um) R M v1 v2 := by
  obtain ⟨po, v0, pb, tx, n, on, rs, tv, l2n, TT, NN, rl, fa, ms, mR, mT, mB, mE, mM, rfl, rfl, hrel, hNB⟩ := hI
  have iv : ∀ fa : Int, IV k h0 ur yo ya eo ea hm um (RCX k h0 ur yo ya eo ea po v0 pb tx ((n : Nat) : Int) on rs tv l2n TT NN rl) (MDX k hm um fa ((n : Nat) : Int) on ms tx mR mT mB mE mM) := fun fa => ⟨po, v0, pb, tx, n, on, rs, tv, l2n, TT, NN, rl, fa, ms, mR, mT, mB, mE, mM, rfl, rfl, hrel, hNB⟩
  obtain ⟨hn, htx, hR, hT, hB, hE, hM, hrl, hpl⟩ := hrel
  obtain ⟨z1, rfl, g1⟩ := zof v1
  obtain ⟨z2, rfl, g2⟩ := zof v2
  unfold ST_dateOf
  have he := (mda_eq z1 z2).symm
  refine ⟨_, iI ((mdaF z1 z2).1), iv ((mdaF z1 z2).2), ?_, fun sz => x_MD_dateOf l D z1 z2 g1 g2 sz⟩
  rw [← he]
  exact x_RC_dateOf l D z1 z2 g1 g2

set_option maxHeartbeats 4000000 in
set_option maxRecDepth 20000 in
theorem sy_feast (l : Launch) (hlt : l.stackTraces = false) (D : va_G) {k : Nat → ClassId} {h0 : Nat} {ur yo ya eo ea : Nat → Nat} {hm : Nat} {um : Nat → Nat} (ao : Nat) (R M : va_W) (v1 : Int32) (hI : IV k h0 ur yo ya eo ea hm um R M) : ST_feast l D k h0 hm ao (IV k h0 ur yo ya eo ea hm um) R M v1 := by
  obtain ⟨po, v0, pb, tx, n, on, rs, tv, l2n, TT, NN, rl, fa, ms, mR, mT, mB, mE, mM, rfl, rfl, hrel, hNB⟩ := hI
  have iv : ∀ fa : Int, IV k h0 ur yo ya eo ea hm um (RCX k h0 ur yo ya eo ea po v0 pb tx ((n : Nat) : Int) on rs tv l2n TT NN rl) (MDX k hm um fa ((n : Nat) : Int) on ms tx mR mT mB mE mM) := fun fa => ⟨po, v0, pb, tx, n, on, rs, tv, l2n, TT, NN, rl, fa, ms, mR, mT, mB, mE, mM, rfl, rfl, hrel, hNB⟩
  obtain ⟨hn, htx, hR, hT, hB, hE, hM, hrl, hpl⟩ := hrel
  obtain ⟨z1, rfl, g1⟩ := zof v1
  unfold ST_feast
  have he := (rfl : feastZ z1 = feastZ z1)
  refine ⟨_, iI (feastZ z1), iv (0), ?_, fun sz => x_MD_feast l D z1 g1 sz⟩
  rw [← he]
  exact x_RC_feast l D z1 g1

set_option maxHeartbeats 4000000 in
set_option maxRecDepth 20000 in
theorem sy_clock (l : Launch) (hlt : l.stackTraces = false) (D : va_G) {k : Nat → ClassId} {h0 : Nat} {ur yo ya eo ea : Nat → Nat} {hm : Nat} {um : Nat → Nat} (ao : Nat) (R M : va_W) (v1 : Int32) (hI : IV k h0 ur yo ya eo ea hm um R M) : ST_clock l D k h0 hm ao (IV k h0 ur yo ya eo ea hm um) R M v1 := by
  obtain ⟨po, v0, pb, tx, n, on, rs, tv, l2n, TT, NN, rl, fa, ms, mR, mT, mB, mE, mM, rfl, rfl, hrel, hNB⟩ := hI
  have iv : ∀ fa : Int, IV k h0 ur yo ya eo ea hm um (RCX k h0 ur yo ya eo ea po v0 pb tx ((n : Nat) : Int) on rs tv l2n TT NN rl) (MDX k hm um fa ((n : Nat) : Int) on ms tx mR mT mB mE mM) := fun fa => ⟨po, v0, pb, tx, n, on, rs, tv, l2n, TT, NN, rl, fa, ms, mR, mT, mB, mE, mM, rfl, rfl, hrel, hNB⟩
  obtain ⟨hn, htx, hR, hT, hB, hE, hM, hrl, hpl⟩ := hrel
  obtain ⟨z1, rfl, g1⟩ := zof v1
  unfold ST_clock
  have he := (clock_eq on z1).symm
  refine ⟨_, iI (if z1 < 0 then -1 else shL on 1461 0 z1), iv (0), ?_, fun sz => x_MD_clock l D z1 g1 sz⟩
  rw [← he]
  exact x_RC_clock l D z1 g1

set_option maxHeartbeats 4000000 in
set_option maxRecDepth 20000 in
theorem sy_type (l : Launch) (hlt : l.stackTraces = false) (D : va_G) {k : Nat → ClassId} {h0 : Nat} {ur yo ya eo ea : Nat → Nat} {hm : Nat} {um : Nat → Nat} (ao : Nat) (R M : va_W) (v1 : Int32) (hI : IV k h0 ur yo ya eo ea hm um R M) : ST_type l D k h0 hm ao (IV k h0 ur yo ya eo ea hm um) R M v1 := by
  obtain ⟨po, v0, pb, tx, n, on, rs, tv, l2n, TT, NN, rl, fa, ms, mR, mT, mB, mE, mM, rfl, rfl, hrel, hNB⟩ := hI
  have hrel0 := hrel
  obtain ⟨hn, htx, hR, hT, hB, hE, hM, hrl, hpl⟩ := hrel
  obtain ⟨ch, hch, hc0, hc1⟩ := chv_z v1
  unfold ST_type
  rw [hch]
  have he : tyF tx ((n : Nat) : Int) ch = ((mtyF ((n : Nat) : Int) tx ch).1, (mtyF ((n : Nat) : Int) tx ch).2.2.1, (mtyF ((n : Nat) : Int) tx ch).2.2.2) := by
    unfold tyF mtyF
    by_cases h1 : ch < 32
    · rw [if_pos h1, if_pos h1]
    · rw [if_neg h1, if_neg h1]
      by_cases h2 : 126 < ch
      · rw [if_pos h2, if_pos h2]
      · rw [if_neg h2, if_neg h2]
        by_cases h3 : ((n : Nat) : Int) < 100
        · rw [if_pos h3, if_neg (by omega)]
        · rw [if_neg h3, if_pos (by omega)]
  have hN : ∃ n1 : Nat, (mtyF ((n : Nat) : Int) tx ch).2.2.1 = ((n1 : Nat) : Int) ∧ REL n1 (mtyF ((n : Nat) : Int) tx ch).2.2.2 TT NN rl mR mT mB mE mM := by
    unfold mtyF
    by_cases h1 : ch < 32
    · rw [if_pos h1]; exact ⟨n, rfl, hrel0⟩
    · rw [if_neg h1]
      by_cases h2 : 126 < ch
      · rw [if_pos h2]; exact ⟨n, rfl, hrel0⟩
      · rw [if_neg h2]
        by_cases h3 : ((n : Nat) : Int) = 100
        · rw [if_pos h3]; exact ⟨n, rfl, hrel0⟩
        · rw [if_neg h3]
          refine ⟨n + 1, rfl, by omega, fun j => ?_, hR, hT, hB, hE, hM, hrl, hpl⟩
          show 0 ≤ updZ tx _ ch j ∧ updZ tx _ ch j ≤ 126
          unfold updZ
          have := htx j
          split <;> omega
  obtain ⟨n1, hn1, hrel1⟩ := hN
  refine ⟨_, _, bI (mtyF ((n : Nat) : Int) tx ch).1, ⟨po, v0, pb, (mtyF ((n : Nat) : Int) tx ch).2.2.2, n1, on, rs, tv, l2n, TT, NN, rl, (mtyF ((n : Nat) : Int) tx ch).2.1, ms, mR, mT, mB, mE, mM, rfl, rfl, hrel1, hNB⟩, fun sz => ?_, fun sz => ?_⟩
  · have h := x_RC_type l D (k := k) (h0 := h0) (ur := ur) (yo := yo) (ya := ya) (eo := eo) (ea := ea) (po := po) (v0 := v0) (pb := pb) (tx := tx) (ln := ((n : Nat) : Int)) (on := on) (rs := rs) (tv := tv) (l2n := l2n) (TT := TT) (NN := NN) (rl := rl) ch (by omega) ⟨hc0, hc1⟩ sz
    rw [he] at h
    rw [hn1] at h
    exact h
  · have h := x_MD_type l D (k := k) (hm := hm) (um := um) (fa := fa) (ln := ((n : Nat) : Int)) (on := on) (ms := ms) (tx := tx) (mR := mR) (mT := mT) (mB := mB) (mE := mE) (mM := mM) ch (by omega) ⟨hc0, hc1⟩ sz
    rw [hn1] at h
    exact h

set_option maxHeartbeats 4000000 in
set_option maxRecDepth 20000 in
theorem sy_wipe (l : Launch) (hlt : l.stackTraces = false) (D : va_G) {k : Nat → ClassId} {h0 : Nat} {ur yo ya eo ea : Nat → Nat} {hm : Nat} {um : Nat → Nat} (ao : Nat) (R M : va_W) (hI : IV k h0 ur yo ya eo ea hm um R M) : ST_wipe l D k h0 hm ao (IV k h0 ur yo ya eo ea hm um) R M  := by
  obtain ⟨po, v0, pb, tx, n, on, rs, tv, l2n, TT, NN, rl, fa, ms, mR, mT, mB, mE, mM, rfl, rfl, hrel, hNB⟩ := hI
  unfold ST_wipe
  refine ⟨_, _, iI ((n : Nat) : Int), ⟨po, v0, pb, tx, 0, on, rs, tv, l2n, TT, NN, rl, 0, ms, mR, mT, mB, mE, mM, rfl, rfl, ⟨Nat.zero_le _, hrel.2⟩, hNB⟩, fun sz => ?_, fun sz => ?_⟩
  · exact x_RC_wipe l D sz
  · exact x_MD_wipe l D sz

set_option maxHeartbeats 4000000 in
set_option maxRecDepth 20000 in
theorem sy_shifts (l : Launch) (hlt : l.stackTraces = false) (D : va_G) {k : Nat → ClassId} {h0 : Nat} {ur yo ya eo ea : Nat → Nat} {hm : Nat} {um : Nat → Nat} (ao : Nat) (R M : va_W) (v1 : Int32) (hI : IV k h0 ur yo ya eo ea hm um R M) : ST_shifts l D k h0 hm ao (IV k h0 ur yo ya eo ea hm um) R M v1 := by
  obtain ⟨po, v0, pb, tx, n, on, rs, tv, l2n, TT, NN, rl, fa, ms, mR, mT, mB, mE, mM, rfl, rfl, hrel, hNB⟩ := hI
  unfold ST_shifts
  refine ⟨_, _, ⟨po, v0, pb, tx, n, nz v1, rs, tv, l2n, TT, NN, rl, 0, ms, mR, mT, mB, mE, mM, rfl, rfl, hrel, hNB⟩, fun sz => ?_, fun sz => ?_⟩
  · exact x_RC_shifts l D (nz v1) sz
  · exact x_MD_shifts l D (nz v1) sz

set_option maxHeartbeats 4000000 in
set_option maxRecDepth 20000 in
theorem sy_compile (l : Launch) (hlt : l.stackTraces = false) (D : va_G) {k : Nat → ClassId} {h0 : Nat} {ur yo ya eo ea : Nat → Nat} {hm : Nat} {um : Nat → Nat} (ao : Nat) (R M : va_W) (v1 : Int32) (hI : IV k h0 ur yo ya eo ea hm um R M) : ST_compile l D k h0 hm ao (IV k h0 ur yo ya eo ea hm um) R M v1 := by
  obtain ⟨po, v0, pb, tx, n, on, rs, tv, l2n, TT, NN, rl, fa, ms, mR, mT, mB, mE, mM, rfl, rfl, hrel, hNB⟩ := hI
  have hrel0 := hrel
  obtain ⟨hn, htx, hR, hT, hB, hE, hM, hrl, hpl⟩ := hrel
  obtain ⟨z1, rfl, g1⟩ := zof v1
  unfold ST_compile
  by_cases hb : z1 < 0 ∨ 3 ≤ z1
  · refine ⟨_, _, iI 1, iI 0, rx_LW_compile, 1, 6, ⟨po, v0, pb, tx, n, on, rs, tv, l2n, TT, NN, rl, 1, ms, mR, mT, mB, mE, mM, rfl, rfl, hrel0, hNB⟩, ⟨rfl, rfl, by decide, by decide⟩, ⟨by decide, by decide⟩, fun sz f0 => ⟨f0, fun h => absurd h (by decide), ?_⟩, fun sz => x_MD_compile_bad l D z1 g1 (by omega) sz, x_MD_thrown l D⟩
    exact h_compile_io l hlt D k sz h0 ao _ _ f0 _ rfl (xt_RC_compile_c l hlt D z1 g1 hb)
  obtain ⟨c, rfl⟩ := nof (z := z1) (by omega)
  have hc : c < 3 := by omega
  obtain ⟨pf, pt⟩ := parse_R htx hn ms rs hNB
  have htx1 : ∀ j, 0 ≤ tx j ∧ tx j ≤ 127 := fun j => ⟨(htx j).1, by have := (htx j).2; omega⟩
  have htx2 : ∀ j, 0 ≤ tx j ∧ tx j ≤ 65535 := fun j => ⟨(htx j).1, by have := (htx j).2; omega⟩
  have hpl2 := rdF_pl (tx := tx) (n := n) hn 12 (rdI rs) ⟨by show (0 : Int) ≤ 0; decide, by show (0 : Int) ≤ (n : Int); omega⟩
  cases hok : (rdF tx n 12 (rdI rs)).1 with
  | false =>
    obtain ⟨kf, mf, hrun, hN2⟩ := pf hok
    refine ⟨_, _, iI 0, iI (-1 - (rdF tx n 12 (rdI rs)).2.1), rl_LW_compile, 0, 0, ⟨po, v0, pb, tx, 0, on, (rdF tx n 12 (rdI rs)).2, .ref (ur 0), (n : Int), TT, NN, rl, 0, mf, mR, mT, mB, mE, mM, rfl, rfl, ⟨Nat.zero_le _, hrel0.2⟩, hN2⟩, ⟨rfl, rfl, by decide, by decide⟩, ⟨by decide, by decide⟩, fun sz f0 => ⟨vp_updL f0 0 (iI (-1 - (rdF tx n 12 (rdI rs)).2.1)).toInt64, fun _ => rfl, ?_⟩, fun sz => x_MD_compile_flt l D n kf (rdF tx n 12 (rdI rs)).2.1 mf c hn htx1 hc (by omega) hrun sz, x_MD_thrown l D⟩
    refine h_compile_ok l hlt D k sz h0 ao _ _ f0 _ rfl _ _ (fun sz => ?_)
    rcases (show c = 0 ∨ c = 1 ∨ c = 2 by omega) with rfl | rfl | rfl
    · exact x_RC_compile_bad_0 l D n hn htx2 hok sz
    · exact x_RC_compile_bad_1 l D n hn htx2 hok sz
    · exact x_RC_compile_bad_2 l D n hn htx2 hok sz
  | true =>
    obtain ⟨kf, mf, hrun, r0, Mf, hI, hpos⟩ := pt hok
    have hout := inv_out hn hI
    have hre := rel_ok hrel0 hc hI hn
    have hrr : mf.rr = ((r0 : Nat) : Int) := hout.1.1
    have hrl2 : rsL (rdF tx n 12 (rdI rs)).2 = r0 := hout.2.1
    have hRK : ∀ r : Nat, (r : Int) < mf.rr → RK mf.cf mf.ce mf.kd mf.fi mf.se r := fun r hr => hout.2.2.2.1 r (by omega)
    have hval : iI (mf.rr) = iI ((((rdF tx n 12 (rdI rs)).2.2.2.2.2.2.2.2.2.2.2.2.2 : Nat) : Int)) := by
      rw [hrr, ← hrl2]
      rfl
    refine ⟨_, _, iI 0, iI ((((rdF tx n 12 (rdI rs)).2.2.2.2.2.2.2.2.2.2.2.2.2 : Nat) : Int)), rl_LW_compile, 0, 0, ⟨updN po c v0, po c, swB pb c, tx, 0, on, rsS (rdF tx n 12 (rdI rs)).2 (TT c) (NN c) (rl c), .ref (ur 0), (n : Int), updP TT c (rdF tx n 12 (rdI rs)).2.2.2.2.2.2.2.2.2.2.2.1, updP NN c (rdF tx n 12 (rdI rs)).2.2.2.2.2.2.2.2.2.2.2.2.1, updN rl c (rdF tx n 12 (rdI rs)).2.2.2.2.2.2.2.2.2.2.2.2.2, 0, mf, updZ mR c mf.rr, cpG mT (12 * c) mf.nt mf.rr.toNat, cpG mB (12 * c) mf.nb mf.rr.toNat, cpG mE (12 * c) mf.ne mf.rr.toNat, cpG mM (1461 * c) (fun d => stM (mtM mf.cf mf.ce mf.kd mf.fi mf.se d) mf.rr.toNat) 1461, rfl, rfl, hre, hout.2.2.1⟩, ⟨rfl, rfl, by decide, by decide⟩, ⟨by decide, by decide⟩, fun sz f0 => ⟨vp_updL f0 0 (iI ((((rdF tx n 12 (rdI rs)).2.2.2.2.2.2.2.2.2.2.2.2.2 : Nat) : Int))).toInt64, fun _ => rfl, ?_⟩, fun sz => ?_, x_MD_thrown l D⟩
    · refine h_compile_ok l hlt D k sz h0 ao _ _ f0 _ rfl _ _ (fun sz => ?_)
      rcases (show c = 0 ∨ c = 1 ∨ c = 2 by omega) with rfl | rfl | rfl
      · exact x_RC_compile_ok_0 l D n hn htx2 hok sz
      · exact x_RC_compile_ok_1 l D n hn htx2 hok sz
      · exact x_RC_compile_ok_2 l D n hn htx2 hok sz
    · rw [← hval]
      exact x_MD_compile_ok l D n kf mf c hn htx1 hc (by have := hout.1.2; omega) hrun hRK sz
