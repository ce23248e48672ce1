def rsT (q : RS) : PN := q.2.2.2.2.2.2.2.2.2.2.1
def rsN (q : RS) : PN := q.2.2.2.2.2.2.2.2.2.2.2.1
def rsL (q : RS) : Nat := q.2.2.2.2.2.2.2.2.2.2.2.2
def RT.ec (X : RT) : RT := X.sCf (updZ X.cf X.rr.toNat X.cl)
/-- reader and model between two rules -/
def INV (p : Nat) (X : RT) (q : RS) (rl : Nat) (Mf : Nat → Nat → Bool) : Prop := X.rr = (rl : Int) ∧ BX X ∧ X.cl ≤ p ∧ 2 * X.an ≤ p ∧ X.cf rl = X.cl ∧ OLD X rl Mf ∧ rsL q = rl ∧ PLN (rsT q) (rsN q) X.nt X.nb X.ne Mf rl
theorem ec_rw {X : RT} {rl : Nat} (h : X.rr = ((rl + 1 : Nat) : Int)) : RWX X X.ec rl := by
  refine ⟨fun _ _ => ⟨rfl, rfl, rfl⟩, fun r hr => ?_, rfl, rfl, rfl, rfl, rfl, rfl⟩
  show updZ X.cf X.rr.toNat X.cl r = X.cf r
  exact updZ_n (by omega)
theorem rule_end {p' : Nat} {X X2 X' : RT} {q q' : RS} {rl : Nat} {Mf : Nat → Nat → Bool} {f : Nat → Int64} {b e t : Nat} {p : Nat} (hI : INV p X q rl Mf) (hr : rl < 12) (hW : RWX X X2 rl) (hr2 : X2.rr = ((rl + 1 : Nat) : Int)) (hE : EXT X2 X') (hB : BX X') (h1 : X'.cl ≤ p') (h2 : 2 * X'.an ≤ p') (hb : b ≤ 48) (he : e ≤ 48) (hne : ¬ b = e) (ht : t ≤ 9) (e1 : X2.nt rl = (t : Int)) (e2 : X2.nb rl = (b : Int)) (e3 : X2.ne rl = (e : Int))
    (hc : ∀ j : Nat, X.cl ≤ (j : Int) → (j : Int) < X'.cl → CE1 X' (X'.ce j)) (hm : ∀ d, d < 1461 → (decide (X.cl = X'.cl) || decide (mFold X'.ce X'.kd X'.fi X'.se d (X'.cl.toNat - X.cl.toNat) X.cl.toNat (iI 0) &&& iI 1 = iI 1)) = dsb f d)
    (q1 : rsL q' = rsL q + 1) (q2 : rsT q' = layM t (cel f b e) (rsT q) 1461) (q3 : rsN q' = layM (rsL q + 1) (cel f b e) (rsN q) 1461) : ∃ Mf', INV p' X'.ec q' (rl + 1) Mf' := by
  obtain ⟨i1, i2, i3, i4, i5, i6, i7, i8⟩ := hI
  obtain ⟨⟨x1, x2, x3, x4, x5⟩, ⟨x6, x7⟩, x8, x9⟩ := id hE
  obtain ⟨w1, w2, w3, w4, w5, w6, w7, w8⟩ := id hW
  have hrr : X'.rr = ((rl + 1 : Nat) : Int) := x1.trans hr2
  have hcf : X'.ec.cf (rl + 1) = X'.cl := by
    show updZ X'.cf X'.rr.toNat X'.cl (rl + 1) = X'.cl
    rw [hrr, Int.toNat_natCast]
    exact updZ_y
  have hcf0 : X'.ec.cf rl = X.cl := by
    rw [(ec_rw hrr).2.1 rl (Nat.le_refl _), x5, w2 rl (Nat.le_refl _), i5]
  have hO := ((i6.rw hW).ext hE).rw (ec_rw hrr)
  refine ⟨fun r d => if r = rl then dsb f d else Mf r d, hrr, hB, h1, h2, hcf, fun r hr3 => ?_, by rw [q1, i7], ?_⟩
  · by_cases hrl : r = rl
    · subst hrl
      rw [hcf, hcf0]
      have hcl : X'.ec.cl = X'.cl := rfl
      have h0 := i2.2.1.1
      rw [hcl]
      refine ⟨⟨h0, by omega, Int.le_refl _⟩, hc, fun d hd => ?_, ?_, ?_, ?_⟩
      · dsimp only
        rw [if_pos rfl, ← hm d hd]
        unfold mtM
        rw [hcf, hcf0]
        rfl
      · show 0 ≤ X'.nt r ∧ X'.nt r ≤ 9
        rw [x2, e1]; omega
      · show 0 ≤ X'.nb r ∧ X'.nb r ≤ 48
        rw [x3, e2]; omega
      · show 0 ≤ X'.ne r ∧ X'.ne r ≤ 48
        rw [x4, e3]; omega
    · obtain ⟨g1, g2, g3, g4, g5, g6⟩ := hO r (by omega)
      exact ⟨g1, g2, fun d hd => (g3 d hd).trans (if_neg hrl).symm, g4, g5, g6⟩
  · rw [q2, q3, i7]
    refine PLN_s i8 hr (fun r hr3 => ?_) hb he hne ht ?_ ?_ ?_ (fun d hd => if_pos rfl)
    · obtain ⟨a1, a2, a3⟩ := w1 r hr3
      refine ⟨?_, ?_, ?_, fun d hd => if_neg (by omega)⟩
      · show X'.nt r = X.nt r
        rw [x2, a1]
      · show X'.nb r = X.nb r
        rw [x3, a2]
      · show X'.ne r = X.ne r
        rw [x4, a3]
    · show X'.nt rl = _
      rw [x2, e1]
    · show X'.nb rl = _
      rw [x3, e2]
    · show X'.ne rl = _
      rw [x4, e3]
section RUL
variable {tx : Nat → Int} {n : Nat} {res : Int} {Z : RT → Prop}
/-- what a rule's reading comes to, from here on -/
def CNR (tx : Nat → Int) (n : Nat) (res : Int) (Z : RT → Prop) (rl : Nat) (p : Nat) (S : List SI) (X : RT) (r : Bool × RS) : Prop :=
  (r.1 = false → res = r.2.1 → (∀ Y, NBO Y → Z Y) → RL tx n res Z p S X) ∧
  (r.1 = true → ∀ p' : Nat, r.2.1 = (p' : Int) → (∀ X' Mf', BX X' → X'.rr = ((rl + 1 : Nat) : Int) → INV p' X'.ec r.2 (rl + 1) Mf' → RL tx n res Z p' [(3, 0, 0)] X') → RL tx n res Z p S X)
theorem CNR.imp {rl p p0 : Nat} {S S' : List SI} {X X' : RT} {r : Bool × RS} (h : CNR tx n res Z rl p S X r) (hi : RL tx n res Z p S X → RL tx n res Z p0 S' X') : CNR tx n res Z rl p0 S' X' r :=
  ⟨fun h1 h2 h3 => hi (h.1 h1 h2 h3), fun h1 p' h2 h3 => hi (h.2 h1 p' h2 h3)⟩
theorem raF_0 {p : Nat} {kd f1 s1 : Int} (h : chT tx n p = 0) : (raF tx n (p : Int) kd f1 s1).1 = false ∧ (raF tx n (p : Int) kd f1 s1).2.1 = (p : Int) := by
  have hf : ∀ c : Int, ¬ c = 0 → tkF tx n (p : Int) c = (false, (p : Int)) := fun c hc => tk_f (by omega)
  unfold raF
  rw [hf 87 (by decide)]
  dsimp only
  rw [if_neg Bool.false_ne_true, hf 78 (by decide)]
  dsimp only
  rw [if_neg Bool.false_ne_true, hf 68 (by decide)]
  dsimp only
  rw [if_neg Bool.false_ne_true, hf 80 (by decide)]
  dsimp only
  rw [if_neg Bool.false_ne_true, hf 67 (by decide)]
  dsimp only
  rw [if_neg Bool.false_ne_true, hf 70 (by decide)]
  dsimp only
  rw [if_neg Bool.false_ne_true, hf 89 (by decide)]
  dsimp only
  rw [if_neg Bool.false_ne_true]
  exact ⟨rfl, rfl⟩
theorem mtF_0 {p k : Nat} {Y E : Nat → Nat → Int64} {ng : Nat → Bool} {kd f1 s1 : Int} {gd : Nat → Int64} (h : chT tx n p = 0) : (mtF tx n (k + 1) 0 (p : Int) Y E ng kd f1 s1 gd).1 = false ∧ (mtF tx n (k + 1) 0 (p : Int) Y E ng kd f1 s1 gd).2.1 = (p : Int) := by
  have h1 : ntF tx n 100 (p : Int) false = (false, (p : Int)) := by
    rw [ntF_e (k := 99) (by rw [tk_f (by omega)]), tk_f (by omega)]
  rw [mtF_a2 (by decide) (by rw [h1]; show (tkF tx n (p : Int) 40).1 = false; rw [tk_f (by omega)]), h1]
  dsimp only
  rw [tk_f (by omega)]
  dsimp only
  obtain ⟨k1, k2⟩ := raF_0 (kd := kd) (f1 := f1) (s1 := s1) h
  unfold mtB
  rw [if_neg (by rw [k1]; exact Bool.false_ne_true)]
  exact ⟨rfl, k2⟩
/-- the matcher of a rule, or none -/
theorem rm_go (htx : ∀ j, 0 ≤ tx j ∧ tx j ≤ 126) (hn : n ≤ 100) {p p2 : Nat} {X X2 : RT} {q : RS} {rl : Nat} {Mf : Nat → Nat → Bool} {b e t : Nat} (hI : INV p X q rl Mf) (hr : rl < 12) (hW : RWX X X2 rl) (hr2 : X2.rr = ((rl + 1 : Nat) : Int)) (hB : BX X2) (hp2 : p + 1 ≤ p2) (hp3 : p2 ≤ n) (hb : b ≤ 48) (he : e ≤ 48) (hne : ¬ b = e) (ht : t ≤ 9) (e1 : X2.nt rl = (t : Int)) (e2 : X2.nb rl = (b : Int)) (e3 : X2.ne rl = (e : Int)) :
    CNR tx n res Z rl p2 [(2, 0, 0), (3, 0, 0)] X2 (rrM tx n (t : Int) (rrP q (p2 : Int) (b : Int) (e : Int))) := by
  have hcl : X2.cl = X.cl := hW.2.2.2.1
  have han : X2.an = X.an := hW.2.2.2.2.1
  have i3 := hI.2.2.1
  have i4 := hI.2.2.2.1
  have h0 := hB.2.1.1
  have h0a := hB.2.2.1.1
  have hI2 : IX X2 2 0 0 := IX.lo (by decide) (by decide) (by decide)
  have none : (chT tx n p2 = 0 ∨ chT tx n p2 = 59) → CNR tx n res Z rl p2 [(2, 0, 0), (3, 0, 0)] X2 (rrL (t : Int) true (rrY (rrP q (p2 : Int) (b : Int) (e : Int)))) := by
    intro h
    refine ⟨fun h => btf h, fun _ p' hp hk => ?_⟩
    have hp : (p2 : Int) = (p' : Int) := hp
    have hp := (nc_inj hp).symm
    subst hp
    refine RL_2 htx (by decide) hB hI2 (tk_2e h) ?_
    obtain ⟨Mf', hi⟩ := rule_end (p' := p2) (f := fW) (q' := (rrL (t : Int) true (rrY (rrP q (p2 : Int) (b : Int) (e : Int)))).2) hI hr hW hr2 (EXT.rf X2) hB (by omega) (by omega) hb he hne ht e1 e2 e3 (fun j h1 h2 => by omega) (fun d hd => by rw [decide_eq_true hcl.symm, dsb_fW]; rfl) rfl rfl rfl
    exact hk X2 Mf' hB hr2 hi
  unfold rrM
  by_cases c1 : p2 = n
  · rw [if_pos (show (rrP q (p2 : Int) (b : Int) (e : Int)).1 = (n : Int) by show (p2 : Int) = (n : Int); omega)]
    refine none (Or.inl ?_)
    rcases chT_c tx n p2 with ⟨h, _⟩ | ⟨_, h⟩
    · omega
    · exact h
  · rw [if_neg (show ¬ (rrP q (p2 : Int) (b : Int) (e : Int)).1 = (n : Int) by show ¬ (p2 : Int) = (n : Int); omega)]
    have hch : chT tx n p2 = tx p2 := by
      rcases chT_c tx n p2 with ⟨_, h⟩ | ⟨h, _⟩
      · exact h
      · omega
    have htn : tx (rrP q (p2 : Int) (b : Int) (e : Int)).1.toNat = chT tx n p2 := by
      rw [hch]; rfl
    by_cases c2 : chT tx n p2 = 59
    · rw [if_pos (htn.trans c2)]
      exact none (Or.inr c2)
    · rw [if_neg (by rw [htn]; exact c2)]
      by_cases c3 : chT tx n p2 = 0
      · have hf : (rrMt tx n (rrP q (p2 : Int) (b : Int) (e : Int))).1 = false ∧ (rrMt tx n (rrP q (p2 : Int) (b : Int) (e : Int))).2.1 = (p2 : Int) := mtF_0 (k := 99) c3
        unfold rrL
        rw [if_neg (by rw [hf.1]; exact Bool.false_ne_true)]
        refine ⟨fun _ hres hz => ?_, fun h => bft h⟩
        have hres : res = (p2 : Int) := hres.trans hf.2
        refine RL_2 htx (by decide) hB hI2 (tk_2e (Or.inl c3)) ?_
        have hT := tk_3e (X := X2)
        rw [← c3] at hT
        refine RL_2 htx (by decide) hB (IX.lo (by decide) (by decide) (by decide)) hT ?_
        exact RL_e (by rw [if_pos (by omega)]; exact hres) (hz _ hB.nbo)
      · have hev : EVI X2 X.cl.toNat (fun d => BTS (up2 (rrP q (p2 : Int) (b : Int) (e : Int)).2.2.2.1 0 zW) (up2 (rrP q (p2 : Int) (b : Int) (e : Int)).2.2.2.2.1 0 fW) d [(false, false, 0)]) := by
          refine ⟨⟨h0, h0a, by omega⟩, fun j h1 h2 => by omega, fun d hd => ?_⟩
          rw [show X2.cl.toNat - X.cl.toNat = 0 by omega]
          rfl
        have hm := mt_main (res := res) (Z := Z) (L0 := [(3, 0, 0)]) (X0 := X2) (c0 := X.cl.toNat) htx hn (by decide) 100 (false, false, 0) [] p2 (up2 (rrP q (p2 : Int) (b : Int) (e : Int)).2.2.2.1 0 zW) (up2 (rrP q (p2 : Int) (b : Int) (e : Int)).2.2.2.2.1 0 fW) (rrP q (p2 : Int) (b : Int) (e : Int)).2.2.2.2.2.1 X2 (rrP q (p2 : Int) (b : Int) (e : Int)).2.2.2.2.2.2.1 (rrP q (p2 : Int) (b : Int) (e : Int)).2.2.2.2.2.2.2.1 (rrP q (p2 : Int) (b : Int) (e : Int)).2.2.2.2.2.2.2.2.1 (rrP q (p2 : Int) (b : Int) (e : Int)).2.2.2.2.2.2.2.2.2.1 (by decide) hp3 (by omega) ⟨fun _ d _ => dsb_fW, fun _ d _ => dsb_zW, fun h => absurd rfl h, trivial⟩ (EXT.rf X2) hB (by show X2.cl + ((0 : Nat) : Int) ≤ (p2 : Int); omega) (by omega) hev
        have hgo : RL tx n res Z p2 ((14, 1, 0) :: STK [(3, 0, 0)] [(false, false, 0)]) X2 → RL tx n res Z p2 [(2, 0, 0), (3, 0, 0)] X2 := by
          intro h
          refine RL_2 htx (by decide) hB hI2 (tk_2m c3 c2) ?_
          refine RL_2 htx (by decide) hB (IX.lo (by decide) (by decide) (by decide)) tk_10 ?_
          exact RL_2 htx (by decide) hB (IX.lo (by decide) (by decide) (by decide)) tk_12 h
        have hm : CON tx n res Z [(3, 0, 0)] X2 X.cl.toNat p2 ((14, 1, 0) :: STK [(3, 0, 0)] [(false, false, 0)]) X2 (rrMt tx n (rrP q (p2 : Int) (b : Int) (e : Int))) := hm
        unfold rrL
        by_cases c4 : (rrMt tx n (rrP q (p2 : Int) (b : Int) (e : Int))).1 = true
        · rw [if_pos c4]
          refine ⟨fun h => btf h, fun _ p' hp hk => hgo (hm.2 c4 p' hp (fun X' y1 y2 y3 y4 y5 y6 => ?_))⟩
          obtain ⟨Mf', hi⟩ := rule_end (p' := p') (f := (rrMt tx n (rrP q (p2 : Int) (b : Int) (e : Int))).2.2.1 0) (q' := (rrL (t : Int) true (rrU (rrP q (p2 : Int) (b : Int) (e : Int)) (rrMt tx n (rrP q (p2 : Int) (b : Int) (e : Int))))).2) hI hr hW hr2 y1 y2 y4 y5 hb he hne ht e1 e2 e3 (fun j h1 h2 => y6.2.1 j (by omega) h2) (fun d hd => by
            rw [decide_eq_false (by omega), Bool.false_or, y6.2.2 d hd, (ck_at (encN_bd (by show 1 ≤ 9; decide))).2.2.2.2.2]
            show decide ((2 * 0 + (dsb ((rrMt tx n (rrP q (p2 : Int) (b : Int) (e : Int))).2.2.1 0) d).toNat) % 2 = 1) = _
            cases dsb ((rrMt tx n (rrP q (p2 : Int) (b : Int) (e : Int))).2.2.1 0) d <;> rfl) rfl rfl rfl
          exact hk X' Mf' y2 (y1.1.1.trans hr2) hi
        · rw [if_neg c4]
          exact ⟨fun _ hres hz => hgo (hm.1 (Bool.eq_false_iff.mpr c4) hres hz), fun h => bft h⟩
end RUL
