theorem hhF_ne {tx : Nat → Int} {n : Nat} {pl lh br : Int} : (hhF tx n pl lh br).1 = -1 ∨ ¬ (hhF tx n pl lh br).1 = br := by
  show (fun q : Int × Int => q.1 = -1 ∨ ¬ q.1 = br) (hhF tx n pl lh br)
  unfold hhF
  repeat' (refine ite_P (P := fun q : Int × Int => q.1 = -1 ∨ ¬ q.1 = br) (fun _ => ?_) (fun _ => ?_))
  all_goals (dsimp only; omega)
theorem hhF_mo {tx : Nat → Int} {n : Nat} {pl lh br : Int} : pl ≤ (hhF tx n pl lh br).2 := by
  have a1 : pl ≤ (tn10 tx n pl 0 lh).2 := tn10_mo
  have a2 : (tn10 tx n pl 0 lh).2 ≤ (tkF tx n ((tn10 tx n pl 0 lh).2) 51).2 := tkF_mo
  have a3 : (tkF tx n ((tn10 tx n pl 0 lh).2) 51).2 ≤ (tkF tx n ((tkF tx n ((tn10 tx n pl 0 lh).2) 51).2) 48).2 := tkF_mo
  have a4 : (tn10 tx n pl 0 lh).2 ≤ (tkF tx n ((tn10 tx n pl 0 lh).2) 48).2 := tkF_mo
  have a5 : (tkF tx n ((tn10 tx n pl 0 lh).2) 48).2 ≤ (tkF tx n ((tkF tx n ((tn10 tx n pl 0 lh).2) 48).2) 48).2 := tkF_mo
  have a6 : (tkF tx n ((tn10 tx n pl 0 lh).2) 48).2 ≤ (tkF tx n ((tkF tx n ((tn10 tx n pl 0 lh).2) 48).2) 51).2 := tkF_mo
  have a7 : (tkF tx n ((tkF tx n ((tn10 tx n pl 0 lh).2) 48).2) 51).2 ≤ (tkF tx n ((tkF tx n ((tkF tx n ((tn10 tx n pl 0 lh).2) 48).2) 51).2) 48).2 := tkF_mo
  unfold hhF
  repeat' apply ite_mo
  all_goals (dsimp only; omega)
theorem spF_ne {tx : Nat → Int} {n : Nat} {pl to1 : Int} (h : (spF tx n pl to1).1 = true) : ¬ (spF tx n pl to1).2.2.1 = (spF tx n pl to1).2.2.2 := by
  unfold spF at h ⊢
  by_cases c1 : (hhF tx n pl 23 (-1)).1 = -1
  · rw [if_pos c1] at h; exact bft h
  · rw [if_neg c1] at h ⊢
    by_cases c2 : (tkF tx n ((hhF tx n pl 23 (-1)).2) 45).1 = true
    · rw [if_pos c2] at h ⊢
      have h3 := hhF_ne (tx := tx) (n := n) (pl := (tkF tx n ((hhF tx n pl 23 (-1)).2) 45).2) (lh := 24) (br := (hhF tx n pl 23 (-1)).1)
      by_cases c3 : (hhF tx n ((tkF tx n ((hhF tx n pl 23 (-1)).2) 45).2) 24 (((hhF tx n pl 23 (-1)).1))).1 = -1
      · rw [if_pos c3] at h; exact bft h
      · rw [if_neg c3]
        dsimp only
        omega
    · rw [if_neg c2] at h; exact bft h
theorem spF_mo {tx : Nat → Int} {n : Nat} {pl to1 : Int} : pl ≤ (spF tx n pl to1).2.1 := by
  have a1 : pl ≤ (hhF tx n pl 23 (-1)).2 := hhF_mo
  have a2 : (hhF tx n pl 23 (-1)).2 ≤ (tkF tx n ((hhF tx n pl 23 (-1)).2) 45).2 := tkF_mo
  have a3 : (tkF tx n ((hhF tx n pl 23 (-1)).2) 45).2 ≤ (hhF tx n ((tkF tx n ((hhF tx n pl 23 (-1)).2) 45).2) 24 (((hhF tx n pl 23 (-1)).1))).2 := hhF_mo
  unfold spF
  (repeat' split) <;> (try dsimp only) <;> omega
theorem rule_mk (X : RT) (t : Int) : X.rule t = mkR (X.rr + 1) (updZ X.nt X.rr.toNat t) (updZ X.nb X.rr.toNat 0) (updZ X.ne X.rr.toNat 48) X.cf X.ce X.cl X.an X.kd X.fi X.se := by
  unfold RT.rule
  have h1 : (X.sRr (X.rr + 1)).sNt (updZ X.nt X.rr.toNat t) = mkR (X.rr + 1) (updZ X.nt X.rr.toNat t) X.nb X.ne X.cf X.ce X.cl X.an X.kd X.fi X.se := rfl
  rw [h1]
  rfl
theorem sp_mk (X : RT) (t b e : Int) : (X.rule t).sp X.rr.toNat b e = mkR (X.rr + 1) (updZ X.nt X.rr.toNat t) (updZ X.nb X.rr.toNat b) (updZ X.ne X.rr.toNat e) X.cf X.ce X.cl X.an X.kd X.fi X.se := by
  rw [rule_mk]
  show mkR (X.rr + 1) (updZ X.nt X.rr.toNat t) (updZ (updZ X.nb X.rr.toNat 0) X.rr.toNat b) (updZ (updZ X.ne X.rr.toNat 48) X.rr.toNat e) X.cf X.ce X.cl X.an X.kd X.fi X.se = _
  rw [updZ_u, updZ_u]
theorem sp_0 (X : RT) (t : Int) : X.rule t = (X.rule t).sp X.rr.toNat 0 48 := by
  rw [sp_mk, rule_mk]
section RUF
variable {tx : Nat → Int} {n : Nat} {res : Int} {Z : RT → Prop}
/-- a rule -/
theorem rr_go (htx : ∀ j, 0 ≤ tx j ∧ tx j ≤ 126) (hn : n ≤ 100) {p : Nat} {X : RT} {q : RS} {rl : Nat} {Mf : Nat → Nat → Bool} (hI : INV p X q rl Mf) (hr : rl < 12) (hp : p ≤ n) (hq : q.1 = (p : Int)) : CNR tx n res Z rl p [(0, 0, 0)] X (rrF tx n q) := by
  obtain ⟨i1, i2, i3, i4, i5, i6, i7, i8⟩ := id hI
  have hrt : X.rr.toNat = rl := by omega
  have hI0 : IX X 0 0 0 := ⟨by decide, by decide, by decide, fun _ => by omega, fun h => by omega, fun h => by omega, fun h => by omega, fun h => by omega⟩
  unfold rrF
  rw [hq]
  by_cases c1 : (48 ≤ chT tx n p ∧ chT tx n p ≤ 57) ∧ chT tx n p - 48 ≤ 9 ∧ 0 ≤ chT tx n p - 48
  · rw [tn1_t c1]
    dsimp only
    rw [if_neg (show ¬ chT tx n p - 48 = -1 by omega)]
    have hl := chT_n (tx := tx) (n := n) (p := p) (by omega)
    obtain ⟨t, ht⟩ : ∃ t : Nat, chT tx n p - 48 = (t : Int) := ⟨(chT tx n p - 48).toNat, by omega⟩
    have hgo : RL tx n res Z (p + 1) [(1, 0, 0), (2, 0, 0), (3, 0, 0)] (X.rule (t : Int)) → RL tx n res Z p [(0, 0, 0)] X := by
      intro h
      have hT := tk_r (X := X) (ch := chT tx n p) ((inF_i _ _ _).mpr (by omega))
      rw [ht] at hT
      exact RL_1 htx (by decide) i2 hI0 hT hl h
    have hx : ∀ b e : Nat, b ≤ 48 → e ≤ 48 → RWX X ((X.rule (t : Int)).sp rl (b : Int) (e : Int)) rl ∧ ((X.rule (t : Int)).sp rl (b : Int) (e : Int)).rr = ((rl + 1 : Nat) : Int) ∧ BX ((X.rule (t : Int)).sp rl (b : Int) (e : Int)) ∧ ((X.rule (t : Int)).sp rl (b : Int) (e : Int)).nt rl = (t : Int) ∧ ((X.rule (t : Int)).sp rl (b : Int) (e : Int)).nb rl = (b : Int) ∧ ((X.rule (t : Int)).sp rl (b : Int) (e : Int)).ne rl = (e : Int) := by
      intro b e hb he
      have em := sp_mk X (t : Int) (b : Int) (e : Int)
      rw [hrt] at em
      rw [em]
      refine ⟨⟨fun r h => ⟨?_, ?_, ?_⟩, fun _ _ => rfl, rfl, rfl, rfl, rfl, rfl, rfl⟩, ?_, ⟨⟨?_, ?_⟩, i2.2.1, i2.2.2.1, updZ_bd i2.2.2.2.1 (by omega), updZ_bd i2.2.2.2.2 (by omega)⟩, updZ_y, updZ_y, updZ_y⟩
      · exact updZ_n (by omega)
      · exact updZ_n (by omega)
      · exact updZ_n (by omega)
      · show X.rr + 1 = _; omega
      · show 0 ≤ X.rr + 1; omega
      · show X.rr + 1 ≤ 12; omega
    have hX1 : X.rule (t : Int) = (X.rule (t : Int)).sp rl ((0 : Nat) : Int) ((48 : Nat) : Int) := by
      have := sp_0 X (t : Int)
      rw [hrt] at this
      exact this
    have hB1 : BX (X.rule (t : Int)) := by rw [hX1]; exact (hx 0 48 (by decide) (by decide)).2.2.1
    rw [ht]
    have hI1 : IX (X.rule (t : Int)) 1 0 0 := IX.lo (by decide) (by decide) (by decide)
    by_cases c2 : chT tx n (p + 1) = 64
    · rw [tk_t c2 (by decide)]
      dsimp only
      rw [if_pos rfl]
      have hl2 := chT_n (tx := tx) (n := n) (p := p + 1) (by omega)
      have hrr : (X.rule (t : Int)).rr = ((rl + 1 : Nat) : Int) := by
        rw [rule_mk]; show X.rr + 1 = _; omega
      obtain ⟨k1, k2⟩ := al_S (p := p + 1 + 1) (i := rl) (b := ((0 : Nat) : Int)) (e := ((48 : Nat) : Int)) (res := res) (Z := Z) (n := n) (L := [(2, 0, 0), (3, 0, 0)]) (X := X.rule (t : Int)) htx (by decide) hB1 (by omega) (by omega) (by decide) (by decide) 48
      have hT := tk_1t (X := X.rule (t : Int))
      rw [← c2] at hT
      have hgo2 : RL tx n res Z (p + 1 + 1) ((4, 0, 0) :: [(2, 0, 0), (3, 0, 0)]) ((X.rule (t : Int)).sp rl ((0 : Nat) : Int) ((48 : Nat) : Int)) → RL tx n res Z p [(0, 0, 0)] X := fun h => hgo (RL_1 htx (by decide) hB1 hI1 hT hl2 (by rw [← hX1] at h; exact h))
      by_cases c3 : (spF tx n ((p + 1 + 1 : Nat) : Int) 48).1 = true
      · rw [if_pos c3]
        obtain ⟨b1, b2, p', b3, b4⟩ := k2 c3
        have hne := spF_ne c3
        have hmo : ((p + 1 + 1 : Nat) : Int) ≤ (spF tx n ((p + 1 + 1 : Nat) : Int) 48).2.1 := spF_mo
        have hbd := spF_bd (tx := tx) (n := n) (pl := ((p + 1 + 1 : Nat) : Int)) (to1 := 48) hn (by omega)
        unfold Ps at hbd
        rw [b3] at hmo hbd ⊢
        obtain ⟨b, hb⟩ : ∃ b : Nat, (spF tx n ((p + 1 + 1 : Nat) : Int) 48).2.2.1 = (b : Int) := ⟨(spF tx n ((p + 1 + 1 : Nat) : Int) 48).2.2.1.toNat, by omega⟩
        obtain ⟨e, he⟩ : ∃ e : Nat, (spF tx n ((p + 1 + 1 : Nat) : Int) 48).2.2.2 = (e : Int) := ⟨(spF tx n ((p + 1 + 1 : Nat) : Int) 48).2.2.2.toNat, by omega⟩
        rw [hb, he] at hne b4 ⊢
        rw [hb] at b1
        rw [he] at b2
        obtain ⟨y1, y2, y3, y4, y5, y6⟩ := hx b e (by omega) (by omega)
        exact (rm_go htx hn hI hr y1 y2 y3 (by omega) (by omega) (by omega) (by omega) (by omega) (by omega) y4 y5 y6).imp (fun h => hgo2 (b4 h))
      · rw [if_neg c3]
        exact ⟨fun _ hres hz => hgo2 (k1 (Bool.eq_false_iff.mpr c3) hres hz), fun h => bft h⟩
    · rw [tk_f c2]
      dsimp only
      rw [if_neg Bool.false_ne_true]
      obtain ⟨y1, y2, y3, y4, y5, y6⟩ := hx 0 48 (by decide) (by decide)
      refine (rm_go htx hn hI hr y1 y2 y3 (by omega) (by omega) (by decide) (by decide) (by decide) (by omega) y4 y5 y6).imp (fun h => hgo ?_)
      rw [← hX1] at h
      exact RL_2 htx (by decide) hB1 hI1 (tk_1f c2) h
  · rw [tn1_f c1]
    dsimp only
    rw [if_pos rfl]
    exact ⟨fun _ hres hz => RL_f htx (by decide) i2 hI0 (tk_rf (inF_n (by omega))) (Or.inl rfl) hres (hz _ i2.nbo), fun h => bft h⟩
/-- rules until the text ends -/
theorem rd_go (htx : ∀ j, 0 ≤ tx j ∧ tx j ≤ 126) (hn : n ≤ 100) : ∀ (k p : Nat) (X : RT) (q : RS) (rl : Nat) (Mf : Nat → Nat → Bool), INV p X q rl Mf → k + 1 + rl = 12 → p ≤ n → q.1 = (p : Int) →
    ((rdF tx n (k + 1) q).1 = false → res = (rdF tx n (k + 1) q).2.1 → (∀ Y, NBO Y → Z Y) → RL tx n res Z p [(0, 0, 0)] X) ∧
    ((rdF tx n (k + 1) q).1 = true → res = -1 → (∀ X' rl' Mf', INV n X' (rdF tx n (k + 1) q).2 rl' Mf' → 0 < rl' → Z X') → RL tx n res Z p [(0, 0, 0)] X)
  | k, p, X, q, rl, Mf, hI, hk, hp, hq => by
    obtain ⟨r1, r2⟩ := rr_go (res := res) (Z := Z) htx hn hI (by omega) hp hq
    have hbd := rrF_bd (tx := tx) (n := n) (q := q) hn (by rw [hq]; omega)
    unfold Pr at hbd
    rw [rdF_s]
    by_cases c1 : (rrF tx n q).1 = true
    · rw [if_pos c1]
      obtain ⟨p', hp'⟩ : ∃ p' : Nat, (rrF tx n q).2.1 = (p' : Int) := ⟨(rrF tx n q).2.1.toNat, by omega⟩
      have hpn : p' ≤ n := by omega
      have hI3 : ∀ X' : RT, IX X' 3 0 0 := fun X' => IX.lo (by decide) (by decide) (by decide)
      have r3 := r2 c1 p' hp'
      by_cases c2 : p' = n
      · rw [if_pos (by rw [hp']; omega)]
        refine ⟨fun h => btf h, fun _ hres hz => r3 (fun X' Mf' y1 y2 y3 => ?_)⟩
        have hch : chT tx n p' = 0 := by
          rcases chT_c tx n p' with ⟨h, _⟩ | ⟨_, h⟩
          · omega
          · exact h
        have hT := tk_3e (X := X')
        rw [← hch] at hT
        refine RL_2 htx (by decide) y1 (hI3 X') hT (RL_e (by rw [if_neg (by omega)]; exact hres) (hz _ (rl + 1) Mf' ?_ (by omega)))
        show INV n X'.ec (rrF tx n q).2 (rl + 1) Mf'
        obtain ⟨a1, a2, a3, a4, a5, a6, a7, a8⟩ := y3
        exact ⟨a1, a2, by omega, by omega, a5, a6, a7, a8⟩
      · rw [if_neg (by rw [hp']; omega)]
        -- the model's fault here
        have flt : (∀ X' : RT, X'.rr = ((rl + 1 : Nat) : Int) → ¬ (chT tx n p' = 59 ∧ X'.rr < 12)) → res = (p' : Int) → (∀ Y, NBO Y → Z Y) → RL tx n res Z p [(0, 0, 0)] X := by
          intro hc hres hz
          refine r3 (fun X' Mf' y1 y2 y3 => ?_)
          by_cases c3 : chT tx n p' = 0
          · have hT := tk_3e (X := X')
            rw [← c3] at hT
            exact RL_2 htx (by decide) y1 (hI3 X') hT (RL_e (by rw [if_pos (by omega)]; exact hres) (hz _ y1.nbo))
          · have hT := tk_3 (X := X') c3
            rw [if_neg (hc X' y2)] at hT
            exact RL_f htx (by decide) y1 (hI3 X') hT (Or.inl rfl) hres (hz _ y1.nbo)
        cases k with
        | zero =>
          rw [if_pos rfl]
          exact ⟨fun _ hres hz => flt (fun X' y2 h => by omega) (hres.trans hp') hz, fun h => bft h⟩
        | succ k =>
          rw [if_neg (Nat.succ_ne_zero k), hp']
          by_cases c3 : chT tx n p' = 59
          · rw [tk_t c3 (by decide)]
            dsimp only
            rw [if_pos rfl]
            have hl := chT_n (tx := tx) (n := n) (p := p') (by omega)
            have ih : ∀ (X' : RT) (Mf' : Nat → Nat → Bool), INV p' X'.ec (rrF tx n q).2 (rl + 1) Mf' → _ := fun X' Mf' h => rd_go htx hn k (p' + 1) X'.ec (rdP (rrF tx n q).2 ((p' + 1 : Nat) : Int)) (rl + 1) Mf' (by
              obtain ⟨a1, a2, a3, a4, a5, a6, a7, a8⟩ := h
              exact ⟨a1, a2, by omega, by omega, a5, a6, a7, a8⟩) (by omega) (by omega) rfl
            have st : ∀ X' : RT, BX X' → X'.rr = ((rl + 1 : Nat) : Int) → RL tx n res Z (p' + 1) [(0, 0, 0)] X'.ec → RL tx n res Z p' [(3, 0, 0)] X' := by
              intro X' y1 y2 h
              have hT := tk_3 (X := X') (ch := chT tx n p') (by omega)
              rw [if_pos ⟨c3, by omega⟩] at hT
              exact RL_1 htx (by decide) y1 (hI3 X') hT hl h
            exact ⟨fun h1 h2 h3 => r3 (fun X' Mf' y1 y2 y3 => st X' y1 y2 ((ih X' Mf' y3).1 h1 h2 h3)), fun h1 h2 h3 => r3 (fun X' Mf' y1 y2 y3 => st X' y1 y2 ((ih X' Mf' y3).2 h1 h2 h3))⟩
          · rw [tk_f c3]
            dsimp only
            rw [if_neg Bool.false_ne_true]
            exact ⟨fun _ hres hz => flt (fun X' y2 h => c3 h.1) hres hz, fun h => bft h⟩
    · rw [if_neg c1]
      exact ⟨fun _ hres hz => r1 (Bool.eq_false_iff.mpr c1) hres hz, fun h => bft h⟩
  termination_by k => k
end RUF
