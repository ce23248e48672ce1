section YRS
variable {tx : Nat → Int} {n : Nat} {res : Int} {Z : RT → Prop} {p j : Nat} {L : List SI} {X : RT} {f g kd f1 s1 lo : Int}
theorem p2_nat (p : Nat) : ((p : Int) + 1 + 1).toNat = p + 2 := by omega
theorem p3_nat (p : Nat) : ((p : Int) + 1 + 1 + 1).toNat = p + 3 := by omega
theorem ty (hlo : 2000 ≤ lo ∧ lo ≤ 2003) : tn1000 tx n (p : Int) lo 2003 = (if ¬ chT tx n p = 50 then (-1, (p : Int)) else if ¬ chT tx n (p + 1) = 48 then (-1, ((p + 1 : Nat) : Int)) else if ¬ chT tx n (p + 2) = 48 then (-1, ((p + 2 : Nat) : Int)) else if ¬ (lo - 1952 ≤ chT tx n (p + 3) ∧ chT tx n (p + 3) ≤ 51) then (-1, ((p + 3 : Nat) : Int)) else (2000 + (chT tx n (p + 3) - 48), ((p + 4 : Nat) : Int))) := by
  unfold tn1000
  rw [Int.toNat_natCast, p1_nat, p2_nat, p3_nat]
  rcases chT_c tx n p with ⟨hp, e⟩ | ⟨hp, e⟩
  · rw [e, if_neg (by omega)]
    generalize tx p = t1
    by_cases h1 : t1 = 50
    · subst h1
      rw [if_neg (by decide), if_pos (by decide), if_neg (by decide), if_pos (by omega), if_neg (show ¬ ¬ (50 : Int) = 50 from fun q => q rfl)]
      rcases chT_c tx n (p + 1) with ⟨hp2, e2⟩ | ⟨hp2, e2⟩
      · rw [e2, if_neg (by omega)]
        generalize tx (p + 1) = t2
        by_cases h2 : t2 = 48
        · subst h2
          rw [if_neg (by decide), if_pos (by decide), if_neg (by decide), if_pos (by omega), if_neg (show ¬ ¬ (48 : Int) = 48 from fun q => q rfl)]
          rcases chT_c tx n (p + 2) with ⟨hp3, e3⟩ | ⟨hp3, e3⟩
          · rw [e3, if_neg (by omega)]
            generalize tx (p + 2) = t3
            by_cases h3 : t3 = 48
            · subst h3
              rw [if_neg (by decide), if_pos (by decide), if_neg (by decide), if_pos (by omega), if_neg (show ¬ ¬ (48 : Int) = 48 from fun q => q rfl)]
              rcases chT_c tx n (p + 3) with ⟨hp4, e4⟩ | ⟨hp4, e4⟩
              · rw [e4, if_neg (by omega)]
                generalize tx (p + 3) = t4
                repeat' split
                all_goals first | (exfalso; omega) | (rw [Prod.mk.injEq]; omega)
              · rw [e4, if_pos (by omega), if_pos (by omega)]
                rfl
            · rw [if_pos h3]
              by_cases k1 : t3 < 48
              · rw [if_pos k1]; rfl
              · rw [if_neg k1]
                by_cases k2 : t3 ≤ 57
                · rw [if_pos k2, if_pos (by omega)]; rfl
                · rw [if_neg k2]; rfl
          · rw [e3, if_pos (by omega), if_pos (by omega)]
            rfl
        · rw [if_pos h2]
          by_cases k1 : t2 < 48
          · rw [if_pos k1]; rfl
          · rw [if_neg k1]
            by_cases k2 : t2 ≤ 57
            · rw [if_pos k2, if_pos (by omega)]; rfl
            · rw [if_neg k2]; rfl
      · rw [e2, if_pos (by omega), if_pos (by omega)]
        rfl
    · rw [if_pos h1]
      by_cases k1 : t1 < 48
      · rw [if_pos k1]
      · rw [if_neg k1]
        by_cases k2 : t1 ≤ 57
        · rw [if_pos k2]
          by_cases k3 : 2003 < 0 + (t1 - 48) * 1000
          · rw [if_pos k3]
          · rw [if_neg k3, if_neg (by omega)]
        · rw [if_neg k2]
  · rw [e, if_pos (by omega), if_pos (by omega)]
theorem dT {P : Prop} [Decidable P] : (decide P = true) ↔ P := decide_eq_true_iff
theorem s26a (htx : ∀ j, 0 ≤ tx j ∧ tx j ≤ 126) (hL : L.length ≤ 290) (hB : BX X) (hj : j ≤ 59) :
    ((tn1000 tx n (p : Int) 2000 2003).1 = -1 → res = (tn1000 tx n (p : Int) 2000 2003).2 → (∀ Y, NBO Y → Z Y) → RL tx n res Z p ((26, (j : Int), 0) :: L) (X.at j 0 0)) ∧
    (¬ (tn1000 tx n (p : Int) 2000 2003).1 = -1 → (2000 ≤ (tn1000 tx n (p : Int) 2000 2003).1 ∧ (tn1000 tx n (p : Int) 2000 2003).1 ≤ 2003) ∧ ∃ p' : Nat, (tn1000 tx n (p : Int) 2000 2003).2 = (p' : Int) ∧ (RL tx n res Z p' ((26, (j : Int), 4) :: L) (X.at j (tn1000 tx n (p : Int) 2000 2003).1 0) → RL tx n res Z p ((26, (j : Int), 0) :: L) (X.at j 0 0))) := by
  rw [ty (by decide)]
  have I : ∀ c : Int, 0 ≤ c ∧ c ≤ 8 → IX (X.at j 0 0) 26 (j : Int) c := fun c hc => ix20 hj hc (by decide) (by decide) (by decide) (fun h => by omega) (fun h => by omega)
  have hN := (at_BX (j := j) (f := 0) (g := 0) hB).nbo
  by_cases h1 : chT tx n p = 50
  · rw [if_neg (fun q => q h1)]
    have st1 := fun (hk : RL tx n res Z (p + 1) ((26, (j : Int), 1) :: L) (X.at j 0 0)) => RL_d (L := L) htx (by omega) (at_BX hB) (I 0 (by decide)) ta_26_0 (fun _ => ⟨chT_n (tx := tx) (by omega), hk⟩) (fun z => absurd (dT.mpr (show chT tx n p - 48 = 2 by omega)) (by rw [z]; decide))
    by_cases h2 : chT tx n (p + 1) = 48
    · rw [if_neg (fun q => q h2)]
      have st2 := fun (hk : RL tx n res Z (p + 2) ((26, (j : Int), 2) :: L) (X.at j 0 0)) => st1 (RL_d (p := p + 1) (L := L) htx (by omega) (at_BX hB) (I 1 (by decide)) ta_26_1 (fun _ => ⟨chT_n (tx := tx) (by omega), hk⟩) (fun z => absurd (dT.mpr (show chT tx n (p + 1) - 48 = 0 by omega)) (by rw [z]; decide)))
      by_cases h3 : chT tx n (p + 2) = 48
      · rw [if_neg (fun q => q h3)]
        have st3 := fun (hk : RL tx n res Z (p + 3) ((26, (j : Int), 3) :: L) (X.at j 0 0)) => st2 (RL_d (p := p + 2) (L := L) htx (by omega) (at_BX hB) (I 2 (by decide)) ta_26_2 (fun _ => ⟨chT_n (tx := tx) (by omega), hk⟩) (fun z => absurd (dT.mpr (show chT tx n (p + 2) - 48 = 0 by omega)) (by rw [z]; decide)))
        by_cases h4 : 2000 - 1952 ≤ chT tx n (p + 3) ∧ chT tx n (p + 3) ≤ 51
        · rw [if_neg (fun q => q h4)]
          refine ⟨fun q => absurd q (by show ¬ (2000 + (chT tx n (p + 3) - 48) = -1); omega), fun _ => ⟨by show 2000 ≤ 2000 + (chT tx n (p + 3) - 48) ∧ 2000 + (chT tx n (p + 3) - 48) ≤ 2003; omega, p + 4, rfl, fun hk => st3 ?_⟩⟩
          exact RL_d (p := p + 3) (L := L) htx (by omega) (at_BX hB) (I 3 (by decide)) ta_26_3 (fun _ => ⟨chT_n (tx := tx) (by omega), hk⟩) (fun z => absurd ((inF_i (chT tx n (p + 3) - 48) 0 3).mpr (by omega)) (by rw [z]; decide))
        · rw [if_pos h4]
          exact ⟨fun _ hr hz => st3 (RL_d (p := p + 3) (L := L) htx (by omega) (at_BX hB) (I 3 (by decide)) ta_26_3 (fun z => absurd (inF_t z) (by omega)) (fun _ => ⟨hr, hz _ (at_BX hB).nbo⟩)), fun q => absurd rfl q⟩
      · rw [if_pos h3]
        exact ⟨fun _ hr hz => st2 (RL_d (p := p + 2) (L := L) htx (by omega) (at_BX hB) (I 2 (by decide)) ta_26_2 (fun z => absurd (dT.mp z) (by omega)) (fun _ => ⟨hr, hz _ hN⟩)), fun q => absurd rfl q⟩
    · rw [if_pos h2]
      exact ⟨fun _ hr hz => st1 (RL_d (p := p + 1) (L := L) htx (by omega) (at_BX hB) (I 1 (by decide)) ta_26_1 (fun z => absurd (dT.mp z) (by omega)) (fun _ => ⟨hr, hz _ hN⟩)), fun q => absurd rfl q⟩
  · rw [if_pos h1]
    exact ⟨fun _ hr hz => RL_d (L := L) htx (by omega) (at_BX hB) (I 0 (by decide)) ta_26_0 (fun z => absurd (dT.mp z) (by omega)) (fun _ => ⟨hr, hz _ hN⟩), fun q => absurd rfl q⟩
theorem s26b (htx : ∀ j, 0 ≤ tx j ∧ tx j ≤ 126) (hL : L.length ≤ 290) (hB : BX X) (hj : j ≤ 59) (hf : 2000 ≤ f ∧ f ≤ 2003) :
    ((tn1000 tx n (p : Int) f 2003).1 = -1 → res = (tn1000 tx n (p : Int) f 2003).2 → (∀ Y, NBO Y → Z Y) → RL tx n res Z p ((26, (j : Int), 5) :: L) (X.at j f 0)) ∧
    (¬ (tn1000 tx n (p : Int) f 2003).1 = -1 → (2000 ≤ (tn1000 tx n (p : Int) f 2003).1 ∧ (tn1000 tx n (p : Int) f 2003).1 ≤ 2003) ∧ ∃ p' : Nat, (tn1000 tx n (p : Int) f 2003).2 = (p' : Int) ∧ (RL tx n res Z p' L (X.at j f (tn1000 tx n (p : Int) f 2003).1) → RL tx n res Z p ((26, (j : Int), 5) :: L) (X.at j f 0))) := by
  rw [ty hf]
  have I : ∀ c : Int, 0 ≤ c ∧ c ≤ 8 → IX (X.at j f 0) 26 (j : Int) c := fun c hc => ix20 hj hc (by decide) (by omega) (by decide) (fun h => by omega) (fun h => by omega)
  have hN := (at_BX (j := j) (f := f) (g := 0) hB).nbo
  by_cases h1 : chT tx n p = 50
  · rw [if_neg (fun q => q h1)]
    have st1 := fun (hk : RL tx n res Z (p + 1) ((26, (j : Int), 6) :: L) (X.at j f 0)) => RL_d (L := L) htx (by omega) (at_BX hB) (I 5 (by decide)) ta_26_5 (fun _ => ⟨chT_n (tx := tx) (by omega), hk⟩) (fun z => absurd (dT.mpr (show chT tx n p - 48 = 2 by omega)) (by rw [z]; decide))
    by_cases h2 : chT tx n (p + 1) = 48
    · rw [if_neg (fun q => q h2)]
      have st2 := fun (hk : RL tx n res Z (p + 2) ((26, (j : Int), 7) :: L) (X.at j f 0)) => st1 (RL_d (p := p + 1) (L := L) htx (by omega) (at_BX hB) (I 6 (by decide)) ta_26_6 (fun _ => ⟨chT_n (tx := tx) (by omega), hk⟩) (fun z => absurd (dT.mpr (show chT tx n (p + 1) - 48 = 0 by omega)) (by rw [z]; decide)))
      by_cases h3 : chT tx n (p + 2) = 48
      · rw [if_neg (fun q => q h3)]
        have st3 := fun (hk : RL tx n res Z (p + 3) ((26, (j : Int), 8) :: L) (X.at j f 0)) => st2 (RL_d (p := p + 2) (L := L) htx (by omega) (at_BX hB) (I 7 (by decide)) ta_26_7 (fun _ => ⟨chT_n (tx := tx) (by omega), hk⟩) (fun z => absurd (dT.mpr (show chT tx n (p + 2) - 48 = 0 by omega)) (by rw [z]; decide)))
        by_cases h4 : f - 1952 ≤ chT tx n (p + 3) ∧ chT tx n (p + 3) ≤ 51
        · rw [if_neg (fun q => q h4)]
          refine ⟨fun q => absurd q (by show ¬ (2000 + (chT tx n (p + 3) - 48) = -1); omega), fun _ => ⟨by show 2000 ≤ 2000 + (chT tx n (p + 3) - 48) ∧ 2000 + (chT tx n (p + 3) - 48) ≤ 2003; omega, p + 4, rfl, fun hk => st3 ?_⟩⟩
          exact RL_d (p := p + 3) (L := L) htx (by omega) (at_BX hB) (I 8 (by decide)) ta_26_8 (fun _ => ⟨chT_n (tx := tx) (by omega), hk⟩) (fun z => absurd ((inF_i (chT tx n (p + 3) - 48) (f - 2000) 3).mpr (by omega)) (by rw [z]; decide))
        · rw [if_pos h4]
          exact ⟨fun _ hr hz => st3 (RL_d (p := p + 3) (L := L) htx (by omega) (at_BX hB) (I 8 (by decide)) ta_26_8 (fun z => absurd (inF_t z) (by omega)) (fun _ => ⟨hr, hz _ (at_BX hB).nbo⟩)), fun q => absurd rfl q⟩
      · rw [if_pos h3]
        exact ⟨fun _ hr hz => st2 (RL_d (p := p + 2) (L := L) htx (by omega) (at_BX hB) (I 7 (by decide)) ta_26_7 (fun z => absurd (dT.mp z) (by omega)) (fun _ => ⟨hr, hz _ hN⟩)), fun q => absurd rfl q⟩
    · rw [if_pos h2]
      exact ⟨fun _ hr hz => st1 (RL_d (p := p + 1) (L := L) htx (by omega) (at_BX hB) (I 6 (by decide)) ta_26_6 (fun z => absurd (dT.mp z) (by omega)) (fun _ => ⟨hr, hz _ hN⟩)), fun q => absurd rfl q⟩
  · rw [if_pos h1]
    exact ⟨fun _ hr hz => RL_d (L := L) htx (by omega) (at_BX hB) (I 5 (by decide)) ta_26_5 (fun z => absurd (dT.mp z) (by omega)) (fun _ => ⟨hr, hz _ hN⟩), fun q => absurd rfl q⟩
theorem al_Y (htx : ∀ j, 0 ≤ tx j ∧ tx j ≤ 126) (hL : L.length ≤ 290) (hB : BX X) (hj : j ≤ 59) :
    ((yrF tx n (p : Int) kd f1 s1).1 = false → res = (yrF tx n (p : Int) kd f1 s1).2.1 → (∀ Y, NBO Y → Z Y) → RL tx n res Z p ((26, (j : Int), 0) :: L) (X.at j 0 0)) ∧
    ((yrF tx n (p : Int) kd f1 s1).1 = true → (yrF tx n (p : Int) kd f1 s1).2.2.1 = 89 ∧ ∀ p' : Nat, (yrF tx n (p : Int) kd f1 s1).2.1 = (p' : Int) → ((2000 ≤ (yrF tx n (p : Int) kd f1 s1).2.2.2.1 ∧ (yrF tx n (p : Int) kd f1 s1).2.2.2.1 ≤ 2003) → (2000 ≤ (yrF tx n (p : Int) kd f1 s1).2.2.2.2 ∧ (yrF tx n (p : Int) kd f1 s1).2.2.2.2 ≤ 2003) → RL tx n res Z p' L (X.at j (yrF tx n (p : Int) kd f1 s1).2.2.2.1 (yrF tx n (p : Int) kd f1 s1).2.2.2.2)) → RL tx n res Z p ((26, (j : Int), 0) :: L) (X.at j 0 0)) := by
  obtain ⟨a1, a2⟩ := s26a (p := p) (res := res) (Z := Z) (n := n) (L := L) (X := X) htx hL hB hj
  unfold yrF
  by_cases v : (tn1000 tx n (p : Int) 2000 2003).1 = -1
  · rw [if_pos v]
    exact ⟨fun _ hr hz => a1 v hr hz, fun q => bft q⟩
  · rw [if_neg v]
    obtain ⟨hv, q, hq, a3⟩ := a2 v
    rw [hq]
    generalize (tn1000 tx n (p : Int) 2000 2003).1 = m at hv a3 ⊢
    have hI : IX (X.at j m 0) 26 (j : Int) 4 := ix20 hj (by decide) (by decide) (by omega) (by decide) (fun h => by omega) (fun h => by decide)
    by_cases c1 : chT tx n q = 45
    · rw [tk_t c1 (by decide), if_pos rfl]
      have hp : q < n := chT_n (tx := tx) (by rw [c1]; decide)
      have fst : RL tx n res Z (q + 1) ((26, (j : Int), 5) :: L) (X.at j m 0) → RL tx n res Z p ((26, (j : Int), 0) :: L) (X.at j 0 0) := fun hk => a3 (RL_d (L := L) htx (by omega) (at_BX hB) hI ta_26_4 (fun _ => ⟨hp, hk⟩) (fun z => absurd (decide_eq_true c1) (by rw [z]; decide)))
      obtain ⟨b1, b2⟩ := s26b (p := q + 1) (f := m) (res := res) (Z := Z) (n := n) (L := L) (X := X) htx hL hB hj hv
      by_cases w : (tn1000 tx n ((q + 1 : Nat) : Int) m 2003).1 = -1
      · rw [if_pos w]
        exact ⟨fun _ hr hz => fst (b1 w hr hz), fun q => bft q⟩
      · rw [if_neg w]
        obtain ⟨hw, q2, hq2, b3⟩ := b2 w
        refine ⟨fun q => btf q, fun _ => ⟨rfl, fun p' hp' hr => ?_⟩⟩
        have e : q2 = p' := nc_inj (hp'.symm.trans hq2)
        subst e
        exact fst (b3 (hr hv hw))
    · rw [tk_f c1, if_neg nft]
      exact ⟨fun _ hr hz => a3 (RL_d (L := L) htx (by omega) (at_BX hB) hI ta_26_4 (fun z => absurd (of_decide_eq_true z) c1) (fun _ => ⟨hr, hz _ (at_BX hB).nbo⟩)), fun q => bft q⟩
end YRS
