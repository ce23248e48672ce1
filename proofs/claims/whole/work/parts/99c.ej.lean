theorem mLen_v {m : Int} (h : 1 ≤ m ∧ m ≤ 12) : (m = 2 → mLen 2000 m = 29) ∧ (¬ m = 2 → 30 ≤ mLen 2000 m ∧ mLen 2000 m ≤ 31) ∧ mML 2000 m = mLen 2000 m := by
  refine ⟨?_, ?_, mml_eq (by decide) h⟩
  · intro e; subst e; decide +kernel
  · intro e
    rcases (show m = 1 ∨ m = 3 ∨ m = 4 ∨ m = 5 ∨ m = 6 ∨ m = 7 ∨ m = 8 ∨ m = 9 ∨ m = 10 ∨ m = 11 ∨ m = 12 by omega) with rfl | rfl | rfl | rfl | rfl | rfl | rfl | rfl | rfl | rfl | rfl <;> decide +kernel
section ALD
variable {tx : Nat → Int} {n : Nat} {res : Int} {Z : RT → Prop} {p j : Nat} {L : List SI} {X : RT} {f g kd f1 s1 : Int}
theorem gm1 {c1 c2 : Int} (h : G1 c1 1 12) : ((if c1 - 48 = 0 then inF (c2 - 48) 1 9 else inF (c2 - 48) 0 2) = true) ↔ G2 c1 c2 1 12 := by
  unfold G1 at h
  unfold G2
  split <;> rw [inF_i] <;> omega
theorem gd0 {m c : Int} (hm : 1 ≤ m ∧ m ≤ 12) : (inF (c - 48) 0 (if m = 2 then 2 else 3) = true) ↔ G1 c 1 (mLen 2000 m) := by
  obtain ⟨k1, k2, _⟩ := mLen_v hm
  rw [inF_i]
  unfold G1
  by_cases e : m = 2
  · rw [if_pos e, k1 e]; omega
  · rw [if_neg e]; have := k2 e; omega
theorem gd1 {m c c' : Int} (hm : 1 ≤ m ∧ m ≤ 12) (h : G1 c 1 (mLen 2000 m)) : ((inF (c' - 48) 0 9 && inF (((10 * m + (c - 48)) % 10) * 10 + (c' - 48)) 1 (mML 2000 ((10 * m + (c - 48)) / 10))) = true) ↔ G2 c c' 1 (mLen 2000 m) := by
  have e1 : (10 * m + (c - 48)) % 10 = c - 48 := by unfold G1 at h; omega
  have e2 : (10 * m + (c - 48)) / 10 = m := by unfold G1 at h; omega
  rw [bA, inF_i, inF_i, e1, e2, (mLen_v hm).2.2]
  unfold G2
  omega
/-- a month and a day, the first -/
theorem s22a (htx : ∀ j, 0 ≤ tx j ∧ tx j ≤ 126) (hL : L.length ≤ 290) (hB : BX X) (hj : j ≤ 59) (hg : 0 ≤ g ∧ g ≤ 100000) (hf : 0 ≤ f ∧ f ≤ 100000) :
    ((mdF tx n (p : Int)).1 = -1 → res = (mdF tx n (p : Int)).2 → (∀ Y, NBO Y → Z Y) → RL tx n res Z p ((22, (j : Int), 0) :: L) (X.at j f g)) ∧
    (¬ (mdF tx n (p : Int)).1 = -1 → (101 ≤ (mdF tx n (p : Int)).1 ∧ (mdF tx n (p : Int)).1 ≤ 1231) ∧ ∃ p' : Nat, (mdF tx n (p : Int)).2 = (p' : Int) ∧ (RL tx n res Z p' ((22, (j : Int), 4) :: L) (X.at j (mdF tx n (p : Int)).1 g) → RL tx n res Z p ((22, (j : Int), 0) :: L) (X.at j f g))) := by
  obtain ⟨k1, k2, k3⟩ := seg2 (p := p) (lo := 1) (hi := 12) (L := L) (res := res) (Z := Z) (n := n) htx hL (at_BX hB) (at_BX hB) (at_BX hB).nbo (ix20 (X := X) (f := f) (g := g) (wh := 22) (c := 0) hj (by decide) (by decide) hf (by omega) (fun h => by omega) (fun h => hg.1)) (fun h => ix20 hj (by decide) (by decide) (by unfold G1 at h; omega) (by omega) (fun h => by omega) (fun h => hg.1)) (ta_22_0 (X := X) (j := j) (f := f) (g := g)) (ta_22_1 (X := X) (j := j) (g := g)) (by rw [inF_i]; unfold G1; omega) gm1
  unfold mdF
  by_cases h1 : G1 (chT tx n p) 1 12
  · by_cases h2 : G2 (chT tx n p) (chT tx n (p + 1)) 1 12
    · rw [tn10_c h1 h2]
      have hm : 1 ≤ 10 * (chT tx n p - 48) + (chT tx n (p + 1) - 48) ∧ 10 * (chT tx n p - 48) + (chT tx n (p + 1) - 48) ≤ 12 := by unfold G2 at h2; omega
      have k3 := k3 h1 h2
      generalize 10 * (chT tx n p - 48) + (chT tx n (p + 1) - 48) = m at k3 hm ⊢
      rw [if_neg (show ¬ (m = -1) by omega)]
      dsimp only
      obtain ⟨m1, m2, m3⟩ := seg2 (p := p + 2) (lo := 1) (hi := mLen 2000 m) (L := L) (res := res) (Z := Z) (n := n) htx hL (at_BX hB) (at_BX hB) (at_BX hB).nbo (ix20 (X := X) (f := m) (g := g) (wh := 22) (c := 2) hj (by decide) (by decide) (by omega) (by omega) (fun h => by omega) (fun h => hg.1)) (fun h => ix20 hj (by decide) (by decide) (by unfold G1 at h; omega) (by omega) (fun h => by omega) (fun h => hg.1)) (ta_22_2 (X := X) (j := j) (f := m) (g := g)) (ta_22_3 (X := X) (j := j) (g := g)) (gd0 hm) (gd1 hm)
      by_cases h3 : G1 (chT tx n (p + 2)) 1 (mLen 2000 m)
      · by_cases h4 : G2 (chT tx n (p + 2)) (chT tx n (p + 2 + 1)) 1 (mLen 2000 m)
        · rw [tn10_c h3 h4]
          have hv : 1 ≤ 10 * (chT tx n (p + 2) - 48) + (chT tx n (p + 2 + 1) - 48) ∧ 10 * (chT tx n (p + 2) - 48) + (chT tx n (p + 2 + 1) - 48) ≤ 31 := by
            unfold G2 at h4
            have q := mLen_v hm
            by_cases e : m = 2
            · have := q.1 e; omega
            · have := q.2.1 e; omega
          have e9 : 10 * (10 * m + (chT tx n (p + 2) - 48)) + (chT tx n (p + 2 + 1) - 48) = 100 * m + (10 * (chT tx n (p + 2) - 48) + (chT tx n (p + 2 + 1) - 48)) := by omega
          have m3 := m3 h3 h4
          rw [e9] at m3
          rw [if_neg (show ¬ (10 * (chT tx n (p + 2) - 48) + (chT tx n (p + 2 + 1) - 48) = -1) by omega)]
          exact ⟨fun q => absurd q (by show ¬ (100 * m + _ = -1); omega), fun _ => ⟨by show 101 ≤ 100 * m + _ ∧ 100 * m + _ ≤ 1231; omega, p + 2 + 2, rfl, fun hk => k3 (m3 hk)⟩⟩
        · rw [tn10_b h3 h4, if_pos rfl]
          exact ⟨fun _ hr hz => k3 (m2 h3 h4 hr hz), fun q => absurd rfl q⟩
      · rw [tn10_a h3, if_pos rfl]
        exact ⟨fun _ hr hz => k3 (m1 h3 hr hz), fun q => absurd rfl q⟩
    · rw [tn10_b h1 h2, if_pos rfl]
      exact ⟨fun _ hr hz => k2 h1 h2 hr hz, fun q => absurd rfl q⟩
  · rw [tn10_a h1, if_pos rfl]
    exact ⟨fun _ hr hz => k1 h1 hr hz, fun q => absurd rfl q⟩
/-- the second -/
theorem s22b (htx : ∀ j, 0 ≤ tx j ∧ tx j ≤ 126) (hL : L.length ≤ 290) (hB : BX X) (hj : j ≤ 59) (hg : 0 ≤ g ∧ g ≤ 100000) (hf : 0 ≤ f ∧ f ≤ 100000) :
    ((mdF tx n (p : Int)).1 = -1 → res = (mdF tx n (p : Int)).2 → (∀ Y, NBO Y → Z Y) → RL tx n res Z p ((22, (j : Int), 5) :: L) (X.at j f g)) ∧
    (¬ (mdF tx n (p : Int)).1 = -1 → (101 ≤ (mdF tx n (p : Int)).1 ∧ (mdF tx n (p : Int)).1 ≤ 1231) ∧ ∃ p' : Nat, (mdF tx n (p : Int)).2 = (p' : Int) ∧ (RL tx n res Z p' L (X.at j f (mdF tx n (p : Int)).1) → RL tx n res Z p ((22, (j : Int), 5) :: L) (X.at j f g))) := by
  obtain ⟨k1, k2, k3⟩ := seg2 (p := p) (lo := 1) (hi := 12) (L := L) (res := res) (Z := Z) (n := n) htx hL (at_BX hB) (at_BX hB) (at_BX hB).nbo (ix20 (X := X) (f := f) (g := g) (wh := 22) (c := 5) hj (by decide) (by decide) hf (by omega) (fun h => by omega) (fun h => hg.1)) (fun h => ix20 hj (by decide) (by decide) hf (by unfold G1 at h; omega) (fun h => by omega) (fun _ => by unfold G1 at h; omega)) (ta_22_5 (X := X) (j := j) (f := f) (g := g)) (ta_22_6 (X := X) (j := j) (f := f)) (by rw [inF_i]; unfold G1; omega) gm1
  unfold mdF
  by_cases h1 : G1 (chT tx n p) 1 12
  · by_cases h2 : G2 (chT tx n p) (chT tx n (p + 1)) 1 12
    · rw [tn10_c h1 h2]
      have hm : 1 ≤ 10 * (chT tx n p - 48) + (chT tx n (p + 1) - 48) ∧ 10 * (chT tx n p - 48) + (chT tx n (p + 1) - 48) ≤ 12 := by unfold G2 at h2; omega
      have k3 := k3 h1 h2
      generalize 10 * (chT tx n p - 48) + (chT tx n (p + 1) - 48) = m at k3 hm ⊢
      rw [if_neg (show ¬ (m = -1) by omega)]
      dsimp only
      obtain ⟨m1, m2, m3⟩ := seg2 (p := p + 2) (lo := 1) (hi := mLen 2000 m) (L := L) (res := res) (Z := Z) (n := n) htx hL (at_BX hB) (at_BX hB) (at_BX hB).nbo (ix20 (X := X) (f := f) (g := m) (wh := 22) (c := 7) hj (by decide) (by decide) hf (by omega) (fun h => by omega) (fun h => by omega)) (fun h => ix20 hj (by decide) (by decide) hf (by unfold G1 at h; omega) (fun h => by omega) (fun _ => by unfold G1 at h; omega)) (ta_22_7 (X := X) (j := j) (f := f) (g := m)) (ta_22_8 (X := X) (j := j) (f := f)) (gd0 hm) (gd1 hm)
      by_cases h3 : G1 (chT tx n (p + 2)) 1 (mLen 2000 m)
      · by_cases h4 : G2 (chT tx n (p + 2)) (chT tx n (p + 2 + 1)) 1 (mLen 2000 m)
        · rw [tn10_c h3 h4]
          have hv : 1 ≤ 10 * (chT tx n (p + 2) - 48) + (chT tx n (p + 2 + 1) - 48) ∧ 10 * (chT tx n (p + 2) - 48) + (chT tx n (p + 2 + 1) - 48) ≤ 31 := by
            unfold G2 at h4
            have q := mLen_v hm
            by_cases e : m = 2
            · have := q.1 e; omega
            · have := q.2.1 e; omega
          have e9 : 10 * (10 * m + (chT tx n (p + 2) - 48)) + (chT tx n (p + 2 + 1) - 48) = 100 * m + (10 * (chT tx n (p + 2) - 48) + (chT tx n (p + 2 + 1) - 48)) := by omega
          have m3 := m3 h3 h4
          rw [e9] at m3
          rw [if_neg (show ¬ (10 * (chT tx n (p + 2) - 48) + (chT tx n (p + 2 + 1) - 48) = -1) by omega)]
          exact ⟨fun q => absurd q (by show ¬ (100 * m + _ = -1); omega), fun _ => ⟨by show 101 ≤ 100 * m + _ ∧ 100 * m + _ ≤ 1231; omega, p + 2 + 2, rfl, fun hk => k3 (m3 hk)⟩⟩
        · rw [tn10_b h3 h4, if_pos rfl]
          exact ⟨fun _ hr hz => k3 (m2 h3 h4 hr hz), fun q => absurd rfl q⟩
      · rw [tn10_a h3, if_pos rfl]
        exact ⟨fun _ hr hz => k3 (m1 h3 hr hz), fun q => absurd rfl q⟩
    · rw [tn10_b h1 h2, if_pos rfl]
      exact ⟨fun _ hr hz => k2 h1 h2 hr hz, fun q => absurd rfl q⟩
  · rw [tn10_a h1, if_pos rfl]
    exact ⟨fun _ hr hz => k1 h1 hr hz, fun q => absurd rfl q⟩
theorem al_D (htx : ∀ j, 0 ≤ tx j ∧ tx j ≤ 126) (hL : L.length ≤ 290) (hB : BX X) (hj : j ≤ 59) :
    ((dtF tx n (p : Int) kd f1 s1).1 = false → res = (dtF tx n (p : Int) kd f1 s1).2.1 → (∀ Y, NBO Y → Z Y) → RL tx n res Z p ((22, (j : Int), 0) :: L) (X.at j 0 0)) ∧
    ((dtF tx n (p : Int) kd f1 s1).1 = true → (dtF tx n (p : Int) kd f1 s1).2.2.1 = 68 ∧ ∀ p' : Nat, (dtF tx n (p : Int) kd f1 s1).2.1 = (p' : Int) → ((101 ≤ (dtF tx n (p : Int) kd f1 s1).2.2.2.1 ∧ (dtF tx n (p : Int) kd f1 s1).2.2.2.1 ≤ 1231) → (101 ≤ (dtF tx n (p : Int) kd f1 s1).2.2.2.2 ∧ (dtF tx n (p : Int) kd f1 s1).2.2.2.2 ≤ 1231) → RL tx n res Z p' L (X.at j (dtF tx n (p : Int) kd f1 s1).2.2.2.1 (dtF tx n (p : Int) kd f1 s1).2.2.2.2)) → RL tx n res Z p ((22, (j : Int), 0) :: L) (X.at j 0 0)) := by
  obtain ⟨a1, a2⟩ := s22a (p := p) (f := 0) (g := 0) (res := res) (Z := Z) (n := n) htx hL hB hj (by decide) (by decide)
  unfold dtF
  by_cases v : (mdF tx n (p : Int)).1 = -1
  · rw [if_pos v]
    exact ⟨fun _ hr hz => a1 v hr hz, fun q => bft q⟩
  · rw [if_neg v]
    obtain ⟨hv, q, hq, a3⟩ := a2 v
    rw [hq]
    generalize (mdF tx n (p : Int)).1 = m at hv a3 ⊢
    have hI : IX (X.at j m 0) 22 (j : Int) 4 := ix20 hj (by decide) (by decide) (by omega) (by decide) (fun h => by omega) (fun h => by decide)
    by_cases c1 : chT tx n q = 45
    · rw [tk_t c1 (by decide), if_pos rfl]
      have hp : q < n := chT_n (tx := tx) (by rw [c1]; decide)
      have fst : RL tx n res Z (q + 1) ((22, (j : Int), 5) :: L) (X.at j m 0) → RL tx n res Z p ((22, (j : Int), 0) :: L) (X.at j 0 0) := fun hk => a3 (RL_d (L := L) htx (by omega) (at_BX hB) hI ta_22_4 (fun _ => ⟨hp, hk⟩) (fun z => absurd (decide_eq_true c1) (by rw [z]; decide)))
      obtain ⟨b1, b2⟩ := s22b (p := q + 1) (f := m) (g := 0) (res := res) (Z := Z) (n := n) (L := L) (X := X) htx hL hB hj (by decide) (by omega)
      by_cases w : (mdF tx n ((q + 1 : Nat) : Int)).1 = -1
      · rw [if_pos w]
        exact ⟨fun _ hr hz => fst (b1 w hr hz), fun q => bft q⟩
      · rw [if_neg w]
        obtain ⟨hw, q2, hq2, b3⟩ := b2 w
        refine ⟨fun q => btf q, fun _ => ⟨rfl, fun p' hp' hr => ?_⟩⟩
        have e : q2 = p' := nc_inj (hp'.symm.trans hq2)
        subst e
        exact fst (b3 (hr hv hw))
    · rw [tk_f c1, if_neg nft]
      exact ⟨fun _ hr hz => a3 (RL_d (L := L) htx (by omega) (at_BX hB) hI ta_22_4 (fun z => absurd (of_decide_eq_true z) c1) (fun _ => ⟨hr, hz _ (at_BX hB).nbo⟩)), fun q => bft q⟩
end ALD
