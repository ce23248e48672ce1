section SEG
variable {tx : Nat → Int} {n : Nat} {res : Int} {Z : RT → Prop} {p : Nat} {L P2 : List SI} {X0 X1 X2 : RT} {wh a c0 c1 lo hi : Int} {gd0 gd1 : Bool}
theorem G2_n {c : Int} (h : G2 c (chT tx n p) lo hi) : p < n := chT_n (tx := tx) (by unfold G2 at h; omega)
theorem seg2 (htx : ∀ j, 0 ≤ tx j ∧ tx j ≤ 126) (hL : L.length ≤ 290) (B0 : BX X0) (B1 : BX X1) (N2 : NBO X2) (I0 : IX X0 wh a c0) (I1 : G1 (chT tx n p) lo hi → IX X1 wh a c1)
    (T0 : TKR wh a c0 (chT tx n p) X0 (bZ gd0) [(wh, a, c1)] X1) (T1 : TKR wh a c1 (chT tx n (p + 1)) X1 (bZ gd1) P2 X2)
    (e0 : gd0 = true ↔ G1 (chT tx n p) lo hi) (e1 : G1 (chT tx n p) lo hi → (gd1 = true ↔ G2 (chT tx n p) (chT tx n (p + 1)) lo hi)) :
    (¬ G1 (chT tx n p) lo hi → res = (p : Int) → (∀ Y, NBO Y → Z Y) → RL tx n res Z p ((wh, a, c0) :: L) X0) ∧
    (G1 (chT tx n p) lo hi → ¬ G2 (chT tx n p) (chT tx n (p + 1)) lo hi → res = ((p + 1 : Nat) : Int) → (∀ Y, NBO Y → Z Y) → RL tx n res Z p ((wh, a, c0) :: L) X0) ∧
    (G1 (chT tx n p) lo hi → G2 (chT tx n p) (chT tx n (p + 1)) lo hi → RL tx n res Z (p + 2) (P2 ++ L) X2 → RL tx n res Z p ((wh, a, c0) :: L) X0) := by
  refine ⟨fun h hr hz => ?_, fun h h2 hr hz => ?_, fun h h2 hk => ?_⟩
  · exact RL_d htx (by omega) B0 I0 T0 (fun q => absurd (e0.mp q) h) (fun _ => ⟨hr, hz _ B1.nbo⟩)
  · refine RL_d htx (by omega) B0 I0 T0 (fun _ => ⟨G1_n h, ?_⟩) (fun q => absurd (e0.mpr h) (by rw [q]; decide))
    exact RL_d (L := L) htx (by omega) B1 (I1 h) T1 (fun q => absurd ((e1 h).mp q) h2) (fun _ => ⟨hr, hz _ N2⟩)
  · refine RL_d htx (by omega) B0 I0 T0 (fun _ => ⟨G1_n h, ?_⟩) (fun q => absurd (e0.mpr h) (by rw [q]; decide))
    exact RL_d (L := L) htx (by omega) B1 (I1 h) T1 (fun _ => ⟨G2_n h2, hk⟩) (fun q => absurd ((e1 h).mpr h2) (by rw [q]; decide))
end SEG
theorem bft {P : Prop} (h : false = true) : P := absurd h Bool.false_ne_true
theorem btf {P : Prop} (h : true = false) : P := absurd h.symm Bool.false_ne_true
theorem nft : ¬ (false = true) := Bool.false_ne_true
theorem nc_inj {a b : Nat} (h : ((a : Nat) : Int) = ((b : Nat) : Int)) : b = a := by omega
section ALS
variable {tx : Nat → Int} {n : Nat} {res : Int} {Z : RT → Prop} {p j : Nat} {L : List SI} {X : RT} {f g kd f1 s1 : Int}
theorem al_P (htx : ∀ j, 0 ≤ tx j ∧ tx j ≤ 126) (hL : L.length ≤ 290) (hB : BX X) (hj : j ≤ 59) :
    ((tn1 tx n (p : Int) 0 1).1 = -1 → res = (tn1 tx n (p : Int) 0 1).2 → (∀ Y, NBO Y → Z Y) → RL tx n res Z p ((23, (j : Int), 0) :: L) (X.at j 0 0)) ∧
    (¬ (tn1 tx n (p : Int) 0 1).1 = -1 → ∀ p' : Nat, (tn1 tx n (p : Int) 0 1).2 = (p' : Int) → RL tx n res Z p' L (X.at j (tn1 tx n (p : Int) 0 1).1 0) → RL tx n res Z p ((23, (j : Int), 0) :: L) (X.at j 0 0)) := by
  have hI : IX (X.at j 0 0) 23 (j : Int) 0 := ix20 hj (by decide) (by decide) (by decide) (by decide) (by decide) (by decide)
  by_cases h : (48 ≤ chT tx n p ∧ chT tx n p ≤ 57) ∧ chT tx n p - 48 ≤ 1 ∧ 0 ≤ chT tx n p - 48
  · rw [tn1_t h]
    refine ⟨fun q => absurd q (by show ¬ (chT tx n p - 48 = -1); omega), fun _ p' hp hk => ?_⟩
    have := nc_inj hp; subst this
    exact RL_d htx (by omega) (at_BX hB) hI ta_23 (fun _ => ⟨chT_n (tx := tx) (by omega), hk⟩) (fun q => absurd ((inF_i (chT tx n p - 48) 0 1).mpr (by omega)) (by rw [q]; decide))
  · rw [tn1_f h]
    exact ⟨fun _ hr hz => RL_d htx (by omega) (at_BX hB) hI ta_23 (fun q => absurd (inF_t q) (by omega)) (fun _ => ⟨hr, hz _ (at_BX hB).nbo⟩), fun q => absurd rfl q⟩
/-- two digits of a feast's distance -/
theorem al_F (htx : ∀ j, 0 ≤ tx j ∧ tx j ≤ 126) (hL : L.length ≤ 290) (hB : BX X) (hj : j ≤ 59) :
    ((ftF tx n (p : Int) kd f1 s1).1 = false → res = (ftF tx n (p : Int) kd f1 s1).2.1 → (∀ Y, NBO Y → Z Y) → RL tx n res Z p ((25, (j : Int), 0) :: L) (X.at j 0 0)) ∧
    ((ftF tx n (p : Int) kd f1 s1).1 = true → (ftF tx n (p : Int) kd f1 s1).2.2.1 = 70 ∧ ∀ p' : Nat, (ftF tx n (p : Int) kd f1 s1).2.1 = (p' : Int) → (∀ fm sm : Int, (sm = 1 ∨ sm = -1) → (0 ≤ fm ∧ fm ≤ 99) → sm * fm = (ftF tx n (p : Int) kd f1 s1).2.2.2.1 → RL tx n res Z p' L (X.at j fm sm)) → RL tx n res Z p ((25, (j : Int), 0) :: L) (X.at j 0 0)) := by
  have hI : IX (X.at j 0 0) 25 (j : Int) 0 := ix20 hj (by decide) (by decide) (by decide) (by decide) (by decide) (by decide)
  have hI1 : ∀ s : Int, (s = 1 ∨ s = -1) → IX (X.at j 0 s) 25 (j : Int) 1 := fun s hs => ix20 hj (by decide) (by decide) (by decide) (by omega) (fun h => by omega) (fun h => by omega)
  have seg : ∀ s : Int, (s = 1 ∨ s = -1) → _ := fun s hs => seg2 (p := p + 1) (lo := 0) (hi := 99) (res := res) (Z := Z) (n := n) htx hL (at_BX hB) (at_BX hB) (at_BX hB).nbo (hI1 s hs) (fun h => ix20 hj (by decide) (by decide) (by unfold G1 at h; omega) (by omega) (fun h => by omega) (fun h => by omega)) (ta_25_1 (X := X) (j := j) (f := 0) (g := s)) (ta_25_2 (X := X) (j := j) (g := s)) (by rw [inF_i]; unfold G1; omega) (fun h => by rw [inF_i]; unfold G1 at h; unfold G2; omega)
  have fin : ∀ (s : Int), (s = 1 ∨ s = -1) → ∀ kd' : Int, (p < n) → (∀ Tx, RL tx n res Z (p + 1) ((25, (j : Int), 1) :: L) (X.at j 0 s) → Tx = () → RL tx n res Z p ((25, (j : Int), 0) :: L) (X.at j 0 0)) →
      ((tn10 tx n ((p + 1 : Nat) : Int) 0 99).1 = -1 → res = (tn10 tx n ((p + 1 : Nat) : Int) 0 99).2 → (∀ Y, NBO Y → Z Y) → RL tx n res Z p ((25, (j : Int), 0) :: L) (X.at j 0 0)) ∧
      (¬ (tn10 tx n ((p + 1 : Nat) : Int) 0 99).1 = -1 → ∀ p' : Nat, (tn10 tx n ((p + 1 : Nat) : Int) 0 99).2 = (p' : Int) → (∀ fm : Int, (0 ≤ fm ∧ fm ≤ 99) → fm = (tn10 tx n ((p + 1 : Nat) : Int) 0 99).1 → RL tx n res Z p' L (X.at j fm s)) → RL tx n res Z p ((25, (j : Int), 0) :: L) (X.at j 0 0)) := by
    intro s hs _ hp hk
    obtain ⟨k1, k2, k3⟩ := seg s hs
    by_cases h1 : G1 (chT tx n (p + 1)) 0 99
    · by_cases h2 : G2 (chT tx n (p + 1)) (chT tx n (p + 1 + 1)) 0 99
      · rw [tn10_c h1 h2]
        unfold G2 at h2
        refine ⟨fun q => absurd q (by show ¬ (_ : Int) = -1; unfold G1 at h1; omega), fun _ p' hp' hr => ?_⟩
        have := nc_inj hp'; subst this
        refine hk () (k3 h1 h2 ?_) rfl
        have e : 10 * (10 * 0 + (chT tx n (p + 1) - 48)) + (chT tx n (p + 1 + 1) - 48) = 10 * (chT tx n (p + 1) - 48) + (chT tx n (p + 1 + 1) - 48) := by omega
        rw [e]
        exact hr _ (by unfold G1 at h1; omega) rfl
      · rw [tn10_b h1 h2]
        exact ⟨fun _ hr hz => hk () (k2 h1 h2 hr hz) rfl, fun q => absurd rfl q⟩
    · rw [tn10_a h1]
      exact ⟨fun _ hr hz => hk () (k1 h1 hr hz) rfl, fun q => absurd rfl q⟩
  unfold ftF
  by_cases c1 : chT tx n p = 43
  · rw [tk_t c1 (by decide), if_pos rfl, if_pos rfl]
    have hp : p < n := chT_n (tx := tx) (by rw [c1]; decide)
    obtain ⟨m1, m2⟩ := fin 1 (Or.inl rfl) 0 hp (fun _ hk _ => RL_d (L := L) htx (by omega) (at_BX hB) hI ta_25_0 (fun _ => ⟨hp, by rw [if_neg (by omega)]; exact hk⟩) (fun q => absurd (decide_eq_true (Or.inl c1 : chT tx n p = 43 ∨ chT tx n p = 45)) (by rw [q]; decide)))
    by_cases v : (tn10 tx n ((p + 1 : Nat) : Int) 0 99).1 = -1
    · rw [if_pos v]
      exact ⟨fun _ hr hz => m1 v hr hz, fun q => bft q⟩
    · rw [if_neg v]
      refine ⟨fun q => btf q, fun _ => ⟨rfl, fun p' hp' hr => m2 v p' hp' (fun fm hf e => hr fm 1 (Or.inl rfl) hf (by rw [e]; exact Int.one_mul _))⟩⟩
  · rw [tk_f c1, if_neg nft]
    by_cases c2 : chT tx n p = 45
    · rw [tk_t c2 (by decide), if_pos rfl, if_neg nft]
      have hp : p < n := chT_n (tx := tx) (by rw [c2]; decide)
      obtain ⟨m1, m2⟩ := fin (-1) (Or.inr rfl) 0 hp (fun _ hk _ => RL_d (L := L) htx (by omega) (at_BX hB) hI ta_25_0 (fun _ => ⟨hp, by rw [if_pos c2]; exact hk⟩) (fun q => absurd (decide_eq_true (Or.inr c2 : chT tx n p = 43 ∨ chT tx n p = 45)) (by rw [q]; decide)))
      by_cases v : (tn10 tx n ((p + 1 : Nat) : Int) 0 99).1 = -1
      · rw [if_pos v]
        exact ⟨fun _ hr hz => m1 v hr hz, fun q => bft q⟩
      · rw [if_neg v]
        refine ⟨fun q => btf q, fun _ => ⟨rfl, fun p' hp' hr => m2 v p' hp' (fun fm hf e => hr fm (-1) (Or.inr rfl) hf (by rw [e]; exact Int.neg_one_mul _))⟩⟩
    · rw [tk_f c2, if_neg nft]
      exact ⟨fun _ hr hz => RL_d htx (by omega) (at_BX hB) hI ta_25_0 (fun q => absurd (of_decide_eq_true q) (by omega)) (fun _ => ⟨hr, hz _ (at_BX hB).nbo⟩), fun q => bft q⟩
end ALS
