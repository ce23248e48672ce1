def orbD (w v : Int) : Bool := decide (0 ≤ orb w v ∧ orb w v < 256)
theorem orb_all9 : (List.range 256).all (fun w => (List.range 8).all fun v => orbD (w : Int) (v : Int)) = true := by decide +kernel
theorem orb_bd {w v : Int} (hw : 0 ≤ w ∧ w < 256) (hv : 0 ≤ v ∧ v ≤ 7) : 0 ≤ orb w v ∧ orb w v < 256 := by
  have h1 := List.all_eq_true.mp orb_all9 w.toNat (List.mem_range.mpr (by omega))
  have h2 := List.all_eq_true.mp h1 v.toNat (List.mem_range.mpr (by omega))
  have h3 := of_decide_eq_true h2
  rw [show ((w.toNat : Nat) : Int) = w by omega, show ((v.toNat : Nat) : Int) = v by omega] at h3
  exact h3
section ALT
variable {tx : Nat → Int} {n : Nat} {res : Int} {Z : RT → Prop} {p j : Nat} {L : List SI} {X : RT} {f g kd f1 s1 : Int}
theorem bA {a b : Bool} : ((a && b) = true) ↔ (a = true ∧ b = true) := Bool.and_eq_true_iff
theorem al_C (htx : ∀ j, 0 ≤ tx j ∧ tx j ≤ 126) (hL : L.length ≤ 290) (hB : BX X) (hj : j ≤ 59) :
    ((cyF tx n (p : Int) kd f1 s1).1 = false → res = (cyF tx n (p : Int) kd f1 s1).2.1 → (∀ Y, NBO Y → Z Y) → RL tx n res Z p ((24, (j : Int), 0) :: L) (X.at j 0 0)) ∧
    ((cyF tx n (p : Int) kd f1 s1).1 = true → (cyF tx n (p : Int) kd f1 s1).2.2.1 = 67 ∧ ∀ p' : Nat, (cyF tx n (p : Int) kd f1 s1).2.1 = (p' : Int) → ((1 ≤ (cyF tx n (p : Int) kd f1 s1).2.2.2.1 ∧ (cyF tx n (p : Int) kd f1 s1).2.2.2.1 ≤ 99) → (0 ≤ (cyF tx n (p : Int) kd f1 s1).2.2.2.2 ∧ (cyF tx n (p : Int) kd f1 s1).2.2.2.2 ≤ 99) → RL tx n res Z p' L (X.at j (cyF tx n (p : Int) kd f1 s1).2.2.2.1 (cyF tx n (p : Int) kd f1 s1).2.2.2.2)) → RL tx n res Z p ((24, (j : Int), 0) :: L) (X.at j 0 0)) := by
  have hI : IX (X.at j 0 0) 24 (j : Int) 0 := ix20 hj (by decide) (by decide) (by decide) (by decide) (by decide) (by decide)
  obtain ⟨k1, k2, k3⟩ := seg2 (p := p) (lo := 1) (hi := 99) (res := res) (Z := Z) (n := n) htx hL (at_BX hB) (at_BX hB) (at_BX hB).nbo hI (fun h => ix20 hj (by decide) (by decide) (by unfold G1 at h; omega) (by omega) (fun h => by omega) (fun h => by omega)) (ta_24_0 (X := X) (j := j) (f := 0) (g := 0)) (ta_24_1 (X := X) (j := j) (g := 0))
    (by rw [bA, inF_i, decide_eq_true_iff]; unfold G1; omega) (fun h => by rw [bA, inF_i, decide_eq_true_iff]; unfold G1 at h; unfold G2; omega)
  unfold cyF
  by_cases h1 : G1 (chT tx n p) 1 99
  · by_cases h2 : G2 (chT tx n p) (chT tx n (p + 1)) 1 99
    · rw [tn10_c h1 h2]
      have g1 := h1
      have g2 := h2
      unfold G1 at g1
      unfold G2 at g2
      rw [if_neg (show ¬ (10 * (chT tx n p - 48) + (chT tx n (p + 1) - 48) = -1) by omega)]
      have e : 10 * (10 * 0 + (chT tx n p - 48)) + (chT tx n (p + 1) - 48) = 10 * (chT tx n p - 48) + (chT tx n (p + 1) - 48) := by omega
      rw [e] at k3
      generalize hv : 10 * (chT tx n p - 48) + (chT tx n (p + 1) - 48) = v at k3 g2 ⊢
      have k3 := k3 h1 h2
      obtain ⟨m1, m2, m3⟩ := seg2 (p := p + 2) (lo := 0) (hi := v - 1) (L := L) (res := res) (Z := Z) (n := n) htx hL (at_BX hB) (at_BX hB) (at_BX hB).nbo (ix20 (X := X) (f := v) (g := 0) (wh := 24) (c := 2) hj (by decide) (by decide) (by omega) (by omega) (fun h => by omega) (fun h => by omega)) (fun h => ix20 hj (by decide) (by decide) (by omega) (by unfold G1 at h; rw [if_pos rfl]; omega) (fun h => by omega) (fun h => by omega)) (ta_24_2 (X := X) (j := j) (f := v) (g := 0)) (ta_24_3 (X := X) (j := j) (f := v))
        (by rw [bA, inF_i, decide_eq_true_iff, if_pos rfl]; unfold G1; omega) (fun h => by rw [bA, inF_i, decide_eq_true_iff, if_neg (by decide), if_pos rfl]; unfold G1 at h; unfold G2; omega)
      dsimp only
      by_cases h3 : G1 (chT tx n (p + 2)) 0 (v - 1)
      · by_cases h4 : G2 (chT tx n (p + 2)) (chT tx n (p + 2 + 1)) 0 (v - 1)
        · rw [tn10_c h3 h4]
          have g3 := h3
          have g4 := h4
          unfold G1 at g3
          unfold G2 at g4
          rw [if_neg (show ¬ (10 * (chT tx n (p + 2) - 48) + (chT tx n (p + 2 + 1) - 48) = -1) by omega)]
          refine ⟨fun q => btf q, fun _ => ⟨rfl, fun p' hp' hr => ?_⟩⟩
          have := nc_inj hp'; subst this
          refine k3 (m3 h3 h4 ?_)
          rw [if_neg (by decide), if_pos rfl]
          exact hr (by show 1 ≤ v ∧ v ≤ 99; omega) (by show 0 ≤ 10 * (chT tx n (p + 2) - 48) + (chT tx n (p + 2 + 1) - 48) ∧ 10 * (chT tx n (p + 2) - 48) + (chT tx n (p + 2 + 1) - 48) ≤ 99; omega)
        · rw [tn10_b h3 h4, if_pos rfl]
          exact ⟨fun _ hr hz => k3 (m2 h3 h4 hr hz), fun q => bft q⟩
      · rw [tn10_a h3, if_pos rfl]
        exact ⟨fun _ hr hz => k3 (m1 h3 hr hz), fun q => bft q⟩
    · rw [tn10_b h1 h2, if_pos rfl]
      exact ⟨fun _ hr hz => k2 h1 h2 hr hz, fun q => bft q⟩
  · rw [tn10_a h1, if_pos rfl]
    exact ⟨fun _ hr hz => k1 h1 hr hz, fun q => bft q⟩
theorem al_N (htx : ∀ j, 0 ≤ tx j ∧ tx j ≤ 126) (hL : L.length ≤ 290) (hB : BX X) (hj : j ≤ 59) :
    ((nthF tx n (p : Int) kd f1 s1).1 = false → res = (nthF tx n (p : Int) kd f1 s1).2.1 → (∀ Y, NBO Y → Z Y) → RL tx n res Z p ((21, (j : Int), 0) :: L) (X.at j 0 0)) ∧
    ((nthF tx n (p : Int) kd f1 s1).1 = true → (nthF tx n (p : Int) kd f1 s1).2.2.1 = 78 ∧ ∀ p' : Nat, (nthF tx n (p : Int) kd f1 s1).2.1 = (p' : Int) → (∀ fm sm : Int, (fm = (nthF tx n (p : Int) kd f1 s1).2.2.2.1 ∧ 1 ≤ fm ∧ fm ≤ 5) ∨ (fm = 9 ∧ (nthF tx n (p : Int) kd f1 s1).2.2.2.1 = 0) → sm = (nthF tx n (p : Int) kd f1 s1).2.2.2.2 → (1 ≤ sm ∧ sm ≤ 7) → RL tx n res Z p' L (X.at j fm sm)) → RL tx n res Z p ((21, (j : Int), 0) :: L) (X.at j 0 0)) := by
  have hI : IX (X.at j 0 0) 21 (j : Int) 0 := ix20 hj (by decide) (by decide) (by decide) (by decide) (by decide) (by decide)
  have hI1 : ∀ f : Int, 0 ≤ f ∧ f ≤ 9 → IX (X.at j f 0) 21 (j : Int) 1 := fun f hf => ix20 hj (by decide) (by decide) (by omega) (by omega) (fun h => by omega) (fun h => by omega)
  have two : ∀ (f : Int), 0 ≤ f ∧ f ≤ 9 → ((tn1 tx n ((p + 1 : Nat) : Int) 1 7).1 = -1 → res = (tn1 tx n ((p + 1 : Nat) : Int) 1 7).2 → (∀ Y, NBO Y → Z Y) → RL tx n res Z (p + 1) ((21, (j : Int), 1) :: L) (X.at j f 0)) ∧
      (¬ (tn1 tx n ((p + 1 : Nat) : Int) 1 7).1 = -1 → ∀ p' : Nat, (tn1 tx n ((p + 1 : Nat) : Int) 1 7).2 = (p' : Int) → (1 ≤ (tn1 tx n ((p + 1 : Nat) : Int) 1 7).1 ∧ (tn1 tx n ((p + 1 : Nat) : Int) 1 7).1 ≤ 7) ∧ (RL tx n res Z p' L (X.at j f (tn1 tx n ((p + 1 : Nat) : Int) 1 7).1) → RL tx n res Z (p + 1) ((21, (j : Int), 1) :: L) (X.at j f 0))) := by
    intro f hf
    by_cases h : (48 ≤ chT tx n (p + 1) ∧ chT tx n (p + 1) ≤ 57) ∧ chT tx n (p + 1) - 48 ≤ 7 ∧ 1 ≤ chT tx n (p + 1) - 48
    · rw [tn1_t h]
      refine ⟨fun q => absurd q (by show ¬ (chT tx n (p + 1) - 48 = -1); omega), fun _ p' hp => ⟨by show 1 ≤ chT tx n (p + 1) - 48 ∧ chT tx n (p + 1) - 48 ≤ 7; omega, fun hk => ?_⟩⟩
      have := nc_inj hp; subst this
      exact RL_d htx (by omega) (at_BX hB) (hI1 f hf) ta_21_1 (fun _ => ⟨chT_n (tx := tx) (by omega), hk⟩) (fun q => absurd ((inF_i (chT tx n (p + 1) - 48) 1 7).mpr (by omega)) (by rw [q]; decide))
    · rw [tn1_f h]
      exact ⟨fun _ hr hz => RL_d htx (by omega) (at_BX hB) (hI1 f hf) ta_21_1 (fun q => absurd (inF_t q) (by omega)) (fun _ => ⟨hr, hz _ (at_BX hB).nbo⟩), fun q => absurd rfl q⟩
  unfold nthF
  by_cases c1 : chT tx n p = 76
  · rw [tk_t c1 (by decide), if_pos rfl]
    have hp : p < n := chT_n (tx := tx) (by rw [c1]; decide)
    have fst : RL tx n res Z (p + 1) ((21, (j : Int), 1) :: L) (X.at j 9 0) → RL tx n res Z p ((21, (j : Int), 0) :: L) (X.at j 0 0) := fun hk => RL_d (L := L) htx (by omega) (at_BX hB) hI ta_21_0 (fun _ => ⟨hp, by rw [if_pos c1]; exact hk⟩) (fun q => absurd (show (decide (chT tx n p = 76) || inF (chT tx n p - 48) 1 5) = true by rw [decide_eq_true c1]; rfl) (by rw [q]; decide))
    obtain ⟨m1, m2⟩ := two 9 (by decide)
    by_cases v : (tn1 tx n ((p + 1 : Nat) : Int) 1 7).1 = -1
    · rw [if_pos v]
      exact ⟨fun _ hr hz => fst (m1 v hr hz), fun q => bft q⟩
    · rw [if_neg v]
      refine ⟨fun q => btf q, fun _ => ⟨rfl, fun p' hp' hr => ?_⟩⟩
      obtain ⟨w1, w2⟩ := m2 v p' hp'
      exact fst (w2 (hr 9 _ (Or.inr ⟨rfl, rfl⟩) rfl w1))
  · rw [tk_f c1, if_neg nft]
    by_cases h : (48 ≤ chT tx n p ∧ chT tx n p ≤ 57) ∧ chT tx n p - 48 ≤ 5 ∧ 1 ≤ chT tx n p - 48
    · rw [tn1_t h, if_neg (show ¬ (chT tx n p - 48 = -1) by omega)]
      have hp : p < n := chT_n (tx := tx) (by omega)
      have fst : RL tx n res Z (p + 1) ((21, (j : Int), 1) :: L) (X.at j (chT tx n p - 48) 0) → RL tx n res Z p ((21, (j : Int), 0) :: L) (X.at j 0 0) := fun hk => RL_d (L := L) htx (by omega) (at_BX hB) hI ta_21_0 (fun _ => ⟨hp, by rw [if_neg c1]; exact hk⟩) (fun q => absurd (show (decide (chT tx n p = 76) || inF (chT tx n p - 48) 1 5) = true by rw [(inF_i _ _ _).mpr (by omega)]; exact Bool.or_true _) (by rw [q]; decide))
      obtain ⟨m1, m2⟩ := two (chT tx n p - 48) (by omega)
      by_cases v : (tn1 tx n ((p + 1 : Nat) : Int) 1 7).1 = -1
      · rw [if_pos v]
        exact ⟨fun _ hr hz => fst (m1 v hr hz), fun q => bft q⟩
      · rw [if_neg v]
        refine ⟨fun q => btf q, fun _ => ⟨rfl, fun p' hp' hr => ?_⟩⟩
        obtain ⟨w1, w2⟩ := m2 v p' hp'
        exact fst (w2 (hr _ _ (Or.inl ⟨rfl, by omega, by omega⟩) rfl w1))
    · rw [tn1_f h, if_pos rfl]
      exact ⟨fun _ hr hz => RL_d htx (by omega) (at_BX hB) hI ta_21_0 (fun q => by
        rcases Bool.or_eq_true_iff.mp q with q | q
        · exact absurd (of_decide_eq_true q) c1
        · exact absurd (inF_t q) (by omega)) (fun _ => ⟨hr, hz _ (at_BX hB).nbo⟩), fun q => bft q⟩
/-- weekdays -/
theorem al_W (htx : ∀ j, 0 ≤ tx j ∧ tx j ≤ 126) (hL : L.length ≤ 290) (hB : BX X) (hj : j ≤ 59) :
    ∀ (k p : Nat) (la wd c : Int), 7 - la ≤ (k : Int) → (0 ≤ la ∧ la ≤ 7) → (0 ≤ wd ∧ wd < 256) → ((c = 0 ∧ la = 0) ∨ (c = 1 ∧ 1 ≤ la)) →
      (¬ 0 < (wkF tx n k (p : Int) la wd).2.1 → res = (wkF tx n k (p : Int) la wd).2.2 → (∀ Y, NBO Y → Z Y) → RL tx n res Z p ((20, (j : Int), c) :: L) (X.at j wd la)) ∧
      (0 < (wkF tx n k (p : Int) la wd).2.1 → ∀ p' : Nat, (wkF tx n k (p : Int) la wd).2.2 = (p' : Int) → (∀ sm : Int, (0 ≤ sm ∧ sm ≤ 7) → (0 ≤ (wkF tx n k (p : Int) la wd).1 ∧ (wkF tx n k (p : Int) la wd).1 < 256) → RL tx n res Z p' L (X.at j (wkF tx n k (p : Int) la wd).1 sm)) → RL tx n res Z p ((20, (j : Int), c) :: L) (X.at j wd la)) := by
  have stop : ∀ (p : Nat) (la wd c : Int), (0 ≤ la ∧ la ≤ 7) → (0 ≤ wd ∧ wd < 256) → ((c = 0 ∧ la = 0) ∨ (c = 1 ∧ 1 ≤ la)) → inF (chT tx n p - 48) (la + 1) 7 = false →
      (¬ 0 < la → res = (p : Int) → (∀ Y, NBO Y → Z Y) → RL tx n res Z p ((20, (j : Int), c) :: L) (X.at j wd la)) ∧
      (0 < la → ∀ p' : Nat, (p : Int) = (p' : Int) → (∀ sm : Int, (0 ≤ sm ∧ sm ≤ 7) → (0 ≤ wd ∧ wd < 256) → RL tx n res Z p' L (X.at j wd sm)) → RL tx n res Z p ((20, (j : Int), c) :: L) (X.at j wd la)) := by
    intro p la wd c hl hw hc hf
    have hI : IX (X.at j wd la) 20 (j : Int) c := ix20 hj (by omega) (by decide) (by omega) (by omega) (fun _ => by omega) (fun h => by omega)
    refine ⟨fun h0 hr hz => ?_, fun h0 p' hp hr => ?_⟩
    · have h1 := ta_20f (X := X) (j := j) (f := wd) (c := c) hf
      rw [if_pos (by omega)] at h1
      exact RL_f htx (by omega) (at_BX hB) hI h1 (Or.inl rfl) hr (hz _ (at_BX hB).nbo)
    · have h1 := ta_20f (X := X) (j := j) (f := wd) (c := c) hf
      rw [if_neg (by omega)] at h1
      have := nc_inj hp; subst this
      exact RL_2 (L := L) htx (by omega) (at_BX hB) hI h1 (hr la hl hw)
  intro k
  induction k with
  | zero =>
    intro p la wd c hk hl hw hc
    exact stop p la wd c hl hw hc (inF_n (by omega))
  | succ k ih =>
    intro p la wd c hk hl hw hc
    by_cases h : (48 ≤ chT tx n p ∧ chT tx n p ≤ 57) ∧ chT tx n p - 48 ≤ 7 ∧ la + 1 ≤ chT tx n p - 48
    · have ht := tn1_t (lo := la + 1) (hi := 7) h
      have hs : ¬ (tn1 tx n (p : Int) (la + 1) 7).1 = -1 := by rw [ht]; show ¬ (chT tx n p - 48 = -1); omega
      rw [wkF_s hs, ht]
      have ho := (orb_bd hw (show 0 ≤ chT tx n p - 48 ∧ chT tx n p - 48 ≤ 7 by omega))
      obtain ⟨i1, i2⟩ := ih (p + 1) (chT tx n p - 48) (orb wd (chT tx n p - 48)) 1 (by omega) (by omega) ho (Or.inr ⟨rfl, by omega⟩)
      have hI : IX (X.at j wd la) 20 (j : Int) c := ix20 hj (by omega) (by decide) (by omega) (by omega) (fun _ => by omega) (fun h => by omega)
      have fst := fun (hk : RL tx n res Z (p + 1) ((20, (j : Int), 1) :: L) (X.at j (orb wd (chT tx n p - 48)) (chT tx n p - 48))) => RL_1 (L := L) htx (by omega) (at_BX hB) hI (ta_20t (X := X) (j := j) (f := wd) (c := c) ((inF_i _ _ _).mpr (by omega))) (chT_n (tx := tx) (by omega)) hk
      exact ⟨fun h0 hr hz => fst (i1 h0 hr hz), fun h0 p' hp hr => fst (i2 h0 p' hp hr)⟩
    · have hf := tn1_f (lo := la + 1) (hi := 7) h
      rw [wkF_e (by rw [hf]), hf]
      exact stop p la wd c hl hw hc (inF_n (by omega))
end ALT
