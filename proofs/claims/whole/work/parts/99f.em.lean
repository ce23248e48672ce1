/-- an atom as it is read and one of the model: the same days -/
def ATR (kd f1 s1 k fm sm : Int) : Prop := (∀ (fi se : Nat → Int) (a d : Nat), d < 1461 → fi a = fm → se a = sm → atF k fi se a d = atM kd f1 s1 d) ∧ (20 ≤ k ∧ k ≤ 26) ∧ (0 ≤ fm ∧ fm ≤ 100000) ∧ (-1 ≤ sm ∧ sm ≤ 100000) ∧ (k = 20 → fm < 256) ∧ (k = 24 → 1 ≤ fm) ∧ (k = 25 → sm = 1 ∨ sm = -1)
theorem btw_eq (f g z : Int) : (if g < f then (if f ≤ z then true else (if g < z then false else true)) else (if z < f then false else (if g < z then false else true))) = btw f g z := by
  unfold btw
  by_cases h : g < f
  · rw [if_pos h, if_neg (show ¬ f ≤ g by omega)]
    by_cases h1 : f ≤ z
    · rw [if_pos h1, decide_eq_true h1]; rfl
    · rw [if_neg h1, decide_eq_false h1]
      by_cases h2 : g < z
      · rw [if_pos h2, decide_eq_false (show ¬ z ≤ g by omega)]; rfl
      · rw [if_neg h2, decide_eq_true (show z ≤ g by omega)]; rfl
  · rw [if_neg h, if_pos (show f ≤ g by omega)]
    by_cases h1 : z < f
    · rw [if_pos h1, decide_eq_false (show ¬ f ≤ z by omega)]; rfl
    · rw [if_neg h1, decide_eq_true (show f ≤ z by omega)]
      by_cases h2 : g < z
      · rw [if_pos h2, decide_eq_false (show ¬ z ≤ g by omega)]; rfl
      · rw [if_neg h2, decide_eq_true (show z ≤ g by omega)]; rfl
theorem ite_dec (P : Prop) [Decidable P] : (if P then true else false) = decide P := by
  by_cases h : P
  · rw [if_pos h, decide_eq_true h]
  · rw [if_neg h, decide_eq_false h]
theorem ATR_W {f s sm : Int} (hf : 0 ≤ f ∧ f < 256) (hs : 0 ≤ sm ∧ sm ≤ 7) : ATR 87 f s 20 f sm := by
  refine ⟨fun fi se a d hd h1 h2 => ?_, by omega, by omega, by omega, fun _ => by omega, fun h => by omega, fun h => by omega⟩
  unfold atF
  rw [if_pos rfl, h1, ite_dec, atM_W rfl]
  exact decide_eq_decide.mpr (by omega)
theorem ATR_N {f s fm : Int} (hf : (fm = f ∧ 1 ≤ fm ∧ fm ≤ 5) ∨ (fm = 9 ∧ f = 0)) (hs : 1 ≤ s ∧ s ≤ 7) : ATR 78 f s 21 fm s := by
  refine ⟨fun fi se a d hd h1 h2 => ?_, by omega, by omega, by omega, fun _ => by omega, fun h => by omega, fun h => by omega⟩
  obtain ⟨d1, d2, d3, d4, d5, d6, d7⟩ := dateZ_bd hd
  unfold atF
  rw [if_neg (by decide), if_pos rfl, h1, h2, atM_N rfl]
  by_cases hw : wDay (d : Int) = s
  · rw [if_pos hw, decide_eq_true hw, Bool.true_and]
    unfold hasRk
    rcases hf with ⟨e, e1, e2⟩ | ⟨e, e1⟩
    · subst e
      rw [if_neg (show ¬ fm = 9 by omega), if_pos (show 0 < fm by omega), ite_dec]
      have : dateZ d % 10000 % 100 = dateZ d % 100 := by omega
      rw [this]
    · subst e; subst e1
      rw [if_pos (show (9 : Int) = 9 from rfl), if_neg (show ¬ (0 : Int) < 0 by decide)]
      have q1 : dateZ d % 10000 % 100 = dateZ d % 100 := by omega
      have q2 : dateZ d % 10000 / 100 = dateZ d / 100 % 100 := by omega
      rw [q1, q2, mml_eq (by omega) (by omega)]
      by_cases h : dateZ d % 100 + 7 ≤ mLen (dateZ d / 10000) (dateZ d / 100 % 100)
      · rw [if_pos h, decide_eq_false (by omega)]
      · rw [if_neg h, decide_eq_true (by omega)]
  · rw [if_neg hw, decide_eq_false hw, Bool.false_and]
theorem ATR_D {f s : Int} (hf : 101 ≤ f ∧ f ≤ 1231) (hs : 101 ≤ s ∧ s ≤ 1231) : ATR 68 f s 22 f s := by
  refine ⟨fun fi se a d hd h1 h2 => ?_, by omega, by omega, by omega, fun _ => by omega, fun h => by omega, fun h => by omega⟩
  unfold atF
  rw [if_neg (by decide), if_neg (by decide), if_pos rfl, h1, h2, atM_D rfl, btw_eq]
theorem ATR_P {f s : Int} (hf : 0 ≤ f ∧ f ≤ 1) : ATR 80 f s 23 f 0 := by
  refine ⟨fun fi se a d hd h1 h2 => ?_, by omega, by omega, by omega, fun _ => by omega, fun h => by omega, fun h => by omega⟩
  unfold atF
  rw [if_neg (by decide), if_neg (by decide), if_neg (by decide), if_pos rfl, h1, ite_dec, atM_P rfl]
theorem ATR_C {f s : Int} (hf : 1 ≤ f ∧ f ≤ 99) (hs : 0 ≤ s ∧ s ≤ 99) : ATR 67 f s 24 f s := by
  refine ⟨fun fi se a d hd h1 h2 => ?_, by omega, by omega, by omega, fun _ => by omega, fun h => by omega, fun h => by omega⟩
  unfold atF
  rw [if_neg (by decide), if_neg (by decide), if_neg (by decide), if_neg (by decide), if_pos rfl, h1, h2, ite_dec, atM_C rfl, decide_eq_true (show 0 < f by omega), Bool.true_and]
theorem ATR_F {f s fm sm : Int} (hs : sm = 1 ∨ sm = -1) (hf : 0 ≤ fm ∧ fm ≤ 99) (h : sm * fm = f) : ATR 70 f s 25 fm sm := by
  refine ⟨fun fi se a d hd h1 h2 => ?_, by omega, by omega, by omega, fun _ => by omega, fun h => by omega, fun _ => hs⟩
  unfold atF
  rw [if_neg (by decide), if_neg (by decide), if_neg (by decide), if_neg (by decide), if_neg (by decide), if_pos rfl, h1, h2, ite_dec, atM_F rfl, h]
theorem ATR_Y {f s : Int} (hf : 2000 ≤ f ∧ f ≤ 2003) (hs : 2000 ≤ s ∧ s ≤ 2003) (hle : f ≤ s) : ATR 89 f s 26 f s := by
  refine ⟨fun fi se a d hd h1 h2 => ?_, by omega, by omega, by omega, fun _ => by omega, fun h => by omega, fun h => by omega⟩
  obtain ⟨d1, d2, d3, d4, d5, d6, d7⟩ := dateZ_bd hd
  unfold atF
  rw [if_neg (by decide), if_neg (by decide), if_neg (by decide), if_neg (by decide), if_neg (by decide), if_neg (by decide), h1, h2, d7, atM_Y rfl]
  have h3 := btw_eq f s (2000 + yIx (d : Int))
  rw [if_neg (show ¬ s < f by omega)] at h3
  exact h3
section MON
variable {tx : Nat → Int} {n : Nat} {pl lo hi kd f1 s1 ch : Int}
theorem tkF_mo : pl ≤ (tkF tx n pl ch).2 := by
  unfold tkF
  by_cases h1 : (n : Int) ≤ pl
  · rw [if_pos h1]; exact Int.le_refl _
  · rw [if_neg h1]
    by_cases h2 : tx pl.toNat = ch
    · rw [if_pos h2]; show pl ≤ pl + 1; omega
    · rw [if_neg h2]; exact Int.le_refl _
theorem tn1_mo : pl ≤ (tn1 tx n pl lo hi).2 := by
  unfold tn1
  (repeat' split) <;> (try dsimp only) <;> omega
theorem tn10_mo : pl ≤ (tn10 tx n pl lo hi).2 := by
  unfold tn10
  (repeat' split) <;> (try dsimp only) <;> omega
theorem ite_mo {pl : Int} {c : Prop} [Decidable c] {a b : Int × Int} (h1 : pl ≤ a.2) (h2 : pl ≤ b.2) : pl ≤ (if c then a else b).2 := by
  by_cases h : c
  · rw [if_pos h]; exact h1
  · rw [if_neg h]; exact h2
theorem tn1000_mo : pl ≤ (tn1000 tx n pl lo hi).2 := by
  unfold tn1000
  repeat' apply ite_mo
  all_goals (dsimp only; omega)
theorem wkF_mo : ∀ (k : Nat) (pl la wd : Int), pl ≤ (wkF tx n k pl la wd).2.2
  | 0, pl, _, _ => Int.le_refl pl
  | k + 1, pl, la, wd => by
    have h0 : pl ≤ (tn1 tx n pl (la + 1) 7).2 := tn1_mo
    by_cases h : (tn1 tx n pl (la + 1) 7).1 = -1
    · rw [wkF_e h]; exact h0
    · rw [wkF_s h]; exact Int.le_trans h0 (wkF_mo k _ _ _)
theorem mdF_mo : pl ≤ (mdF tx n pl).2 := by
  unfold mdF
  have a1 : pl ≤ (tn10 tx n pl 1 12).2 := tn10_mo
  have a2 : (tn10 tx n pl 1 12).2 ≤ (tn10 tx n ((tn10 tx n pl 1 12).2) 1 (mLen 2000 ((tn10 tx n pl 1 12).1))).2 := tn10_mo
  (repeat' split) <;> (try dsimp only) <;> omega
theorem nthF_mo : pl ≤ (nthF tx n pl kd f1 s1).2.1 := by
  unfold nthF
  have a1 : pl ≤ (tkF tx n pl 76).2 := tkF_mo
  have a2 : (tkF tx n pl 76).2 ≤ (tn1 tx n ((tkF tx n pl 76).2) 1 7).2 := tn1_mo
  have a3 : (tkF tx n pl 76).2 ≤ (tn1 tx n ((tkF tx n pl 76).2) 1 5).2 := tn1_mo
  have a4 : (tn1 tx n ((tkF tx n pl 76).2) 1 5).2 ≤ (tn1 tx n ((tn1 tx n ((tkF tx n pl 76).2) 1 5).2) 1 7).2 := tn1_mo
  (repeat' split) <;> (try dsimp only) <;> omega
theorem dtF_mo : pl ≤ (dtF tx n pl kd f1 s1).2.1 := by
  unfold dtF
  have a1 : pl ≤ (mdF tx n pl).2 := mdF_mo
  have a2 : (mdF tx n pl).2 ≤ (tkF tx n ((mdF tx n pl).2) 45).2 := tkF_mo
  have a3 : (tkF tx n ((mdF tx n pl).2) 45).2 ≤ (mdF tx n ((tkF tx n ((mdF tx n pl).2) 45).2)).2 := mdF_mo
  (repeat' split) <;> (try dsimp only) <;> omega
theorem cyF_mo : pl ≤ (cyF tx n pl kd f1 s1).2.1 := by
  unfold cyF
  have a1 : pl ≤ (tn10 tx n pl 1 99).2 := tn10_mo
  have a2 : (tn10 tx n pl 1 99).2 ≤ (tn10 tx n ((tn10 tx n pl 1 99).2) 0 (((tn10 tx n pl 1 99).1) - 1)).2 := tn10_mo
  (repeat' split) <;> (try dsimp only) <;> omega
theorem ftF_mo : pl ≤ (ftF tx n pl kd f1 s1).2.1 := by
  unfold ftF
  have a1 : pl ≤ (tkF tx n pl 43).2 := tkF_mo
  have a2 : (tkF tx n pl 43).2 ≤ (tn10 tx n ((tkF tx n pl 43).2) 0 99).2 := tn10_mo
  have a3 : (tkF tx n pl 43).2 ≤ (tkF tx n ((tkF tx n pl 43).2) 45).2 := tkF_mo
  have a4 : (tkF tx n ((tkF tx n pl 43).2) 45).2 ≤ (tn10 tx n ((tkF tx n ((tkF tx n pl 43).2) 45).2) 0 99).2 := tn10_mo
  (repeat' split) <;> (try dsimp only) <;> omega
theorem yrF_mo : pl ≤ (yrF tx n pl kd f1 s1).2.1 := by
  unfold yrF
  have a1 : pl ≤ (tn1000 tx n pl 2000 2003).2 := tn1000_mo
  have a2 : (tn1000 tx n pl 2000 2003).2 ≤ (tkF tx n ((tn1000 tx n pl 2000 2003).2) 45).2 := tkF_mo
  have a3 : (tkF tx n ((tn1000 tx n pl 2000 2003).2) 45).2 ≤ (tn1000 tx n ((tkF tx n ((tn1000 tx n pl 2000 2003).2) 45).2) ((tn1000 tx n pl 2000 2003).1) 2003).2 := tn1000_mo
  (repeat' split) <;> (try dsimp only) <;> omega
theorem yrF_le (hn : n ≤ 100) (h : 0 ≤ pl ∧ pl ≤ (n : Int)) (ho : (yrF tx n pl kd f1 s1).1 = true) : (yrF tx n pl kd f1 s1).2.2.2.1 ≤ (yrF tx n pl kd f1 s1).2.2.2.2 := by
  have b1 := tn1000_bd (tx := tx) (lo := 2000) (hi := 2003) hn h
  have b2 := tkF_bd (tx := tx) (ch := 45) hn ⟨b1.1, b1.2.1⟩
  have b3 := tn1000_bd (tx := tx) (lo := (tn1000 tx n pl 2000 2003).1) (hi := 2003) hn b2
  unfold yrF at ho ⊢
  by_cases v : (tn1000 tx n pl 2000 2003).1 = -1
  · rw [if_pos v] at ho; exact bft ho
  · rw [if_neg v] at ho ⊢
    by_cases c : (tkF tx n ((tn1000 tx n pl 2000 2003).2) 45).1 = true
    · rw [if_pos c] at ho ⊢
      by_cases v2 : (tn1000 tx n ((tkF tx n ((tn1000 tx n pl 2000 2003).2) 45).2) ((tn1000 tx n pl 2000 2003).1) 2003).1 = -1
      · rw [if_pos v2] at ho; exact bft ho
      · rw [if_neg v2]
        dsimp only
        omega
    · rw [if_neg c] at ho; exact bft ho
end MON
section ALA
variable {tx : Nat → Int} {n : Nat} {res : Int} {Z : RT → Prop} {p : Nat} {L : List SI} {X : RT} {a kd f1 s1 : Int}
theorem atom_at (X : RT) (k : Int) : (X.atom k).at X.an.toNat 0 0 = X.atom k := by
  refine at_id ?_ ?_
  · show updZ X.fi X.an.toNat 0 X.an.toNat = 0
    unfold updZ; exact if_pos rfl
  · show updZ X.se X.an.toNat 0 X.an.toNat = 0
    unfold updZ; exact if_pos rfl
theorem atom_BX (hB : BX X) (h1 : X.cl ≤ 107) (h2 : X.an ≤ 57) (k : Int) : BX (X.atom k) := by
  obtain ⟨b1, b2, b3, b4, b5⟩ := hB
  exact ⟨b1, ⟨by show 0 ≤ X.cl + 1; omega, by show X.cl + 1 ≤ 108; omega⟩, ⟨by show 0 ≤ X.an + 1; omega, by show X.an + 1 ≤ 58; omega⟩, b4, b5⟩
/-- from the item that holds an operand to its letter -/
theorem al_go (htx : ∀ j, 0 ≤ tx j ∧ tx j ≤ 126) (hL : L.length ≤ 290) (hB : BX X) (ha : 0 ≤ a ∧ a ≤ 4) (hp : p < n) {k : Int} (hT : TKR 14 a 0 (chT tx n p) X 1 [(k, X.an + 1 - 1, 0)] (X.atom k)) (hk : RL tx n res Z (p + 1) ((k, ((X.an.toNat : Nat) : Int), 0) :: L) ((X.atom k).at X.an.toNat 0 0)) : RL tx n res Z p ((14, a, 0) :: L) X := by
  refine RL_1 htx (by omega) hB (IX.lo (by decide) (by omega) (by decide)) hT hp ?_
  have e : X.an + 1 - 1 = ((X.an.toNat : Nat) : Int) := by have := hB.2.2.1.1; omega
  rw [e, ← atom_at X k]
  exact hk
/-- an atom, in lock step -/
theorem al_A (htx : ∀ j, 0 ≤ tx j ∧ tx j ≤ 126) (hn : n ≤ 100) (hL : L.length ≤ 290) (hB : BX X) (hc : X.cl ≤ 107) (hA : X.an ≤ 57) (ha : 0 ≤ a ∧ a ≤ 4) (h33 : ¬ chT tx n p = 33) (h40 : chT tx n p = 40 → 4 ≤ a) :
    ((raF tx n (p : Int) kd f1 s1).1 = false → res = (raF tx n (p : Int) kd f1 s1).2.1 → (∀ Y, NBO Y → Z Y) → RL tx n res Z p ((14, a, 0) :: L) X) ∧
    ((raF tx n (p : Int) kd f1 s1).1 = true → ∀ p' : Nat, (raF tx n (p : Int) kd f1 s1).2.1 = (p' : Int) → p + 1 ≤ p' ∧ ((∀ k fm sm : Int, ATR (raF tx n (p : Int) kd f1 s1).2.2.1 (raF tx n (p : Int) kd f1 s1).2.2.2.1 (raF tx n (p : Int) kd f1 s1).2.2.2.2 k fm sm → RL tx n res Z p' L ((X.atom k).at X.an.toNat fm sm)) → RL tx n res Z p ((14, a, 0) :: L) X)) := by
  have hj : X.an.toNat ≤ 59 := by omega
  have hBX : ∀ k, BX (X.atom k) := atom_BX hB hc hA
  have up : ∀ {x : Int} {q : Nat}, ((p + 1 : Nat) : Int) ≤ x → x = (q : Int) → p + 1 ≤ q := fun h1 h2 => by omega
  have go := fun (k : Int) (hT : TKR 14 a 0 (chT tx n p) X 1 [(k, X.an + 1 - 1, 0)] (X.atom k)) (h0 : ¬ chT tx n p = 0) => al_go (res := res) (Z := Z) htx hL hB ha (chT_n (tx := tx) h0) hT
  unfold raF
  by_cases c1 : chT tx n p = 87
  · rw [tk_t c1 (by decide)]
    dsimp only
    rw [if_pos rfl]
    have hT := tk_14W (a := a) (X := X)
    rw [← c1] at hT
    obtain ⟨k1, k2⟩ := al_W (res := res) (Z := Z) (n := n) (L := L) htx hL (hBX 20) hj 7 (p + 1) 0 0 0 (by decide) (by decide) (by decide) (Or.inl ⟨rfl, rfl⟩)
    refine ⟨fun h hr hz => go 20 hT (by omega) (k1 (of_decide_eq_false h) hr hz), fun h p' hp => ⟨up (wkF_mo 7 _ 0 0) hp, fun hk => go 20 hT (by omega) (k2 (of_decide_eq_true h) p' hp (fun sm hs hf => hk 20 _ sm (ATR_W hf hs)))⟩⟩
  rw [tk_f c1]
  dsimp only
  rw [if_neg Bool.false_ne_true]
  by_cases c2 : chT tx n p = 78
  · rw [tk_t c2 (by decide)]
    dsimp only
    rw [if_pos rfl]
    have hT := tk_14N (a := a) (X := X)
    rw [← c2] at hT
    obtain ⟨k1, k2⟩ := al_N (p := p + 1) (res := res) (Z := Z) (n := n) (L := L) (kd := kd) (f1 := f1) (s1 := s1) htx hL (hBX 21) hj
    refine ⟨fun h hr hz => go 21 hT (by omega) (k1 h hr hz), fun h p' hp => ⟨up nthF_mo hp, fun hk => ?_⟩⟩
    obtain ⟨e1, e2⟩ := k2 h
    refine go 21 hT (by omega) (e2 p' hp (fun fm sm h1 h2 h3 => ?_))
    refine hk 21 fm sm ?_
    dsimp only
    rw [e1, ← h2]
    exact ATR_N h1 h3
  rw [tk_f c2]
  dsimp only
  rw [if_neg Bool.false_ne_true]
  by_cases c3 : chT tx n p = 68
  · rw [tk_t c3 (by decide)]
    dsimp only
    rw [if_pos rfl]
    have hT := tk_14D (a := a) (X := X)
    rw [← c3] at hT
    obtain ⟨k1, k2⟩ := al_D (p := p + 1) (res := res) (Z := Z) (n := n) (L := L) (kd := kd) (f1 := f1) (s1 := s1) htx hL (hBX 22) hj
    refine ⟨fun h hr hz => go 22 hT (by omega) (k1 h hr hz), fun h p' hp => ⟨up dtF_mo hp, fun hk => ?_⟩⟩
    obtain ⟨e1, e2⟩ := k2 h
    refine go 22 hT (by omega) (e2 p' hp (fun h1 h2 => ?_))
    refine hk 22 _ _ ?_
    dsimp only
    rw [e1]
    exact ATR_D h1 h2
  rw [tk_f c3]
  dsimp only
  rw [if_neg Bool.false_ne_true]
  by_cases c4 : chT tx n p = 80
  · rw [tk_t c4 (by decide)]
    dsimp only
    rw [if_pos rfl]
    have hT := tk_14P (a := a) (X := X)
    rw [← c4] at hT
    obtain ⟨k1, k2⟩ := al_P (p := p + 1) (res := res) (Z := Z) (n := n) (L := L) htx hL (hBX 23) hj
    have hb : ¬ (tn1 tx n ((p + 1 : Nat) : Int) 0 1).1 = -1 → 0 ≤ (tn1 tx n ((p + 1 : Nat) : Int) 0 1).1 ∧ (tn1 tx n ((p + 1 : Nat) : Int) 0 1).1 ≤ 1 := by
      have hl := chT_n (tx := tx) (n := n) (p := p) (by omega)
      have := tn1_bd (tx := tx) (n := n) (pl := ((p + 1 : Nat) : Int)) (lo := 0) (hi := 1) hn (by omega)
      omega
    by_cases v : (tn1 tx n ((p + 1 : Nat) : Int) 0 1).1 = -1
    · rw [if_pos v]
      exact ⟨fun h hr hz => go 23 hT (by omega) (k1 v hr hz), fun h => bft h⟩
    · rw [if_neg v]
      refine ⟨fun h => btf h, fun h p' hp => ⟨up tn1_mo hp, fun hk => ?_⟩⟩
      exact go 23 hT (by omega) (k2 v p' hp (hk 23 _ 0 (ATR_P (hb v))))
  rw [tk_f c4]
  dsimp only
  rw [if_neg Bool.false_ne_true]
  by_cases c5 : chT tx n p = 67
  · rw [tk_t c5 (by decide)]
    dsimp only
    rw [if_pos rfl]
    have hT := tk_14C (a := a) (X := X)
    rw [← c5] at hT
    obtain ⟨k1, k2⟩ := al_C (p := p + 1) (res := res) (Z := Z) (n := n) (L := L) (kd := kd) (f1 := f1) (s1 := s1) htx hL (hBX 24) hj
    refine ⟨fun h hr hz => go 24 hT (by omega) (k1 h hr hz), fun h p' hp => ⟨up cyF_mo hp, fun hk => ?_⟩⟩
    obtain ⟨e1, e2⟩ := k2 h
    refine go 24 hT (by omega) (e2 p' hp (fun h1 h2 => ?_))
    refine hk 24 _ _ ?_
    dsimp only
    rw [e1]
    exact ATR_C h1 h2
  rw [tk_f c5]
  dsimp only
  rw [if_neg Bool.false_ne_true]
  by_cases c6 : chT tx n p = 70
  · rw [tk_t c6 (by decide)]
    dsimp only
    rw [if_pos rfl]
    have hT := tk_14F (a := a) (X := X)
    rw [← c6] at hT
    obtain ⟨k1, k2⟩ := al_F (p := p + 1) (res := res) (Z := Z) (n := n) (L := L) (kd := kd) (f1 := f1) (s1 := s1) htx hL (hBX 25) hj
    refine ⟨fun h hr hz => go 25 hT (by omega) (k1 h hr hz), fun h p' hp => ⟨up ftF_mo hp, fun hk => ?_⟩⟩
    obtain ⟨e1, e2⟩ := k2 h
    refine go 25 hT (by omega) (e2 p' hp (fun fm sm h1 h2 h3 => ?_))
    refine hk 25 fm sm ?_
    dsimp only
    rw [e1]
    exact ATR_F h1 h2 h3
  rw [tk_f c6]
  dsimp only
  rw [if_neg Bool.false_ne_true]
  by_cases c7 : chT tx n p = 89
  · rw [tk_t c7 (by decide)]
    dsimp only
    rw [if_pos rfl]
    have hT := tk_14Y (a := a) (X := X)
    rw [← c7] at hT
    have hl := chT_n (tx := tx) (n := n) (p := p) (by omega)
    have hle := yrF_le (tx := tx) (n := n) (pl := ((p + 1 : Nat) : Int)) (kd := kd) (f1 := f1) (s1 := s1) hn (by omega)
    obtain ⟨k1, k2⟩ := al_Y (p := p + 1) (res := res) (Z := Z) (n := n) (L := L) (kd := kd) (f1 := f1) (s1 := s1) htx hL (hBX 26) hj
    by_cases v : (yrF tx n ((p + 1 : Nat) : Int) kd f1 s1).1 = true
    · rw [if_pos v]
      refine ⟨fun h => btf h, fun h p' hp => ⟨up yrF_mo hp, fun hk => ?_⟩⟩
      obtain ⟨e1, e2⟩ := k2 v
      refine go 26 hT (by omega) (e2 p' hp (fun h1 h2 => ?_))
      refine hk 26 _ _ ?_
      dsimp only
      rw [e1]
      exact ATR_Y h1 h2 (hle v)
    · rw [if_neg v]
      exact ⟨fun h hr hz => go 26 hT (by omega) (k1 (Bool.eq_false_iff.mpr v) hr hz), fun h => bft h⟩
  rw [tk_f c7]
  dsimp only
  rw [if_neg Bool.false_ne_true]
  refine ⟨fun _ hr hz => ?_, fun h => bft h⟩
  have hI : IX X 14 a 0 := IX.lo (by decide) (by omega) (by decide)
  by_cases c8 : chT tx n p = 40
  · have hT := tk_14o (a := a) (X := X)
    rw [← c8, if_pos (h40 c8)] at hT
    exact RL_f htx (by omega) hB hI hT (Or.inl rfl) hr (hz _ hB.nbo)
  · exact RL_f htx (by omega) hB hI (tk_14f h33 c8 c5 c3 c6 c2 c4 c1 c7) (Or.inl rfl) hr (hz _ hB.nbo)
end ALA
