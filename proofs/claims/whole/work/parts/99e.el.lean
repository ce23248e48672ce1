/-- the present rule's span -/
def RT.sp (X : RT) (i : Nat) (b e : Int) : RT := mkR X.rr X.nt (updZ X.nb i b) (updZ X.ne i e) X.cf X.ce X.cl X.an X.kd X.fi X.se
section SPN
variable {X : RT} {i : Nat} {b e ch : Int}
theorem sp_nb (hi : (X.rr - 1).toNat = i) : (X.sp i b e).nb ((X.sp i b e).rr - 1).toNat = b := by
  show updZ X.nb i b (X.rr - 1).toNat = b
  rw [hi]
  exact updZ_s _ _ _
theorem sp_ne (hi : (X.rr - 1).toNat = i) : (X.sp i b e).ne ((X.sp i b e).rr - 1).toNat = e := by
  show updZ X.ne i e (X.rr - 1).toNat = e
  rw [hi]
  exact updZ_s _ _ _
theorem sp_sNb (hi : (X.rr - 1).toNat = i) (v : Int) : (X.sp i b e).sNb (updZ (X.sp i b e).nb ((X.sp i b e).rr - 1).toNat v) = X.sp i v e := by
  show mkR X.rr X.nt (updZ (updZ X.nb i b) (X.rr - 1).toNat v) (updZ X.ne i e) X.cf X.ce X.cl X.an X.kd X.fi X.se = _
  rw [hi, updZ_u]
  rfl
theorem sp_sNe (hi : (X.rr - 1).toNat = i) (v : Int) : (X.sp i b e).sNe (updZ (X.sp i b e).ne ((X.sp i b e).rr - 1).toNat v) = X.sp i b v := by
  show mkR X.rr X.nt (updZ X.nb i b) (updZ (updZ X.ne i e) (X.rr - 1).toNat v) X.cf X.ce X.cl X.an X.kd X.fi X.se = _
  rw [hi, updZ_u]
  rfl
theorem updZ_bd {f : Nat → Int} {lo hi : Int} {j : Nat} {v : Int} (h : ∀ i, lo ≤ f i ∧ f i ≤ hi) (hv : lo ≤ v ∧ v ≤ hi) : ∀ i, lo ≤ updZ f j v i ∧ updZ f j v i ≤ hi := fun i => by
  unfold updZ
  split
  · exact hv
  · exact h i
theorem sp_BX (h : BX X) (hb : -5000 ≤ b ∧ b ≤ 5000) (he : -5000 ≤ e ∧ e ≤ 5000) : BX (X.sp i b e) := ⟨h.1, h.2.1, h.2.2.1, updZ_bd h.2.2.2.1 hb, updZ_bd h.2.2.2.2 he⟩
theorem sp_IX {c : Int} (hr : 1 ≤ X.rr) (hc : 0 ≤ c ∧ c ≤ 8) : IX (X.sp i b e) 4 0 c := ⟨hc, by decide, by decide, fun h => by omega, fun _ => hr, fun h => by omega, fun h => by omega, fun h => by omega⟩
theorem tp_4_0 (hi : (X.rr - 1).toNat = i) : TKR 4 0 0 ch (X.sp i b e) (bZ (inF (ch - 48) 0 2)) [(4, 0, 1)] (X.sp i (20 * (ch - 48)) e) := by
  have h := tk_4_0 (X := X.sp i b e) (ch := ch)
  simp only [sp_sNb hi] at h
  exact h
theorem tp_4_1 (hi : (X.rr - 1).toNat = i) : TKR 4 0 1 ch (X.sp i b e) (bZ (inF (ch - 48) 0 (if 40 ≤ b then 3 else 9))) [(4, 0, 2)] (X.sp i (b + 2 * (ch - 48)) e) := by
  have h := tk_4_1 (X := X.sp i b e) (ch := ch)
  simp only [sp_nb hi, sp_sNb hi] at h
  exact h
theorem tp_4_2 (hi : (X.rr - 1).toNat = i) : TKR 4 0 2 ch (X.sp i b e) (bZ (decide (ch - 48 = 0 ∨ (ch - 48 = 3 ∧ b < 48)))) [(4, 0, 3)] (X.sp i (if ch - 48 = 3 then b + 1 else b) e) := by
  have h := tk_4_2 (X := X.sp i b e) (ch := ch)
  simp only [sp_nb hi, sp_sNb hi] at h
  exact h
theorem tp_4_3 (hi : (X.rr - 1).toNat = i) : TKR 4 0 3 ch (X.sp i b e) (bZ (decide (ch - 48 = 0))) [(4, 0, 4)] (X.sp i (b) e) := by
  have h := tk_4_3 (X := X.sp i b e) (ch := ch)
  simp only [sp_nb hi, sp_sNb hi] at h
  exact h
theorem tp_4_4 (hi : (X.rr - 1).toNat = i) : TKR 4 0 4 ch (X.sp i b e) (bZ (decide (ch = 45))) [(4, 0, 5)] (X.sp i b (0)) := by
  have h := tk_4_4 (X := X.sp i b e) (ch := ch)
  simp only [sp_sNe hi] at h
  exact h
theorem tp_4_5 (hi : (X.rr - 1).toNat = i) : TKR 4 0 5 ch (X.sp i b e) (bZ (inF (ch - 48) 0 2)) [(4, 0, 6)] (X.sp i b (20 * (ch - 48))) := by
  have h := tk_4_5 (X := X.sp i b e) (ch := ch)
  simp only [sp_sNe hi] at h
  exact h
theorem tp_4_6 (hi : (X.rr - 1).toNat = i) : TKR 4 0 6 ch (X.sp i b e) (bZ (inF (ch - 48) 0 (if 40 ≤ e then 4 else 9))) [(4, 0, 7)] (X.sp i b (e + 2 * (ch - 48))) := by
  have h := tk_4_6 (X := X.sp i b e) (ch := ch)
  simp only [sp_ne hi, sp_sNe hi] at h
  exact h
theorem tp_4_7 (hi : (X.rr - 1).toNat = i) : TKR 4 0 7 ch (X.sp i b e) (bZ (decide (ch - 48 = 0 ∨ (ch - 48 = 3 ∧ e < 48)) && decide (¬ ((if ch - 48 = 3 then e + 1 else e) = b)))) [(4, 0, 8)] (X.sp i b (if ch - 48 = 3 then e + 1 else e)) := by
  have h := tk_4_7 (X := X.sp i b e) (ch := ch)
  simp only [sp_nb hi, sp_ne hi, sp_sNe hi] at h
  exact h
theorem tp_4_8 (hi : (X.rr - 1).toNat = i) : TKR 4 0 8 ch (X.sp i b e) (bZ (decide (ch - 48 = 0))) [] (X.sp i b (e)) := by
  have h := tk_4_8 (X := X.sp i b e) (ch := ch)
  simp only [sp_ne hi, sp_sNe hi] at h
  exact h
end SPN
section HHS
variable {tx : Nat → Int} {n : Nat} {res : Int} {Z : RT → Prop} {p i : Nat} {L : List SI} {X : RT} {b e lh br : Int}
def G3 (h br c : Int) : Prop := (c = 48 ∨ (c = 51 ∧ 2 * h < 48)) ∧ ¬ ((if c - 48 = 3 then 2 * h + 1 else 2 * h) = br)
theorem hh_a (h : ¬ G1 (chT tx n p) 0 lh) : hhF tx n (p : Int) lh br = (-1, (p : Int)) := by
  unfold hhF
  rw [tn10_a h, if_pos rfl]
theorem hh_b (h : G1 (chT tx n p) 0 lh) (h2 : ¬ G2 (chT tx n p) (chT tx n (p + 1)) 0 lh) : hhF tx n (p : Int) lh br = (-1, ((p + 1 : Nat) : Int)) := by
  unfold hhF
  rw [tn10_b h h2, if_pos rfl]
theorem hh_c (h : G1 (chT tx n p) 0 lh) (h2 : G2 (chT tx n p) (chT tx n (p + 1)) 0 lh) (h3 : ¬ G3 (10 * (chT tx n p - 48) + (chT tx n (p + 1) - 48)) br (chT tx n (p + 2))) : hhF tx n (p : Int) lh br = (-1, ((p + 2 : Nat) : Int)) := by
  unfold hhF
  rw [tn10_c h h2]
  have hm : 0 ≤ 10 * (chT tx n p - 48) + (chT tx n (p + 1) - 48) := by unfold G1 at h; unfold G2 at h2; omega
  generalize 10 * (chT tx n p - 48) + (chT tx n (p + 1) - 48) = m at h3 hm ⊢
  dsimp only
  rw [if_neg (show ¬ (m = -1) by omega)]
  unfold G3 at h3
  by_cases k1 : 2 * m = br
  · rw [if_pos k1]
    by_cases k2 : 24 ≤ m
    · rw [if_pos k2]
    · rw [if_neg k2, if_neg (by omega)]
      by_cases k3 : chT tx n (p + 2) = 51
      · exfalso
        rw [k3] at h3
        exact h3 ⟨Or.inr ⟨rfl, by omega⟩, by rw [if_pos (by decide)]; omega⟩
      · rw [tk_f k3, if_neg nft]
  · rw [if_neg k1]
    by_cases k4 : chT tx n (p + 2) = 48
    · exfalso
      rw [k4] at h3
      exact h3 ⟨Or.inl rfl, by rw [if_neg (by decide)]; exact k1⟩
    · rw [tk_f k4, if_neg nft]
      by_cases k2 : 24 ≤ m
      · rw [if_pos k2]
      · rw [if_neg k2]
        by_cases k5 : 2 * m + 1 = br
        · rw [if_pos k5]
        · rw [if_neg k5]
          by_cases k3 : chT tx n (p + 2) = 51
          · exfalso
            rw [k3] at h3
            exact h3 ⟨Or.inr ⟨rfl, by omega⟩, by rw [if_pos (by decide)]; exact k5⟩
          · rw [tk_f k3, if_neg nft]
theorem hh_d (h : G1 (chT tx n p) 0 lh) (h2 : G2 (chT tx n p) (chT tx n (p + 1)) 0 lh) (h3 : G3 (10 * (chT tx n p - 48) + (chT tx n (p + 1) - 48)) br (chT tx n (p + 2))) : hhF tx n (p : Int) lh br = (if chT tx n (p + 3) = 48 then ((if chT tx n (p + 2) - 48 = 3 then 2 * (10 * (chT tx n p - 48) + (chT tx n (p + 1) - 48)) + 1 else 2 * (10 * (chT tx n p - 48) + (chT tx n (p + 1) - 48))), ((p + 4 : Nat) : Int)) else (-1, ((p + 3 : Nat) : Int))) := by
  unfold hhF
  rw [tn10_c h h2]
  have hm : 0 ≤ 10 * (chT tx n p - 48) + (chT tx n (p + 1) - 48) := by unfold G1 at h; unfold G2 at h2; omega
  generalize 10 * (chT tx n p - 48) + (chT tx n (p + 1) - 48) = m at h3 hm ⊢
  dsimp only
  rw [if_neg (show ¬ (m = -1) by omega)]
  obtain ⟨g1, g2⟩ := h3
  rcases g1 with g1 | ⟨g1, g3⟩
  · rw [g1, if_neg (by decide)] at g2
    rw [if_neg g2, tk_t g1 (by decide), if_pos rfl]
    by_cases k : chT tx n (p + 3) = 48
    · rw [if_pos k, tk_t (p := p + 2 + 1) k (by decide), if_pos rfl, g1, if_neg (by decide)]
    · rw [if_neg k, tk_f (p := p + 2 + 1) k, if_neg nft]
  · rw [g1, if_pos (by decide)] at g2
    have n48 : ¬ chT tx n (p + 2) = 48 := by omega
    by_cases k1 : 2 * m = br
    · rw [if_pos k1, if_neg (by omega), if_neg g2, tk_t g1 (by decide), if_pos rfl]
      by_cases k : chT tx n (p + 3) = 48
      · rw [if_pos k, tk_t (p := p + 2 + 1) k (by decide), if_pos rfl, g1, if_pos (by decide)]
      · rw [if_neg k, tk_f (p := p + 2 + 1) k, if_neg nft]
    · rw [if_neg k1, tk_f n48, if_neg nft, if_neg (by omega), if_neg g2, tk_t g1 (by decide), if_pos rfl]
      by_cases k : chT tx n (p + 3) = 48
      · rw [if_pos k, tk_t (p := p + 2 + 1) k (by decide), if_pos rfl, g1, if_pos (by decide)]
      · rw [if_neg k, tk_f (p := p + 2 + 1) k, if_neg nft]
/-- a half hour: the begin -/
theorem s4a (htx : ∀ j, 0 ≤ tx j ∧ tx j ≤ 126) (hL : L.length ≤ 290) (hB : BX X) (hi : (X.rr - 1).toNat = i) (hr : 1 ≤ X.rr) (hb : -5000 ≤ b ∧ b ≤ 5000) (he : -5000 ≤ e ∧ e ≤ 5000) :
    ((hhF tx n (p : Int) 23 (-1)).1 = -1 → res = (hhF tx n (p : Int) 23 (-1)).2 → (∀ Y, NBO Y → Z Y) → RL tx n res Z p ((4, 0, 0) :: L) (X.sp i b e)) ∧
    (¬ (hhF tx n (p : Int) 23 (-1)).1 = -1 → (0 ≤ (hhF tx n (p : Int) 23 (-1)).1 ∧ (hhF tx n (p : Int) 23 (-1)).1 ≤ 47) ∧ ∃ p' : Nat, (hhF tx n (p : Int) 23 (-1)).2 = (p' : Int) ∧ (RL tx n res Z p' ((4, 0, 4) :: L) (X.sp i (hhF tx n (p : Int) 23 (-1)).1 e) → RL tx n res Z p ((4, 0, 0) :: L) (X.sp i b e))) := by
  have hc := fun q => chT_bd (n := n) htx q
  have c0 := hc p
  have c1 := hc (p + 1)
  have c2 := hc (p + 2)
  obtain ⟨k1, k2, k3⟩ := seg2 (p := p) (lo := 0) (hi := 23) (L := L) (res := res) (Z := Z) (n := n) htx hL (sp_BX hB hb he) (sp_BX hB (by omega) he) (sp_BX hB (by omega) he).nbo (sp_IX (i := i) (b := b) (e := e) hr (c := 0) (by decide)) (fun _ => sp_IX hr (by decide)) (tp_4_0 (b := b) (e := e) hi) (tp_4_1 (e := e) hi) (by rw [inF_i]; unfold G1; omega) (fun h => by rw [inF_i]; unfold G1 at h; unfold G2; split <;> omega)
  by_cases h1 : G1 (chT tx n p) 0 23
  · by_cases h2 : G2 (chT tx n p) (chT tx n (p + 1)) 0 23
    · have k3 := k3 h1 h2
      have e9 : 20 * (chT tx n p - 48) + 2 * (chT tx n (p + 1) - 48) = 2 * (10 * (chT tx n p - 48) + (chT tx n (p + 1) - 48)) := by omega
      rw [e9] at k3
      have hm : 0 ≤ 10 * (chT tx n p - 48) + (chT tx n (p + 1) - 48) ∧ 10 * (chT tx n p - 48) + (chT tx n (p + 1) - 48) ≤ 23 := by unfold G1 at h1; unfold G2 at h2; omega
      by_cases h3 : G3 (10 * (chT tx n p - 48) + (chT tx n (p + 1) - 48)) (-1) (chT tx n (p + 2))
      · rw [hh_d h1 h2 h3]
        have g3 := h3
        unfold G3 at g3
        generalize 10 * (chT tx n p - 48) + (chT tx n (p + 1) - 48) = m at k3 hm g3 ⊢
        have hv : 0 ≤ (if chT tx n (p + 2) - 48 = 3 then 2 * m + 1 else 2 * m) ∧ (if chT tx n (p + 2) - 48 = 3 then 2 * m + 1 else 2 * m) ≤ 47 := by split <;> omega
        have st := fun (hk : RL tx n res Z (p + 3) ((4, 0, 3) :: L) (X.sp i (if chT tx n (p + 2) - 48 = 3 then 2 * m + 1 else 2 * m) e)) => k3 (RL_d (p := p + 2) (L := L) htx (by omega) (sp_BX hB (by omega) he) (sp_IX hr (by decide)) (tp_4_2 hi) (fun _ => ⟨chT_n (tx := tx) (by omega), hk⟩) (fun z => absurd (dT.mpr (show chT tx n (p + 2) - 48 = 0 ∨ (chT tx n (p + 2) - 48 = 3 ∧ 2 * m < 48) by omega)) (by rw [z]; decide)))
        generalize (if chT tx n (p + 2) - 48 = 3 then 2 * m + 1 else 2 * m) = w at hv st ⊢
        by_cases h4 : chT tx n (p + 3) = 48
        · rw [if_pos h4]
          refine ⟨fun q => absurd q (by show ¬ (w = -1); omega), fun _ => ⟨hv, p + 4, rfl, fun hk => st ?_⟩⟩
          exact RL_d (p := p + 3) (L := L) htx (by omega) (sp_BX hB (by omega) he) (sp_IX hr (by decide)) (tp_4_3 hi) (fun _ => ⟨chT_n (tx := tx) (by omega), hk⟩) (fun z => absurd (dT.mpr (show chT tx n (p + 3) - 48 = 0 by omega)) (by rw [z]; decide))
        · rw [if_neg h4]
          exact ⟨fun _ hr2 hz => st (RL_d (p := p + 3) (L := L) htx (by omega) (sp_BX hB (by omega) he) (sp_IX hr (by decide)) (tp_4_3 hi) (fun z => absurd (dT.mp z) (by omega)) (fun _ => ⟨hr2, hz _ (sp_BX hB (by omega) he).nbo⟩)), fun q => absurd rfl q⟩
      · rw [hh_c h1 h2 h3]
        unfold G3 at h3
        generalize 10 * (chT tx n p - 48) + (chT tx n (p + 1) - 48) = m at k3 hm h3 ⊢
        refine ⟨fun _ hr2 hz => k3 (RL_d (p := p + 2) (L := L) htx (by omega) (sp_BX hB (by omega) he) (sp_IX hr (by decide)) (tp_4_2 hi) (fun z => ?_) (fun _ => ⟨hr2, hz _ (sp_BX hB (by split <;> omega) he).nbo⟩)), fun q => absurd rfl q⟩
        exfalso
        have z := dT.mp z
        exact h3 ⟨by omega, by split <;> omega⟩
    · rw [hh_b h1 h2]
      exact ⟨fun _ hr2 hz => k2 h1 h2 hr2 hz, fun q => absurd rfl q⟩
  · rw [hh_a h1]
    exact ⟨fun _ hr2 hz => k1 h1 hr2 hz, fun q => absurd rfl q⟩
/-- the end -/
theorem s4b (htx : ∀ j, 0 ≤ tx j ∧ tx j ≤ 126) (hL : L.length ≤ 290) (hB : BX X) (hi : (X.rr - 1).toNat = i) (hr : 1 ≤ X.rr) (hb : 0 ≤ b ∧ b ≤ 47) (he : -5000 ≤ e ∧ e ≤ 5000) :
    ((hhF tx n (p : Int) 24 b).1 = -1 → res = (hhF tx n (p : Int) 24 b).2 → (∀ Y, NBO Y → Z Y) → RL tx n res Z p ((4, 0, 5) :: L) (X.sp i b e)) ∧
    (¬ (hhF tx n (p : Int) 24 b).1 = -1 → (0 ≤ (hhF tx n (p : Int) 24 b).1 ∧ (hhF tx n (p : Int) 24 b).1 ≤ 48) ∧ ∃ p' : Nat, (hhF tx n (p : Int) 24 b).2 = (p' : Int) ∧ (RL tx n res Z p' L (X.sp i b (hhF tx n (p : Int) 24 b).1) → RL tx n res Z p ((4, 0, 5) :: L) (X.sp i b e))) := by
  have hc := fun q => chT_bd (n := n) htx q
  have c0 := hc p
  have c1 := hc (p + 1)
  have c2 := hc (p + 2)
  have hb' : -5000 ≤ b ∧ b ≤ 5000 := by omega
  obtain ⟨k1, k2, k3⟩ := seg2 (p := p) (lo := 0) (hi := 24) (L := L) (res := res) (Z := Z) (n := n) htx hL (sp_BX hB hb' he) (sp_BX hB hb' (by omega)) (sp_BX hB hb' (by omega)).nbo (sp_IX (i := i) (b := b) (e := e) hr (c := 5) (by decide)) (fun _ => sp_IX hr (by decide)) (tp_4_5 (b := b) (e := e) hi) (tp_4_6 (b := b) hi) (by rw [inF_i]; unfold G1; omega) (fun h => by rw [inF_i]; unfold G1 at h; unfold G2; split <;> omega)
  by_cases h1 : G1 (chT tx n p) 0 24
  · by_cases h2 : G2 (chT tx n p) (chT tx n (p + 1)) 0 24
    · have k3 := k3 h1 h2
      have e9 : 20 * (chT tx n p - 48) + 2 * (chT tx n (p + 1) - 48) = 2 * (10 * (chT tx n p - 48) + (chT tx n (p + 1) - 48)) := by omega
      rw [e9] at k3
      have hm : 0 ≤ 10 * (chT tx n p - 48) + (chT tx n (p + 1) - 48) ∧ 10 * (chT tx n p - 48) + (chT tx n (p + 1) - 48) ≤ 24 := by unfold G1 at h1; unfold G2 at h2; omega
      by_cases h3 : G3 (10 * (chT tx n p - 48) + (chT tx n (p + 1) - 48)) b (chT tx n (p + 2))
      · rw [hh_d h1 h2 h3]
        have g3 := h3
        unfold G3 at g3
        generalize 10 * (chT tx n p - 48) + (chT tx n (p + 1) - 48) = m at k3 hm g3 ⊢
        have hv : 0 ≤ (if chT tx n (p + 2) - 48 = 3 then 2 * m + 1 else 2 * m) ∧ (if chT tx n (p + 2) - 48 = 3 then 2 * m + 1 else 2 * m) ≤ 48 := by split <;> omega
        have st := fun (hk : RL tx n res Z (p + 3) ((4, 0, 8) :: L) (X.sp i b (if chT tx n (p + 2) - 48 = 3 then 2 * m + 1 else 2 * m))) => k3 (RL_d (p := p + 2) (L := L) htx (by omega) (sp_BX hB hb' (by omega)) (sp_IX hr (by decide)) (tp_4_7 hi) (fun _ => ⟨chT_n (tx := tx) (by omega), hk⟩) (fun z => absurd (bA.mpr ⟨dT.mpr (show chT tx n (p + 2) - 48 = 0 ∨ (chT tx n (p + 2) - 48 = 3 ∧ 2 * m < 48) by omega), dT.mpr g3.2⟩) (by rw [z]; decide)))
        generalize (if chT tx n (p + 2) - 48 = 3 then 2 * m + 1 else 2 * m) = w at hv st ⊢
        by_cases h4 : chT tx n (p + 3) = 48
        · rw [if_pos h4]
          refine ⟨fun q => absurd q (by show ¬ (w = -1); omega), fun _ => ⟨hv, p + 4, rfl, fun hk => st ?_⟩⟩
          exact RL_d (p := p + 3) (L := L) htx (by omega) (sp_BX hB hb' (by omega)) (sp_IX hr (by decide)) (tp_4_8 hi) (fun _ => ⟨chT_n (tx := tx) (by omega), hk⟩) (fun z => absurd (dT.mpr (show chT tx n (p + 3) - 48 = 0 by omega)) (by rw [z]; decide))
        · rw [if_neg h4]
          exact ⟨fun _ hr2 hz => st (RL_d (p := p + 3) (L := L) htx (by omega) (sp_BX hB hb' (by omega)) (sp_IX hr (by decide)) (tp_4_8 hi) (fun z => absurd (dT.mp z) (by omega)) (fun _ => ⟨hr2, hz _ (sp_BX hB hb' (by omega)).nbo⟩)), fun q => absurd rfl q⟩
      · rw [hh_c h1 h2 h3]
        unfold G3 at h3
        generalize 10 * (chT tx n p - 48) + (chT tx n (p + 1) - 48) = m at k3 hm h3 ⊢
        refine ⟨fun _ hr2 hz => k3 (RL_d (p := p + 2) (L := L) htx (by omega) (sp_BX hB hb' (by omega)) (sp_IX hr (by decide)) (tp_4_7 hi) (fun z => ?_) (fun _ => ⟨hr2, hz _ (sp_BX hB hb' (by split <;> omega)).nbo⟩)), fun q => absurd rfl q⟩
        exfalso
        obtain ⟨z1, z2⟩ := bA.mp z
        have z1 := dT.mp z1
        exact h3 ⟨by omega, dT.mp z2⟩
    · rw [hh_b h1 h2]
      exact ⟨fun _ hr2 hz => k2 h1 h2 hr2 hz, fun q => absurd rfl q⟩
  · rw [hh_a h1]
    exact ⟨fun _ hr2 hz => k1 h1 hr2 hz, fun q => absurd rfl q⟩
theorem al_S (htx : ∀ j, 0 ≤ tx j ∧ tx j ≤ 126) (hL : L.length ≤ 290) (hB : BX X) (hi : (X.rr - 1).toNat = i) (hr : 1 ≤ X.rr) (hb : -5000 ≤ b ∧ b ≤ 5000) (he : -5000 ≤ e ∧ e ≤ 5000) (t0 : Int) :
    ((spF tx n (p : Int) t0).1 = false → res = (spF tx n (p : Int) t0).2.1 → (∀ Y, NBO Y → Z Y) → RL tx n res Z p ((4, 0, 0) :: L) (X.sp i b e)) ∧
    ((spF tx n (p : Int) t0).1 = true → (0 ≤ (spF tx n (p : Int) t0).2.2.1 ∧ (spF tx n (p : Int) t0).2.2.1 ≤ 47) ∧ (0 ≤ (spF tx n (p : Int) t0).2.2.2 ∧ (spF tx n (p : Int) t0).2.2.2 ≤ 48) ∧ ∃ p' : Nat, (spF tx n (p : Int) t0).2.1 = (p' : Int) ∧ (RL tx n res Z p' L (X.sp i (spF tx n (p : Int) t0).2.2.1 (spF tx n (p : Int) t0).2.2.2) → RL tx n res Z p ((4, 0, 0) :: L) (X.sp i b e))) := by
  obtain ⟨a1, a2⟩ := s4a (p := p) (b := b) (e := e) (res := res) (Z := Z) (n := n) (L := L) (X := X) htx hL hB hi hr hb he
  unfold spF
  by_cases v : (hhF tx n (p : Int) 23 (-1)).1 = -1
  · rw [if_pos v]
    exact ⟨fun _ hr2 hz => a1 v hr2 hz, fun q => bft q⟩
  · rw [if_neg v]
    obtain ⟨hv, q, hq, a3⟩ := a2 v
    rw [hq]
    generalize (hhF tx n (p : Int) 23 (-1)).1 = m at hv a3 ⊢
    by_cases c1 : chT tx n q = 45
    · rw [tk_t c1 (by decide), if_pos rfl]
      have hp : q < n := chT_n (tx := tx) (by rw [c1]; decide)
      have fst : RL tx n res Z (q + 1) ((4, 0, 5) :: L) (X.sp i m 0) → RL tx n res Z p ((4, 0, 0) :: L) (X.sp i b e) := fun hk => a3 (RL_d (L := L) htx (by omega) (sp_BX hB (by omega) he) (sp_IX hr (by decide)) (tp_4_4 hi) (fun _ => ⟨hp, hk⟩) (fun z => absurd (decide_eq_true c1) (by rw [z]; decide)))
      obtain ⟨b1, b2⟩ := s4b (p := q + 1) (b := m) (e := 0) (res := res) (Z := Z) (n := n) (L := L) (X := X) htx hL hB hi hr hv (by decide)
      by_cases w : (hhF tx n ((q + 1 : Nat) : Int) 24 m).1 = -1
      · rw [if_pos w]
        exact ⟨fun _ hr2 hz => fst (b1 w hr2 hz), fun q => bft q⟩
      · rw [if_neg w]
        obtain ⟨hw, q2, hq2, b3⟩ := b2 w
        exact ⟨fun q => btf q, fun _ => ⟨hv, hw, q2, hq2, fun hk => fst (b3 hk)⟩⟩
    · rw [tk_f c1, if_neg nft]
      exact ⟨fun _ hr2 hz => a3 (RL_d (L := L) htx (by omega) (sp_BX hB (by omega) he) (sp_IX hr (by decide)) (tp_4_4 hi) (fun z => absurd (of_decide_eq_true z) c1) (fun _ => ⟨hr2, hz _ (sp_BX hB (by omega) (by decide)).nbo⟩)), fun q => bft q⟩
end HHS
