section MTD
variable {tx : Nat → Int} {n : Nat} {res : Int} {Z : RT → Prop} {c0 k : Nat} {L0 : List SI} {X0 : RT}
theorem und_l (hL0 : L0.length ≤ 10) (nn : Nat) (r : List FR) (hr : r.length ≤ 3) (he : EMS r ≤ 100) (hn : (if r = [] then 0 else nn) ≤ 100) : (undS L0 nn (STK L0 r) r).length ≤ 230 := by
  have h := STK_l (L0 := L0) r
  cases r with
  | nil => show L0.length ≤ 230; omega
  | cons g r =>
    show ((15, 0, 0) :: (nots nn ++ STK L0 (g :: r))).length ≤ 230
    rw [if_neg (by exact List.cons_ne_nil g r)] at hn
    rw [List.length_cons, List.length_append, nots_l]
    omega
/-- past an AND and an OR that are not there -/
theorem tl_dn (htx : ∀ j, 0 ≤ tx j ∧ tx j ≤ 126) {q : Nat} {U : List SI} {X : RT} {a : Int} {ho : Bool} {v y : Nat → Bool} {W : Nat → List Bool} (ha : 0 ≤ a ∧ a ≤ 4) (hU : U.length ≤ 230) (hB : BX X) (hc : X.cl + ho.toNat ≤ 108) (hW : ∀ d, (W d).length ≤ 7) (hy : ho = false → ∀ d, d < 1461 → y d = false) (hE : EVI X c0 (fun d => v d :: (opB ho (y d) ++ W d))) (h38 : ¬ chT tx n q = 38)
    (hk : ∀ X', EXT X X' → BX X' → X'.cl = X.cl + ho.toNat → X'.an = X.an → EVI X' c0 (fun d => (y d || v d) :: W d) → RL tx n res Z q ((11, a, 0) :: U) X') : RL tx n res Z q (tlS a ho U) X := by
  have hb := Bool.toNat_le ho
  refine RL_2 htx (by rw [List.length_append, List.length_cons, opO_l]; omega) hB (IX.lo (by decide) (by omega) (by decide)) (tk_13f h38) ?_
  exact od_o htx (by rw [List.length_cons]; omega) hB hc hW hy hE hk
theorem mtC_r {go : MK} {c : Nat × Int × (Nat → Nat → Int64) × (Nat → Nat → Int64)} {ng : Nat → Bool} {kd f1 s1 : Int} {gd : Nat → Int64} {q m : Nat} {Y E : Nat → Nat → Int64} (hc : c = (m, (q : Int), Y, E)) : mtC tx n go c ng kd f1 s1 gd = (if (tkF tx n (q : Int) 38).1 = true then go m (tkF tx n (q : Int) 38).2 Y E ng kd f1 s1 gd else if (tkF tx n (tkF tx n (q : Int) 38).2 124).1 = true then go m (tkF tx n (tkF tx n (q : Int) 38).2 124).2 (caY Y E m) (caE E m) ng kd f1 s1 gd else (decide ((m : Int) = 0), (tkF tx n (tkF tx n (q : Int) 38).2 124).2, caY Y E m, caE E m, ng, kd, f1, s1, gd)) := by
  subst hc; rfl
/-- behind an operand, where no bracket closes -/
theorem post_c (htx : ∀ j, 0 ≤ tx j ∧ tx j ≤ 126) (hn : n ≤ 100) (hL0 : L0.length ≤ 10) (hM : MAIN tx n res Z L0 X0 c0 k) (r : List FR) (ho : Bool) (nn q : Nat) (Y E : Nat → Nat → Int64) (ng : Nat → Bool) (X : RT) (kd f1 s1 : Int) (gd : Nat → Int64)
    (hr : r.length ≤ 3) (hq : q ≤ n) (hf : n - q ≤ k) (hy : ho = false → ∀ d, d < 1461 → dsb (Y r.length) d = false) (hng : ¬ r = [] → ng r.length = decide (nn % 2 = 1)) (hO : OKF Y E ng r) (hX : EXT X0 X) (hB : BX X) (hcl : X.cl + ((ho.toNat + (if r = [] then 0 else nn) + EMS r : Nat) : Int) ≤ q) (han : 2 * X.an ≤ q) (hE : EVI X c0 (fun d => dsb (E r.length) d :: (opB ho (dsb (Y r.length) d) ++ BTS Y E d r))) (hst : (c0 : Int) < X.cl) (h41 : r = [] ∨ ¬ chT tx n q = 41) :
    CON tx n res Z L0 X0 c0 q (tlS ((r.length : Int) + 1) ho (undS L0 nn (STK L0 r) r)) X (mtC tx n (mtF tx n k) (r.length, (q : Int), Y, E) ng kd f1 s1 gd) := by
  have hb := Bool.toNat_le ho
  have h0 := hB.2.1.1
  have hU := und_l hL0 nn r hr (by omega) (by omega)
  have hW : ∀ d, (BTS Y E d r).length ≤ 7 := fun d => by have := BTS_l (Y := Y) (E := E) (d := d) r; omega
  rw [mtC_r rfl]
  by_cases c1 : chT tx n q = 38
  · rw [tk_t c1 (by decide)]
    dsimp only
    rw [if_pos rfl]
    have hl := chT_n (tx := tx) (n := n) (p := q) (by omega)
    refine (hM (true, ho, nn) r (q + 1) Y E ng X kd f1 s1 gd hr (by omega) (by omega) ⟨fun h => btf h, hy, hng, hO⟩ hX hB ?_ (by omega) hE).imp (fun h => ?_)
    · show X.cl + ((true.toNat + ho.toNat + (if r = [] then 0 else nn) + EMS r : Nat) : Int) ≤ ((q + 1 : Nat) : Int)
      have : true.toNat = 1 := rfl
      omega
    · have hT := tk_13t (a := (r.length : Int) + 1) (X := X)
      rw [← c1] at hT
      exact RL_1 htx (by rw [List.length_append, List.length_cons, opO_l]; omega) hB (IX.lo (by decide) (by omega) (by decide)) hT hl h
  · rw [tk_f c1]
    dsimp only
    rw [if_neg Bool.false_ne_true]
    have ecY : dsb (caY Y E r.length r.length) = fun d => dsb (dsJoin (Y r.length) (E r.length) 23) d := by
      unfold caY; rw [up2_y]
    have cYn : ∀ i, i < r.length → caY Y E r.length i = Y i ∧ caE E r.length i = E i := fun i hi => ⟨up2_n (by omega), up2_n (by omega)⟩
    by_cases c2 : chT tx n q = 124
    · rw [tk_t c2 (by decide)]
      dsimp only
      rw [if_pos rfl]
      have hl := chT_n (tx := tx) (n := n) (p := q) (by omega)
      have main : ∀ X', EXT X X' → BX X' → X'.cl = X.cl + ho.toNat → X'.an = X.an → EVI X' c0 (fun d => (dsb (Y r.length) d || dsb (E r.length) d) :: BTS Y E d r) → CON tx n res Z L0 X0 c0 (q + 1) ((14, (r.length : Int) + 1, 0) :: STK L0 ((false, true, nn) :: r)) X' (mtF tx n k r.length ((q + 1 : Nat) : Int) (caY Y E r.length) (caE E r.length) ng kd f1 s1 gd) := by
        intro X' e1 e2 e3 e4 e5
        refine hM (false, true, nn) r (q + 1) (caY Y E r.length) (caE E r.length) ng X' kd f1 s1 gd hr (by omega) (by omega) ⟨fun _ d _ => ?_, fun h => btf h, hng, OKF_c r (fun i hi => ⟨(cYn i hi).1, (cYn i hi).2, rfl⟩) hO⟩ (hX.tr e1) e2 ?_ (by omega) (e5.cg (fun d hd => ?_))
        · unfold caE; rw [up2_y]; exact dsb_fW
        · show X'.cl + ((false.toNat + true.toNat + (if r = [] then 0 else nn) + EMS r : Nat) : Int) ≤ ((q + 1 : Nat) : Int)
          have : true.toNat = 1 := rfl
          have : false.toNat = 0 := rfl
          omega
        · show _ = opB false _ ++ (opB true (dsb (caY Y E r.length r.length) d) ++ BTS (caY Y E r.length) (caE E r.length) d r)
          rw [BTS_c r cYn, ecY]
          show _ = dsb (dsJoin (Y r.length) (E r.length) 23) d :: BTS Y E d r
          rw [dsb_join (by omega)]
      have fin : ∀ X', BX X' → RL tx n res Z (q + 1) ((14, (r.length : Int) + 1, 0) :: STK L0 ((false, true, nn) :: r)) X' → RL tx n res Z q ((11, (r.length : Int) + 1, 0) :: undS L0 nn (STK L0 r) r) X' := by
        intro X' e2 h
        have hT := tk_11t (a := (r.length : Int) + 1) (X := X')
        rw [← c2] at hT
        refine RL_1 htx (by omega) e2 (IX.lo (by decide) (by omega) (by decide)) hT hl ?_
        refine RL_2 htx (by show (_ :: _ :: _ : List SI).length ≤ 296; rw [List.length_cons, List.length_cons]; show (undS L0 nn (STK L0 r) r).length + 1 + 1 ≤ 296; omega) e2 (IX.lo (by decide) (by omega) (by decide)) tk_12 h
      refine ⟨fun h1 h2 h3 => ?_, fun h1 p' h2 h3 => ?_⟩
      · exact tl_dn htx (by omega) hU hB (by omega) hW hy hE c1 (fun X' e1 e2 e3 e4 e5 => fin X' e2 ((main X' e1 e2 e3 e4 e5).1 h1 h2 h3))
      · exact tl_dn htx (by omega) hU hB (by omega) hW hy hE c1 (fun X' e1 e2 e3 e4 e5 => fin X' e2 ((main X' e1 e2 e3 e4 e5).2 h1 p' h2 h3))
    · rw [tk_f c2]
      dsimp only
      rw [if_neg Bool.false_ne_true]
      have fin : (∀ X', EXT X X' → BX X' → X'.cl = X.cl + ho.toNat → X'.an = X.an → EVI X' c0 (fun d => (dsb (Y r.length) d || dsb (E r.length) d) :: BTS Y E d r) → RL tx n res Z q (undS L0 nn (STK L0 r) r) X') → RL tx n res Z q (tlS ((r.length : Int) + 1) ho (undS L0 nn (STK L0 r) r)) X := by
        intro h
        exact tl_dn htx (by omega) hU hB (by omega) hW hy hE c1 (fun X' e1 e2 e3 e4 e5 => RL_2 htx (by omega) e2 (IX.lo (by decide) (by omega) (by decide)) (tk_11f c2) (h X' e1 e2 e3 e4 e5))
      cases r with
      | nil =>
        refine ⟨fun h => btf h, fun _ p' hp h3 => fin (fun X' e1 e2 e3 e4 e5 => ?_)⟩
        have hp := nc_inj hp
        subst hp
        refine h3 X' (hX.tr e1) e2 (by omega) (by omega) (by omega) (e5.cg (fun d hd => ?_))
        show [dsb (Y 0) d || dsb (E 0) d] = [dsb (caY Y E 0 0) d]
        have : dsb (caY Y E 0 0) d = (dsb (Y 0) d || dsb (E 0) d) := by
          unfold caY; rw [up2_y, dsb_join (by omega)]
        rw [this]
      | cons g r =>
        refine ⟨fun _ hr2 hz => fin (fun X' e1 e2 e3 e4 e5 => ?_), fun h => ?_⟩
        · have h41 := h41.resolve_left (List.cons_ne_nil g r)
          have hU2 : ((15, 0, 0) :: (nots nn ++ STK L0 (g :: r))).length ≤ 230 := hU
          rw [List.length_cons] at hU2
          show RL tx n res Z q ((15, 0, 0) :: (nots nn ++ STK L0 (g :: r))) X'
          exact RL_f htx (by omega) e2 (IX.lo (by decide) (by decide) (by decide)) (tk_15f h41) (Or.inl rfl) hr2 (hz _ e2.nbo)
        · have h : ((r.length + 1 : Nat) : Int) = 0 := of_decide_eq_true h
          omega
/-- behind an operand -/
theorem mt_post (htx : ∀ j, 0 ≤ tx j ∧ tx j ≤ 126) (hn : n ≤ 100) (hL0 : L0.length ≤ 10) (hM : MAIN tx n res Z L0 X0 c0 k) : ∀ (r : List FR) (ho : Bool) (nn q : Nat) (Y E : Nat → Nat → Int64) (ng : Nat → Bool) (X : RT) (kd f1 s1 : Int) (gd : Nat → Int64),
    r.length ≤ 3 → q ≤ n → n - q ≤ k → (ho = false → ∀ d, d < 1461 → dsb (Y r.length) d = false) → (¬ r = [] → ng r.length = decide (nn % 2 = 1)) → OKF Y E ng r → EXT X0 X → BX X → X.cl + ((ho.toNat + (if r = [] then 0 else nn) + EMS r : Nat) : Int) ≤ q → 2 * X.an ≤ q → EVI X c0 (fun d => dsb (E r.length) d :: (opB ho (dsb (Y r.length) d) ++ BTS Y E d r)) → (c0 : Int) < X.cl →
    CON tx n res Z L0 X0 c0 q (tlS ((r.length : Int) + 1) ho (undS L0 nn (STK L0 r) r)) X (mtC tx n (mtF tx n k) (clM tx n ng r.length (q : Int) Y E) ng kd f1 s1 gd)
  | [], ho, nn, q, Y, E, ng, X, kd, f1, s1, gd, hr, hq, hf, hy, hng, hO, hX, hB, hcl, han, hE, hst =>
    post_c htx hn hL0 hM [] ho nn q Y E ng X kd f1 s1 gd hr hq hf hy hng hO hX hB hcl han hE hst (Or.inl rfl)
  | g :: r, ho, nn, q, Y, E, ng, X, kd, f1, s1, gd, hr, hq, hf, hy, hng, hO, hX, hB, hcl, han, hE, hst => by
    by_cases c1 : chT tx n q = 41
    · have hl := chT_n (tx := tx) (n := n) (p := q) (by omega)
      have hb := Bool.toNat_le ho
      have hb2 := Bool.toNat_le g.1
      have h0 := hB.2.1.1
      have hr' : r.length + 1 ≤ 3 := hr
      have hng := hng (List.cons_ne_nil g r)
      have hne : ¬ (g :: r) = ([] : List FR) := List.cons_ne_nil g r
      rw [if_neg hne] at hcl
      have hem : EMS (g :: r) = g.1.toNat + g.2.1.toNat + (if r = [] then 0 else g.2.2) + EMS r := rfl
      have hU := und_l hL0 nn (g :: r) hr (by omega) (by rw [if_neg hne]; omega)
      have hU2 : ((15, 0, 0) :: (nots nn ++ STK L0 (g :: r))).length ≤ 230 := hU
      rw [List.length_cons, List.length_append, nots_l] at hU2
      have hW : ∀ d, (BTS Y E d (g :: r)).length ≤ 7 := fun d => by have := BTS_l (Y := Y) (E := E) (d := d) (g :: r); omega
      have hcm : clM tx n ng (g :: r).length (q : Int) Y E = clM tx n ng r.length ((q + 1 : Nat) : Int) (caY Y E (r.length + 1)) (up2 (caE E (r.length + 1)) r.length (dsKeep (caE E (r.length + 1) r.length) (caY Y E (r.length + 1) (r.length + 1)) (ng (r.length + 1)) 23)) := by
        show clM tx n ng (r.length + 1) (q : Int) Y E = _
        rw [clM_s (by rw [tk_t c1 (by decide)]), tk_t c1 (by decide)]
      rw [hcm]
      have hOg := hO
      obtain ⟨o1, o2, o3, o4⟩ := hO
      have Yn : ∀ i, i < r.length + 1 → caY Y E (r.length + 1) i = Y i := fun i hi => up2_n (by omega)
      have En : ∀ i, i < r.length → (up2 (caE E (r.length + 1)) r.length (dsKeep (caE E (r.length + 1) r.length) (caY Y E (r.length + 1) (r.length + 1)) (ng (r.length + 1)) 23)) i = E i := fun i hi => by
        rw [up2_n (by omega)]; exact up2_n (by omega)
      have Ee : ∀ d, d < 1461 → dsb ((up2 (caE E (r.length + 1)) r.length (dsKeep (caE E (r.length + 1) r.length) (caY Y E (r.length + 1) (r.length + 1)) (ng (r.length + 1)) 23)) r.length) d = (dsb (E r.length) d && ((dsb (Y (r.length + 1)) d || dsb (E (r.length + 1)) d) != decide (nn % 2 = 1))) := by
        intro d hd
        have q1 : caE E (r.length + 1) r.length = E r.length := up2_n (by omega)
        have q2 : caY Y E (r.length + 1) (r.length + 1) = dsJoin (Y (r.length + 1)) (E (r.length + 1)) 23 := up2_y
        have q3 : ng (r.length + 1) = decide (nn % 2 = 1) := hng
        rw [up2_y, dsb_keep (by omega), q1, q2, dsb_join (by omega), q3]
      have fin : (∀ X', EXT X X' → BX X' → X'.cl = X.cl + ho.toNat + nn + g.1.toNat → X'.an = X.an → EVI X' c0 (fun d => (dsb (E r.length) d && ((dsb (Y (r.length + 1)) d || dsb (E (r.length + 1)) d) != decide (nn % 2 = 1))) :: (opB g.2.1 (dsb (Y r.length) d) ++ BTS Y E d r)) → RL tx n res Z (q + 1) (tlS ((r.length : Int) + 1) g.2.1 (undS L0 g.2.2 (STK L0 r) r)) X') → RL tx n res Z q (tlS (((g :: r).length : Int) + 1) ho (undS L0 nn (STK L0 (g :: r)) (g :: r))) X := by
        intro h
        refine tl_dn htx (by rw [List.length_cons]; omega) hU hB (by omega) hW hy hE (by omega) (fun X1 e1 e2 e3 e4 e5 => ?_)
        refine RL_2 htx (by omega) e2 (IX.lo (by decide) (by rw [List.length_cons]; omega) (by decide)) (tk_11f (by omega)) ?_
        show RL tx n res Z q ((15, 0, 0) :: (nots nn ++ STK L0 (g :: r))) X1
        have hT := tk_15t (X := X1)
        rw [← c1] at hT
        refine RL_1 htx (by rw [List.length_append, nots_l]; omega) e2 (IX.lo (by decide) (by decide) (by decide)) hT hl ?_
        refine od_n htx nn X1 _ _ (by omega) e2 (by omega) (fun d => by have := hW d; omega) e5 (fun X2 a1 a2 a3 a4 a5 => ?_)
        refine od_a htx (ha := g.1) (e := fun d => dsb (E r.length) d) (W := fun d => opB g.2.1 (dsb (Y r.length) d) ++ BTS Y E d r) (by
          have h3 : (opA g.1 ++ tlS ((r.length : Int) + 1) g.2.1 (undS L0 g.2.2 (STK L0 r) r)).length + nn + 1 ≤ 230 := by show (STK L0 (g :: r)).length + nn + 1 ≤ 230; omega
          rw [List.length_append] at h3
          omega) a2 (by omega) (fun d => ?_) o1 a5 (fun X3 b1 b2 b3 b4 b5 => ?_)
        · have h4 := BTS_l (Y := Y) (E := E) (d := d) r
          have := Bool.toNat_le g.2.1
          rw [List.length_append, opB_l]
          omega
        · exact h X3 ((e1.tr a1).tr b1) b2 (by omega) (by omega) b5
      have main : ∀ X', EXT X X' → BX X' → X'.cl = X.cl + ho.toNat + nn + g.1.toNat → X'.an = X.an → EVI X' c0 (fun d => (dsb (E r.length) d && ((dsb (Y (r.length + 1)) d || dsb (E (r.length + 1)) d) != decide (nn % 2 = 1))) :: (opB g.2.1 (dsb (Y r.length) d) ++ BTS Y E d r)) → CON tx n res Z L0 X0 c0 (q + 1) (tlS ((r.length : Int) + 1) g.2.1 (undS L0 g.2.2 (STK L0 r) r)) X' (mtC tx n (mtF tx n k) (clM tx n ng r.length ((q + 1 : Nat) : Int) (caY Y E (r.length + 1)) (up2 (caE E (r.length + 1)) r.length (dsKeep (caE E (r.length + 1) r.length) (caY Y E (r.length + 1) (r.length + 1)) (ng (r.length + 1)) 23))) ng kd f1 s1 gd) := by
        intro X' e1 e2 e3 e4 e5
        refine mt_post htx hn hL0 hM r g.2.1 g.2.2 (q + 1) _ _ ng X' kd f1 s1 gd (by omega) (by omega) (by omega) ?_ o3 (OKF_c r (fun i hi => ⟨Yn i (by omega), En i hi, rfl⟩) o4) (hX.tr e1) e2 (by omega) (by omega) (e5.cg (fun d hd => ?_)) (by omega)
        · rw [Yn r.length (by omega)]; exact o2
        · rw [Ee d hd, Yn r.length (by omega), BTS_c r (fun i hi => ⟨Yn i (by omega), En i hi⟩)]
      exact ⟨fun h1 h2 h3 => fin (fun X' e1 e2 e3 e4 e5 => (main X' e1 e2 e3 e4 e5).1 h1 h2 h3), fun h1 p' h2 h3 => fin (fun X' e1 e2 e3 e4 e5 => (main X' e1 e2 e3 e4 e5).2 h1 p' h2 h3)⟩
    · have hcm : clM tx n ng (g :: r).length (q : Int) Y E = ((g :: r).length, (q : Int), Y, E) := by
        show clM tx n ng (r.length + 1) (q : Int) Y E = _
        rw [clM_e (by rw [tk_f c1]), tk_f c1]
        rfl
      rw [hcm]
      exact post_c htx hn hL0 hM (g :: r) ho nn q Y E ng X kd f1 s1 gd hr hq hf hy hng hO hX hB hcl han hE hst (Or.inr c1)
end MTD
