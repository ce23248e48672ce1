/-- days' words: their bits -/
theorem dsb_keep {f g : Nat → Int64} {b : Bool} {d : Nat} (h : d < 1472) : dsb (dsKeep f g b 23) d = (dsb f d && (dsb g d != b)) := by
  unfold dsb dsKeep
  rw [if_pos (by omega), lb_and]
  unfold ngL
  cases b
  · rw [if_neg Bool.false_ne_true]
    cases lb (f (d / 64)) (d % 64) <;> cases lb (g (d / 64)) (d % 64) <;> rfl
  · rw [if_pos rfl, lb_not _ (Nat.mod_lt _ (by decide))]
    cases lb (f (d / 64)) (d % 64) <;> cases lb (g (d / 64)) (d % 64) <;> rfl
theorem dsb_join {f g : Nat → Int64} {d : Nat} (h : d < 1472) : dsb (dsJoin f g 23) d = (dsb f d || dsb g d) := by
  unfold dsb dsJoin
  rw [if_pos (by omega), lb_or]
theorem dsb_fW {d : Nat} : dsb fW d = true := by
  unfold dsb
  show (BitVec.getLsbD (-1 : Int64).toBitVec (d % 64)) = true
  have h : d % 64 < 64 := Nat.mod_lt _ (by decide)
  have : ∀ j : Fin 64, (BitVec.getLsbD (-1 : Int64).toBitVec j.val) = true := by decide
  exact this ⟨d % 64, h⟩
theorem dsb_zW {d : Nat} : dsb zW d = false := by
  unfold dsb
  show (BitVec.getLsbD (0 : Int64).toBitVec (d % 64)) = false
  have h : d % 64 < 64 := Nat.mod_lt _ (by decide)
  have : ∀ j : Fin 64, (BitVec.getLsbD (0 : Int64).toBitVec j.val) = false := by decide
  exact this ⟨d % 64, h⟩
theorem shq_all : (List.range 64).all (fun m => (List.range 64).all (fun j => decide (lb ((1 : Int64) <<< ((iI ((m : Int))).toInt64 &&& 63)) j = decide (j = m)))) = true := by decide +kernel
theorem shq_at {m j : Nat} (hm : m < 64) (hj : j < 64) : lb ((1 : Int64) <<< ((iI ((m : Int))).toInt64 &&& 63)) j = decide (j = m) :=
  of_decide_eq_true (List.all_eq_true.mp (List.all_eq_true.mp shq_all m (List.mem_range.mpr hm)) j (List.mem_range.mpr hj))
theorem dsb_add {f : Nat → Int64} {d e : Nat} : dsb (dsAdd f d) e = (dsb f e || decide (e = d)) := by
  unfold dsb dsAdd vp_updL
  by_cases h : e / 64 = d / 64
  · rw [if_pos h, lb_or, shq_at (Nat.mod_lt _ (by decide)) (Nat.mod_lt _ (by decide)), h]
    congr 1
    exact decide_eq_decide.mpr (by omega)
  · rw [if_neg h, decide_eq_false (by intro q; exact h (by rw [q])), Bool.or_false]
theorem dsb_cl {P : Nat → Bool} {e : Nat} : ∀ i, dsb (clF P i) e = (decide (e < i) && P e)
  | 0 => by
    rw [decide_eq_false (Nat.not_lt_zero e), Bool.false_and]
    exact dsb_zW
  | i + 1 => by
    have ih := dsb_cl (P := P) (e := e) i
    cases hp : P i with
    | true =>
      rw [clF_t hp, dsb_add, ih]
      by_cases h : e = i
      · subst h
        rw [hp, decide_eq_true (show e < e + 1 by omega), decide_eq_true rfl, Bool.or_true]; rfl
      · rw [decide_eq_false h, Bool.or_false]
        congr 1
        exact decide_eq_decide.mpr (by omega)
    | false =>
      rw [clF_f hp, ih]
      by_cases h : e = i
      · subst h; rw [hp, Bool.and_false, Bool.and_false]
      · congr 1
        exact decide_eq_decide.mpr (by omega)
theorem dsb_clF {P : Nat → Bool} {d : Nat} (h : d < 1461) : dsb (clF P 1461) d = P d := by
  rw [dsb_cl, decide_eq_true h, Bool.true_and]
theorem up2_y {Y : Nat → Nat → Int64} {i : Nat} {f : Nat → Int64} : up2 Y i f i = f := if_pos rfl
theorem up2_n {Y : Nat → Nat → Int64} {i j : Nat} {f : Nat → Int64} (h : ¬ j = i) : up2 Y i f j = Y j := if_neg h
/-- a level of brackets: whether an AND, an OR waits, and how many NOTs stood before its bracket -/
abbrev FR : Type := Bool × Bool × Nat
def opA (b : Bool) : List SI := if b then [(16, 100, 0)] else []
def opO (b : Bool) : List SI := if b then [(16, 101, 0)] else []
def nots (k : Nat) : List SI := List.replicate k (16, 102, 0)
def tlS (a : Int) (ho : Bool) (U : List SI) : List SI := (13, a, 0) :: (opO ho ++ (11, a, 0) :: U)
def undS (L0 : List SI) (nn : Nat) (S : List SI) : List FR → List SI
  | [] => L0
  | _ :: _ => (15, 0, 0) :: (nots nn ++ S)
def STK (L0 : List SI) : List FR → List SI
  | [] => L0
  | f :: r => opA f.1 ++ tlS ((r.length : Int) + 1) f.2.1 (undS L0 f.2.2 (STK L0 r) r)
def opB (b v : Bool) : List Bool := if b then [v] else []
/-- the bits that wait, the innermost level first -/
def BTS (Y E : Nat → Nat → Int64) (d : Nat) : List FR → List Bool
  | [] => []
  | f :: r => opB f.1 (dsb (E r.length) d) ++ (opB f.2.1 (dsb (Y r.length) d) ++ BTS Y E d r)
def OKF (Y E : Nat → Nat → Int64) (ng : Nat → Bool) : List FR → Prop
  | [] => True
  | f :: r => (f.1 = false → ∀ d, d < 1461 → dsb (E r.length) d = true) ∧ (f.2.1 = false → ∀ d, d < 1461 → dsb (Y r.length) d = false) ∧ (¬ r = [] → ng r.length = decide (f.2.2 % 2 = 1)) ∧ OKF Y E ng r
/-- how many codes wait on the stack -/
def EMS : List FR → Nat
  | [] => 0
  | f :: r => f.1.toNat + f.2.1.toNat + (if r = [] then 0 else f.2.2) + EMS r
theorem opA_l (b : Bool) : (opA b).length = b.toNat := by cases b <;> rfl
theorem opO_l (b : Bool) : (opO b).length = b.toNat := by cases b <;> rfl
theorem opB_l (b v : Bool) : (opB b v).length = b.toNat := by cases b <;> rfl
theorem nots_l (k : Nat) : (nots k).length = k := List.length_replicate
theorem STK_l {L0 : List SI} : ∀ fs : List FR, (STK L0 fs).length ≤ L0.length + 3 * fs.length + EMS fs
  | [] => by show L0.length ≤ _; omega
  | f :: r => by
    have ih := STK_l (L0 := L0) r
    show (opA f.1 ++ tlS ((r.length : Int) + 1) f.2.1 (undS L0 f.2.2 (STK L0 r) r)).length ≤ L0.length + 3 * (r.length + 1) + (f.1.toNat + f.2.1.toNat + (if r = [] then 0 else f.2.2) + EMS r)
    unfold tlS
    rw [List.length_append, List.length_cons, List.length_append, List.length_cons, opA_l, opO_l]
    have hu : (undS L0 f.2.2 (STK L0 r) r).length ≤ L0.length + 3 * r.length + 1 + (if r = [] then 0 else f.2.2) + EMS r := by
      cases r with
      | nil => show L0.length ≤ _; omega
      | cons g r =>
        show ((15, 0, 0) :: (nots f.2.2 ++ STK L0 (g :: r))).length ≤ _
        rw [List.length_cons, List.length_append, nots_l, if_neg (by exact List.cons_ne_nil g r)]
        omega
    omega
theorem BTS_l {Y E : Nat → Nat → Int64} {d : Nat} : ∀ fs : List FR, (BTS Y E d fs).length ≤ 2 * fs.length
  | [] => Nat.le_refl _
  | f :: r => by
    have ih := BTS_l (Y := Y) (E := E) (d := d) r
    show (opB f.1 (dsb (E r.length) d) ++ (opB f.2.1 (dsb (Y r.length) d) ++ BTS Y E d r)).length ≤ 2 * (r.length + 1)
    rw [List.length_append, List.length_append, opB_l, opB_l]
    have := Bool.toNat_le f.1
    have := Bool.toNat_le f.2.1
    omega
theorem BTS_c {Y E Y' E' : Nat → Nat → Int64} {d : Nat} : ∀ fs : List FR, (∀ i, i < fs.length → Y' i = Y i ∧ E' i = E i) → BTS Y' E' d fs = BTS Y E d fs
  | [], _ => rfl
  | f :: r, h => by
    obtain ⟨h1, h2⟩ := h r.length (by rw [List.length_cons]; omega)
    show opB f.1 (dsb (E' r.length) d) ++ (opB f.2.1 (dsb (Y' r.length) d) ++ BTS Y' E' d r) = opB f.1 (dsb (E r.length) d) ++ (opB f.2.1 (dsb (Y r.length) d) ++ BTS Y E d r)
    rw [h1, h2, BTS_c r (fun i hi => h i (by rw [List.length_cons]; omega))]
theorem OKF_c {Y E Y' E' : Nat → Nat → Int64} {ng ng' : Nat → Bool} : ∀ fs : List FR, (∀ i, i < fs.length → Y' i = Y i ∧ E' i = E i ∧ ng' i = ng i) → OKF Y E ng fs → OKF Y' E' ng' fs
  | [], _, _ => trivial
  | f :: r, h, ho => by
    obtain ⟨h1, h2, h3⟩ := h r.length (by rw [List.length_cons]; omega)
    obtain ⟨o1, o2, o3, o4⟩ := ho
    exact ⟨by rw [h2]; exact o1, by rw [h1]; exact o2, by rw [h3]; exact o3, OKF_c r (fun i hi => h i (by rw [List.length_cons]; omega)) o4⟩
theorem EVI.cg {X : RT} {c0 : Nat} {V V' : Nat → List Bool} (h : EVI X c0 V) (he : ∀ d, d < 1461 → V d = V' d) : EVI X c0 V' :=
  ⟨h.1, h.2.1, fun d hd => by rw [← he d hd]; exact h.2.2 d hd⟩
theorem BX_ext {X X' : RT} (hB : BX X) (hE : EXT X X') (h1 : X'.cl ≤ 108) (h2 : X'.an ≤ 58) : BX X' := by
  obtain ⟨b1, b2, b3, b4, b5⟩ := hB
  obtain ⟨⟨e1, e2, e3, e4, e5⟩, ⟨e6, e7⟩, _, _⟩ := hE
  exact ⟨by rw [e1]; exact b1, ⟨by omega, h1⟩, ⟨by omega, h2⟩, by rw [e3]; exact b4, by rw [e4]; exact b5⟩
section MTC
variable {tx : Nat → Int} {n : Nat} {res : Int} {Z : RT → Prop} {q c0 : Nat} {M : List SI} {X : RT}
theorem RL_em (htx : ∀ j, 0 ≤ tx j ∧ tx j ≤ 126) (hL : M.length ≤ 290) (hB : BX X) {c : Int} (hc : 0 ≤ c ∧ c ≤ 200) (h : RL tx n res Z q M (X.emit c)) : RL tx n res Z q ((16, c, 0) :: M) X :=
  RL_2 htx (by omega) hB (IX.lo (by decide) hc (by decide)) tk_16 h
theorem od_n (htx : ∀ j, 0 ≤ tx j ∧ tx j ≤ 126) : ∀ (nn : Nat) (X : RT) (b : Nat → Bool) (V : Nat → List Bool), M.length + nn ≤ 290 → BX X → X.cl + nn ≤ 108 → (∀ d, (V d).length ≤ 8) → EVI X c0 (fun d => b d :: V d) →
    (∀ X', EXT X X' → BX X' → X'.cl = X.cl + nn → X'.an = X.an → EVI X' c0 (fun d => (b d != decide (nn % 2 = 1)) :: V d) → RL tx n res Z q M X') → RL tx n res Z q (nots nn ++ M) X
  | 0, X, b, V, hl, hB, hc, hV, hE, hk => hk X (EXT.rf X) hB (by omega) rfl (hE.cg (fun d _ => by
      rw [decide_eq_false (by decide)]
      cases b d <;> rfl))
  | nn + 1, X, b, V, hl, hB, hc, hV, hE, hk => by
    have h0 := hB.2.1.1
    have hx := EXT.em X 102 h0
    have hB1 : BX (X.emit 102) := BX_ext hB hx (by show X.cl + 1 ≤ 108; omega) hB.2.2.1.2
    show RL tx n res Z q ((16, 102, 0) :: (nots nn ++ M)) X
    refine RL_em htx (by rw [List.length_append, nots_l]; omega) hB (by decide) ?_
    refine od_n htx nn (X.emit 102) (fun d => !(b d)) V (by omega) hB1 (by show X.cl + 1 + (nn : Int) ≤ 108; omega) hV (hE.nt hV) (fun X' e1 e2 e3 e4 e5 => ?_)
    have e3 : X'.cl = X.cl + 1 + (nn : Int) := e3
    refine hk X' (hx.tr e1) e2 (by omega) e4 (e5.cg (fun d _ => ?_))
    have : ((!(b d)) != decide (nn % 2 = 1)) = (b d != decide ((nn + 1) % 2 = 1)) := by
      by_cases h : nn % 2 = 1
      · rw [decide_eq_true h, decide_eq_false (by omega)]; cases b d <;> rfl
      · rw [decide_eq_false h, decide_eq_true (by omega)]; cases b d <;> rfl
    rw [this]
theorem od_a (htx : ∀ j, 0 ≤ tx j ∧ tx j ≤ 126) {ha : Bool} {v e : Nat → Bool} {W : Nat → List Bool} (hl : M.length ≤ 290) (hB : BX X) (hc : X.cl + ha.toNat ≤ 108) (hW : ∀ d, (W d).length ≤ 7) (he : ha = false → ∀ d, d < 1461 → e d = true) (hE : EVI X c0 (fun d => v d :: (opB ha (e d) ++ W d)))
    (hk : ∀ X', EXT X X' → BX X' → X'.cl = X.cl + ha.toNat → X'.an = X.an → EVI X' c0 (fun d => (e d && v d) :: W d) → RL tx n res Z q M X') : RL tx n res Z q (opA ha ++ M) X := by
  cases ha with
  | false => exact hk X (EXT.rf X) hB (by show X.cl = X.cl + 0; omega) rfl (hE.cg (fun d hd => by rw [he rfl d hd, Bool.true_and]; rfl))
  | true =>
    have hc : X.cl + 1 ≤ 108 := hc
    have hx := EXT.em X 100 hB.2.1.1
    have hB1 : BX (X.emit 100) := BX_ext hB hx (by show X.cl + 1 ≤ 108; omega) hB.2.2.1.2
    show RL tx n res Z q ((16, 100, 0) :: M) X
    exact RL_em htx hl hB (by decide) (hk _ hx hB1 rfl rfl (EVI.an (b := v) (c := e) hE hW))
theorem od_o (htx : ∀ j, 0 ≤ tx j ∧ tx j ≤ 126) {ho : Bool} {v y : Nat → Bool} {W : Nat → List Bool} (hl : M.length ≤ 290) (hB : BX X) (hc : X.cl + ho.toNat ≤ 108) (hW : ∀ d, (W d).length ≤ 7) (hy : ho = false → ∀ d, d < 1461 → y d = false) (hE : EVI X c0 (fun d => v d :: (opB ho (y d) ++ W d)))
    (hk : ∀ X', EXT X X' → BX X' → X'.cl = X.cl + ho.toNat → X'.an = X.an → EVI X' c0 (fun d => (y d || v d) :: W d) → RL tx n res Z q M X') : RL tx n res Z q (opO ho ++ M) X := by
  cases ho with
  | false => exact hk X (EXT.rf X) hB (by show X.cl = X.cl + 0; omega) rfl (hE.cg (fun d hd => by rw [hy rfl d hd, Bool.false_or]; rfl))
  | true =>
    have hc : X.cl + 1 ≤ 108 := hc
    have hx := EXT.em X 101 hB.2.1.1
    have hB1 : BX (X.emit 101) := BX_ext hB hx (by show X.cl + 1 ≤ 108; omega) hB.2.2.1.2
    show RL tx n res Z q ((16, 101, 0) :: M) X
    exact RL_em htx hl hB (by decide) (hk _ hx hB1 rfl rfl (EVI.or (b := v) (c := y) hE hW))
/-- what a matcher's reading comes to -/
def CON (tx : Nat → Int) (n : Nat) (res : Int) (Z : RT → Prop) (L0 : List SI) (X0 : RT) (c0 q : Nat) (S : List SI) (X : RT) (r : MR) : Prop :=
  (r.1 = false → res = r.2.1 → (∀ Y, NBO Y → Z Y) → RL tx n res Z q S X) ∧
  (r.1 = true → ∀ p' : Nat, r.2.1 = (p' : Int) → (∀ X', EXT X0 X' → BX X' → (c0 : Int) < X'.cl → X'.cl ≤ p' → 2 * X'.an ≤ p' → EVI X' c0 (fun d => [dsb (r.2.2.1 0) d]) → RL tx n res Z p' L0 X') → RL tx n res Z q S X)
theorem CON.imp {L0 : List SI} {X0 X' : RT} {q' : Nat} {S S' : List SI} {r : MR} (h : CON tx n res Z L0 X0 c0 q' S' X' r) (hi : RL tx n res Z q' S' X' → RL tx n res Z q S X) : CON tx n res Z L0 X0 c0 q S X r :=
  ⟨fun h1 h2 h3 => hi (h.1 h1 h2 h3), fun h1 p' h2 h3 => hi (h.2 h1 p' h2 h3)⟩
/-- a matcher's reading with so much fuel, from an operand's start -/
def MAIN (tx : Nat → Int) (n : Nat) (res : Int) (Z : RT → Prop) (L0 : List SI) (X0 : RT) (c0 k : Nat) : Prop :=
  ∀ (f : FR) (r : List FR) (p : Nat) (Y E : Nat → Nat → Int64) (ng : Nat → Bool) (X : RT) (kd f1 s1 : Int) (gd : Nat → Int64),
    r.length ≤ 3 → p ≤ n → n - p + 1 ≤ k → OKF Y E ng (f :: r) → EXT X0 X → BX X → X.cl + (EMS (f :: r) : Nat) ≤ p → 2 * X.an + 1 ≤ p → EVI X c0 (fun d => BTS Y E d (f :: r)) →
    CON tx n res Z L0 X0 c0 p ((14, (r.length : Int) + 1, 0) :: STK L0 (f :: r)) X (mtF tx n k r.length (p : Int) Y E ng kd f1 s1 gd)
end MTC
