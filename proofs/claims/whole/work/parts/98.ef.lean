/-- the model's reader without its stack: rules, tariffs, begins, ends, code's places, code, its length, atoms, their kinds, firsts, seconds -/
abbrev RT : Type := Int × (Nat → Int) × (Nat → Int) × (Nat → Int) × (Nat → Int) × (Nat → Int) × Int × Int × (Nat → Int) × (Nat → Int) × (Nat → Int)
def RT.rr (X : RT) : Int := X.1
def RT.nt (X : RT) : Nat → Int := X.2.1
def RT.nb (X : RT) : Nat → Int := X.2.2.1
def RT.ne (X : RT) : Nat → Int := X.2.2.2.1
def RT.cf (X : RT) : Nat → Int := X.2.2.2.2.1
def RT.ce (X : RT) : Nat → Int := X.2.2.2.2.2.1
def RT.cl (X : RT) : Int := X.2.2.2.2.2.2.1
def RT.an (X : RT) : Int := X.2.2.2.2.2.2.2.1
def RT.kd (X : RT) : Nat → Int := X.2.2.2.2.2.2.2.2.1
def RT.fi (X : RT) : Nat → Int := X.2.2.2.2.2.2.2.2.2.1
def RT.se (X : RT) : Nat → Int := X.2.2.2.2.2.2.2.2.2.2
def mkR (rr : Int) (nt nb ne cf ce : Nat → Int) (cl an : Int) (kd fi se : Nat → Int) : RT := (rr, nt, nb, ne, cf, ce, cl, an, kd, fi, se)
/-- setters, one level deep -/
def RT.sNb (X : RT) (v : Nat → Int) : RT := mkR X.rr X.nt v X.ne X.cf X.ce X.cl X.an X.kd X.fi X.se
def RT.sNe (X : RT) (v : Nat → Int) : RT := mkR X.rr X.nt X.nb v X.cf X.ce X.cl X.an X.kd X.fi X.se
def RT.sCf (X : RT) (v : Nat → Int) : RT := mkR X.rr X.nt X.nb X.ne v X.ce X.cl X.an X.kd X.fi X.se
def RT.sFi (X : RT) (v : Nat → Int) : RT := mkR X.rr X.nt X.nb X.ne X.cf X.ce X.cl X.an X.kd v X.se
def RT.sSe (X : RT) (v : Nat → Int) : RT := mkR X.rr X.nt X.nb X.ne X.cf X.ce X.cl X.an X.kd X.fi v
def RT.sCe (X : RT) (v : Nat → Int) : RT := mkR X.rr X.nt X.nb X.ne X.cf v X.cl X.an X.kd X.fi X.se
def RT.sCl (X : RT) (v : Int) : RT := mkR X.rr X.nt X.nb X.ne X.cf X.ce v X.an X.kd X.fi X.se
def RT.emit (X : RT) (c : Int) : RT := (X.sCe (updZ X.ce X.cl.toNat c)).sCl (X.cl + 1)
def RT.sKd (X : RT) (v : Nat → Int) : RT := mkR X.rr X.nt X.nb X.ne X.cf X.ce X.cl X.an v X.fi X.se
def RT.sAn (X : RT) (v : Int) : RT := mkR X.rr X.nt X.nb X.ne X.cf X.ce X.cl v X.kd X.fi X.se
def RT.sRr (X : RT) (v : Int) : RT := mkR v X.nt X.nb X.ne X.cf X.ce X.cl X.an X.kd X.fi X.se
def RT.sNt (X : RT) (v : Nat → Int) : RT := mkR X.rr v X.nb X.ne X.cf X.ce X.cl X.an X.kd X.fi X.se
def RT.atom (X : RT) (x : Int) : RT := ((((X.sKd (updZ X.kd X.an.toNat x)).sFi (updZ X.fi X.an.toNat 0)).sSe (updZ X.se X.an.toNat 0)).emit X.an).sAn (X.an + 1)
def RT.rule (X : RT) (t : Int) : RT := (((X.sRr (X.rr + 1)).sNt (updZ X.nt X.rr.toNat t)).sNb (updZ X.nb X.rr.toNat 0)).sNe (updZ X.ne X.rr.toNat 48)
abbrev SI : Type := Int × Int × Int
/-- the stack's three arrays hold the list, its top first -/
def SKL (wa : Int) (ex ab co : Nat → Int) (L : List SI) : Prop := wa = (L.length : Int) ∧ ∀ (i : Nat) (q : SI), L.reverse[i]? = some q → ex i = q.1 ∧ ab i = q.2.1 ∧ co i = q.2.2
theorem SKL.push {wa : Int} {ex ab co : Nat → Int} {L : List SI} (h : SKL wa ex ab co L) (x y z : Int) : SKL (wa + 1) (updZ ex wa.toNat x) (updZ ab wa.toNat y) (updZ co wa.toNat z) ((x, y, z) :: L) := by
  obtain ⟨h1, h2⟩ := h
  subst h1
  refine ⟨by rw [List.length_cons]; omega, fun i q hq => ?_⟩
  rw [List.reverse_cons] at hq
  rw [Int.toNat_natCast]
  by_cases hi : i = L.length
  · subst hi
    rw [List.getElem?_append_right (by rw [List.length_reverse]; exact Nat.le_refl _), List.length_reverse, Nat.sub_self] at hq
    have hq : (x, y, z) = q := Option.some.inj hq
    subst hq
    unfold updZ
    exact ⟨if_pos rfl, if_pos rfl, if_pos rfl⟩
  · have hl : i < L.length := by
      have h3 := (List.getElem?_eq_some_iff.mp hq).1
      rw [List.length_append, List.length_reverse] at h3
      have : ([(x, y, z)] : List SI).length = 1 := rfl
      omega
    rw [List.getElem?_append_left (by rw [List.length_reverse]; exact hl)] at hq
    unfold updZ
    rw [if_neg hi, if_neg hi, if_neg hi]
    exact h2 i q hq
theorem SKL.pop {wa : Int} {ex ab co : Nat → Int} {L : List SI} {q : SI} (h : SKL wa ex ab co (q :: L)) : 0 < wa ∧ wa - 1 = (L.length : Int) ∧ ex (wa - 1).toNat = q.1 ∧ ab (wa - 1).toNat = q.2.1 ∧ co (wa - 1).toNat = q.2.2 ∧ SKL (wa - 1) ex ab co L := by
  obtain ⟨h1, h2⟩ := h
  rw [List.length_cons] at h1
  have hw : wa - 1 = (L.length : Int) := by omega
  have ht : (wa - 1).toNat = L.length := by omega
  rw [ht]
  obtain ⟨k1, k2, k3⟩ := h2 L.length q (by rw [List.reverse_cons, List.getElem?_append_right (by rw [List.length_reverse]; exact Nat.le_refl _), List.length_reverse, Nat.sub_self]; rfl)
  refine ⟨by omega, hw, k1, k2, k3, hw, fun i q2 hq => h2 i q2 ?_⟩
  rw [List.reverse_cons, List.getElem?_append_left (List.getElem?_eq_some_iff.mp hq).1]
  exact hq
/-- what a take does: its answer, what it puts on the stack, the rest behind it -/
def TKR (wh a c ch : Int) (X : RT) (g : Int) (P : List SI) (X' : RT) : Prop := ∀ (wa : Int) (ex ab co : Nat → Int) (L : List SI), SKL wa ex ab co L → ∃ (wa' : Int) (ex' ab' co' : Nat → Int), takF ((wa, ex, ab, co, X) : MS) wh a c ch = (g, ((wa', ex', ab', co', X') : MS)) ∧ SKL wa' ex' ab' co' (P ++ L)
/-- the numbers that a take wants in bounds -/
def BX (X : RT) : Prop := (0 ≤ X.rr ∧ X.rr ≤ 12) ∧ (0 ≤ X.cl ∧ X.cl ≤ 108) ∧ (0 ≤ X.an ∧ X.an ≤ 58) ∧ (∀ j, -5000 ≤ X.nb j ∧ X.nb j ≤ 5000) ∧ ∀ j, -5000 ≤ X.ne j ∧ X.ne j ≤ 5000
def NBO (X : RT) : Prop := (∀ j, -5000 ≤ X.nb j ∧ X.nb j ≤ 5000) ∧ ∀ j, -5000 ≤ X.ne j ∧ X.ne j ≤ 5000
/-- the bounds that an item wants -/
def IX (X : RT) (wh a c : Int) : Prop := (0 ≤ c ∧ c ≤ 8) ∧ (0 ≤ a ∧ a ≤ 200) ∧ ((0 ≤ wh ∧ wh ≤ 4) ∨ (10 ≤ wh ∧ wh ≤ 16) ∨ (20 ≤ wh ∧ wh ≤ 26)) ∧ (wh = 0 → X.rr ≤ 11) ∧ (wh = 4 → 1 ≤ X.rr) ∧ (20 ≤ wh → a ≤ 59 ∧ 0 ≤ X.fi a.toNat ∧ X.fi a.toNat ≤ 100000 ∧ -1 ≤ X.se a.toNat ∧ X.se a.toNat ≤ 100000) ∧ (wh = 20 → X.fi a.toNat < 256 ∧ 0 ≤ X.se a.toNat) ∧ (wh = 22 → 0 ≤ X.se a.toNat)
theorem IX.lo {X : RT} {wh a c : Int} (hc : 0 ≤ c ∧ c ≤ 8) (ha : 0 ≤ a ∧ a ≤ 200) (hw : (1 ≤ wh ∧ wh ≤ 3) ∨ (10 ≤ wh ∧ wh ≤ 16)) : IX X wh a c := ⟨hc, ha, by omega, fun h => by omega, fun h => by omega, fun h => by omega, fun h => by omega, fun h => by omega⟩
/-- the reading goes on to its end: with res, and Z of the rest -/
def RL (tx : Nat → Int) (n : Nat) (res : Int) (Z : RT → Prop) (p : Nat) (L : List SI) (X : RT) : Prop := ∀ (wa : Int) (ex ab co : Nat → Int), SKL wa ex ab co L → ∃ (k : Nat) (mf : MS), RunsTo tx n res mf k p ((wa, ex, ab, co, X) : MS) ∧ Z mf.2.2.2.2
section RLS
variable {tx : Nat → Int} {n : Nat} {res : Int} {Z : RT → Prop} {p : Nat} {L P : List SI} {X X' : RT} {wh a c g : Int}
theorem chT_bd (htx : ∀ j, 0 ≤ tx j ∧ tx j ≤ 126) (p : Nat) : 0 ≤ chT tx n p ∧ chT tx n p ≤ 126 := by
  unfold chT
  have := htx p
  split <;> omega
theorem chT_n (h : ¬ chT tx n p = 0) : p < n := by
  unfold chT at h
  by_cases h1 : p < n
  · exact h1
  · rw [if_neg h1] at h; exact absurd rfl h
theorem tok_of (htx : ∀ j, 0 ≤ tx j ∧ tx j ≤ 126) {wa : Int} {ex ab co : Nat → Int} (hw : wa = (L.length : Int)) (hL : L.length ≤ 296) (hB : BX X) (hI : IX X wh a c) : TOK ((wa, ex, ab, co, X) : MS) wh a c (chT tx n p) := by
  obtain ⟨b1, b2, b3, b4, b5⟩ := hB
  obtain ⟨i1, i2, i3, i4, i5, i6, i7, i8⟩ := hI
  have hc := chT_bd (n := n) htx p
  exact ⟨⟨by show (0 : Int) ≤ wa; omega, by show wa ≤ 296; omega⟩, b1, b2, b3, ⟨hc.1, by omega⟩, i1, i2, i3, i4, i5, i6, i7, i8, fun j => ⟨by have := (b4 j).1; show (-100000000 : Int) ≤ X.nb j; omega, by have := (b4 j).2; show X.nb j ≤ 100000000; omega⟩, fun j => ⟨by have := (b5 j).1; show (-100000000 : Int) ≤ X.ne j; omega, by have := (b5 j).2; show X.ne j ≤ 100000000; omega⟩⟩
theorem RL_go (htx : ∀ j, 0 ≤ tx j ∧ tx j ≤ 126) (hL : L.length ≤ 296) (hB : BX X) (hI : IX X wh a c) (hT : TKR wh a c (chT tx n p) X g P X') (hg : 0 ≤ g ∧ g ≤ 2)
    (hk : ∀ (wa : Int) (ex ab co : Nat → Int), SKL wa ex ab co (P ++ L) → ∃ (k : Nat) (mf : MS), RunsA (RunsTo tx n res mf k) n g p ((wa, ex, ab, co, X') : MS) res mf ∧ Z mf.2.2.2.2) : RL tx n res Z p ((wh, a, c) :: L) X := by
  intro wa ex ab co hS
  obtain ⟨h1, h2, h3, h4, h5, h6⟩ := hS.pop
  obtain ⟨wa', ex', ab', co', e1, e2⟩ := hT (wa - 1) ex ab co L h6
  obtain ⟨k, mf, hr, hz⟩ := hk wa' ex' ab' co' e2
  have hm : mTk tx n p ((wa, ex, ab, co, X) : MS) = (g, ((wa', ex', ab', co', X') : MS)) := by
    show takF ((wa - 1, ex, ab, co, X) : MS) (ex (wa - 1).toNat) (ab (wa - 1).toNat) (co (wa - 1).toNat) (chT tx n p) = _
    rw [h3, h4, h5]
    exact e1
  refine ⟨k + 1, mf, ⟨⟨by show (0 : Int) ≤ wa; omega, by show wa ≤ 300; omega⟩, ?_⟩, hz⟩
  rw [if_pos (show (0 : Int) < MS.wa ((wa, ex, ab, co, X) : MS) from h1), hm]
  refine ⟨?_, hg, hr⟩
  show TOK ((wa - 1, ex, ab, co, X) : MS) (ex (wa - 1).toNat) (ab (wa - 1).toNat) (co (wa - 1).toNat) (chT tx n p)
  rw [h3, h4, h5]
  exact tok_of htx h2 hL hB hI
theorem RL_1 (htx : ∀ j, 0 ≤ tx j ∧ tx j ≤ 126) (hL : L.length ≤ 296) (hB : BX X) (hI : IX X wh a c) (hT : TKR wh a c (chT tx n p) X 1 P X') (hp : p < n) (hk : RL tx n res Z (p + 1) (P ++ L) X') : RL tx n res Z p ((wh, a, c) :: L) X :=
  RL_go htx hL hB hI hT (by decide) (fun wa ex ab co hS => by
    obtain ⟨k, mf, h1, h2⟩ := hk wa ex ab co hS
    refine ⟨k, mf, ?_, h2⟩
    unfold RunsA
    rw [if_neg (by decide), if_pos ⟨rfl, hp⟩]
    exact h1)
theorem RL_2 (htx : ∀ j, 0 ≤ tx j ∧ tx j ≤ 126) (hL : L.length ≤ 296) (hB : BX X) (hI : IX X wh a c) (hT : TKR wh a c (chT tx n p) X 2 P X') (hk : RL tx n res Z p (P ++ L) X') : RL tx n res Z p ((wh, a, c) :: L) X :=
  RL_go htx hL hB hI hT (by decide) (fun wa ex ab co hS => by
    obtain ⟨k, mf, h1, h2⟩ := hk wa ex ab co hS
    exact ⟨k, mf, RunsA_2 h1, h2⟩)
theorem RL_f (htx : ∀ j, 0 ≤ tx j ∧ tx j ≤ 126) (hL : L.length ≤ 296) (hB : BX X) (hI : IX X wh a c) (hT : TKR wh a c (chT tx n p) X g P X') (hg : g = 0 ∨ (g = 1 ∧ n ≤ p)) (hres : res = (p : Int)) (hz : Z X') : RL tx n res Z p ((wh, a, c) :: L) X :=
  RL_go htx hL hB hI hT (by omega) (fun wa ex ab co hS => by
    refine ⟨0, ((wa, ex, ab, co, X') : MS), ?_, hz⟩
    unfold RunsA
    rw [if_neg (by omega), if_neg (by omega)]
    exact ⟨hres, rfl⟩)
theorem RL_e (hres : res = (if p < n then (p : Int) else -1)) (hz : Z X) : RL tx n res Z p [] X := by
  intro wa ex ab co hS
  have hw : wa = 0 := hS.1
  refine ⟨1, ((wa, ex, ab, co, X) : MS), ⟨⟨by show (0 : Int) ≤ wa; omega, by show wa ≤ 300; omega⟩, ?_⟩, hz⟩
  rw [if_neg (show ¬ (0 : Int) < MS.wa ((wa, ex, ab, co, X) : MS) by show ¬ (0 : Int) < wa; omega)]
  exact ⟨rfl, hres⟩
end RLS
section TKS
variable {wa : Int} {ex ab co : Nat → Int} {X : RT}
theorem pushT (wa : Int) (ex ab co : Nat → Int) (X : RT) (x y z : Int) : pushF ((wa, ex, ab, co, X) : MS) x y z = ((wa + 1, updZ ex wa.toNat x, updZ ab wa.toNat y, updZ co wa.toNat z, X) : MS) := rfl
theorem sNbT (wa : Int) (ex ab co : Nat → Int) (X : RT) (v : Nat → Int) : MS.sNb ((wa, ex, ab, co, X) : MS) v = ((wa, ex, ab, co, X.sNb v) : MS) := rfl
theorem sNeT (wa : Int) (ex ab co : Nat → Int) (X : RT) (v : Nat → Int) : MS.sNe ((wa, ex, ab, co, X) : MS) v = ((wa, ex, ab, co, X.sNe v) : MS) := rfl
theorem sCfT (wa : Int) (ex ab co : Nat → Int) (X : RT) (v : Nat → Int) : MS.sCf ((wa, ex, ab, co, X) : MS) v = ((wa, ex, ab, co, X.sCf v) : MS) := rfl
theorem sFiT (wa : Int) (ex ab co : Nat → Int) (X : RT) (v : Nat → Int) : MS.sFi ((wa, ex, ab, co, X) : MS) v = ((wa, ex, ab, co, X.sFi v) : MS) := rfl
theorem sSeT (wa : Int) (ex ab co : Nat → Int) (X : RT) (v : Nat → Int) : MS.sSe ((wa, ex, ab, co, X) : MS) v = ((wa, ex, ab, co, X.sSe v) : MS) := rfl
theorem sKdT (wa : Int) (ex ab co : Nat → Int) (X : RT) (v : Nat → Int) : MS.sKd ((wa, ex, ab, co, X) : MS) v = ((wa, ex, ab, co, X.sKd v) : MS) := rfl
theorem sAnT (wa : Int) (ex ab co : Nat → Int) (X : RT) (v : Int) : MS.sAn ((wa, ex, ab, co, X) : MS) v = ((wa, ex, ab, co, X.sAn v) : MS) := rfl
theorem sRrT (wa : Int) (ex ab co : Nat → Int) (X : RT) (v : Int) : MS.sRr ((wa, ex, ab, co, X) : MS) v = ((wa, ex, ab, co, X.sRr v) : MS) := rfl
theorem sNtT (wa : Int) (ex ab co : Nat → Int) (X : RT) (v : Nat → Int) : MS.sNt ((wa, ex, ab, co, X) : MS) v = ((wa, ex, ab, co, X.sNt v) : MS) := rfl
theorem kdT (wa : Int) (ex ab co : Nat → Int) (X : RT) : MS.kd ((wa, ex, ab, co, X) : MS) = X.kd := rfl
theorem fiT (wa : Int) (ex ab co : Nat → Int) (X : RT) : MS.fi ((wa, ex, ab, co, X) : MS) = X.fi := rfl
theorem seT (wa : Int) (ex ab co : Nat → Int) (X : RT) : MS.se ((wa, ex, ab, co, X) : MS) = X.se := rfl
theorem anT (wa : Int) (ex ab co : Nat → Int) (X : RT) : MS.an ((wa, ex, ab, co, X) : MS) = X.an := rfl
theorem clT (wa : Int) (ex ab co : Nat → Int) (X : RT) : MS.cl ((wa, ex, ab, co, X) : MS) = X.cl := rfl
theorem cfT (wa : Int) (ex ab co : Nat → Int) (X : RT) : MS.cf ((wa, ex, ab, co, X) : MS) = X.cf := rfl
theorem rrT (wa : Int) (ex ab co : Nat → Int) (X : RT) : MS.rr ((wa, ex, ab, co, X) : MS) = X.rr := rfl
theorem ntT (wa : Int) (ex ab co : Nat → Int) (X : RT) : MS.nt ((wa, ex, ab, co, X) : MS) = X.nt := rfl
theorem nbT (wa : Int) (ex ab co : Nat → Int) (X : RT) : MS.nb ((wa, ex, ab, co, X) : MS) = X.nb := rfl
theorem neT (wa : Int) (ex ab co : Nat → Int) (X : RT) : MS.ne ((wa, ex, ab, co, X) : MS) = X.ne := rfl
theorem ceT (wa : Int) (ex ab co : Nat → Int) (X : RT) : MS.ce ((wa, ex, ab, co, X) : MS) = X.ce := rfl
theorem sCeT (wa : Int) (ex ab co : Nat → Int) (X : RT) (v : Nat → Int) : MS.sCe ((wa, ex, ab, co, X) : MS) v = ((wa, ex, ab, co, X.sCe v) : MS) := rfl
theorem sClT (wa : Int) (ex ab co : Nat → Int) (X : RT) (v : Int) : MS.sCl ((wa, ex, ab, co, X) : MS) v = ((wa, ex, ab, co, X.sCl v) : MS) := rfl
theorem emitT (wa : Int) (ex ab co : Nat → Int) (X : RT) (x : Int) : emitF ((wa, ex, ab, co, X) : MS) x = ((wa, ex, ab, co, X.emit x) : MS) := by
  unfold emitF
  rw [ceT, clT, sCeT, sClT]
  rfl
theorem atom_an (X : RT) (x : Int) : (X.atom x).an = X.an + 1 := rfl
theorem natF_e (ms E : MS) (x : Int) (h : emitF ((((ms.sKd (updZ (ms.kd) ((ms.an).toNat) (x))).sFi (updZ (ms.fi) ((ms.an).toNat) (0))).sSe (updZ (ms.se) ((ms.an).toNat) (0)))) (ms.an) = E) : natF ms x = (E.an + 1 - 1, E.sAn (E.an + 1)) := by
  subst h
  unfold natF
  rfl
theorem emit_an (X : RT) (c : Int) : (X.emit c).an = X.an := rfl
theorem kfs_an (X : RT) (k f g : Nat → Int) : (((X.sKd k).sFi f).sSe g).an = X.an := rfl
theorem natT (wa : Int) (ex ab co : Nat → Int) (X : RT) (x : Int) : natF ((wa, ex, ab, co, X) : MS) x = (X.an + 1 - 1, ((wa, ex, ab, co, X.atom x) : MS)) := by
  rw [natF_e _ ((wa, ex, ab, co, (((X.sKd (updZ X.kd X.an.toNat x)).sFi (updZ X.fi X.an.toNat 0)).sSe (updZ X.se X.an.toNat 0)).emit X.an) : MS) x (by rw [kdT, fiT, seT, anT, sKdT, sFiT, sSeT, emitT]), anT, emit_an, kfs_an, sAnT]
  unfold RT.atom
  rfl
theorem ruleT (wa : Int) (ex ab co : Nat → Int) (X : RT) (t : Int) : MS.sNe (MS.sNb (MS.sNt (MS.sRr ((wa, ex, ab, co, X) : MS) (MS.rr ((wa, ex, ab, co, X) : MS) + 1)) (updZ (MS.nt ((wa, ex, ab, co, X) : MS)) (MS.rr ((wa, ex, ab, co, X) : MS)).toNat t)) (updZ (MS.nb ((wa, ex, ab, co, X) : MS)) (MS.rr ((wa, ex, ab, co, X) : MS)).toNat 0)) (updZ (MS.ne ((wa, ex, ab, co, X) : MS)) (MS.rr ((wa, ex, ab, co, X) : MS)).toNat 48) = ((wa, ex, ab, co, X.rule t) : MS) := by
  rw [rrT, ntT, nbT, neT, sRrT, sNtT, sNbT, sNeT]
  unfold RT.rule
  rfl
/-- a take that puts nothing on the stack -/
theorem tk0 {wh a c ch g : Int} {X' : RT} (h : ∀ (wa : Int) (ex ab co : Nat → Int), takF ((wa, ex, ab, co, X) : MS) wh a c ch = (g, ((wa, ex, ab, co, X') : MS))) : TKR wh a c ch X g [] X' := fun wa ex ab co _ hS => ⟨wa, ex, ab, co, h wa ex ab co, hS⟩
theorem tk1 {wh a c ch g x y z : Int} {X' : RT} (h : ∀ (wa : Int) (ex ab co : Nat → Int), takF ((wa, ex, ab, co, X) : MS) wh a c ch = (g, pushF ((wa, ex, ab, co, X') : MS) x y z)) : TKR wh a c ch X g [(x, y, z)] X' := fun wa ex ab co _ hS => ⟨_, _, _, _, (h wa ex ab co).trans (by rw [pushT]), hS.push x y z⟩
theorem tk2 {wh a c ch g x y z x2 y2 z2 : Int} {X' : RT} (h : ∀ (wa : Int) (ex ab co : Nat → Int), takF ((wa, ex, ab, co, X) : MS) wh a c ch = (g, pushF (pushF ((wa, ex, ab, co, X') : MS) x2 y2 z2) x y z)) : TKR wh a c ch X g [(x, y, z), (x2, y2, z2)] X' := fun wa ex ab co _ hS => ⟨_, _, _, _, (h wa ex ab co).trans (by rw [pushT, pushT]), (hS.push x2 y2 z2).push x y z⟩
theorem tk3 {wh a c ch g x y z x2 y2 z2 x3 y3 z3 : Int} {X' : RT} (h : ∀ (wa : Int) (ex ab co : Nat → Int), takF ((wa, ex, ab, co, X) : MS) wh a c ch = (g, pushF (pushF (pushF ((wa, ex, ab, co, X') : MS) x3 y3 z3) x2 y2 z2) x y z)) : TKR wh a c ch X g [(x, y, z), (x2, y2, z2), (x3, y3, z3)] X' := fun wa ex ab co _ hS => ⟨_, _, _, _, (h wa ex ab co).trans (by rw [pushT, pushT, pushT]), ((hS.push x3 y3 z3).push x2 y2 z2).push x y z⟩
end TKS
section TKN
variable {X : RT} {a c ch : Int}
theorem tk_r (h : inF ch 48 57 = true) : TKR 0 0 0 ch X 1 [(1, 0, 0), (2, 0, 0), (3, 0, 0)] (X.rule (ch - 48)) := tk3 fun wa ex ab co => by
  show brF ((wa, ex, ab, co, X) : MS) ch = _
  unfold brF
  rw [if_pos h, ruleT]
theorem tk_rf (h : inF ch 48 57 = false) : TKR 0 0 0 ch X 0 [] X := tk0 fun wa ex ab co => by
  show brF ((wa, ex, ab, co, X) : MS) ch = _
  unfold brF
  rw [if_neg (by rw [h]; decide)]
theorem tk_1t : TKR 1 0 0 64 X 1 [(4, 0, 0)] X := tk1 fun wa ex ab co => rfl
theorem tk_1f (h : ¬ ch = 64) : TKR 1 0 0 ch X 2 [] X := tk0 fun wa ex ab co => by
  show (if ch = 64 then _ else _) = _
  rw [if_neg h]
theorem tk_2e (h : ch = 0 ∨ ch = 59) : TKR 2 0 0 ch X 2 [] X := tk0 fun wa ex ab co => by
  show (if ch = 0 then _ else _) = _
  rcases h with h | h
  · rw [if_pos h]
  · rw [if_neg (by omega), if_pos h]
theorem tk_2m (h : ¬ ch = 0) (h2 : ¬ ch = 59) : TKR 2 0 0 ch X 2 [(10, 1, 0)] X := tk1 fun wa ex ab co => by
  show (if ch = 0 then _ else _) = _
  rw [if_neg h, if_neg h2]
theorem tk_3e : TKR 3 0 0 0 X 2 [] (X.sCf (updZ X.cf X.rr.toNat X.cl)) := tk0 fun wa ex ab co => rfl
theorem tk_3 (h : ¬ ch = 0) : TKR 3 0 0 ch X (if ch = 59 ∧ X.rr < 12 then 1 else 0) [(0, 0, 0)] (X.sCf (updZ X.cf X.rr.toNat X.cl)) := tk1 fun wa ex ab co => by
  show (if ch = 0 then _ else _) = _
  rw [if_neg h]
  rfl
theorem tk_10 : TKR 10 a 0 ch X 2 [(12, a, 0), (11, a, 0)] X := tk2 fun wa ex ab co => rfl
theorem tk_12 : TKR 12 a 0 ch X 2 [(14, a, 0), (13, a, 0)] X := tk2 fun wa ex ab co => rfl
theorem tk_11t : TKR 11 a 0 124 X 1 [(12, a, 0), (16, 101, 0), (11, a, 0)] X := tk3 fun wa ex ab co => rfl
theorem tk_11f (h : ¬ ch = 124) : TKR 11 a 0 ch X 2 [] X := tk0 fun wa ex ab co => by
  show (if ch = 124 then _ else _) = _
  rw [if_neg h]
theorem tk_13t : TKR 13 a 0 38 X 1 [(14, a, 0), (16, 100, 0), (13, a, 0)] X := tk3 fun wa ex ab co => rfl
theorem tk_13f (h : ¬ ch = 38) : TKR 13 a 0 ch X 2 [] X := tk0 fun wa ex ab co => by
  show (if ch = 38 then _ else _) = _
  rw [if_neg h]
theorem tk_15t : TKR 15 0 0 41 X 1 [] X := tk0 fun wa ex ab co => rfl
theorem tk_15f (h : ¬ ch = 41) : TKR 15 0 0 ch X 0 [] X := tk0 fun wa ex ab co => by
  show ((if ch = 41 then 1 else 0), ((wa, ex, ab, co, X) : MS)) = _
  rw [if_neg h]
theorem tk_16 : TKR 16 a 0 ch X 2 [] (X.emit a) := tk0 fun wa ex ab co => by
  show (2, emitF ((wa, ex, ab, co, X) : MS) a) = _
  rw [emitT]
theorem tk_14n : TKR 14 a 0 33 X 1 [(14, a, 0), (16, 102, 0)] X := tk2 fun wa ex ab co => rfl
theorem tk_14o : TKR 14 a 0 40 X (if 4 ≤ a then 0 else 1) [(10, a + 1, 0), (15, 0, 0)] X := tk2 fun wa ex ab co => rfl
theorem tk_14C : TKR 14 a 0 67 X 1 [(24, X.an + 1 - 1, 0)] (X.atom 24) := tk1 fun wa ex ab co => by
  show (1, pushF (natF ((wa, ex, ab, co, X) : MS) 24).2 24 (natF ((wa, ex, ab, co, X) : MS) 24).1 0) = _
  rw [natT]
theorem tk_14D : TKR 14 a 0 68 X 1 [(22, X.an + 1 - 1, 0)] (X.atom 22) := tk1 fun wa ex ab co => by
  show (1, pushF (natF ((wa, ex, ab, co, X) : MS) 22).2 22 (natF ((wa, ex, ab, co, X) : MS) 22).1 0) = _
  rw [natT]
theorem tk_14F : TKR 14 a 0 70 X 1 [(25, X.an + 1 - 1, 0)] (X.atom 25) := tk1 fun wa ex ab co => by
  show (1, pushF (natF ((wa, ex, ab, co, X) : MS) 25).2 25 (natF ((wa, ex, ab, co, X) : MS) 25).1 0) = _
  rw [natT]
theorem tk_14N : TKR 14 a 0 78 X 1 [(21, X.an + 1 - 1, 0)] (X.atom 21) := tk1 fun wa ex ab co => by
  show (1, pushF (natF ((wa, ex, ab, co, X) : MS) 21).2 21 (natF ((wa, ex, ab, co, X) : MS) 21).1 0) = _
  rw [natT]
theorem tk_14P : TKR 14 a 0 80 X 1 [(23, X.an + 1 - 1, 0)] (X.atom 23) := tk1 fun wa ex ab co => by
  show (1, pushF (natF ((wa, ex, ab, co, X) : MS) 23).2 23 (natF ((wa, ex, ab, co, X) : MS) 23).1 0) = _
  rw [natT]
theorem tk_14W : TKR 14 a 0 87 X 1 [(20, X.an + 1 - 1, 0)] (X.atom 20) := tk1 fun wa ex ab co => by
  show (1, pushF (natF ((wa, ex, ab, co, X) : MS) 20).2 20 (natF ((wa, ex, ab, co, X) : MS) 20).1 0) = _
  rw [natT]
theorem tk_14Y : TKR 14 a 0 89 X 1 [(26, X.an + 1 - 1, 0)] (X.atom 26) := tk1 fun wa ex ab co => by
  show (1, pushF (natF ((wa, ex, ab, co, X) : MS) 26).2 26 (natF ((wa, ex, ab, co, X) : MS) 26).1 0) = _
  rw [natT]
theorem tk_14f (h1 : ¬ ch = 33) (h2 : ¬ ch = 40) (h3 : ¬ ch = 67) (h4 : ¬ ch = 68) (h5 : ¬ ch = 70) (h6 : ¬ ch = 78) (h7 : ¬ ch = 80) (h8 : ¬ ch = 87) (h9 : ¬ ch = 89) : TKR 14 a 0 ch X 0 [] X := tk0 fun wa ex ab co => by
  show boF ((wa, ex, ab, co, X) : MS) a ch = _
  unfold boF
  rw [if_neg h1, if_neg h2, if_neg h3, if_neg h4, if_neg h5, if_neg h6, if_neg h7, if_neg h8, if_neg h9]
end TKN
section TKA
variable {X : RT} {a ch : Int}
theorem tk_22_0 : TKR 22 a 0 ch X (bZ (inF (ch - 48) 0 1)) [(22, a, 1)] (X.sFi (updZ X.fi a.toNat (ch - 48))) := tk1 fun wa ex ab co => by
  show goF (MS.sFi ((wa, ex, ab, co, X) : MS) (updZ (MS.fi ((wa, ex, ab, co, X) : MS)) a.toNat (ch - 48))) (inF (ch - 48) 0 1) 22 a 0 8 = _
  rw [fiT, sFiT]
  rfl
theorem tk_22_1 : TKR 22 a 1 ch X (bZ (if X.fi a.toNat = 0 then inF (ch - 48) 1 9 else inF (ch - 48) 0 2)) [(22, a, 2)] (X.sFi (updZ X.fi a.toNat ((10 * (X.fi a.toNat)) + (ch - 48)))) := tk1 fun wa ex ab co => by
  show goF (MS.sFi ((wa, ex, ab, co, X) : MS) (updZ (MS.fi ((wa, ex, ab, co, X) : MS)) a.toNat ((10 * ((MS.fi ((wa, ex, ab, co, X) : MS)) a.toNat)) + (ch - 48)))) (if (MS.fi ((wa, ex, ab, co, X) : MS)) a.toNat = 0 then inF (ch - 48) 1 9 else inF (ch - 48) 0 2) 22 a 1 8 = _
  rw [fiT, sFiT]
  rfl
theorem tk_22_2 : TKR 22 a 2 ch X (bZ (inF (ch - 48) 0 (if X.fi a.toNat = 2 then 2 else 3))) [(22, a, 3)] (X.sFi (updZ X.fi a.toNat ((10 * (X.fi a.toNat)) + (ch - 48)))) := tk1 fun wa ex ab co => by
  show goF (MS.sFi ((wa, ex, ab, co, X) : MS) (updZ (MS.fi ((wa, ex, ab, co, X) : MS)) a.toNat ((10 * ((MS.fi ((wa, ex, ab, co, X) : MS)) a.toNat)) + (ch - 48)))) (inF (ch - 48) 0 (if (MS.fi ((wa, ex, ab, co, X) : MS)) a.toNat = 2 then 2 else 3)) 22 a 2 8 = _
  rw [fiT, sFiT]
  rfl
theorem tk_22_3 : TKR 22 a 3 ch X (bZ (inF (ch - 48) 0 9 && inF (((X.fi a.toNat) % 10) * 10 + (ch - 48)) 1 (mML 2000 ((X.fi a.toNat) / 10)))) [(22, a, 4)] (X.sFi (updZ X.fi a.toNat ((10 * (X.fi a.toNat)) + (ch - 48)))) := tk1 fun wa ex ab co => by
  show goF (MS.sFi ((wa, ex, ab, co, X) : MS) (updZ (MS.fi ((wa, ex, ab, co, X) : MS)) a.toNat ((10 * ((MS.fi ((wa, ex, ab, co, X) : MS)) a.toNat)) + (ch - 48)))) (inF (ch - 48) 0 9 && inF ((((MS.fi ((wa, ex, ab, co, X) : MS)) a.toNat) % 10) * 10 + (ch - 48)) 1 (mML 2000 (((MS.fi ((wa, ex, ab, co, X) : MS)) a.toNat) / 10))) 22 a 3 8 = _
  rw [fiT, sFiT]
  rfl
theorem tk_22_5 : TKR 22 a 5 ch X (bZ (inF (ch - 48) 0 1)) [(22, a, 6)] (X.sSe (updZ X.se a.toNat (ch - 48))) := tk1 fun wa ex ab co => by
  show goF (MS.sSe ((wa, ex, ab, co, X) : MS) (updZ (MS.se ((wa, ex, ab, co, X) : MS)) a.toNat (ch - 48))) (inF (ch - 48) 0 1) 22 a 5 8 = _
  rw [seT, sSeT]
  rfl
theorem tk_22_6 : TKR 22 a 6 ch X (bZ (if X.se a.toNat = 0 then inF (ch - 48) 1 9 else inF (ch - 48) 0 2)) [(22, a, 7)] (X.sSe (updZ X.se a.toNat ((10 * (X.se a.toNat)) + (ch - 48)))) := tk1 fun wa ex ab co => by
  show goF (MS.sSe ((wa, ex, ab, co, X) : MS) (updZ (MS.se ((wa, ex, ab, co, X) : MS)) a.toNat ((10 * ((MS.se ((wa, ex, ab, co, X) : MS)) a.toNat)) + (ch - 48)))) (if (MS.se ((wa, ex, ab, co, X) : MS)) a.toNat = 0 then inF (ch - 48) 1 9 else inF (ch - 48) 0 2) 22 a 6 8 = _
  rw [seT, sSeT]
  rfl
theorem tk_22_7 : TKR 22 a 7 ch X (bZ (inF (ch - 48) 0 (if X.se a.toNat = 2 then 2 else 3))) [(22, a, 8)] (X.sSe (updZ X.se a.toNat ((10 * (X.se a.toNat)) + (ch - 48)))) := tk1 fun wa ex ab co => by
  show goF (MS.sSe ((wa, ex, ab, co, X) : MS) (updZ (MS.se ((wa, ex, ab, co, X) : MS)) a.toNat ((10 * ((MS.se ((wa, ex, ab, co, X) : MS)) a.toNat)) + (ch - 48)))) (inF (ch - 48) 0 (if (MS.se ((wa, ex, ab, co, X) : MS)) a.toNat = 2 then 2 else 3)) 22 a 7 8 = _
  rw [seT, sSeT]
  rfl
theorem tk_22_8 : TKR 22 a 8 ch X (bZ (inF (ch - 48) 0 9 && inF (((X.se a.toNat) % 10) * 10 + (ch - 48)) 1 (mML 2000 ((X.se a.toNat) / 10)))) [] (X.sSe (updZ X.se a.toNat ((10 * (X.se a.toNat)) + (ch - 48)))) := tk0 fun wa ex ab co => by
  show goF (MS.sSe ((wa, ex, ab, co, X) : MS) (updZ (MS.se ((wa, ex, ab, co, X) : MS)) a.toNat ((10 * ((MS.se ((wa, ex, ab, co, X) : MS)) a.toNat)) + (ch - 48)))) (inF (ch - 48) 0 9 && inF ((((MS.se ((wa, ex, ab, co, X) : MS)) a.toNat) % 10) * 10 + (ch - 48)) 1 (mML 2000 (((MS.se ((wa, ex, ab, co, X) : MS)) a.toNat) / 10))) 22 a 8 8 = _
  rw [seT, sSeT]
  rfl
theorem tk_22_4 : TKR 22 a 4 ch X (bZ (decide (ch = 45))) [(22, a, 5)] (X.sFi (updZ X.fi a.toNat (X.fi a.toNat))) := tk1 fun wa ex ab co => by
  show goF (MS.sFi ((wa, ex, ab, co, X) : MS) (updZ (MS.fi ((wa, ex, ab, co, X) : MS)) a.toNat ((MS.fi ((wa, ex, ab, co, X) : MS)) a.toNat))) (decide (ch = 45)) 22 a 4 8 = _
  rw [fiT, sFiT]
  rfl
theorem tk_26_0 : TKR 26 a 0 ch X (bZ (decide (ch - 48 = 2))) [(26, a, 1)] X := tk1 fun wa ex ab co => by
  show goF ((wa, ex, ab, co, X) : MS) (decide (ch - 48 = 2)) 26 a 0 8 = _
  rfl
theorem tk_26_1 : TKR 26 a 1 ch X (bZ (decide (ch - 48 = 0))) [(26, a, 2)] X := tk1 fun wa ex ab co => by
  show goF ((wa, ex, ab, co, X) : MS) (decide (ch - 48 = 0)) 26 a 1 8 = _
  rfl
theorem tk_26_2 : TKR 26 a 2 ch X (bZ (decide (ch - 48 = 0))) [(26, a, 3)] X := tk1 fun wa ex ab co => by
  show goF ((wa, ex, ab, co, X) : MS) (decide (ch - 48 = 0)) 26 a 2 8 = _
  rfl
theorem tk_26_4 : TKR 26 a 4 ch X (bZ (decide (ch = 45))) [(26, a, 5)] X := tk1 fun wa ex ab co => by
  show goF ((wa, ex, ab, co, X) : MS) (decide (ch = 45)) 26 a 4 8 = _
  rfl
theorem tk_26_5 : TKR 26 a 5 ch X (bZ (decide (ch - 48 = 2))) [(26, a, 6)] X := tk1 fun wa ex ab co => by
  show goF ((wa, ex, ab, co, X) : MS) (decide (ch - 48 = 2)) 26 a 5 8 = _
  rfl
theorem tk_26_6 : TKR 26 a 6 ch X (bZ (decide (ch - 48 = 0))) [(26, a, 7)] X := tk1 fun wa ex ab co => by
  show goF ((wa, ex, ab, co, X) : MS) (decide (ch - 48 = 0)) 26 a 6 8 = _
  rfl
theorem tk_26_7 : TKR 26 a 7 ch X (bZ (decide (ch - 48 = 0))) [(26, a, 8)] X := tk1 fun wa ex ab co => by
  show goF ((wa, ex, ab, co, X) : MS) (decide (ch - 48 = 0)) 26 a 7 8 = _
  rfl
theorem tk_26_3 : TKR 26 a 3 ch X (bZ (inF (ch - 48) 0 3)) [(26, a, 4)] (X.sFi (updZ X.fi a.toNat (2000 + (ch - 48)))) := tk1 fun wa ex ab co => by
  show goF (MS.sFi ((wa, ex, ab, co, X) : MS) (updZ (MS.fi ((wa, ex, ab, co, X) : MS)) a.toNat (2000 + (ch - 48)))) (inF (ch - 48) 0 3) 26 a 3 8 = _
  rw [fiT, sFiT]
  rfl
theorem tk_26_8 : TKR 26 a 8 ch X (bZ (inF (ch - 48) ((X.fi a.toNat) - 2000) 3)) [] (X.sSe (updZ X.se a.toNat (2000 + (ch - 48)))) := tk0 fun wa ex ab co => by
  show goF (MS.sSe ((wa, ex, ab, co, X) : MS) (updZ (MS.se ((wa, ex, ab, co, X) : MS)) a.toNat (2000 + (ch - 48)))) (inF (ch - 48) (((MS.fi ((wa, ex, ab, co, X) : MS)) a.toNat) - 2000) 3) 26 a 8 8 = _
  rw [fiT, seT, sSeT]
  rfl
theorem tk_23 : TKR 23 a 0 ch X (bZ (inF (ch - 48) 0 1)) [] (X.sFi (updZ X.fi a.toNat (ch - 48))) := tk0 fun wa ex ab co => by
  show goF (MS.sFi ((wa, ex, ab, co, X) : MS) (updZ (MS.fi ((wa, ex, ab, co, X) : MS)) a.toNat (ch - 48))) (inF (ch - 48) 0 1) 23 a 0 0 = _
  rw [fiT, sFiT]
  rfl
theorem tk_25_0 : TKR 25 a 0 ch X (bZ (decide (ch = 43 ∨ ch = 45))) [(25, a, 1)] (X.sSe (updZ X.se a.toNat (if ch = 45 then -1 else 1))) := tk1 fun wa ex ab co => by
  show goF (MS.sSe ((wa, ex, ab, co, X) : MS) (updZ (MS.se ((wa, ex, ab, co, X) : MS)) a.toNat (if ch = 45 then -1 else 1))) (decide (ch = 43 ∨ ch = 45)) 25 a 0 2 = _
  rw [seT, sSeT]
  rfl
theorem tk_25_1 : TKR 25 a 1 ch X (bZ (inF (ch - 48) 0 9)) [(25, a, 2)] (X.sFi (updZ X.fi a.toNat ((10 * (X.fi a.toNat)) + (ch - 48)))) := tk1 fun wa ex ab co => by
  show goF (MS.sFi ((wa, ex, ab, co, X) : MS) (updZ (MS.fi ((wa, ex, ab, co, X) : MS)) a.toNat ((10 * ((MS.fi ((wa, ex, ab, co, X) : MS)) a.toNat)) + (ch - 48)))) (inF (ch - 48) 0 9) 25 a 1 2 = _
  rw [fiT, sFiT]
  rfl
theorem tk_25_2 : TKR 25 a 2 ch X (bZ (inF (ch - 48) 0 9)) [] (X.sFi (updZ X.fi a.toNat ((10 * (X.fi a.toNat)) + (ch - 48)))) := tk0 fun wa ex ab co => by
  show goF (MS.sFi ((wa, ex, ab, co, X) : MS) (updZ (MS.fi ((wa, ex, ab, co, X) : MS)) a.toNat ((10 * ((MS.fi ((wa, ex, ab, co, X) : MS)) a.toNat)) + (ch - 48)))) (inF (ch - 48) 0 9) 25 a 2 2 = _
  rw [fiT, sFiT]
  rfl
theorem tk_21_0 : TKR 21 a 0 ch X (bZ (decide (ch = 76) || inF (ch - 48) 1 5)) [(21, a, 1)] (X.sFi (updZ X.fi a.toNat (if ch = 76 then 9 else ch - 48))) := tk1 fun wa ex ab co => by
  show goF (MS.sFi ((wa, ex, ab, co, X) : MS) (updZ (MS.fi ((wa, ex, ab, co, X) : MS)) a.toNat (if ch = 76 then 9 else ch - 48))) (decide (ch = 76) || inF (ch - 48) 1 5) 21 a 0 1 = _
  rw [fiT, sFiT]
  rfl
theorem tk_21_1 : TKR 21 a 1 ch X (bZ (inF (ch - 48) 1 7)) [] (X.sSe (updZ X.se a.toNat (ch - 48))) := tk0 fun wa ex ab co => by
  show goF (MS.sSe ((wa, ex, ab, co, X) : MS) (updZ (MS.se ((wa, ex, ab, co, X) : MS)) a.toNat (ch - 48))) (inF (ch - 48) 1 7) 21 a 1 1 = _
  rw [seT, sSeT]
  rfl
theorem tk_24_0 : TKR 24 a 0 ch X (bZ ((inF (ch - 48) 0 9) && decide ((0 : Int) = 0 ∨ 0 < 10 * X.fi a.toNat + (ch - 48)))) [(24, a, 1)] (X.sFi (updZ X.fi a.toNat ((10 * (X.fi a.toNat)) + (ch - 48)))) := tk1 fun wa ex ab co => by
  show goF (MS.sFi ((wa, ex, ab, co, X) : MS) (updZ (MS.fi ((wa, ex, ab, co, X) : MS)) a.toNat ((10 * ((MS.fi ((wa, ex, ab, co, X) : MS)) a.toNat)) + (ch - 48)))) ((inF (ch - 48) 0 9) && decide ((0 : Int) = 0 ∨ 0 < 10 * (MS.fi ((wa, ex, ab, co, X) : MS)) a.toNat + (ch - 48))) 24 a 0 3 = _
  rw [fiT, sFiT]
  rfl
theorem tk_24_1 : TKR 24 a 1 ch X (bZ ((inF (ch - 48) 0 9) && decide ((1 : Int) = 0 ∨ 0 < 10 * X.fi a.toNat + (ch - 48)))) [(24, a, 2)] (X.sFi (updZ X.fi a.toNat ((10 * (X.fi a.toNat)) + (ch - 48)))) := tk1 fun wa ex ab co => by
  show goF (MS.sFi ((wa, ex, ab, co, X) : MS) (updZ (MS.fi ((wa, ex, ab, co, X) : MS)) a.toNat ((10 * ((MS.fi ((wa, ex, ab, co, X) : MS)) a.toNat)) + (ch - 48)))) ((inF (ch - 48) 0 9) && decide ((1 : Int) = 0 ∨ 0 < 10 * (MS.fi ((wa, ex, ab, co, X) : MS)) a.toNat + (ch - 48))) 24 a 1 3 = _
  rw [fiT, sFiT]
  rfl
theorem tk_24_2 : TKR 24 a 2 ch X (bZ ((inF (ch - 48) 0 9) && decide ((if (2 : Int) = 2 then 10 * (ch - 48) else X.se a.toNat + (ch - 48)) < X.fi a.toNat))) [(24, a, 3)] (X.sSe (updZ X.se a.toNat (if (2 : Int) = 2 then 10 * (ch - 48) else X.se a.toNat + (ch - 48)))) := tk1 fun wa ex ab co => by
  show goF (MS.sSe ((wa, ex, ab, co, X) : MS) (updZ (MS.se ((wa, ex, ab, co, X) : MS)) a.toNat (if (2 : Int) = 2 then 10 * (ch - 48) else (MS.se ((wa, ex, ab, co, X) : MS)) a.toNat + (ch - 48)))) ((inF (ch - 48) 0 9) && decide ((if (2 : Int) = 2 then 10 * (ch - 48) else (MS.se ((wa, ex, ab, co, X) : MS)) a.toNat + (ch - 48)) < (MS.fi ((wa, ex, ab, co, X) : MS)) a.toNat)) 24 a 2 3 = _
  rw [fiT, seT, sSeT]
  rfl
theorem tk_24_3 : TKR 24 a 3 ch X (bZ ((inF (ch - 48) 0 9) && decide ((if (3 : Int) = 2 then 10 * (ch - 48) else X.se a.toNat + (ch - 48)) < X.fi a.toNat))) [] (X.sSe (updZ X.se a.toNat (if (3 : Int) = 2 then 10 * (ch - 48) else X.se a.toNat + (ch - 48)))) := tk0 fun wa ex ab co => by
  show goF (MS.sSe ((wa, ex, ab, co, X) : MS) (updZ (MS.se ((wa, ex, ab, co, X) : MS)) a.toNat (if (3 : Int) = 2 then 10 * (ch - 48) else (MS.se ((wa, ex, ab, co, X) : MS)) a.toNat + (ch - 48)))) ((inF (ch - 48) 0 9) && decide ((if (3 : Int) = 2 then 10 * (ch - 48) else (MS.se ((wa, ex, ab, co, X) : MS)) a.toNat + (ch - 48)) < (MS.fi ((wa, ex, ab, co, X) : MS)) a.toNat)) 24 a 3 3 = _
  rw [fiT, seT, sSeT]
  rfl
theorem tk_20t {c : Int} (h : inF (ch - 48) (X.se a.toNat + 1) 7 = true) : TKR 20 a c ch X 1 [(20, a, 1)] ((X.sFi (updZ X.fi a.toNat (orb (X.fi a.toNat) (ch - 48)))).sSe (updZ X.se a.toNat (ch - 48))) := tk1 fun wa ex ab co => by
  show (if inF (ch - 48) (MS.se ((wa, ex, ab, co, X) : MS) a.toNat + 1) 7 = true then (1, pushF (MS.sSe (MS.sFi ((wa, ex, ab, co, X) : MS) (updZ (MS.fi ((wa, ex, ab, co, X) : MS)) a.toNat (orb (MS.fi ((wa, ex, ab, co, X) : MS) a.toNat) (ch - 48)))) (updZ (MS.se ((wa, ex, ab, co, X) : MS)) a.toNat (ch - 48))) 20 a 1) else ((if c = 0 then 0 else 2), ((wa, ex, ab, co, X) : MS))) = _
  rw [fiT, seT, sFiT, sSeT, if_pos h]
theorem tk_20f {c : Int} (h : inF (ch - 48) (X.se a.toNat + 1) 7 = false) : TKR 20 a c ch X (if c = 0 then 0 else 2) [] X := tk0 fun wa ex ab co => by
  show (if inF (ch - 48) (MS.se ((wa, ex, ab, co, X) : MS) a.toNat + 1) 7 = true then (1, pushF (MS.sSe (MS.sFi ((wa, ex, ab, co, X) : MS) (updZ (MS.fi ((wa, ex, ab, co, X) : MS)) a.toNat (orb (MS.fi ((wa, ex, ab, co, X) : MS) a.toNat) (ch - 48)))) (updZ (MS.se ((wa, ex, ab, co, X) : MS)) a.toNat (ch - 48))) 20 a 1) else ((if c = 0 then 0 else 2), ((wa, ex, ab, co, X) : MS))) = _
  rw [seT, if_neg (by rw [h]; decide)]
theorem tk_4_0 : TKR 4 0 0 ch X (bZ (inF (ch - 48) 0 2)) [(4, 0, 1)] (X.sNb (updZ X.nb (X.rr - 1).toNat (20 * (ch - 48)))) := tk1 fun wa ex ab co => by
  show (bZ (inF (ch - 48) 0 2), pushF (MS.sNb ((wa, ex, ab, co, X) : MS) (updZ (MS.nb ((wa, ex, ab, co, X) : MS)) ((MS.rr ((wa, ex, ab, co, X) : MS)) - 1).toNat (20 * (ch - 48)))) 4 0 1) = _
  rw [rrT, nbT, sNbT]
theorem tk_4_1 : TKR 4 0 1 ch X (bZ (inF (ch - 48) 0 (if 40 ≤ X.nb (X.rr - 1).toNat then 3 else 9))) [(4, 0, 2)] (X.sNb (updZ X.nb (X.rr - 1).toNat (X.nb (X.rr - 1).toNat + 2 * (ch - 48)))) := tk1 fun wa ex ab co => by
  show (bZ (inF (ch - 48) 0 (if 40 ≤ (MS.nb ((wa, ex, ab, co, X) : MS)) ((MS.rr ((wa, ex, ab, co, X) : MS)) - 1).toNat then 3 else 9)), pushF (MS.sNb ((wa, ex, ab, co, X) : MS) (updZ (MS.nb ((wa, ex, ab, co, X) : MS)) ((MS.rr ((wa, ex, ab, co, X) : MS)) - 1).toNat ((MS.nb ((wa, ex, ab, co, X) : MS)) ((MS.rr ((wa, ex, ab, co, X) : MS)) - 1).toNat + 2 * (ch - 48)))) 4 0 2) = _
  rw [rrT, nbT, sNbT]
theorem tk_4_2 : TKR 4 0 2 ch X (bZ (decide (ch - 48 = 0 ∨ (ch - 48 = 3 ∧ X.nb (X.rr - 1).toNat < 48)))) [(4, 0, 3)] (X.sNb (updZ X.nb (X.rr - 1).toNat (if ch - 48 = 3 then X.nb (X.rr - 1).toNat + 1 else X.nb (X.rr - 1).toNat))) := tk1 fun wa ex ab co => by
  show (bZ (decide (ch - 48 = 0 ∨ (ch - 48 = 3 ∧ (MS.nb ((wa, ex, ab, co, X) : MS)) ((MS.rr ((wa, ex, ab, co, X) : MS)) - 1).toNat < 48))), pushF (MS.sNb ((wa, ex, ab, co, X) : MS) (updZ (MS.nb ((wa, ex, ab, co, X) : MS)) ((MS.rr ((wa, ex, ab, co, X) : MS)) - 1).toNat (if ch - 48 = 3 then (MS.nb ((wa, ex, ab, co, X) : MS)) ((MS.rr ((wa, ex, ab, co, X) : MS)) - 1).toNat + 1 else (MS.nb ((wa, ex, ab, co, X) : MS)) ((MS.rr ((wa, ex, ab, co, X) : MS)) - 1).toNat))) 4 0 3) = _
  rw [rrT, nbT, sNbT]
theorem tk_4_3 : TKR 4 0 3 ch X (bZ (decide (ch - 48 = 0))) [(4, 0, 4)] (X.sNb (updZ X.nb (X.rr - 1).toNat (X.nb (X.rr - 1).toNat))) := tk1 fun wa ex ab co => by
  show (bZ (decide (ch - 48 = 0)), pushF (MS.sNb ((wa, ex, ab, co, X) : MS) (updZ (MS.nb ((wa, ex, ab, co, X) : MS)) ((MS.rr ((wa, ex, ab, co, X) : MS)) - 1).toNat ((MS.nb ((wa, ex, ab, co, X) : MS)) ((MS.rr ((wa, ex, ab, co, X) : MS)) - 1).toNat))) 4 0 4) = _
  rw [rrT, nbT, sNbT]
theorem tk_4_4 : TKR 4 0 4 ch X (bZ (decide (ch = 45))) [(4, 0, 5)] (X.sNe (updZ X.ne (X.rr - 1).toNat (0))) := tk1 fun wa ex ab co => by
  show (bZ (decide (ch = 45)), pushF (MS.sNe ((wa, ex, ab, co, X) : MS) (updZ (MS.ne ((wa, ex, ab, co, X) : MS)) ((MS.rr ((wa, ex, ab, co, X) : MS)) - 1).toNat (0))) 4 0 5) = _
  rw [rrT, neT, sNeT]
theorem tk_4_5 : TKR 4 0 5 ch X (bZ (inF (ch - 48) 0 2)) [(4, 0, 6)] (X.sNe (updZ X.ne (X.rr - 1).toNat (20 * (ch - 48)))) := tk1 fun wa ex ab co => by
  show (bZ (inF (ch - 48) 0 2), pushF (MS.sNe ((wa, ex, ab, co, X) : MS) (updZ (MS.ne ((wa, ex, ab, co, X) : MS)) ((MS.rr ((wa, ex, ab, co, X) : MS)) - 1).toNat (20 * (ch - 48)))) 4 0 6) = _
  rw [rrT, neT, sNeT]
theorem tk_4_6 : TKR 4 0 6 ch X (bZ (inF (ch - 48) 0 (if 40 ≤ X.ne (X.rr - 1).toNat then 4 else 9))) [(4, 0, 7)] (X.sNe (updZ X.ne (X.rr - 1).toNat (X.ne (X.rr - 1).toNat + 2 * (ch - 48)))) := tk1 fun wa ex ab co => by
  show (bZ (inF (ch - 48) 0 (if 40 ≤ (MS.ne ((wa, ex, ab, co, X) : MS)) ((MS.rr ((wa, ex, ab, co, X) : MS)) - 1).toNat then 4 else 9)), pushF (MS.sNe ((wa, ex, ab, co, X) : MS) (updZ (MS.ne ((wa, ex, ab, co, X) : MS)) ((MS.rr ((wa, ex, ab, co, X) : MS)) - 1).toNat ((MS.ne ((wa, ex, ab, co, X) : MS)) ((MS.rr ((wa, ex, ab, co, X) : MS)) - 1).toNat + 2 * (ch - 48)))) 4 0 7) = _
  rw [rrT, neT, sNeT]
theorem tk_4_7 : TKR 4 0 7 ch X (bZ (decide (ch - 48 = 0 ∨ (ch - 48 = 3 ∧ X.ne (X.rr - 1).toNat < 48)) && decide (¬ ((if ch - 48 = 3 then X.ne (X.rr - 1).toNat + 1 else X.ne (X.rr - 1).toNat) = X.nb (X.rr - 1).toNat)))) [(4, 0, 8)] (X.sNe (updZ X.ne (X.rr - 1).toNat (if ch - 48 = 3 then X.ne (X.rr - 1).toNat + 1 else X.ne (X.rr - 1).toNat))) := tk1 fun wa ex ab co => by
  show (bZ (decide (ch - 48 = 0 ∨ (ch - 48 = 3 ∧ (MS.ne ((wa, ex, ab, co, X) : MS)) ((MS.rr ((wa, ex, ab, co, X) : MS)) - 1).toNat < 48)) && decide (¬ ((if ch - 48 = 3 then (MS.ne ((wa, ex, ab, co, X) : MS)) ((MS.rr ((wa, ex, ab, co, X) : MS)) - 1).toNat + 1 else (MS.ne ((wa, ex, ab, co, X) : MS)) ((MS.rr ((wa, ex, ab, co, X) : MS)) - 1).toNat) = (MS.nb ((wa, ex, ab, co, X) : MS)) ((MS.rr ((wa, ex, ab, co, X) : MS)) - 1).toNat))), pushF (MS.sNe ((wa, ex, ab, co, X) : MS) (updZ (MS.ne ((wa, ex, ab, co, X) : MS)) ((MS.rr ((wa, ex, ab, co, X) : MS)) - 1).toNat (if ch - 48 = 3 then (MS.ne ((wa, ex, ab, co, X) : MS)) ((MS.rr ((wa, ex, ab, co, X) : MS)) - 1).toNat + 1 else (MS.ne ((wa, ex, ab, co, X) : MS)) ((MS.rr ((wa, ex, ab, co, X) : MS)) - 1).toNat))) 4 0 8) = _
  rw [rrT, nbT, neT, sNeT]
theorem tk_4_8 : TKR 4 0 8 ch X (bZ (decide (ch - 48 = 0))) [] (X.sNe (updZ X.ne (X.rr - 1).toNat (X.ne (X.rr - 1).toNat))) := tk0 fun wa ex ab co => by
  show (bZ (decide (ch - 48 = 0)), MS.sNe ((wa, ex, ab, co, X) : MS) (updZ (MS.ne ((wa, ex, ab, co, X) : MS)) ((MS.rr ((wa, ex, ab, co, X) : MS)) - 1).toNat ((MS.ne ((wa, ex, ab, co, X) : MS)) ((MS.rr ((wa, ex, ab, co, X) : MS)) - 1).toNat))) = _
  rw [rrT, neT, sNeT]
end TKA
