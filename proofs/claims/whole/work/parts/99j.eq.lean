theorem kp_sSe_cl (Y : RT) (v : Nat → Int) : (Y.sSe v).cl = Y.cl := rfl
theorem kp_sFi_cl (Y : RT) (v : Nat → Int) : (Y.sFi v).cl = Y.cl := rfl
theorem kp_sKd_cl (Y : RT) (v : Nat → Int) : (Y.sKd v).cl = Y.cl := rfl
theorem kp_at_cl (Y : RT) (j : Nat) (f g : Int) : (Y.at j f g).cl = Y.cl := rfl
theorem kp_sSe_an (Y : RT) (v : Nat → Int) : (Y.sSe v).an = Y.an := rfl
theorem kp_sFi_an (Y : RT) (v : Nat → Int) : (Y.sFi v).an = Y.an := rfl
theorem kp_sKd_an (Y : RT) (v : Nat → Int) : (Y.sKd v).an = Y.an := rfl
theorem kp_at_an (Y : RT) (j : Nat) (f g : Int) : (Y.at j f g).an = Y.an := rfl
theorem kp_sAn_cl (Y : RT) (v : Int) : (Y.sAn v).cl = Y.cl := rfl
theorem kp_sAn_an (Y : RT) (v : Int) : (Y.sAn v).an = v := rfl
theorem kp_emit_cl (Y : RT) (v : Int) : (Y.emit v).cl = Y.cl + 1 := rfl
theorem kp_atom_cl (Y : RT) (k : Int) : (Y.atom k).cl = Y.cl + 1 := by
  unfold RT.atom
  rw [kp_sAn_cl, kp_emit_cl, kp_sSe_cl, kp_sFi_cl, kp_sKd_cl]
theorem kp_atom_an (Y : RT) (k : Int) : (Y.atom k).an = Y.an + 1 := by
  unfold RT.atom
  rw [kp_sAn_an]
theorem atom_st {X : RT} {c0 : Nat} {V : Nat → List Bool} {kd f1 s1 k fm sm : Int} (h : EVI X c0 V) (hA : X.an ≤ 58) (hR : ATR kd f1 s1 k fm sm) (hl : ∀ d, (V d).length ≤ 8) : EXT X ((X.atom k).at X.an.toNat fm sm) ∧ ((X.atom k).at X.an.toNat fm sm).cl = X.cl + 1 ∧ ((X.atom k).at X.an.toNat fm sm).an = X.an + 1 ∧ EVI ((X.atom k).at X.an.toNat fm sm) c0 (fun d => atM kd f1 s1 d :: V d) :=
  ⟨EXT.at X k fm sm h.1.1 h.1.2.1, (kp_at_cl _ _ _ _).trans (kp_atom_cl X k), (kp_at_an _ _ _ _).trans (kp_atom_an X k), h.at hA hR hl⟩
section MTE
variable {tx : Nat → Int} {n : Nat} {res : Int} {Z : RT → Prop} {c0 : Nat} {L0 : List SI} {X0 : RT}
theorem nots_s (k : Nat) (M : List SI) : nots k ++ (16, 102, 0) :: M = nots (k + 1) ++ M := by
  unfold nots
  rw [List.replicate_succ', List.append_assoc]
  rfl
/-- the NOTs before an operand -/
theorem nt_go (htx : ∀ j, 0 ≤ tx j ∧ tx j ≤ 126) {a : Int} (ha : 0 ≤ a ∧ a ≤ 4) : ∀ (k p : Nat) (b : Bool), p ≤ n → n - p ≤ k → ∃ nn q : Nat, ntF tx n k (p : Int) b = ((b != decide (nn % 2 = 1)), (q : Int)) ∧ q = p + nn ∧ q ≤ n ∧ ¬ chT tx n q = 33 ∧ ∀ (M : List SI) (X : RT), M.length + nn ≤ 289 → BX X → RL tx n res Z q ((14, a, 0) :: (nots nn ++ M)) X → RL tx n res Z p ((14, a, 0) :: M) X
  | 0, p, b, hp, hk => ⟨0, p, by rw [decide_eq_false (by decide)]; cases b <;> rfl, rfl, hp, by
      rcases chT_c tx n p with ⟨h, _⟩ | ⟨_, h⟩
      · omega
      · rw [h]; decide, fun M X _ _ h => h⟩
  | k + 1, p, b, hp, hk => by
    by_cases c : chT tx n p = 33
    · have hl := chT_n (tx := tx) (n := n) (p := p) (by omega)
      obtain ⟨nn, q, h1, h2, h3, h4, h5⟩ := nt_go htx ha k (p + 1) (!b) (by omega) (by omega)
      refine ⟨nn + 1, q, ?_, by omega, h3, h4, fun M X hM hB h => ?_⟩
      · rw [ntF_s (by rw [tk_t c (by decide)]), tk_t c (by decide)]
        show ntF tx n k ((p + 1 : Nat) : Int) (!b) = _
        rw [h1]
        congr 1
        by_cases hh : nn % 2 = 1
        · rw [decide_eq_true hh, decide_eq_false (by omega)]; cases b <;> rfl
        · rw [decide_eq_false hh, decide_eq_true (by omega)]; cases b <;> rfl
      · have hT := tk_14n (a := a) (X := X)
        rw [← c] at hT
        refine RL_1 htx (by omega) hB (IX.lo (by decide) (by omega) (by decide)) hT hl ?_
        show RL tx n res Z (p + 1) ((14, a, 0) :: ((16, 102, 0) :: M)) X
        refine h5 _ X (by rw [List.length_cons]; omega) hB ?_
        rw [nots_s]
        exact h
    · refine ⟨0, p, ?_, rfl, hp, c, fun M X _ _ h => h⟩
      rw [ntF_e (by rw [tk_f c]), tk_f c, decide_eq_false (by decide)]
      cases b <;> rfl
theorem updB_y {g : Nat → Bool} {i : Nat} {b : Bool} : updB g i b i = b := if_pos rfl
theorem updB_n {g : Nat → Bool} {i j : Nat} {b : Bool} (h : ¬ j = i) : updB g i b j = g j := if_neg h
theorem mt_main (htx : ∀ j, 0 ≤ tx j ∧ tx j ≤ 126) (hn : n ≤ 100) (hL0 : L0.length ≤ 10) : ∀ k, MAIN tx n res Z L0 X0 c0 k
  | 0 => fun f r p Y E ng X kd f1 s1 gd hr hp hk => by omega
  | k + 1 => by
    intro f r p Y E ng X kd f1 s1 gd hr hp hk hO hX hB hcl han hE
    have hM := mt_main htx hn hL0 k
    have h0 := hB.2.1.1
    have h0a := hB.2.2.1.1
    have hS := STK_l (L0 := L0) (f :: r)
    rw [List.length_cons] at hS
    have hem : EMS (f :: r) = f.1.toNat + f.2.1.toNat + (if r = [] then 0 else f.2.2) + EMS r := rfl
    obtain ⟨nn, q, e1, e2, e3, e4, e5⟩ := nt_go (res := res) (Z := Z) htx (a := (r.length : Int) + 1) (by omega) 100 p false hp (by omega)
    have e1 : ntF tx n 100 (p : Int) false = (decide (nn % 2 = 1), (q : Int)) := by
      rw [e1]; cases decide (nn % 2 = 1) <;> rfl
    by_cases c1 : r.length + 1 < 4 ∧ chT tx n q = 40
    · obtain ⟨c1, c2⟩ := c1
      have hl := chT_n (tx := tx) (n := n) (p := q) (by omega)
      rw [mtF_o c1 (by rw [e1]; show (tkF tx n (q : Int) 40).1 = true; rw [tk_t c2 (by decide)]), e1]
      dsimp only
      rw [tk_t c2 (by decide)]
      have cg : ∀ i, i < (f :: r).length → up2 Y (r.length + 1) zW i = Y i ∧ up2 E (r.length + 1) fW i = E i := fun i hi => by
        rw [List.length_cons] at hi
        exact ⟨up2_n (by omega), up2_n (by omega)⟩
      refine (hM (false, false, nn) (f :: r) (q + 1) (up2 Y (r.length + 1) zW) (up2 E (r.length + 1) fW) (updB ng (r.length + 1) (decide (nn % 2 = 1))) X kd f1 s1 gd (by rw [List.length_cons]; omega) (by omega) (by omega) ⟨fun _ d _ => ?_, fun _ d _ => ?_, fun _ => updB_y, OKF_c (f :: r) (fun i hi => ⟨(cg i hi).1, (cg i hi).2, updB_n (by rw [List.length_cons] at hi; omega)⟩) hO⟩ hX hB ?_ (by omega) (hE.cg (fun d hd => ?_))).imp (fun h => e5 _ X (by omega) hB ?_)
      · show dsb (up2 E (r.length + 1) fW (r.length + 1)) d = true
        rw [up2_y]; exact dsb_fW
      · show dsb (up2 Y (r.length + 1) zW (r.length + 1)) d = false
        rw [up2_y]; exact dsb_zW
      · show X.cl + ((false.toNat + false.toNat + (if (f :: r) = [] then 0 else nn) + EMS (f :: r) : Nat) : Int) ≤ ((q + 1 : Nat) : Int)
        rw [if_neg (by exact List.cons_ne_nil f r)]
        have : false.toNat = 0 := rfl
        omega
      · show _ = opB false _ ++ (opB false _ ++ BTS (up2 Y (r.length + 1) zW) (up2 E (r.length + 1) fW) d (f :: r))
        rw [BTS_c (f :: r) cg]
        rfl
      · have hT := tk_14o (a := (r.length : Int) + 1) (X := X)
        rw [← c2, if_neg (by omega)] at hT
        refine RL_1 htx (by rw [List.length_append, nots_l]; omega) hB (IX.lo (by decide) (by omega) (by decide)) hT hl ?_
        have ea : (r.length : Int) + 1 + 1 = ((f :: r).length : Int) + 1 := by rw [List.length_cons]; omega
        rw [ea]
        refine RL_2 htx (by show (_ :: _ : List SI).length ≤ 296; rw [List.length_cons]; show (nots nn ++ STK L0 (f :: r)).length + 1 ≤ 296; rw [List.length_append, nots_l]; omega) hB (IX.lo (by decide) (by rw [List.length_cons]; omega) (by decide)) tk_10 ?_
        refine RL_2 htx (by show (_ :: _ :: _ : List SI).length ≤ 296; rw [List.length_cons, List.length_cons]; show (nots nn ++ STK L0 (f :: r)).length + 1 + 1 ≤ 296; rw [List.length_append, nots_l]; omega) hB (IX.lo (by decide) (by rw [List.length_cons]; omega) (by decide)) tk_12 h
    · have em : mtF tx n (k + 1) r.length (p : Int) Y E ng kd f1 s1 gd = mtB tx n (mtF tx n k) r.length (raF tx n (q : Int) kd f1 s1) (decide (nn % 2 = 1)) Y E ng gd := by
        by_cases c2 : r.length + 1 < 4
        · have c3 : ¬ chT tx n q = 40 := fun h => c1 ⟨c2, h⟩
          rw [mtF_a2 c2 (by rw [e1]; show (tkF tx n (q : Int) 40).1 = false; rw [tk_f c3]), e1]
          dsimp only
          rw [tk_f c3]
        · rw [mtF_a1 c2, e1]
      rw [em]
      have hLn : (nots nn ++ STK L0 (f :: r)).length ≤ 230 := by rw [List.length_append, nots_l]; omega
      obtain ⟨k1, k2⟩ := al_A (p := q) (a := (r.length : Int) + 1) (L := nots nn ++ STK L0 (f :: r)) (X := X) (res := res) (Z := Z) (kd := kd) (f1 := f1) (s1 := s1) htx hn (by omega) hB (by omega) (by omega) (by omega) e4 (fun h => by
        by_cases c2 : r.length + 1 < 4
        · exact absurd ⟨c2, h⟩ c1
        · omega)
      have hbd := raF_bd (tx := tx) (n := n) (pl := (q : Int)) (kd := kd) (f1 := f1) (s1 := s1) hn (by omega)
      unfold mtB
      by_cases c2 : (raF tx n (q : Int) kd f1 s1).1 = true
      · rw [if_pos c2]
        obtain ⟨p', hp'⟩ : ∃ p' : Nat, (raF tx n (q : Int) kd f1 s1).2.1 = (p' : Int) := ⟨(raF tx n (q : Int) kd f1 s1).2.1.toNat, by omega⟩
        obtain ⟨k3, k4⟩ := k2 c2 p' hp'
        have hpn : p' ≤ n := by omega
        rw [hp']
        generalize (raF tx n (q : Int) kd f1 s1).2.2.1 = ka at k4 ⊢
        generalize (raF tx n (q : Int) kd f1 s1).2.2.2.1 = fa at k4 ⊢
        generalize (raF tx n (q : Int) kd f1 s1).2.2.2.2 = sa at k4 ⊢
        obtain ⟨o1, o2, o3, o4⟩ := hO
        have hW : ∀ d, (BTS Y E d (f :: r)).length ≤ 8 := fun d => by
          have := BTS_l (Y := Y) (E := E) (d := d) (f :: r)
          rw [List.length_cons] at this
          omega
        have En : ∀ i, i < r.length → up2 E r.length (dsKeep (E r.length) (clF (atM ka fa sa) 1461) (decide (nn % 2 = 1)) 23) i = E i := fun i hi => up2_n (by omega)
        have fin : (∀ X', EXT X X' → BX X' → X'.cl = X.cl + 1 + nn + f.1.toNat → X'.an = X.an + 1 → EVI X' c0 (fun d => (dsb (E r.length) d && (atM ka fa sa d != decide (nn % 2 = 1))) :: (opB f.2.1 (dsb (Y r.length) d) ++ BTS Y E d r)) → RL tx n res Z p' (tlS ((r.length : Int) + 1) f.2.1 (undS L0 f.2.2 (STK L0 r) r)) X') → RL tx n res Z p ((14, (r.length : Int) + 1, 0) :: STK L0 (f :: r)) X := by
          intro h
          refine e5 _ X (by omega) hB (k4 (fun kk fm sm hR => ?_))
          obtain ⟨x1, hcl1, han1, hE1⟩ := atom_st (kd := ka) (f1 := fa) (s1 := sa) hE hB.2.2.1.2 hR hW
          generalize (X.atom kk).at X.an.toNat fm sm = X1 at x1 hcl1 han1 hE1 ⊢
          have hB1 : BX X1 := BX_ext hB x1 (by omega) (by omega)
          refine od_n htx nn X1 _ _ (by rw [List.length_append, nots_l] at hLn; omega) hB1 (by omega) hW hE1 (fun X2 a1 a2 a3 a4 a5 => ?_)
          refine od_a htx (ha := f.1) (e := fun d => dsb (E r.length) d) (W := fun d => opB f.2.1 (dsb (Y r.length) d) ++ BTS Y E d r) (by
            have h3 : (nots nn ++ (opA f.1 ++ tlS ((r.length : Int) + 1) f.2.1 (undS L0 f.2.2 (STK L0 r) r))).length ≤ 230 := hLn
            rw [List.length_append, List.length_append] at h3
            omega) a2 (by omega) (fun d => ?_) o1 a5 (fun X3 b1 b2 b3 b4 b5 => ?_)
          · have h4 := BTS_l (Y := Y) (E := E) (d := d) r
            have := Bool.toNat_le f.2.1
            rw [List.length_append, opB_l]
            omega
          · exact h X3 ((x1.tr a1).tr b1) b2 (by omega) (by omega) b5
        have mn : ∀ X', EXT X X' → BX X' → X'.cl = X.cl + 1 + nn + f.1.toNat → X'.an = X.an + 1 → EVI X' c0 (fun d => (dsb (E r.length) d && (atM ka fa sa d != decide (nn % 2 = 1))) :: (opB f.2.1 (dsb (Y r.length) d) ++ BTS Y E d r)) → CON tx n res Z L0 X0 c0 p' (tlS ((r.length : Int) + 1) f.2.1 (undS L0 f.2.2 (STK L0 r) r)) X' (mtC tx n (mtF tx n k) (clM tx n ng r.length (p' : Int) Y (up2 E r.length (dsKeep (E r.length) (clF (atM ka fa sa) 1461) (decide (nn % 2 = 1)) 23))) ng ka fa sa (clF (atM ka fa sa) 1461)) := by
          intro X' y1 y2 y3 y4 y5
          refine mt_post htx hn hL0 hM r f.2.1 f.2.2 p' Y _ ng X' ka fa sa _ hr hpn (by omega) o2 o3 (OKF_c r (fun i hi => ⟨rfl, En i hi, rfl⟩) o4) (hX.tr y1) y2 (by omega) (by omega) (y5.cg (fun d hd => ?_)) (by have := hE.1.2.2; omega)
          rw [up2_y, dsb_keep (by omega), dsb_clF hd, BTS_c r (fun i hi => ⟨rfl, En i hi⟩)]
        exact ⟨fun h1 h2 h3 => fin (fun X' y1 y2 y3 y4 y5 => (mn X' y1 y2 y3 y4 y5).1 h1 h2 h3), fun h1 p' h2 h3 => fin (fun X' y1 y2 y3 y4 y5 => (mn X' y1 y2 y3 y4 y5).2 h1 p' h2 h3)⟩
      · rw [if_neg c2]
        exact ⟨fun _ hr2 hz => e5 _ X (by omega) hB (k1 (Bool.eq_false_iff.mpr c2) hr2 hz), fun h => bft h⟩
end MTE
