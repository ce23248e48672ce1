/-- what the model's code works out for a day, as a number of bits, the last one lowest -/
def encN : List Bool → Nat
  | [] => 0
  | b :: bs => 2 * encN bs + b.toNat
theorem encN_lt : ∀ bs : List Bool, encN bs < 2 ^ bs.length
  | [] => by decide
  | b :: bs => by
    have := encN_lt bs
    have hb : b.toNat ≤ 1 := Bool.toNat_le b
    show 2 * encN bs + b.toNat < 2 ^ (bs.length + 1)
    rw [Nat.pow_succ]
    omega
theorem encN_bd {bs : List Bool} (h : bs.length ≤ 9) : encN bs < 512 := Nat.lt_of_lt_of_le (encN_lt bs) (Nat.pow_le_pow_right (by decide) h)
def ckO : Bool := (List.range 512).all fun n =>
  decide (iI (n : Int) ^^^ iI 1 = iI ((n / 2 * 2 + (1 - n % 2) : Nat) : Int)) &&
  decide ((iI (n : Int) >>> (iI 1 &&& 31)) &&& ((iI (n : Int) &&& iI 1) ||| iI (-2)) = iI (((if n % 2 = 1 then n / 2 else n / 4 * 2) : Nat) : Int)) &&
  decide ((iI (n : Int) >>> (iI 1 &&& 31)) ||| (iI (n : Int) &&& iI 1) = iI (((if n % 2 = 1 then n / 4 * 2 + 1 else n / 2) : Nat) : Int)) &&
  decide (iI 2 * iI (n : Int) + bI true = iI ((2 * n + 1 : Nat) : Int)) &&
  decide (iI 2 * iI (n : Int) + bI false = iI ((2 * n + 0 : Nat) : Int)) &&
  decide (decide (iI (n : Int) &&& iI 1 = iI 1) = decide (n % 2 = 1))
theorem ckO_t : ckO = true := by decide +kernel
theorem ck_at {n : Nat} (h : n < 512) : iI (n : Int) ^^^ iI 1 = iI ((n / 2 * 2 + (1 - n % 2) : Nat) : Int) ∧ (iI (n : Int) >>> (iI 1 &&& 31)) &&& ((iI (n : Int) &&& iI 1) ||| iI (-2)) = iI (((if n % 2 = 1 then n / 2 else n / 4 * 2) : Nat) : Int) ∧ (iI (n : Int) >>> (iI 1 &&& 31)) ||| (iI (n : Int) &&& iI 1) = iI (((if n % 2 = 1 then n / 4 * 2 + 1 else n / 2) : Nat) : Int) ∧ iI 2 * iI (n : Int) + bI true = iI ((2 * n + 1 : Nat) : Int) ∧ iI 2 * iI (n : Int) + bI false = iI ((2 * n + 0 : Nat) : Int) ∧ decide (iI (n : Int) &&& iI 1 = iI 1) = decide (n % 2 = 1) := by
  have h1 := List.all_eq_true.mp ckO_t n (List.mem_range.mpr h)
  rw [Bool.and_eq_true, Bool.and_eq_true, Bool.and_eq_true, Bool.and_eq_true, Bool.and_eq_true] at h1
  obtain ⟨⟨⟨⟨⟨h2, h3⟩, h4⟩, h5⟩, h6⟩, h7⟩ := h1
  exact ⟨of_decide_eq_true h2, of_decide_eq_true h3, of_decide_eq_true h4, of_decide_eq_true h5, of_decide_eq_true h6, of_decide_eq_true h7⟩
section FOLD
variable {ce kd fi se ce' kd' fi' se' : Nat → Int} {d : Nat}
theorem atF_c {k : Int} {a : Nat} (h1 : fi' a = fi a) (h2 : se' a = se a) : atF k fi' se' a d = atF k fi se a d := by
  unfold atF
  rw [h1, h2]
theorem mStep_c {s : Int32} {j : Nat} (h : ce' j = ce j) (h2 : ce j = 100 ∨ ce j = 101 ∨ ce j = 102 ∨ (kd' (ce j).toNat = kd (ce j).toNat ∧ fi' (ce j).toNat = fi (ce j).toNat ∧ se' (ce j).toNat = se (ce j).toNat)) : mStep ce' kd' fi' se' d s j = mStep ce kd fi se d s j := by
  unfold mStep
  rw [h]
  by_cases c1 : ce j = 102
  · rw [if_pos c1, if_pos c1]
  · rw [if_neg c1, if_neg c1]
    by_cases c2 : ce j = 100
    · rw [if_pos c2, if_pos c2]
    · rw [if_neg c2, if_neg c2]
      by_cases c3 : ce j = 101
      · rw [if_pos c3, if_pos c3]
      · rw [if_neg c3, if_neg c3]
        rcases h2 with h2 | h2 | h2 | ⟨h2, h3, h4⟩
        · exact absurd h2 c2
        · exact absurd h2 c3
        · exact absurd h2 c1
        · rw [h2, atF_c h3 h4]
theorem mFold_c : ∀ (k j : Nat) (s : Int32), (∀ i, j ≤ i → i < j + k → ce' i = ce i ∧ (ce i = 100 ∨ ce i = 101 ∨ ce i = 102 ∨ (kd' (ce i).toNat = kd (ce i).toNat ∧ fi' (ce i).toNat = fi (ce i).toNat ∧ se' (ce i).toNat = se (ce i).toNat))) → mFold ce' kd' fi' se' d k j s = mFold ce kd fi se d k j s
  | 0, _, _, _ => rfl
  | k + 1, j, s, h => by
    have h0 := h j (Nat.le_refl _) (by omega)
    show mFold ce' kd' fi' se' d k (j + 1) (mStep ce' kd' fi' se' d s j) = mFold ce kd fi se d k (j + 1) (mStep ce kd fi se d s j)
    rw [mStep_c h0.1 h0.2]
    exact mFold_c k (j + 1) _ (fun i h1 h2 => h i (by omega) (by omega))
theorem mFold_sn : ∀ (k j : Nat) (s : Int32), mFold ce kd fi se d (k + 1) j s = mStep ce kd fi se d (mFold ce kd fi se d k j s) (j + k)
  | 0, _, _ => rfl
  | k + 1, j, s => by
    show mFold ce kd fi se d (k + 1) (j + 1) (mStep ce kd fi se d s j) = mStep ce kd fi se d (mFold ce kd fi se d k (j + 1) (mStep ce kd fi se d s j)) (j + (k + 1))
    rw [mFold_sn k (j + 1), show j + 1 + k = j + (k + 1) by omega]
end FOLD
/-- what is read is kept: code and atoms only grow -/
def EXT (X X' : RT) : Prop := (X'.rr = X.rr ∧ X'.nt = X.nt ∧ X'.nb = X.nb ∧ X'.ne = X.ne ∧ X'.cf = X.cf) ∧ (X.cl ≤ X'.cl ∧ X.an ≤ X'.an) ∧ (∀ j : Nat, (j : Int) < X.cl → X'.ce j = X.ce j) ∧ ∀ j : Nat, (j : Int) < X.an → X'.kd j = X.kd j ∧ X'.fi j = X.fi j ∧ X'.se j = X.se j
theorem EXT.rf (X : RT) : EXT X X := ⟨⟨rfl, rfl, rfl, rfl, rfl⟩, ⟨Int.le_refl _, Int.le_refl _⟩, fun _ _ => rfl, fun _ _ => ⟨rfl, rfl, rfl⟩⟩
theorem EXT.tr {X Y W : RT} (h1 : EXT X Y) (h2 : EXT Y W) : EXT X W := by
  obtain ⟨⟨a1, a2, a3, a4, a5⟩, ⟨a6, a7⟩, a8, a9⟩ := h1
  obtain ⟨⟨b1, b2, b3, b4, b5⟩, ⟨b6, b7⟩, b8, b9⟩ := h2
  refine ⟨⟨b1.trans a1, b2.trans a2, b3.trans a3, b4.trans a4, b5.trans a5⟩, ⟨by omega, by omega⟩, fun j hj => (b8 j (by omega)).trans (a8 j hj), fun j hj => ?_⟩
  obtain ⟨c1, c2, c3⟩ := a9 j hj
  obtain ⟨e1, e2, e3⟩ := b9 j (by omega)
  exact ⟨e1.trans c1, e2.trans c2, e3.trans c3⟩
theorem updZ_n {f : Nat → Int} {i j : Nat} {x : Int} (h : ¬ j = i) : updZ f i x j = f j := by
  unfold updZ; exact if_neg h
theorem updZ_y {f : Nat → Int} {i : Nat} {x : Int} : updZ f i x i = x := by
  unfold updZ; exact if_pos rfl
theorem EXT.em (X : RT) (c : Int) (h : 0 ≤ X.cl) : EXT X (X.emit c) := by
  refine ⟨⟨rfl, rfl, rfl, rfl, rfl⟩, ⟨by show X.cl ≤ X.cl + 1; omega, Int.le_refl _⟩, fun j hj => ?_, fun _ _ => ⟨rfl, rfl, rfl⟩⟩
  exact updZ_n (by omega)
theorem kp_sAn_rr (Y : RT) (v : Int) : (Y.sAn v).rr = Y.rr := rfl
theorem kp_emit_rr (Y : RT) (v : Int) : (Y.emit v).rr = Y.rr := rfl
theorem kp_sSe_rr (Y : RT) (v : Nat → Int) : (Y.sSe v).rr = Y.rr := rfl
theorem kp_sFi_rr (Y : RT) (v : Nat → Int) : (Y.sFi v).rr = Y.rr := rfl
theorem kp_sKd_rr (Y : RT) (v : Nat → Int) : (Y.sKd v).rr = Y.rr := rfl
theorem kp_at_rr (Y : RT) (j : Nat) (f g : Int) : (Y.at j f g).rr = Y.rr := rfl
theorem kp_atom_rr (Y : RT) (k : Int) : (Y.atom k).rr = Y.rr := by
  unfold RT.atom
  rw [kp_sAn_rr, kp_emit_rr, kp_sSe_rr, kp_sFi_rr, kp_sKd_rr]
theorem kp_sAn_nt (Y : RT) (v : Int) : (Y.sAn v).nt = Y.nt := rfl
theorem kp_emit_nt (Y : RT) (v : Int) : (Y.emit v).nt = Y.nt := rfl
theorem kp_sSe_nt (Y : RT) (v : Nat → Int) : (Y.sSe v).nt = Y.nt := rfl
theorem kp_sFi_nt (Y : RT) (v : Nat → Int) : (Y.sFi v).nt = Y.nt := rfl
theorem kp_sKd_nt (Y : RT) (v : Nat → Int) : (Y.sKd v).nt = Y.nt := rfl
theorem kp_at_nt (Y : RT) (j : Nat) (f g : Int) : (Y.at j f g).nt = Y.nt := rfl
theorem kp_atom_nt (Y : RT) (k : Int) : (Y.atom k).nt = Y.nt := by
  unfold RT.atom
  rw [kp_sAn_nt, kp_emit_nt, kp_sSe_nt, kp_sFi_nt, kp_sKd_nt]
theorem kp_sAn_nb (Y : RT) (v : Int) : (Y.sAn v).nb = Y.nb := rfl
theorem kp_emit_nb (Y : RT) (v : Int) : (Y.emit v).nb = Y.nb := rfl
theorem kp_sSe_nb (Y : RT) (v : Nat → Int) : (Y.sSe v).nb = Y.nb := rfl
theorem kp_sFi_nb (Y : RT) (v : Nat → Int) : (Y.sFi v).nb = Y.nb := rfl
theorem kp_sKd_nb (Y : RT) (v : Nat → Int) : (Y.sKd v).nb = Y.nb := rfl
theorem kp_at_nb (Y : RT) (j : Nat) (f g : Int) : (Y.at j f g).nb = Y.nb := rfl
theorem kp_atom_nb (Y : RT) (k : Int) : (Y.atom k).nb = Y.nb := by
  unfold RT.atom
  rw [kp_sAn_nb, kp_emit_nb, kp_sSe_nb, kp_sFi_nb, kp_sKd_nb]
theorem kp_sAn_ne (Y : RT) (v : Int) : (Y.sAn v).ne = Y.ne := rfl
theorem kp_emit_ne (Y : RT) (v : Int) : (Y.emit v).ne = Y.ne := rfl
theorem kp_sSe_ne (Y : RT) (v : Nat → Int) : (Y.sSe v).ne = Y.ne := rfl
theorem kp_sFi_ne (Y : RT) (v : Nat → Int) : (Y.sFi v).ne = Y.ne := rfl
theorem kp_sKd_ne (Y : RT) (v : Nat → Int) : (Y.sKd v).ne = Y.ne := rfl
theorem kp_at_ne (Y : RT) (j : Nat) (f g : Int) : (Y.at j f g).ne = Y.ne := rfl
theorem kp_atom_ne (Y : RT) (k : Int) : (Y.atom k).ne = Y.ne := by
  unfold RT.atom
  rw [kp_sAn_ne, kp_emit_ne, kp_sSe_ne, kp_sFi_ne, kp_sKd_ne]
theorem kp_sAn_cf (Y : RT) (v : Int) : (Y.sAn v).cf = Y.cf := rfl
theorem kp_emit_cf (Y : RT) (v : Int) : (Y.emit v).cf = Y.cf := rfl
theorem kp_sSe_cf (Y : RT) (v : Nat → Int) : (Y.sSe v).cf = Y.cf := rfl
theorem kp_sFi_cf (Y : RT) (v : Nat → Int) : (Y.sFi v).cf = Y.cf := rfl
theorem kp_sKd_cf (Y : RT) (v : Nat → Int) : (Y.sKd v).cf = Y.cf := rfl
theorem kp_at_cf (Y : RT) (j : Nat) (f g : Int) : (Y.at j f g).cf = Y.cf := rfl
theorem kp_atom_cf (Y : RT) (k : Int) : (Y.atom k).cf = Y.cf := by
  unfold RT.atom
  rw [kp_sAn_cf, kp_emit_cf, kp_sSe_cf, kp_sFi_cf, kp_sKd_cf]
theorem EXT.at (X : RT) (k fm sm : Int) (h : 0 ≤ X.cl) (h2 : 0 ≤ X.an) : EXT X ((X.atom k).at X.an.toNat fm sm) := by
  refine ⟨⟨(kp_at_rr _ _ _ _).trans (kp_atom_rr X k), (kp_at_nt _ _ _ _).trans (kp_atom_nt X k), (kp_at_nb _ _ _ _).trans (kp_atom_nb X k), (kp_at_ne _ _ _ _).trans (kp_atom_ne X k), (kp_at_cf _ _ _ _).trans (kp_atom_cf X k)⟩, ⟨by show X.cl ≤ X.cl + 1; omega, by show X.an ≤ X.an + 1; omega⟩, fun j hj => ?_, fun j hj => ⟨?_, ?_, ?_⟩⟩
  · show updZ X.ce X.cl.toNat X.an j = X.ce j
    exact updZ_n (by omega)
  · show updZ X.kd X.an.toNat k j = X.kd j
    exact updZ_n (by omega)
  · show updZ (updZ X.fi X.an.toNat 0) X.an.toNat fm j = X.fi j
    rw [updZ_n (by omega), updZ_n (by omega)]
  · show updZ (updZ X.se X.an.toNat 0) X.an.toNat sm j = X.se j
    rw [updZ_n (by omega), updZ_n (by omega)]
def CE1 (X : RT) (c : Int) : Prop := c = 100 ∨ c = 101 ∨ c = 102 ∨ (0 ≤ c ∧ c < X.an ∧ AK X.kd X.fi X.se c.toNat)
theorem CE1.ext {X X' : RT} {c : Int} (h : CE1 X c) (hE : EXT X X') : CE1 X' c := by
  rcases h with h | h | h | ⟨h1, h2, h3⟩
  · exact Or.inl h
  · exact Or.inr (Or.inl h)
  · exact Or.inr (Or.inr (Or.inl h))
  · obtain ⟨e1, e2, e3⟩ := hE.2.2.2 c.toNat (by omega)
    refine Or.inr (Or.inr (Or.inr ⟨h1, by have := hE.2.1.2; omega, ?_⟩))
    unfold AK at h3 ⊢
    rw [e1, e2, e3]
    exact h3
/-- the code behind c0 is good, and works out V -/
def EVI (X : RT) (c0 : Nat) (V : Nat → List Bool) : Prop := (0 ≤ X.cl ∧ 0 ≤ X.an ∧ (c0 : Int) ≤ X.cl) ∧ (∀ j : Nat, c0 ≤ j → (j : Int) < X.cl → CE1 X (X.ce j)) ∧ ∀ d, d < 1461 → mFold X.ce X.kd X.fi X.se d (X.cl.toNat - c0) c0 (iI 0) = iI ((encN (V d) : Nat) : Int)
theorem ext_fold {X X' : RT} {c0 d : Nat} (hE : EXT X X') (hc : ∀ j : Nat, c0 ≤ j → (j : Int) < X.cl → CE1 X (X.ce j)) (h0 : 0 ≤ X.cl) (h1 : (c0 : Int) ≤ X.cl) (s : Int32) : mFold X'.ce X'.kd X'.fi X'.se d (X.cl.toNat - c0) c0 s = mFold X.ce X.kd X.fi X.se d (X.cl.toNat - c0) c0 s := by
  refine mFold_c _ _ _ (fun i h2 h3 => ⟨hE.2.2.1 i (by omega), ?_⟩)
  rcases hc i h2 (by omega) with h | h | h | ⟨h4, h5, _⟩
  · exact Or.inl h
  · exact Or.inr (Or.inl h)
  · exact Or.inr (Or.inr (Or.inl h))
  · exact Or.inr (Or.inr (Or.inr (hE.2.2.2 _ (by omega))))
theorem EVI.st {X X' : RT} {c0 : Nat} {V V' : Nat → List Bool} (h : EVI X c0 V) (hE : EXT X X') (hcl : X'.cl = X.cl + 1) (hc : CE1 X' (X'.ce X.cl.toNat)) (hs : ∀ d, d < 1461 → mStep X'.ce X'.kd X'.fi X'.se d (iI ((encN (V d) : Nat) : Int)) X.cl.toNat = iI ((encN (V' d) : Nat) : Int)) : EVI X' c0 V' := by
  obtain ⟨⟨h1, h2, h3⟩, h4, h5⟩ := h
  refine ⟨⟨by omega, by have := hE.2.1.2; omega, by omega⟩, fun j hj hl => ?_, fun d hd => ?_⟩
  · by_cases hj2 : (j : Int) < X.cl
    · rw [hE.2.2.1 j hj2]
      exact (h4 j hj hj2).ext hE
    · have : j = X.cl.toNat := by omega
      rw [this]; exact hc
  · have e1 : X'.cl.toNat - c0 = (X.cl.toNat - c0) + 1 := by omega
    have e2 : c0 + (X.cl.toNat - c0) = X.cl.toNat := by omega
    rw [e1, mFold_sn, ext_fold hE h4 h1 h3, h5 d hd, e2]
    exact hs d hd
theorem EVI.nt {X : RT} {c0 : Nat} {b : Nat → Bool} {V : Nat → List Bool} (h : EVI X c0 (fun d => b d :: V d)) (hl : ∀ d, (V d).length ≤ 8) : EVI (X.emit 102) c0 (fun d => (!(b d)) :: V d) := by
  have hce : (X.emit 102).ce X.cl.toNat = 102 := updZ_y
  refine h.st (EXT.em X 102 h.1.1) rfl (Or.inr (Or.inr (Or.inl hce))) (fun d hd => ?_)
  unfold mStep
  rw [hce, if_pos rfl, (ck_at (encN_bd (show (b d :: V d).length ≤ 9 by have := hl d; rw [List.length_cons]; omega))).1]
  refine congrArg (fun z : Nat => iI (z : Int)) ?_
  show (2 * encN (V d) + (b d).toNat) / 2 * 2 + (1 - (2 * encN (V d) + (b d).toNat) % 2) = 2 * encN (V d) + (!(b d)).toNat
  cases b d
  · show (2 * encN (V d) + 0) / 2 * 2 + (1 - (2 * encN (V d) + 0) % 2) = 2 * encN (V d) + 1; omega
  · show (2 * encN (V d) + 1) / 2 * 2 + (1 - (2 * encN (V d) + 1) % 2) = 2 * encN (V d) + 0; omega
theorem EVI.an {X : RT} {c0 : Nat} {b c : Nat → Bool} {V : Nat → List Bool} (h : EVI X c0 (fun d => b d :: c d :: V d)) (hl : ∀ d, (V d).length ≤ 7) : EVI (X.emit 100) c0 (fun d => (c d && b d) :: V d) := by
  have hce : (X.emit 100).ce X.cl.toNat = 100 := updZ_y
  refine h.st (EXT.em X 100 h.1.1) rfl (Or.inl hce) (fun d hd => ?_)
  unfold mStep
  rw [hce, if_neg (by decide), if_pos rfl, (ck_at (encN_bd (show (b d :: c d :: V d).length ≤ 9 by have := hl d; rw [List.length_cons, List.length_cons]; omega))).2.1]
  refine congrArg (fun z : Nat => iI (z : Int)) ?_
  show (if (2 * (2 * encN (V d) + (c d).toNat) + (b d).toNat) % 2 = 1 then (2 * (2 * encN (V d) + (c d).toNat) + (b d).toNat) / 2 else (2 * (2 * encN (V d) + (c d).toNat) + (b d).toNat) / 4 * 2) = 2 * encN (V d) + (c d && b d).toNat
  cases b d <;> cases c d
  · show (if (2 * (2 * encN (V d) + 0) + 0) % 2 = 1 then _ else (2 * (2 * encN (V d) + 0) + 0) / 4 * 2) = 2 * encN (V d) + 0
    rw [if_neg (by omega)]; omega
  · show (if (2 * (2 * encN (V d) + 1) + 0) % 2 = 1 then _ else (2 * (2 * encN (V d) + 1) + 0) / 4 * 2) = 2 * encN (V d) + 0
    rw [if_neg (by omega)]; omega
  · show (if (2 * (2 * encN (V d) + 0) + 1) % 2 = 1 then (2 * (2 * encN (V d) + 0) + 1) / 2 else _) = 2 * encN (V d) + 0
    rw [if_pos (by omega)]; omega
  · show (if (2 * (2 * encN (V d) + 1) + 1) % 2 = 1 then (2 * (2 * encN (V d) + 1) + 1) / 2 else _) = 2 * encN (V d) + 1
    rw [if_pos (by omega)]; omega
theorem EVI.or {X : RT} {c0 : Nat} {b c : Nat → Bool} {V : Nat → List Bool} (h : EVI X c0 (fun d => b d :: c d :: V d)) (hl : ∀ d, (V d).length ≤ 7) : EVI (X.emit 101) c0 (fun d => (c d || b d) :: V d) := by
  have hce : (X.emit 101).ce X.cl.toNat = 101 := updZ_y
  refine h.st (EXT.em X 101 h.1.1) rfl (Or.inr (Or.inl hce)) (fun d hd => ?_)
  unfold mStep
  rw [hce, if_neg (by decide), if_neg (by decide), if_pos rfl, (ck_at (encN_bd (show (b d :: c d :: V d).length ≤ 9 by have := hl d; rw [List.length_cons, List.length_cons]; omega))).2.2.1]
  refine congrArg (fun z : Nat => iI (z : Int)) ?_
  show (if (2 * (2 * encN (V d) + (c d).toNat) + (b d).toNat) % 2 = 1 then (2 * (2 * encN (V d) + (c d).toNat) + (b d).toNat) / 4 * 2 + 1 else (2 * (2 * encN (V d) + (c d).toNat) + (b d).toNat) / 2) = 2 * encN (V d) + (c d || b d).toNat
  cases b d <;> cases c d
  · show (if (2 * (2 * encN (V d) + 0) + 0) % 2 = 1 then _ else (2 * (2 * encN (V d) + 0) + 0) / 2) = 2 * encN (V d) + 0
    rw [if_neg (by omega)]; omega
  · show (if (2 * (2 * encN (V d) + 1) + 0) % 2 = 1 then _ else (2 * (2 * encN (V d) + 1) + 0) / 2) = 2 * encN (V d) + 1
    rw [if_neg (by omega)]; omega
  · show (if (2 * (2 * encN (V d) + 0) + 1) % 2 = 1 then (2 * (2 * encN (V d) + 0) + 1) / 4 * 2 + 1 else _) = 2 * encN (V d) + 1
    rw [if_pos (by omega)]; omega
  · show (if (2 * (2 * encN (V d) + 1) + 1) % 2 = 1 then (2 * (2 * encN (V d) + 1) + 1) / 4 * 2 + 1 else _) = 2 * encN (V d) + 1
    rw [if_pos (by omega)]; omega
theorem EVI.at {X : RT} {c0 : Nat} {V : Nat → List Bool} {kd f1 s1 k fm sm : Int} (h : EVI X c0 V) (hA : X.an ≤ 58) (hR : ATR kd f1 s1 k fm sm) (hl : ∀ d, (V d).length ≤ 8) : EVI ((X.atom k).at X.an.toNat fm sm) c0 (fun d => atM kd f1 s1 d :: V d) := by
  have hce : ((X.atom k).at X.an.toNat fm sm).ce X.cl.toNat = X.an := updZ_y
  have hkd : ((X.atom k).at X.an.toNat fm sm).kd X.an.toNat = k := updZ_y
  have hfi : ((X.atom k).at X.an.toNat fm sm).fi X.an.toNat = fm := updZ_y
  have hse : ((X.atom k).at X.an.toNat fm sm).se X.an.toNat = sm := updZ_y
  have han := h.1.2.1
  refine h.st (EXT.at X k fm sm h.1.1 han) rfl ?_ (fun d hd => ?_)
  · rw [hce]
    refine Or.inr (Or.inr (Or.inr ⟨han, by show X.an < X.an + 1; omega, ?_⟩))
    unfold AK
    rw [hkd, hfi, hse]
    exact hR.2
  · unfold mStep
    rw [hce, if_neg (by omega), if_neg (by omega), if_neg (by omega), hkd, hR.1 _ _ _ d hd hfi hse]
    have hb := ck_at (encN_bd (show (V d).length ≤ 9 by have := hl d; omega))
    cases atM kd f1 s1 d
    · exact hb.2.2.2.2.1
    · exact hb.2.2.2.1
