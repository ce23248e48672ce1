theorem shQ_1 {sh : Bool} {i : Nat} {x : Int} (h : ¬ 4 ≤ x) : x = shQ sh i x := by
  unfold shQ
  rw [if_pos (by omega)]
theorem shQ_2 {sh : Bool} {i : Nat} {x : Int} (h : 4 ≤ x) (h2 : ¬ (if loF sh i 4 = true then (2 : Int) else 0) ≤ 0) : x + 2 = shQ sh i x := by
  unfold shQ
  rw [if_neg (by omega)]
  by_cases c : loF sh i 4 = true
  · rw [if_pos c]
  · rw [if_neg c] at h2; omega
theorem shQ_lo {sh : Bool} {i : Nat} (h2 : (if loF sh i 4 = true then (2 : Int) else 0) ≤ 0) : ¬ loF sh i 4 = true := by
  intro c
  rw [if_pos c] at h2
  omega
theorem shQ_3 {sh : Bool} {i : Nat} {x : Int} (h : 4 ≤ x) (h2 : (if loF sh i 4 = true then (2 : Int) else 0) ≤ 0) (h3 : ¬ (if twF sh i 4 = true then (2 : Int) else 0) ≤ 0) (h4 : ¬ x ≤ 5) : x - 2 = shQ sh i x := by
  unfold shQ
  rw [if_neg (by omega), if_neg (shQ_lo h2)]
  by_cases c : twF sh i 4 = true
  · rw [if_pos ⟨c, by omega⟩]
  · rw [if_neg c] at h3; omega
theorem shQ_4 {sh : Bool} {i : Nat} {x : Int} (h : 4 ≤ x) (h2 : (if loF sh i 4 = true then (2 : Int) else 0) ≤ 0) (h3 : (if twF sh i 4 = true then (2 : Int) else 0) ≤ 0 ∨ x ≤ 5) : x = shQ sh i x := by
  unfold shQ
  rw [if_neg (by omega), if_neg (shQ_lo h2)]
  rw [if_neg]
  intro c
  rcases h3 with h3 | h3
  · rw [if_pos c.1] at h3; omega
  · omega
theorem shQ_bd (sh : Bool) (i : Nat) (x : Int) : x - 2 ≤ shQ sh i x ∧ shQ sh i x ≤ x + 2 := by
  unfold shQ
  repeat' (refine ite_P (P := fun q : Int => x - 2 ≤ q ∧ q ≤ x + 2) (fun _ => ?_) (fun _ => ?_))
  all_goals omega
theorem shN_0a {sh : Bool} {i : Nat} {x : Int} (h : (if twF sh i 4 = true then (2 : Int) else 0) = 0) : 0 = shN sh i x := by
  unfold shN
  rw [if_neg]
  intro c
  rw [if_pos c.1] at h
  omega
theorem shN_0b {sh : Bool} {i : Nat} {x : Int} (h : shQ sh i x < 4 ∨ 5 < shQ sh i x) : 0 = shN sh i x := by
  unfold shN
  rw [if_neg (by omega)]
theorem shN_1 {sh : Bool} {i : Nat} {x y : Int} (h : ¬ (if twF sh i 4 = true then (2 : Int) else 0) = 0) (h2 : 4 ≤ shQ sh i x ∧ shQ sh i x ≤ 5) (h3 : (if x < 6 then 1 else 2) = y) : y = shN sh i x := by
  unfold shN
  by_cases c : twF sh i 4 = true
  · rw [if_pos ⟨c, h2⟩, h3]
  · rw [if_neg c] at h; omega
theorem shl_1 : (List.range 13).all (fun t => decide (iI 1 <<< (nI t &&& 31) = nI (2 ^ t))) = true := by decide +kernel
theorem shl_t {t : Nat} (h : t < 13) : iI 1 <<< (iI (t : Int) &&& 31) = nI (2 ^ t) := by
  have h1 := List.all_eq_true.mp shl_1 t (List.mem_range.mpr h)
  rw [iI_nat]
  exact of_decide_eq_true h1
theorem pow12 {t : Nat} (h : t < 13) : 1 ≤ 2 ^ t ∧ 2 ^ t ≤ 4096 := ⟨Nat.one_le_two_pow, Nat.le_trans (Nat.pow_le_pow_right (by decide) (Nat.le_of_lt_succ h)) (by decide)⟩
theorem nI_or {a b : Nat} (ha : a < 2 ^ 31) (hb : b < 2 ^ 31) : nI a ||| nI b = nI (a ||| b) := by
  apply Int32.toBitVec_inj.mp
  apply BitVec.eq_of_toNat_eq
  have h : a ||| b < 2 ^ 31 := Nat.or_lt_two_pow ha hb
  have e : ∀ x : Nat, x < 2 ^ 31 → (nI x).toBitVec.toNat = x := fun x hx => by
    show (BitVec.ofNat 32 x).toNat = x
    rw [BitVec.toNat_ofNat]
    omega
  rw [e _ h, Int32.toBitVec_or, BitVec.toNat_or, e _ ha, e _ hb]
theorem orbw {w t : Int} (hw : 0 ≤ w ∧ w < 4096) (ht : 0 ≤ t ∧ t < 12) : (iI w ||| (iI 1 <<< (iI t &&& 31))) = iI (orb w t) ∧ 0 ≤ orb w t ∧ orb w t < 4096 := by
  have hp := pow12 (t := t.toNat) (by omega)
  have hp2 : 2 ^ t.toNat < 4096 := Nat.lt_of_le_of_lt (Nat.pow_le_pow_right (by decide) (show t.toNat ≤ 11 by omega)) (by decide)
  have ew : iI w = nI w.toNat := by rw [← iI_nat, Int.toNat_of_nonneg hw.1]
  have et : iI t = iI ((t.toNat : Nat) : Int) := by rw [Int.toNat_of_nonneg ht.1]
  have ho : w.toNat ||| 2 ^ t.toNat < 2 ^ 12 := Nat.or_lt_two_pow (by omega) hp2
  unfold orb
  rw [ew, et, shl_t (by omega), nI_or (by omega) (by omega), iI_nat]
  exact ⟨rfl, by omega, by omega⟩
theorem bitZ {f w : Int} (hf : 0 ≤ f ∧ f < 2147483648) (hw : 0 ≤ w ∧ w < 32) : (iI f >>> (iI w &&& 31)) &&& iI 1 = iI ((f.toNat / 2 ^ w.toNat % 2 : Nat) : Int) := by
  have h := iI_bitw f.toNat w.toNat (by omega) (by omega)
  rw [Int.toNat_of_nonneg hf.1, Int.toNat_of_nonneg hw.1] at h
  exact h
/-- the rules that decide some of n cells, as bits -/
def usF (f : Nat → Nat) : Nat → Int
  | 0 => 0
  | n + 1 => if f n = 0 then usF f n else orb (usF f n) ((f n : Int) - 1)
def dfM (sh : Bool) (dv : Nat → Int → Nat) (n : Nat) : Nat := if loF sh (n / 48) ((n % 48 : Nat) : Int) = true then 0 else dv (n / 48) ((n % 48 : Nat) : Int)
theorem dfM_eq {sh : Bool} {dv : Nat → Int → Nat} {i j : Nat} (hj : j < 48) : dfM sh dv (48 * i + j) = if loF sh i (j : Int) = true then 0 else dv i (j : Int) := by
  unfold dfM
  rw [show (48 * i + j) / 48 = i by omega, show (48 * i + j) % 48 = j by omega]
theorem usF_bd {f : Nat → Nat} {R : Nat} (hR : R ≤ 12) (hf : ∀ n, f n ≤ R) : ∀ n, 0 ≤ usF f n ∧ usF f n < 2 ^ R
  | 0 => ⟨Int.le_refl _, by have : 1 ≤ 2 ^ R := Nat.one_le_two_pow; show (0 : Int) < 2 ^ R; exact_mod_cast this⟩
  | n + 1 => by
    have ih := usF_bd hR hf n
    show 0 ≤ (if f n = 0 then usF f n else orb (usF f n) ((f n : Int) - 1)) ∧ (if f n = 0 then usF f n else orb (usF f n) ((f n : Int) - 1)) < 2 ^ R
    by_cases c : f n = 0
    · rw [if_pos c]; exact ih
    · rw [if_neg c]
      have hn := hf n
      unfold orb
      have h1 : (usF f n).toNat < 2 ^ R := by
        have : ((usF f n).toNat : Int) < ((2 ^ R : Nat) : Int) := by
          rw [Int.toNat_of_nonneg ih.1]; exact_mod_cast ih.2
        exact_mod_cast this
      have h2 : 2 ^ ((f n : Int) - 1).toNat < 2 ^ R := Nat.pow_lt_pow_right (by decide) (by omega)
      have h3 := Nat.or_lt_two_pow h1 h2
      exact ⟨Int.natCast_nonneg _, by exact_mod_cast h3⟩
theorem usF_w {f : Nat → Nat} {R : Nat} (hR : R ≤ 12) (hf : ∀ n, f n ≤ R) (n : Nat) : 0 ≤ usF f n ∧ usF f n < 4096 := by
  have h := usF_bd hR hf n
  have h2 : (2 : Int) ^ R ≤ 4096 := by
    have := (pow12 (t := R) (by omega)).2
    rw [show (2 : Int) ^ R = ((2 ^ R : Nat) : Int) by norm_cast]
    omega
  omega
/-- a bit that is set stays set -/
theorem orb_bit {u t : Int} {r : Nat} (hu : 0 ≤ u) (h : u.toNat / 2 ^ r % 2 = 1) : (orb u t).toNat / 2 ^ r % 2 = 1 := by
  have e : ∀ x : Nat, x / 2 ^ r % 2 = 1 ↔ x.testBit r = true := fun x => by
    rw [Nat.testBit_eq_decide_div_mod_eq]; simp
  unfold orb
  rw [Int.toNat_natCast, e, Nat.testBit_or]
  rw [e] at h
  rw [h]; rfl
theorem usF_mono {f : Nat → Nat} {R : Nat} (hR : R ≤ 12) (hf : ∀ n, f n ≤ R) {r n : Nat} (h : (usF f n).toNat / 2 ^ r % 2 = 1) : ∀ k, (usF f (n + k)).toNat / 2 ^ r % 2 = 1
  | 0 => h
  | k + 1 => by
    have ih := usF_mono hR hf h k
    show (if f (n + k) = 0 then usF f (n + k) else orb (usF f (n + k)) ((f (n + k) : Int) - 1)).toNat / 2 ^ r % 2 = 1
    by_cases c : f (n + k) = 0
    · rw [if_pos c]; exact ih
    · rw [if_neg c]; exact orb_bit (usF_bd hR hf _).1 ih
/-- all the rules at once: nothing more can come -/
theorem usF_full {f : Nat → Nat} {R : Nat} (hR : R ≤ 12) (hf : ∀ n, f n ≤ R) {n N : Nat} (hn : n ≤ N) (h : usF f n = 2 ^ R - 1) : usF f n = usF f N := by
  obtain ⟨k, rfl⟩ : ∃ k, N = n + k := ⟨N - n, by omega⟩
  clear hn
  induction k with
  | zero => rfl
  | succ k ih =>
    rw [ih]
    show _ = (if f (n + k) = 0 then usF f (n + k) else orb (usF f (n + k)) ((f (n + k) : Int) - 1))
    by_cases c : f (n + k) = 0
    · rw [if_pos c]
    · rw [if_neg c, ← ih, h]
      have hk := hf (n + k)
      unfold orb
      have e : ((2 : Int) ^ R - 1).toNat = 2 ^ R - 1 := by
        have : (2 : Int) ^ R = ((2 ^ R : Nat) : Int) := by norm_cast
        rw [this]; omega
      have e2 : (2 ^ R - 1) ||| 2 ^ ((f (n + k) : Int) - 1).toNat = 2 ^ R - 1 := by
        apply Nat.eq_of_testBit_eq
        intro i
        rw [Nat.testBit_or, Nat.testBit_two_pow_sub_one, Nat.testBit_two_pow]
        by_cases q : i < R
        · simp [q]
        · simp [q]; omega
      rw [e, e2]
      have : (2 : Int) ^ R = ((2 ^ R : Nat) : Int) := by norm_cast
      have hp : 1 ≤ 2 ^ R := Nat.one_le_two_pow
      rw [this]; omega
/-- the i-th rule that isn't used -/
def ddM (U i : Int) : Nat → Nat → Nat → Int
  | 0, _, _ => -1
  | k + 1, r, n => if ((U.toNat / 2 ^ r % 2 : Nat) : Int) = 0 then (if (n : Int) = i then (r : Int) + 1 else ddM U i k (r + 1) (n + 1)) else ddM U i k (r + 1) n
theorem ddM_s (U i : Int) (k r n : Nat) : ddM U i (k + 1) r n = if ((U.toNat / 2 ^ r % 2 : Nat) : Int) = 0 then (if (n : Int) = i then (r : Int) + 1 else ddM U i k (r + 1) (n + 1)) else ddM U i k (r + 1) n := rfl
set_option maxHeartbeats 4000000 in
set_option maxRecDepth 100000 in
theorem c_MD_shown (l : Launch) (D : va_G) (k : Nat → ClassId) (h0 aTx aDt aFe aRu aTa aBe aEn aMa aEx aAb aCo aNt aNb aNe aCf aCd aKi aFi aSe : Nat) (fa : Int) (ty : Int) (sh : Bool) (wt : Int) (rd : Int) (cd : Int) (at1 : Int) (x0 : Int) (hx0 : 0 ≤ x0 ∧ x0 ≤ 2147483647) : Met l y_MD_shown wd_MD_shown rm_MD_shown (va_Pc [.ref h0, .int (iI (x0))] (PRO D k [(h0, .inr (8, [.int (iI (fa)), .int (iI (ty)), .ref aTx, .int (bI (sh)), .ref aDt, .ref aFe, .ref aRu, .ref aTa, .ref aBe, .ref aEn, .ref aMa, .int (iI (wt)), .ref aEx, .ref aAb, .ref aCo, .int (iI (rd)), .ref aNt, .ref aNb, .ref aNe, .ref aCf, .ref aCd, .int (iI (cd)), .int (iI (at1)), .ref aKi, .ref aFi, .ref aSe])), (aDt, .inl (k 0, 1461, .inl (aZ (dateZ))))])) (QRi (fun r : Int32 => r = (iI (shL sh 1461 0 x0)))) 0 0 nA := by
  refine r_i (by decide) rfl (Nat.le_of_ble_eq_true rfl) ?_
  intro p e s m args below meth c Q ls hx hb hml hown hts hpre hl ret
  obtain ⟨hP, hK, hX⟩ := hpre
  have hS : va_S nA s.heap s.heap [] := va_S.rf
  have hl : lv_has ls 9 [(0, .ref h0), (1, .int (iI (x0)))] := hl
  refine lv_iload_n hx hb d_MD_shown_0 rfl (lv_at hl 1 rfl) ?_
  refine lv_istore_n (lv' := [(2, .int (iI (x0))), (0, .ref h0), (1, .int (iI (x0)))]) hx hb d_MD_shown_1 rfl hl (by decide) rfl (fun ls hl => ?_)
  refine z_iconst hx hb d_MD_shown_2 ?_
  refine lv_istore_n (lv' := [(3, .int (iI (0))), (2, .int (iI (x0))), (0, .ref h0), (1, .int (iI (x0)))]) hx hb d_MD_shown_3 rfl hl (by decide) rfl (fun ls hl => ?_)
  have L4 : ∀ (fu : Nat) (i : Nat) (z : Int) (x : Int) (ls : Array Slot), z = (i : Int) → i ≤ 1461 → 0 ≤ x ∧ x ≤ 2147483647 → shL sh (1461 - i) i x = shL sh 1461 0 x0 → 1461 - i < fu → lv_has ls 9 [(0, .ref h0), (2, .int (iI (x))), (3, .int (iI (z)))] → W p l e rm_MD_shown s m args below meth c s.heap [] 0 0 Q (F0 m 4 ls []) := by
    intro fu
    induction fu with
    | zero => intro i z x ls hz hi hx9 hw hmu; exact absurd hmu (Nat.not_lt_zero _)
    | succ fu ih4 =>
      intro i z x ls hz hi hx9 hw hmu hl
      subst hz
      refine lv_iload_n hx hb d_MD_shown_4 rfl (lv_at hl 2 rfl) ?_
      refine z_sipush hx hb d_MD_shown_5 (by decide) ?_
      refine z_icmp_ge (tgt := 162) hx hb d_MD_shown_8 (by decide) ⟨by omega, by omega⟩ ⟨by omega, by omega⟩ (fun h8 => ?_) (fun h8 => ?_)
      · refine z_iconst hx hb d_MD_shown_162 ?_
        exact ret _ 163 (iI (-1)) d_MD_shown_163 (by rw [← hw, show 1461 - i = 0 by omega]; rfl)
      · refine lv_aload_n hx hb d_MD_shown_11 rfl (lv_at hl 0 rfl) ?_
        refine lv_iload_n hx hb d_MD_shown_12 rfl (lv_at hl 2 rfl) ?_
        refine z_iconst hx hb d_MD_shown_13 ?_
        refine rc_i (va_runV (As := [.int (iI ((i : Int))), .int (iI (4))]) (rest := []) (b := h0) ⟨hx, hb, hml, hown, hts⟩ (c_MD_isLost l D k (h0) (aTx) (aDt) (aFe) (aRu) (aTa) (aBe) (aEn) (aMa) (aEx) (aAb) (aCo) (aNt) (aNb) (aNe) (aCf) (aCd) (aKi) (aFi) (aSe) (fa) (ty) (sh) (wt) (rd) (cd) (at1) (i) (4) ((by omega)) (⟨by omega, by omega⟩)) ⟨callB_of 2 hts (good_MD_isLost) rfl rfl rfl (hts _ k_67) (hts _ k_918) (by decide +kernel) ⟨Nat.le_of_ble_eq_true rfl, Nat.le_of_ble_eq_true rfl⟩, (hts _ k_920), (hts _ k_47)⟩ ⟨fun a U g mk q => ⟨q.1, q.2.1, va_K.moved (u := U) (U := U.calling g mk a) (Vm.Alike.refl U.vm) q.2.2.1, q.2.2.2.calling⟩, (va_recv (q0 := 0) hK hP rfl rfl), fun U hU hW => ⟨rfl, by rw [hU]; exact hP, va_K.moved hW.alike hK, by rw [hU]; exact hX.warm hW⟩⟩ rfl rfl hl.1 rfl (lv_room (Nat.le_of_ble_eq_true rfl)) d_MD_shown_14 ⟨Nat.le_of_ble_eq_true rfl, Nat.le_of_ble_eq_true rfl⟩) (fun xr_1 h_xr_1 => ?_)
        subst h_xr_1
        have J17_1 : W p l e rm_MD_shown s m args below meth c s.heap [] 0 0 Q (F0 m 25 ls [.int (iI (if loF sh i 4 = true then 2 else 0))]) := by
          refine lv_istore (lv' := [(4, .int (iI (if loF sh i 4 = true then 2 else 0))), (0, .ref h0), (2, .int (iI (x))), (3, .int (iI ((i : Int))))]) hx hb d_MD_shown_25 hl (by decide) rfl (fun ls hl => ?_)
          refine lv_aload_n hx hb d_MD_shown_27 rfl (lv_at hl 1 rfl) ?_
          refine lv_iload_n hx hb d_MD_shown_28 rfl (lv_at hl 3 rfl) ?_
          refine z_iconst hx hb d_MD_shown_29 ?_
          refine rc_i (va_runV (As := [.int (iI ((i : Int))), .int (iI (4))]) (rest := []) (b := h0) ⟨hx, hb, hml, hown, hts⟩ (c_MD_isTwice l D k (h0) (aTx) (aDt) (aFe) (aRu) (aTa) (aBe) (aEn) (aMa) (aEx) (aAb) (aCo) (aNt) (aNb) (aNe) (aCf) (aCd) (aKi) (aFi) (aSe) (fa) (ty) (sh) (wt) (rd) (cd) (at1) (i) (4) ((by omega)) (⟨by omega, by omega⟩)) ⟨callB_of 2 hts (good_MD_isTwice) rfl rfl rfl (hts _ k_67) (hts _ k_950) (by decide +kernel) ⟨Nat.le_of_ble_eq_true rfl, Nat.le_of_ble_eq_true rfl⟩, (hts _ k_952), (hts _ k_53)⟩ ⟨fun a U g mk q => ⟨q.1, q.2.1, va_K.moved (u := U) (U := U.calling g mk a) (Vm.Alike.refl U.vm) q.2.2.1, q.2.2.2.calling⟩, (va_recv (q0 := 0) hK hP rfl rfl), fun U hU hW => ⟨rfl, by rw [hU]; exact hP, va_K.moved hW.alike hK, by rw [hU]; exact hX.warm hW⟩⟩ rfl rfl hl.1 rfl (lv_room (Nat.le_of_ble_eq_true rfl)) d_MD_shown_30 ⟨Nat.le_of_ble_eq_true rfl, Nat.le_of_ble_eq_true rfl⟩) (fun xr_2 h_xr_2 => ?_)
          subst h_xr_2
          have J33_2 : W p l e rm_MD_shown s m args below meth c s.heap [] 0 0 Q (F0 m 41 ls [.int (iI (if twF sh i 4 = true then 2 else 0))]) := by
            refine lv_istore (lv' := [(5, .int (iI (if twF sh i 4 = true then 2 else 0))), (4, .int (iI (if loF sh i 4 = true then 2 else 0))), (0, .ref h0), (2, .int (iI (x))), (3, .int (iI ((i : Int))))]) hx hb d_MD_shown_41 hl (by decide) rfl (fun ls hl => ?_)
            refine z_bipush hx hb d_MD_shown_43 (by decide) ?_
            refine lv_iload hx hb d_MD_shown_45 (lv_at hl 1 rfl) ?_
            refine z_isub hx hb d_MD_shown_47 ?_
            refine lv_iload hx hb d_MD_shown_48 (lv_at hl 0 rfl) ?_
            refine z_iadd hx hb d_MD_shown_50 ?_
            refine z_top (show (iI ((48 - (if loF sh i 4 = true then 2 else 0)) + (if twF sh i 4 = true then 2 else 0))) = (iI (lenM sh i)) from rfl) ?_
            have hln := lenM_bd sh i
            have hsq := shQ_bd sh i x
            refine lv_istore (lv' := [(6, .int (iI (lenM sh i))), (5, .int (iI (if twF sh i 4 = true then 2 else 0))), (4, .int (iI (if loF sh i 4 = true then 2 else 0))), (0, .ref h0), (2, .int (iI (x))), (3, .int (iI ((i : Int))))]) hx hb d_MD_shown_51 hl (by decide) rfl (fun ls hl => ?_)
            refine lv_iload_n hx hb d_MD_shown_53 rfl (lv_at hl 4 rfl) ?_
            refine z_if_lt (tgt := 151) hx hb d_MD_shown_54 (by decide) ⟨by omega, by omega⟩ (fun h54 => absurd h54 (by omega)) (fun h54 => ?_)
            refine lv_iload_n hx hb d_MD_shown_57 rfl (lv_at hl 4 rfl) ?_
            refine lv_iload hx hb d_MD_shown_58 (lv_at hl 0 rfl) ?_
            refine z_icmp_ge (tgt := 151) hx hb d_MD_shown_60 (by decide) ⟨by omega, by omega⟩ ⟨by omega, by omega⟩ (fun h60 => ?_) (fun h60 => ?_)
            · refine lv_iload_n hx hb d_MD_shown_151 rfl (lv_at hl 4 rfl) ?_
              refine lv_iload hx hb d_MD_shown_152 (lv_at hl 0 rfl) ?_
              refine z_isub hx hb d_MD_shown_154 ?_
              refine lv_istore_n (lv' := [(2, .int (iI (x - (lenM sh i)))), (6, .int (iI (lenM sh i))), (5, .int (iI (if twF sh i 4 = true then 2 else 0))), (4, .int (iI (if loF sh i 4 = true then 2 else 0))), (0, .ref h0), (3, .int (iI ((i : Int))))]) hx hb d_MD_shown_155 rfl hl (by decide) rfl (fun ls hl => ?_)
              refine z_iinc (k := 5) (a := (i : Int)) (lv' := [(3, .int (iI (((i : Int)) + 1))), (2, .int (iI (x - (lenM sh i)))), (6, .int (iI (lenM sh i))), (5, .int (iI (if twF sh i 4 = true then 2 else 0))), (4, .int (iI (if loF sh i 4 = true then 2 else 0))), (0, .ref h0)]) hx hb d_MD_shown_156 hl rfl (by decide) rfl (fun ls hl => ?_)
              refine lv_goto (tgt := 4) hx hb d_MD_shown_159 (by decide) ?_
              exact ih4 (i + 1) ((i : Int) + 1) (x - lenM sh i) ls (by omega) (by omega) (by omega) (by rw [← hw, show 1461 - i = (1461 - (i + 1)) + 1 by omega]; exact (shL_s (by omega)).symm) (by omega) (lv_sub hl [5, 1, 0] rfl)
            · refine lv_iload_n hx hb d_MD_shown_63 rfl (lv_at hl 4 rfl) ?_
              refine z_iconst hx hb d_MD_shown_64 ?_
              have J65_3 : W p l e rm_MD_shown s m args below meth c s.heap [] 0 0 Q (F0 m 100 ls [.int (iI (shQ sh i x))]) := by
                refine lv_istore (lv' := [(7, .int (iI (shQ sh i x))), (6, .int (iI (lenM sh i))), (5, .int (iI (if twF sh i 4 = true then 2 else 0))), (4, .int (iI (if loF sh i 4 = true then 2 else 0))), (0, .ref h0), (2, .int (iI (x))), (3, .int (iI ((i : Int))))]) hx hb d_MD_shown_100 hl (by decide) rfl (fun ls hl => ?_)
                refine lv_iload hx hb d_MD_shown_102 (lv_at hl 2 rfl) ?_
                have J104_4 : W p l e rm_MD_shown s m args below meth c s.heap [] 0 0 Q (F0 m 134 ls [.int (iI (shN sh i x))]) := by
                  refine lv_istore (lv' := [(8, .int (iI (shN sh i x))), (7, .int (iI (shQ sh i x))), (6, .int (iI (lenM sh i))), (5, .int (iI (if twF sh i 4 = true then 2 else 0))), (4, .int (iI (if loF sh i 4 = true then 2 else 0))), (0, .ref h0), (2, .int (iI (x))), (3, .int (iI ((i : Int))))]) hx hb d_MD_shown_134 hl (by decide) rfl (fun ls hl => ?_)
                  refine z_sipush hx hb d_MD_shown_136 (by decide) ?_
                  refine lv_iload_n hx hb d_MD_shown_139 rfl (lv_at hl 7 rfl) ?_
                  refine z_imul hx hb d_MD_shown_140 ?_
                  refine z_bipush hx hb d_MD_shown_141 (by decide) ?_
                  refine lv_iload hx hb d_MD_shown_143 (lv_at hl 1 rfl) ?_
                  refine z_imul hx hb d_MD_shown_145 ?_
                  refine z_iadd hx hb d_MD_shown_146 ?_
                  refine lv_iload hx hb d_MD_shown_147 (lv_at hl 0 rfl) ?_
                  refine z_iadd hx hb d_MD_shown_149 ?_
                  exact ret _ 150 (iI (((1000 * ((i : Int))) + (10 * (shQ sh i x))) + (shN sh i x))) d_MD_shown_150 (by rw [← hw, show 1461 - i = (1460 - i) + 1 by omega, shL_t (by omega)])
                refine z_if_eq (tgt := 119) hx hb d_MD_shown_104 (by decide) ⟨by split <;> omega, by split <;> omega⟩ (fun h104 => ?_) (fun h104 => ?_)
                · refine z_iconst hx hb d_MD_shown_119 ?_
                  refine lv_goto (tgt := 134) hx hb d_MD_shown_120 (by decide) ?_
                  exact z_top (show (iI (0)) = (iI (shN sh i x)) from (by first | exact congrArg iI (shN_0a h104) | exact congrArg iI (shN_0b (by omega)) | exact congrArg iI (shN_1 h104 ⟨by omega, by omega⟩ (if_pos (by omega))) | exact congrArg iI (shN_1 h104 ⟨by omega, by omega⟩ (if_neg (by omega))))) J104_4
                · refine lv_iload hx hb d_MD_shown_107 (lv_at hl 0 rfl) ?_
                  refine z_iconst hx hb d_MD_shown_109 ?_
                  refine z_icmp_lt (tgt := 119) hx hb d_MD_shown_110 (by decide) ⟨by omega, by omega⟩ ⟨by omega, by omega⟩ (fun h110 => ?_) (fun h110 => ?_)
                  · refine z_iconst hx hb d_MD_shown_119 ?_
                    refine lv_goto (tgt := 134) hx hb d_MD_shown_120 (by decide) ?_
                    exact z_top (show (iI (0)) = (iI (shN sh i x)) from (by first | exact congrArg iI (shN_0a h104) | exact congrArg iI (shN_0b (by omega)) | exact congrArg iI (shN_1 h104 ⟨by omega, by omega⟩ (if_pos (by omega))) | exact congrArg iI (shN_1 h104 ⟨by omega, by omega⟩ (if_neg (by omega))))) J104_4
                  · refine lv_iload hx hb d_MD_shown_113 (lv_at hl 0 rfl) ?_
                    refine z_iconst hx hb d_MD_shown_115 ?_
                    refine z_icmp_le (tgt := 123) hx hb d_MD_shown_116 (by decide) ⟨by omega, by omega⟩ ⟨by omega, by omega⟩ (fun h116 => ?_) (fun h116 => ?_)
                    · refine lv_iload_n hx hb d_MD_shown_123 rfl (lv_at hl 5 rfl) ?_
                      refine z_bipush hx hb d_MD_shown_124 (by decide) ?_
                      refine z_icmp_ge (tgt := 133) hx hb d_MD_shown_126 (by decide) ⟨by omega, by omega⟩ ⟨by omega, by omega⟩ (fun h126 => ?_) (fun h126 => ?_)
                      · refine z_iconst hx hb d_MD_shown_133 ?_
                        exact z_top (show (iI (2)) = (iI (shN sh i x)) from (by first | exact congrArg iI (shN_0a h104) | exact congrArg iI (shN_0b (by omega)) | exact congrArg iI (shN_1 h104 ⟨by omega, by omega⟩ (if_pos (by omega))) | exact congrArg iI (shN_1 h104 ⟨by omega, by omega⟩ (if_neg (by omega))))) J104_4
                      · refine z_iconst hx hb d_MD_shown_129 ?_
                        refine lv_goto (tgt := 134) hx hb d_MD_shown_130 (by decide) ?_
                        exact z_top (show (iI (1)) = (iI (shN sh i x)) from (by first | exact congrArg iI (shN_0a h104) | exact congrArg iI (shN_0b (by omega)) | exact congrArg iI (shN_1 h104 ⟨by omega, by omega⟩ (if_pos (by omega))) | exact congrArg iI (shN_1 h104 ⟨by omega, by omega⟩ (if_neg (by omega))))) J104_4
                    · refine z_iconst hx hb d_MD_shown_119 ?_
                      refine lv_goto (tgt := 134) hx hb d_MD_shown_120 (by decide) ?_
                      exact z_top (show (iI (0)) = (iI (shN sh i x)) from (by first | exact congrArg iI (shN_0a h104) | exact congrArg iI (shN_0b (by omega)) | exact congrArg iI (shN_1 h104 ⟨by omega, by omega⟩ (if_pos (by omega))) | exact congrArg iI (shN_1 h104 ⟨by omega, by omega⟩ (if_neg (by omega))))) J104_4
              refine z_icmp_ge (tgt := 72) hx hb d_MD_shown_65 (by decide) ⟨by omega, by omega⟩ ⟨by omega, by omega⟩ (fun h65 => ?_) (fun h65 => ?_)
              · refine lv_iload hx hb d_MD_shown_72 (lv_at hl 2 rfl) ?_
                refine z_if_le (tgt := 83) hx hb d_MD_shown_74 (by decide) ⟨by split <;> omega, by split <;> omega⟩ (fun h74 => ?_) (fun h74 => ?_)
                · refine lv_iload hx hb d_MD_shown_83 (lv_at hl 1 rfl) ?_
                  refine z_if_le (tgt := 99) hx hb d_MD_shown_85 (by decide) ⟨by split <;> omega, by split <;> omega⟩ (fun h85 => ?_) (fun h85 => ?_)
                  · refine lv_iload_n hx hb d_MD_shown_99 rfl (lv_at hl 4 rfl) ?_
                    exact z_top (show (iI (x)) = (iI (shQ sh i x)) from (by first | exact congrArg iI (shQ_1 (by omega)) | exact congrArg iI (shQ_2 h65 h74) | exact congrArg iI (shQ_3 h65 h74 h85 h90) | exact congrArg iI (shQ_4 h65 h74 (Or.inl h85)) | exact congrArg iI (shQ_4 h65 h74 (Or.inr h90)))) J65_3
                  · refine lv_iload_n hx hb d_MD_shown_88 rfl (lv_at hl 4 rfl) ?_
                    refine z_iconst hx hb d_MD_shown_89 ?_
                    refine z_icmp_le (tgt := 99) hx hb d_MD_shown_90 (by decide) ⟨by omega, by omega⟩ ⟨by omega, by omega⟩ (fun h90 => ?_) (fun h90 => ?_)
                    · refine lv_iload_n hx hb d_MD_shown_99 rfl (lv_at hl 4 rfl) ?_
                      exact z_top (show (iI (x)) = (iI (shQ sh i x)) from (by first | exact congrArg iI (shQ_1 (by omega)) | exact congrArg iI (shQ_2 h65 h74) | exact congrArg iI (shQ_3 h65 h74 h85 h90) | exact congrArg iI (shQ_4 h65 h74 (Or.inl h85)) | exact congrArg iI (shQ_4 h65 h74 (Or.inr h90)))) J65_3
                    · refine lv_iload_n hx hb d_MD_shown_93 rfl (lv_at hl 4 rfl) ?_
                      refine z_iconst hx hb d_MD_shown_94 ?_
                      refine z_isub hx hb d_MD_shown_95 ?_
                      refine lv_goto (tgt := 100) hx hb d_MD_shown_96 (by decide) ?_
                      exact z_top (show (iI (x - 2)) = (iI (shQ sh i x)) from (by first | exact congrArg iI (shQ_1 (by omega)) | exact congrArg iI (shQ_2 h65 h74) | exact congrArg iI (shQ_3 h65 h74 h85 h90) | exact congrArg iI (shQ_4 h65 h74 (Or.inl h85)) | exact congrArg iI (shQ_4 h65 h74 (Or.inr h90)))) J65_3
                · refine lv_iload_n hx hb d_MD_shown_77 rfl (lv_at hl 4 rfl) ?_
                  refine z_iconst hx hb d_MD_shown_78 ?_
                  refine z_iadd hx hb d_MD_shown_79 ?_
                  refine lv_goto (tgt := 100) hx hb d_MD_shown_80 (by decide) ?_
                  exact z_top (show (iI (x + 2)) = (iI (shQ sh i x)) from (by first | exact congrArg iI (shQ_1 (by omega)) | exact congrArg iI (shQ_2 h65 h74) | exact congrArg iI (shQ_3 h65 h74 h85 h90) | exact congrArg iI (shQ_4 h65 h74 (Or.inl h85)) | exact congrArg iI (shQ_4 h65 h74 (Or.inr h90)))) J65_3
              · refine lv_iload_n hx hb d_MD_shown_68 rfl (lv_at hl 4 rfl) ?_
                refine lv_goto (tgt := 100) hx hb d_MD_shown_69 (by decide) ?_
                exact z_top (show (iI (x)) = (iI (shQ sh i x)) from (by first | exact congrArg iI (shQ_1 (by omega)) | exact congrArg iI (shQ_2 h65 h74) | exact congrArg iI (shQ_3 h65 h74 h85 h90) | exact congrArg iI (shQ_4 h65 h74 (Or.inl h85)) | exact congrArg iI (shQ_4 h65 h74 (Or.inr h90)))) J65_3
          refine b_if_eq (tgt := 40) hx hb d_MD_shown_33 (by decide) (fun h33 => ?_) (fun h33 => ?_)
          · refine z_iconst hx hb d_MD_shown_40 ?_
            exact z_top (show (iI (0)) = (iI (if twF sh i 4 = true then 2 else 0)) from (by rw [if_neg (Bool.eq_false_iff.mp h33)])) J33_2
          · refine z_iconst hx hb d_MD_shown_36 ?_
            refine lv_goto (tgt := 41) hx hb d_MD_shown_37 (by decide) ?_
            exact z_top (show (iI (2)) = (iI (if twF sh i 4 = true then 2 else 0)) from (by rw [if_pos h33])) J33_2
        refine b_if_eq (tgt := 24) hx hb d_MD_shown_17 (by decide) (fun h17 => ?_) (fun h17 => ?_)
        · refine z_iconst hx hb d_MD_shown_24 ?_
          exact z_top (show (iI (0)) = (iI (if loF sh i 4 = true then 2 else 0)) from (by rw [if_neg (Bool.eq_false_iff.mp h17)])) J17_1
        · refine z_iconst hx hb d_MD_shown_20 ?_
          refine lv_goto (tgt := 25) hx hb d_MD_shown_21 (by decide) ?_
          exact z_top (show (iI (2)) = (iI (if loF sh i 4 = true then 2 else 0)) from (by rw [if_pos h17])) J17_1
  exact L4 (_) (0) (0) (x0) ls (by omega) (by omega) (by omega) (by rfl) (Nat.lt_succ_self _) (lv_sub hl [2, 1, 0] rfl)

set_option maxHeartbeats 4000000 in
set_option maxRecDepth 100000 in
theorem c_MD_clock (l : Launch) (D : va_G) (k : Nat → ClassId) (sz : Nat) (h0 aTx aDt aFe aRu aTa aBe aEn aMa aEx aAb aCo aNt aNb aNe aCf aCd aKi aFi aSe : Nat) (fa : Int) (ty : Int) (sh : Bool) (wt : Int) (rd : Int) (cd : Int) (at1 : Int) (x0 : Int) (hx0 : rg x0) : Met l y_MD_clock wd_MD_clock rm_MD_clock (va_Pc [.ref h0, .int (iI (x0))] (PRW D k [(h0, .inr (8, [.int (iI (fa)), .int (iI (ty)), .ref aTx, .int (bI (sh)), .ref aDt, .ref aFe, .ref aRu, .ref aTa, .ref aBe, .ref aEn, .ref aMa, .int (iI (wt)), .ref aEx, .ref aAb, .ref aCo, .int (iI (rd)), .ref aNt, .ref aNb, .ref aNe, .ref aCf, .ref aCd, .int (iI (cd)), .int (iI (at1)), .ref aKi, .ref aFi, .ref aSe])), (aDt, .inl (k 0, 1461, .inl (aZ (dateZ))))] sz)) (va_Qi (fun (r : Int32) (u : Unit) => r = (iI (if x0 < 0 then -1 else shL sh 1461 0 x0))) (fun _ t => BRW D [(h0, .inr (8, [.int (iI (fa)), .int (iI (ty)), .ref aTx, .int (bI (sh)), .ref aDt, .ref aFe, .ref aRu, .ref aTa, .ref aBe, .ref aEn, .ref aMa, .int (iI (wt)), .ref aEx, .ref aAb, .ref aCo, .int (iI (rd)), .ref aNt, .ref aNb, .ref aNe, .ref aCf, .ref aCd, .int (iI (cd)), .int (iI (at1)), .ref aKi, .ref aFi, .ref aSe])), (aDt, .inl (k 0, 1461, .inl (aZ (dateZ))))] sz [(h0, .inr (8, [.int (iI (0)), .int (iI (ty)), .ref aTx, .int (bI (sh)), .ref aDt, .ref aFe, .ref aRu, .ref aTa, .ref aBe, .ref aEn, .ref aMa, .int (iI (wt)), .ref aEx, .ref aAb, .ref aCo, .int (iI (rd)), .ref aNt, .ref aNb, .ref aNe, .ref aCf, .ref aCd, .int (iI (cd)), .int (iI (at1)), .ref aKi, .ref aFi, .ref aSe])), (aDt, .inl (k 0, 1461, .inl (aZ (dateZ))))] t) (va_A [(h0, .inr (8, [.int (iI (fa)), .int (iI (ty)), .ref aTx, .int (bI (sh)), .ref aDt, .ref aFe, .ref aRu, .ref aTa, .ref aBe, .ref aEn, .ref aMa, .int (iI (wt)), .ref aEx, .ref aAb, .ref aCo, .int (iI (rd)), .ref aNt, .ref aNb, .ref aNe, .ref aCf, .ref aCd, .int (iI (cd)), .int (iI (at1)), .ref aKi, .ref aFi, .ref aSe])), (aDt, .inl (k 0, 1461, .inl (aZ (dateZ))))] sz)) 0 0 (va_A [(h0, .inr (8, [.int (iI (fa)), .int (iI (ty)), .ref aTx, .int (bI (sh)), .ref aDt, .ref aFe, .ref aRu, .ref aTa, .ref aBe, .ref aEn, .ref aMa, .int (iI (wt)), .ref aEx, .ref aAb, .ref aCo, .int (iI (rd)), .ref aNt, .ref aNb, .ref aNe, .ref aCf, .ref aCd, .int (iI (cd)), .int (iI (at1)), .ref aKi, .ref aFi, .ref aSe])), (aDt, .inl (k 0, 1461, .inl (aZ (dateZ))))] sz) := by
  refine e_i (by decide) rfl (Nat.le_of_ble_eq_true rfl) ?_
  intro p e s m args below meth c Q ls hx hb hml hown hts hpre hl ret
  obtain ⟨hsz, hP, hK, hD0, hX⟩ := hpre
  subst hsz
  have hD := hD0.self (sz := s.heap.size)
  have hA : ∀ q : Nat, s.heap.size ≤ q → (va_A [(h0, .inr (8, [.int (iI (fa)), .int (iI (ty)), .ref aTx, .int (bI (sh)), .ref aDt, .ref aFe, .ref aRu, .ref aTa, .ref aBe, .ref aEn, .ref aMa, .int (iI (wt)), .ref aEx, .ref aAb, .ref aCo, .int (iI (rd)), .ref aNt, .ref aNb, .ref aNe, .ref aCf, .ref aCd, .int (iI (cd)), .int (iI (at1)), .ref aKi, .ref aFi, .ref aSe])), (aDt, .inl (k 0, 1461, .inl (aZ (dateZ))))] s.heap.size) q := fun q h => Or.inr h
  have hS : va_S (va_A [(h0, .inr (8, [.int (iI (fa)), .int (iI (ty)), .ref aTx, .int (bI (sh)), .ref aDt, .ref aFe, .ref aRu, .ref aTa, .ref aBe, .ref aEn, .ref aMa, .int (iI (wt)), .ref aEx, .ref aAb, .ref aCo, .int (iI (rd)), .ref aNt, .ref aNb, .ref aNe, .ref aCf, .ref aCd, .int (iI (cd)), .int (iI (at1)), .ref aKi, .ref aFi, .ref aSe])), (aDt, .inl (k 0, 1461, .inl (aZ (dateZ))))] s.heap.size) s.heap s.heap [] := va_S.rf
  have hl : lv_has ls 2 [(0, .ref h0), (1, .int (iI (x0)))] := hl
  obtain ⟨q1, q2⟩ := hx0
  refine lv_aload_n hx hb d_MD_clock_0 rfl (lv_at hl 0 rfl) ?_
  refine z_iconst hx hb d_MD_clock_1 ?_
  refine va_put (D := D) (ci := 8) (v := .int (iI (0))) (ty := .int) (C := R_MD) (T := F_MD) (N := 26) hx hb hts in_MD t_MD t_MD_ok n_MD hown hK hP hD hS 0 rfl rfl 0 (by decide) (hts _ k_733) (fun _ h9 => h9) rfl (by decide +kernel) rfl rfl (Nat.le_of_ble_eq_true rfl) d_MD_clock_2 (fun H locs hP hD hS => ?_)
  have hP : va_P D classes [(h0, .inr (8, [.int (iI (0)), .int (iI (ty)), .ref aTx, .int (bI (sh)), .ref aDt, .ref aFe, .ref aRu, .ref aTa, .ref aBe, .ref aEn, .ref aMa, .int (iI (wt)), .ref aEx, .ref aAb, .ref aCo, .int (iI (rd)), .ref aNt, .ref aNb, .ref aNe, .ref aCf, .ref aCd, .int (iI (cd)), .int (iI (at1)), .ref aKi, .ref aFi, .ref aSe])), (aDt, .inl (k 0, 1461, .inl (aZ (dateZ))))] H := hP
  have hD : va_D (va_A [(h0, .inr (8, [.int (iI (fa)), .int (iI (ty)), .ref aTx, .int (bI (sh)), .ref aDt, .ref aFe, .ref aRu, .ref aTa, .ref aBe, .ref aEn, .ref aMa, .int (iI (wt)), .ref aEx, .ref aAb, .ref aCo, .int (iI (rd)), .ref aNt, .ref aNb, .ref aNe, .ref aCf, .ref aCd, .int (iI (cd)), .int (iI (at1)), .ref aKi, .ref aFi, .ref aSe])), (aDt, .inl (k 0, 1461, .inl (aZ (dateZ))))] s.heap.size) [(h0, .inr (8, [.int (iI (0)), .int (iI (ty)), .ref aTx, .int (bI (sh)), .ref aDt, .ref aFe, .ref aRu, .ref aTa, .ref aBe, .ref aEn, .ref aMa, .int (iI (wt)), .ref aEx, .ref aAb, .ref aCo, .int (iI (rd)), .ref aNt, .ref aNb, .ref aNe, .ref aCf, .ref aCd, .int (iI (cd)), .int (iI (at1)), .ref aKi, .ref aFi, .ref aSe])), (aDt, .inl (k 0, 1461, .inl (aZ (dateZ))))] := hD
  refine lv_iload_n hx hb d_MD_clock_5 rfl (lv_at hl 1 rfl) ?_
  refine z_if_ge (tgt := 13) hx hb d_MD_clock_6 (by decide) ⟨by omega, by omega⟩ (fun h6 => ?_) (fun h6 => ?_)
  · refine lv_aload_n hx hb d_MD_clock_13 rfl (lv_at hl 0 rfl) ?_
    refine lv_iload_n hx hb d_MD_clock_14 rfl (lv_at hl 1 rfl) ?_
    refine rc_i (va_runV (As := [.int (iI (x0))]) (rest := []) (b := h0) ⟨hx, hb, hml, hown, hts⟩ (c_MD_shown l D k (h0) (aTx) (aDt) (aFe) (aRu) (aTa) (aBe) (aEn) (aMa) (aEx) (aAb) (aCo) (aNt) (aNb) (aNe) (aCf) (aCd) (aKi) (aFi) (aSe) (0) (ty) (sh) (wt) (rd) (cd) (at1) (x0) ((by omega))) ⟨callB_of 1 hts (good_MD_shown) rfl rfl rfl (hts _ k_67) (hts _ k_986) (by decide +kernel) ⟨Nat.le_of_ble_eq_true rfl, Nat.le_of_ble_eq_true rfl⟩, (hts _ k_988), (hts _ k_56)⟩ ⟨fun a U g mk q => ⟨q.1, q.2.1, va_K.moved (u := U) (U := U.calling g mk a) (Vm.Alike.refl U.vm) q.2.2.1, q.2.2.2.calling⟩, (va_recv (q0 := 0) hK hP rfl rfl), fun U hU hW => ⟨rfl, by rw [hU]; exact hP, va_K.moved hW.alike hK, by rw [hU]; exact (hX.mono hS (fun _ h => absurd h id)).warm hW⟩⟩ rfl rfl hl.1 rfl (lv_room (Nat.le_of_ble_eq_true rfl)) d_MD_clock_15 ⟨Nat.le_of_ble_eq_true rfl, Nat.le_of_ble_eq_true rfl⟩) (fun xr_1 h_xr_1 => ?_)
    subst h_xr_1
    exact ret _ _ _ 18 (iI (shL sh 1461 0 x0)) () d_MD_clock_18 hS (by rw [if_neg (by omega)]) (fun t ht _ => ⟨by rw [ht]; exact hP, hD⟩)
  · refine z_iconst hx hb d_MD_clock_9 ?_
    refine lv_goto (tgt := 18) hx hb d_MD_clock_10 (by decide) ?_
    exact ret _ _ _ 18 (iI (-1)) () d_MD_clock_18 hS (by rw [if_pos (by omega)]) (fun t ht _ => ⟨by rw [ht]; exact hP, hD⟩)

set_option maxHeartbeats 4000000 in
set_option maxRecDepth 100000 in
theorem c_MD_total_bad1 (l : Launch) (D : va_G) (k : Nat → ClassId) (sz : Nat) (h0 aTx aDt aFe aRu aTa aBe aEn aMa aEx aAb aCo aNt aNb aNe aCf aCd aKi aFi aSe : Nat) (fa : Int) (ty : Int) (sh : Bool) (wt : Int) (rd : Int) (cd : Int) (at1 : Int) (cz : Int) (fz : Int) (tz : Int) (w0 : Int) (g1 : rg cz) (g2 : rg fz) (g3 : rg tz) (hb0 : cz < 0 ∨ 2 < cz ∨ fz < 0 ∨ tz < fz ∨ 1461 < tz) : Met l y_MD_total wd_MD_total rm_MD_total (va_Pc [.ref h0, .int (iI (cz)), .int (iI (fz)), .int (iI (tz)), .int (iI (w0))] (PRW D k [(h0, .inr (8, [.int (iI (fa)), .int (iI (ty)), .ref aTx, .int (bI (sh)), .ref aDt, .ref aFe, .ref aRu, .ref aTa, .ref aBe, .ref aEn, .ref aMa, .int (iI (wt)), .ref aEx, .ref aAb, .ref aCo, .int (iI (rd)), .ref aNt, .ref aNb, .ref aNe, .ref aCf, .ref aCd, .int (iI (cd)), .int (iI (at1)), .ref aKi, .ref aFi, .ref aSe]))] sz)) (va_Qi (fun (r : Int32) (u : Unit) => r = (iI (0))) (fun _ t => BRW D [(h0, .inr (8, [.int (iI (fa)), .int (iI (ty)), .ref aTx, .int (bI (sh)), .ref aDt, .ref aFe, .ref aRu, .ref aTa, .ref aBe, .ref aEn, .ref aMa, .int (iI (wt)), .ref aEx, .ref aAb, .ref aCo, .int (iI (rd)), .ref aNt, .ref aNb, .ref aNe, .ref aCf, .ref aCd, .int (iI (cd)), .int (iI (at1)), .ref aKi, .ref aFi, .ref aSe]))] sz [(h0, .inr (8, [.int (iI (1)), .int (iI (ty)), .ref aTx, .int (bI (sh)), .ref aDt, .ref aFe, .ref aRu, .ref aTa, .ref aBe, .ref aEn, .ref aMa, .int (iI (wt)), .ref aEx, .ref aAb, .ref aCo, .int (iI (rd)), .ref aNt, .ref aNb, .ref aNe, .ref aCf, .ref aCd, .int (iI (cd)), .int (iI (at1)), .ref aKi, .ref aFi, .ref aSe]))] t) (va_A [(h0, .inr (8, [.int (iI (fa)), .int (iI (ty)), .ref aTx, .int (bI (sh)), .ref aDt, .ref aFe, .ref aRu, .ref aTa, .ref aBe, .ref aEn, .ref aMa, .int (iI (wt)), .ref aEx, .ref aAb, .ref aCo, .int (iI (rd)), .ref aNt, .ref aNb, .ref aNe, .ref aCf, .ref aCd, .int (iI (cd)), .int (iI (at1)), .ref aKi, .ref aFi, .ref aSe]))] sz)) 0 0 (va_A [(h0, .inr (8, [.int (iI (fa)), .int (iI (ty)), .ref aTx, .int (bI (sh)), .ref aDt, .ref aFe, .ref aRu, .ref aTa, .ref aBe, .ref aEn, .ref aMa, .int (iI (wt)), .ref aEx, .ref aAb, .ref aCo, .int (iI (rd)), .ref aNt, .ref aNb, .ref aNe, .ref aCf, .ref aCd, .int (iI (cd)), .int (iI (at1)), .ref aKi, .ref aFi, .ref aSe]))] sz) := by
  refine e_i (by decide) rfl (Nat.le_of_ble_eq_true rfl) ?_
  intro p e s m args below meth c Q ls hx hb hml hown hts hpre hl ret
  obtain ⟨hsz, hP, hK, hD0, hX⟩ := hpre
  subst hsz
  have hD := hD0.self (sz := s.heap.size)
  have hA : ∀ q : Nat, s.heap.size ≤ q → (va_A [(h0, .inr (8, [.int (iI (fa)), .int (iI (ty)), .ref aTx, .int (bI (sh)), .ref aDt, .ref aFe, .ref aRu, .ref aTa, .ref aBe, .ref aEn, .ref aMa, .int (iI (wt)), .ref aEx, .ref aAb, .ref aCo, .int (iI (rd)), .ref aNt, .ref aNb, .ref aNe, .ref aCf, .ref aCd, .int (iI (cd)), .int (iI (at1)), .ref aKi, .ref aFi, .ref aSe]))] s.heap.size) q := fun q h => Or.inr h
  have hS : va_S (va_A [(h0, .inr (8, [.int (iI (fa)), .int (iI (ty)), .ref aTx, .int (bI (sh)), .ref aDt, .ref aFe, .ref aRu, .ref aTa, .ref aBe, .ref aEn, .ref aMa, .int (iI (wt)), .ref aEx, .ref aAb, .ref aCo, .int (iI (rd)), .ref aNt, .ref aNb, .ref aNe, .ref aCf, .ref aCd, .int (iI (cd)), .int (iI (at1)), .ref aKi, .ref aFi, .ref aSe]))] s.heap.size) s.heap s.heap [] := va_S.rf
  have hl : lv_has ls 9 [(0, .ref h0), (1, .int (iI (cz))), (2, .int (iI (fz))), (3, .int (iI (tz))), (4, .int (iI (w0)))] := hl
  obtain ⟨a1, a2⟩ := g1
  obtain ⟨b1, b2⟩ := g2
  obtain ⟨c1, c2⟩ := g3
  refine lv_iload_n hx hb d_MD_total_0 rfl (lv_at hl 1 rfl) ?_
  refine z_if_lt (tgt := 29) hx hb d_MD_total_1 (by decide) ⟨by omega, by omega⟩ (fun h1 => ?_) (fun h1 => ?_)
  · refine z_iconst hx hb d_MD_total_29 ?_
    refine lv_istore (lv' := [(5, .int (iI (0))), (0, .ref h0), (1, .int (iI (cz))), (2, .int (iI (fz))), (3, .int (iI (tz))), (4, .int (iI (w0)))]) hx hb d_MD_total_30 hl (by decide) rfl (fun ls hl => ?_)
    refine lv_aload_n hx hb d_MD_total_32 rfl (lv_at hl 1 rfl) ?_
    refine lv_iload hx hb d_MD_total_33 (lv_at hl 0 rfl) ?_
    refine z_if_ne (tgt := 42) hx hb d_MD_total_35 (by decide) ⟨by omega, by omega⟩ (fun h35 => absurd h35 (by decide)) (fun h35 => ?_)
    refine z_iconst hx hb d_MD_total_38 ?_
    refine lv_goto (tgt := 56) hx hb d_MD_total_39 (by decide) ?_
    have hPc := hP.sub (ws' := [(h0, .inr (8, [.int (iI (fa)), .int (iI (ty)), .ref aTx, .int (bI (sh)), .ref aDt, .ref aFe, .ref aRu, .ref aTa, .ref aBe, .ref aEn, .ref aMa, .int (iI (wt)), .ref aEx, .ref aAb, .ref aCo, .int (iI (rd)), .ref aNt, .ref aNb, .ref aNe, .ref aCf, .ref aCd, .int (iI (cd)), .int (iI (at1)), .ref aKi, .ref aFi, .ref aSe]))]) [0] rfl
    have hDc := hD.sub (ws' := [(h0, .inr (8, [.int (iI (fa)), .int (iI (ty)), .ref aTx, .int (bI (sh)), .ref aDt, .ref aFe, .ref aRu, .ref aTa, .ref aBe, .ref aEn, .ref aMa, .int (iI (wt)), .ref aEx, .ref aAb, .ref aCo, .int (iI (rd)), .ref aNt, .ref aNb, .ref aNe, .ref aCf, .ref aCd, .int (iI (cd)), .int (iI (at1)), .ref aKi, .ref aFi, .ref aSe]))]) [0] (by decide) rfl
    have hFc := va_free (wc := [(h0, .inr (8, [.int (iI (fa)), .int (iI (ty)), .ref aTx, .int (bI (sh)), .ref aDt, .ref aFe, .ref aRu, .ref aTa, .ref aBe, .ref aEn, .ref aMa, .int (iI (wt)), .ref aEx, .ref aAb, .ref aCo, .int (iI (rd)), .ref aNt, .ref aNb, .ref aNe, .ref aCf, .ref aCd, .int (iI (cd)), .int (iI (at1)), .ref aKi, .ref aFi, .ref aSe]))]) hD hS hA [0] rfl
    refine va_calli (va_runV (As := [.int (iI (1))]) (rest := []) (b := h0) ⟨hx, hb, hml, hown, hts⟩ (c_MD_refused l D k s.heap.size (h0) (aTx) (aDt) (aFe) (aRu) (aTa) (aBe) (aEn) (aMa) (aEx) (aAb) (aCo) (aNt) (aNb) (aNe) (aCf) (aCd) (aKi) (aFi) (aSe) (fa) (ty) (sh) (wt) (rd) (cd) (at1) (1) (⟨by omega, by omega⟩)) ⟨callB_of 1 hts (good_MD_refused) rfl rfl rfl (hts _ k_67) (hts _ k_820) (by decide +kernel) ⟨Nat.le_of_ble_eq_true rfl, Nat.le_of_ble_eq_true rfl⟩, (hts _ k_822), (hts _ k_28)⟩ ⟨fun a U g mk q => ⟨q.1, q.2.1, q.2.2.1, va_K.moved (u := U) (U := U.calling g mk a) (Vm.Alike.refl U.vm) q.2.2.2.1, q.2.2.2.2.1, q.2.2.2.2.2.calling⟩, (va_recv (q0 := 0) hK hP rfl rfl), fun U hU hW => ⟨rfl, by rw [hU], by rw [hU]; exact hPc, va_K.moved hW.alike hK, hDc.weaken (fun _ _ _ _ => trivial), by rw [hU]; exact (hX.mono hS hFc).warm hW⟩⟩ rfl rfl hl.1 rfl (lv_room (Nat.le_of_ble_eq_true rfl)) d_MD_total_56 ⟨Nat.le_of_ble_eq_true rfl, Nat.le_of_ble_eq_true rfl⟩) hS (fun q _ h => hFc q h) hFc (fun xr_1 xu_2 t H1 locs ht hvm h_xr_1 hB hz1 hk1 hS => ?_)
    obtain ⟨hP1, hD1⟩ := hB
    rw [ht] at hP1
    obtain ⟨hP, hD⟩ := va_join (wr := []) (w1 := [(h0, .inr (8, [.int (iI ((rfF 1).2)), .int (iI (ty)), .ref aTx, .int (bI (sh)), .ref aDt, .ref aFe, .ref aRu, .ref aTa, .ref aBe, .ref aEn, .ref aMa, .int (iI (wt)), .ref aEx, .ref aAb, .ref aCo, .int (iI (rd)), .ref aNt, .ref aNb, .ref aNe, .ref aCf, .ref aCd, .int (iI (cd)), .int (iI (at1)), .ref aKi, .ref aFi, .ref aSe]))]) hP hD [0] [] rfl rfl (by decide) (by decide) hk1 hFc hP1 hD1
    generalize H1 = H at hP hS ⊢
    have hP := hP.sub (ws' := [(h0, .inr (8, [.int (iI ((rfF 1).2)), .int (iI (ty)), .ref aTx, .int (bI (sh)), .ref aDt, .ref aFe, .ref aRu, .ref aTa, .ref aBe, .ref aEn, .ref aMa, .int (iI (wt)), .ref aEx, .ref aAb, .ref aCo, .int (iI (rd)), .ref aNt, .ref aNb, .ref aNe, .ref aCf, .ref aCd, .int (iI (cd)), .int (iI (at1)), .ref aKi, .ref aFi, .ref aSe]))]) [0] rfl
    have hD := hD.sub (ws' := [(h0, .inr (8, [.int (iI ((rfF 1).2)), .int (iI (ty)), .ref aTx, .int (bI (sh)), .ref aDt, .ref aFe, .ref aRu, .ref aTa, .ref aBe, .ref aEn, .ref aMa, .int (iI (wt)), .ref aEx, .ref aAb, .ref aCo, .int (iI (rd)), .ref aNt, .ref aNb, .ref aNe, .ref aCf, .ref aCd, .int (iI (cd)), .int (iI (at1)), .ref aKi, .ref aFi, .ref aSe]))]) [0] (by decide) rfl
    subst h_xr_1
    refine b_if_eq (tgt := 64) hx hb d_MD_total_59 (by decide) (fun h59 => absurd h59 (by decide)) (fun h59 => ?_)
    refine z_iconst hx hb d_MD_total_62 ?_
    exact ret _ _ _ 63 (iI (0)) () d_MD_total_63 hS (rfl) (fun t ht _ => ⟨by rw [ht]; exact hP, hD⟩)
  · refine lv_iload_n hx hb d_MD_total_4 rfl (lv_at hl 1 rfl) ?_
    refine z_iconst hx hb d_MD_total_5 ?_
    refine z_icmp_gt (tgt := 29) hx hb d_MD_total_6 (by decide) ⟨by omega, by omega⟩ ⟨by omega, by omega⟩ (fun h6 => ?_) (fun h6 => ?_)
    · refine z_iconst hx hb d_MD_total_29 ?_
      refine lv_istore (lv' := [(5, .int (iI (0))), (0, .ref h0), (1, .int (iI (cz))), (2, .int (iI (fz))), (3, .int (iI (tz))), (4, .int (iI (w0)))]) hx hb d_MD_total_30 hl (by decide) rfl (fun ls hl => ?_)
      refine lv_aload_n hx hb d_MD_total_32 rfl (lv_at hl 1 rfl) ?_
      refine lv_iload hx hb d_MD_total_33 (lv_at hl 0 rfl) ?_
      refine z_if_ne (tgt := 42) hx hb d_MD_total_35 (by decide) ⟨by omega, by omega⟩ (fun h35 => absurd h35 (by decide)) (fun h35 => ?_)
      refine z_iconst hx hb d_MD_total_38 ?_
      refine lv_goto (tgt := 56) hx hb d_MD_total_39 (by decide) ?_
      have hPc := hP.sub (ws' := [(h0, .inr (8, [.int (iI (fa)), .int (iI (ty)), .ref aTx, .int (bI (sh)), .ref aDt, .ref aFe, .ref aRu, .ref aTa, .ref aBe, .ref aEn, .ref aMa, .int (iI (wt)), .ref aEx, .ref aAb, .ref aCo, .int (iI (rd)), .ref aNt, .ref aNb, .ref aNe, .ref aCf, .ref aCd, .int (iI (cd)), .int (iI (at1)), .ref aKi, .ref aFi, .ref aSe]))]) [0] rfl
      have hDc := hD.sub (ws' := [(h0, .inr (8, [.int (iI (fa)), .int (iI (ty)), .ref aTx, .int (bI (sh)), .ref aDt, .ref aFe, .ref aRu, .ref aTa, .ref aBe, .ref aEn, .ref aMa, .int (iI (wt)), .ref aEx, .ref aAb, .ref aCo, .int (iI (rd)), .ref aNt, .ref aNb, .ref aNe, .ref aCf, .ref aCd, .int (iI (cd)), .int (iI (at1)), .ref aKi, .ref aFi, .ref aSe]))]) [0] (by decide) rfl
      have hFc := va_free (wc := [(h0, .inr (8, [.int (iI (fa)), .int (iI (ty)), .ref aTx, .int (bI (sh)), .ref aDt, .ref aFe, .ref aRu, .ref aTa, .ref aBe, .ref aEn, .ref aMa, .int (iI (wt)), .ref aEx, .ref aAb, .ref aCo, .int (iI (rd)), .ref aNt, .ref aNb, .ref aNe, .ref aCf, .ref aCd, .int (iI (cd)), .int (iI (at1)), .ref aKi, .ref aFi, .ref aSe]))]) hD hS hA [0] rfl
      refine va_calli (va_runV (As := [.int (iI (1))]) (rest := []) (b := h0) ⟨hx, hb, hml, hown, hts⟩ (c_MD_refused l D k s.heap.size (h0) (aTx) (aDt) (aFe) (aRu) (aTa) (aBe) (aEn) (aMa) (aEx) (aAb) (aCo) (aNt) (aNb) (aNe) (aCf) (aCd) (aKi) (aFi) (aSe) (fa) (ty) (sh) (wt) (rd) (cd) (at1) (1) (⟨by omega, by omega⟩)) ⟨callB_of 1 hts (good_MD_refused) rfl rfl rfl (hts _ k_67) (hts _ k_820) (by decide +kernel) ⟨Nat.le_of_ble_eq_true rfl, Nat.le_of_ble_eq_true rfl⟩, (hts _ k_822), (hts _ k_28)⟩ ⟨fun a U g mk q => ⟨q.1, q.2.1, q.2.2.1, va_K.moved (u := U) (U := U.calling g mk a) (Vm.Alike.refl U.vm) q.2.2.2.1, q.2.2.2.2.1, q.2.2.2.2.2.calling⟩, (va_recv (q0 := 0) hK hP rfl rfl), fun U hU hW => ⟨rfl, by rw [hU], by rw [hU]; exact hPc, va_K.moved hW.alike hK, hDc.weaken (fun _ _ _ _ => trivial), by rw [hU]; exact (hX.mono hS hFc).warm hW⟩⟩ rfl rfl hl.1 rfl (lv_room (Nat.le_of_ble_eq_true rfl)) d_MD_total_56 ⟨Nat.le_of_ble_eq_true rfl, Nat.le_of_ble_eq_true rfl⟩) hS (fun q _ h => hFc q h) hFc (fun xr_3 xu_4 t H1 locs ht hvm h_xr_3 hB hz1 hk1 hS => ?_)
      obtain ⟨hP1, hD1⟩ := hB
      rw [ht] at hP1
      obtain ⟨hP, hD⟩ := va_join (wr := []) (w1 := [(h0, .inr (8, [.int (iI ((rfF 1).2)), .int (iI (ty)), .ref aTx, .int (bI (sh)), .ref aDt, .ref aFe, .ref aRu, .ref aTa, .ref aBe, .ref aEn, .ref aMa, .int (iI (wt)), .ref aEx, .ref aAb, .ref aCo, .int (iI (rd)), .ref aNt, .ref aNb, .ref aNe, .ref aCf, .ref aCd, .int (iI (cd)), .int (iI (at1)), .ref aKi, .ref aFi, .ref aSe]))]) hP hD [0] [] rfl rfl (by decide) (by decide) hk1 hFc hP1 hD1
      generalize H1 = H at hP hS ⊢
      have hP := hP.sub (ws' := [(h0, .inr (8, [.int (iI ((rfF 1).2)), .int (iI (ty)), .ref aTx, .int (bI (sh)), .ref aDt, .ref aFe, .ref aRu, .ref aTa, .ref aBe, .ref aEn, .ref aMa, .int (iI (wt)), .ref aEx, .ref aAb, .ref aCo, .int (iI (rd)), .ref aNt, .ref aNb, .ref aNe, .ref aCf, .ref aCd, .int (iI (cd)), .int (iI (at1)), .ref aKi, .ref aFi, .ref aSe]))]) [0] rfl
      have hD := hD.sub (ws' := [(h0, .inr (8, [.int (iI ((rfF 1).2)), .int (iI (ty)), .ref aTx, .int (bI (sh)), .ref aDt, .ref aFe, .ref aRu, .ref aTa, .ref aBe, .ref aEn, .ref aMa, .int (iI (wt)), .ref aEx, .ref aAb, .ref aCo, .int (iI (rd)), .ref aNt, .ref aNb, .ref aNe, .ref aCf, .ref aCd, .int (iI (cd)), .int (iI (at1)), .ref aKi, .ref aFi, .ref aSe]))]) [0] (by decide) rfl
      subst h_xr_3
      refine b_if_eq (tgt := 64) hx hb d_MD_total_59 (by decide) (fun h59 => absurd h59 (by decide)) (fun h59 => ?_)
      refine z_iconst hx hb d_MD_total_62 ?_
      exact ret _ _ _ 63 (iI (0)) () d_MD_total_63 hS (rfl) (fun t ht _ => ⟨by rw [ht]; exact hP, hD⟩)
    · refine lv_iload_n hx hb d_MD_total_9 rfl (lv_at hl 2 rfl) ?_
      refine z_if_lt (tgt := 29) hx hb d_MD_total_10 (by decide) ⟨by omega, by omega⟩ (fun h10 => ?_) (fun h10 => ?_)
      · refine z_iconst hx hb d_MD_total_29 ?_
        refine lv_istore (lv' := [(5, .int (iI (0))), (0, .ref h0), (1, .int (iI (cz))), (2, .int (iI (fz))), (3, .int (iI (tz))), (4, .int (iI (w0)))]) hx hb d_MD_total_30 hl (by decide) rfl (fun ls hl => ?_)
        refine lv_aload_n hx hb d_MD_total_32 rfl (lv_at hl 1 rfl) ?_
        refine lv_iload hx hb d_MD_total_33 (lv_at hl 0 rfl) ?_
        refine z_if_ne (tgt := 42) hx hb d_MD_total_35 (by decide) ⟨by omega, by omega⟩ (fun h35 => absurd h35 (by decide)) (fun h35 => ?_)
        refine z_iconst hx hb d_MD_total_38 ?_
        refine lv_goto (tgt := 56) hx hb d_MD_total_39 (by decide) ?_
        have hPc := hP.sub (ws' := [(h0, .inr (8, [.int (iI (fa)), .int (iI (ty)), .ref aTx, .int (bI (sh)), .ref aDt, .ref aFe, .ref aRu, .ref aTa, .ref aBe, .ref aEn, .ref aMa, .int (iI (wt)), .ref aEx, .ref aAb, .ref aCo, .int (iI (rd)), .ref aNt, .ref aNb, .ref aNe, .ref aCf, .ref aCd, .int (iI (cd)), .int (iI (at1)), .ref aKi, .ref aFi, .ref aSe]))]) [0] rfl
        have hDc := hD.sub (ws' := [(h0, .inr (8, [.int (iI (fa)), .int (iI (ty)), .ref aTx, .int (bI (sh)), .ref aDt, .ref aFe, .ref aRu, .ref aTa, .ref aBe, .ref aEn, .ref aMa, .int (iI (wt)), .ref aEx, .ref aAb, .ref aCo, .int (iI (rd)), .ref aNt, .ref aNb, .ref aNe, .ref aCf, .ref aCd, .int (iI (cd)), .int (iI (at1)), .ref aKi, .ref aFi, .ref aSe]))]) [0] (by decide) rfl
        have hFc := va_free (wc := [(h0, .inr (8, [.int (iI (fa)), .int (iI (ty)), .ref aTx, .int (bI (sh)), .ref aDt, .ref aFe, .ref aRu, .ref aTa, .ref aBe, .ref aEn, .ref aMa, .int (iI (wt)), .ref aEx, .ref aAb, .ref aCo, .int (iI (rd)), .ref aNt, .ref aNb, .ref aNe, .ref aCf, .ref aCd, .int (iI (cd)), .int (iI (at1)), .ref aKi, .ref aFi, .ref aSe]))]) hD hS hA [0] rfl
        refine va_calli (va_runV (As := [.int (iI (1))]) (rest := []) (b := h0) ⟨hx, hb, hml, hown, hts⟩ (c_MD_refused l D k s.heap.size (h0) (aTx) (aDt) (aFe) (aRu) (aTa) (aBe) (aEn) (aMa) (aEx) (aAb) (aCo) (aNt) (aNb) (aNe) (aCf) (aCd) (aKi) (aFi) (aSe) (fa) (ty) (sh) (wt) (rd) (cd) (at1) (1) (⟨by omega, by omega⟩)) ⟨callB_of 1 hts (good_MD_refused) rfl rfl rfl (hts _ k_67) (hts _ k_820) (by decide +kernel) ⟨Nat.le_of_ble_eq_true rfl, Nat.le_of_ble_eq_true rfl⟩, (hts _ k_822), (hts _ k_28)⟩ ⟨fun a U g mk q => ⟨q.1, q.2.1, q.2.2.1, va_K.moved (u := U) (U := U.calling g mk a) (Vm.Alike.refl U.vm) q.2.2.2.1, q.2.2.2.2.1, q.2.2.2.2.2.calling⟩, (va_recv (q0 := 0) hK hP rfl rfl), fun U hU hW => ⟨rfl, by rw [hU], by rw [hU]; exact hPc, va_K.moved hW.alike hK, hDc.weaken (fun _ _ _ _ => trivial), by rw [hU]; exact (hX.mono hS hFc).warm hW⟩⟩ rfl rfl hl.1 rfl (lv_room (Nat.le_of_ble_eq_true rfl)) d_MD_total_56 ⟨Nat.le_of_ble_eq_true rfl, Nat.le_of_ble_eq_true rfl⟩) hS (fun q _ h => hFc q h) hFc (fun xr_5 xu_6 t H1 locs ht hvm h_xr_5 hB hz1 hk1 hS => ?_)
        obtain ⟨hP1, hD1⟩ := hB
        rw [ht] at hP1
        obtain ⟨hP, hD⟩ := va_join (wr := []) (w1 := [(h0, .inr (8, [.int (iI ((rfF 1).2)), .int (iI (ty)), .ref aTx, .int (bI (sh)), .ref aDt, .ref aFe, .ref aRu, .ref aTa, .ref aBe, .ref aEn, .ref aMa, .int (iI (wt)), .ref aEx, .ref aAb, .ref aCo, .int (iI (rd)), .ref aNt, .ref aNb, .ref aNe, .ref aCf, .ref aCd, .int (iI (cd)), .int (iI (at1)), .ref aKi, .ref aFi, .ref aSe]))]) hP hD [0] [] rfl rfl (by decide) (by decide) hk1 hFc hP1 hD1
        generalize H1 = H at hP hS ⊢
        have hP := hP.sub (ws' := [(h0, .inr (8, [.int (iI ((rfF 1).2)), .int (iI (ty)), .ref aTx, .int (bI (sh)), .ref aDt, .ref aFe, .ref aRu, .ref aTa, .ref aBe, .ref aEn, .ref aMa, .int (iI (wt)), .ref aEx, .ref aAb, .ref aCo, .int (iI (rd)), .ref aNt, .ref aNb, .ref aNe, .ref aCf, .ref aCd, .int (iI (cd)), .int (iI (at1)), .ref aKi, .ref aFi, .ref aSe]))]) [0] rfl
        have hD := hD.sub (ws' := [(h0, .inr (8, [.int (iI ((rfF 1).2)), .int (iI (ty)), .ref aTx, .int (bI (sh)), .ref aDt, .ref aFe, .ref aRu, .ref aTa, .ref aBe, .ref aEn, .ref aMa, .int (iI (wt)), .ref aEx, .ref aAb, .ref aCo, .int (iI (rd)), .ref aNt, .ref aNb, .ref aNe, .ref aCf, .ref aCd, .int (iI (cd)), .int (iI (at1)), .ref aKi, .ref aFi, .ref aSe]))]) [0] (by decide) rfl
        subst h_xr_5
        refine b_if_eq (tgt := 64) hx hb d_MD_total_59 (by decide) (fun h59 => absurd h59 (by decide)) (fun h59 => ?_)
        refine z_iconst hx hb d_MD_total_62 ?_
        exact ret _ _ _ 63 (iI (0)) () d_MD_total_63 hS (rfl) (fun t ht _ => ⟨by rw [ht]; exact hP, hD⟩)
      · refine lv_iload_n hx hb d_MD_total_13 rfl (lv_at hl 2 rfl) ?_
        refine lv_iload_n hx hb d_MD_total_14 rfl (lv_at hl 3 rfl) ?_
        refine z_icmp_gt (tgt := 29) hx hb d_MD_total_15 (by decide) ⟨by omega, by omega⟩ ⟨by omega, by omega⟩ (fun h15 => ?_) (fun h15 => ?_)
        · refine z_iconst hx hb d_MD_total_29 ?_
          refine lv_istore (lv' := [(5, .int (iI (0))), (0, .ref h0), (1, .int (iI (cz))), (2, .int (iI (fz))), (3, .int (iI (tz))), (4, .int (iI (w0)))]) hx hb d_MD_total_30 hl (by decide) rfl (fun ls hl => ?_)
          refine lv_aload_n hx hb d_MD_total_32 rfl (lv_at hl 1 rfl) ?_
          refine lv_iload hx hb d_MD_total_33 (lv_at hl 0 rfl) ?_
          refine z_if_ne (tgt := 42) hx hb d_MD_total_35 (by decide) ⟨by omega, by omega⟩ (fun h35 => absurd h35 (by decide)) (fun h35 => ?_)
          refine z_iconst hx hb d_MD_total_38 ?_
          refine lv_goto (tgt := 56) hx hb d_MD_total_39 (by decide) ?_
          have hPc := hP.sub (ws' := [(h0, .inr (8, [.int (iI (fa)), .int (iI (ty)), .ref aTx, .int (bI (sh)), .ref aDt, .ref aFe, .ref aRu, .ref aTa, .ref aBe, .ref aEn, .ref aMa, .int (iI (wt)), .ref aEx, .ref aAb, .ref aCo, .int (iI (rd)), .ref aNt, .ref aNb, .ref aNe, .ref aCf, .ref aCd, .int (iI (cd)), .int (iI (at1)), .ref aKi, .ref aFi, .ref aSe]))]) [0] rfl
          have hDc := hD.sub (ws' := [(h0, .inr (8, [.int (iI (fa)), .int (iI (ty)), .ref aTx, .int (bI (sh)), .ref aDt, .ref aFe, .ref aRu, .ref aTa, .ref aBe, .ref aEn, .ref aMa, .int (iI (wt)), .ref aEx, .ref aAb, .ref aCo, .int (iI (rd)), .ref aNt, .ref aNb, .ref aNe, .ref aCf, .ref aCd, .int (iI (cd)), .int (iI (at1)), .ref aKi, .ref aFi, .ref aSe]))]) [0] (by decide) rfl
          have hFc := va_free (wc := [(h0, .inr (8, [.int (iI (fa)), .int (iI (ty)), .ref aTx, .int (bI (sh)), .ref aDt, .ref aFe, .ref aRu, .ref aTa, .ref aBe, .ref aEn, .ref aMa, .int (iI (wt)), .ref aEx, .ref aAb, .ref aCo, .int (iI (rd)), .ref aNt, .ref aNb, .ref aNe, .ref aCf, .ref aCd, .int (iI (cd)), .int (iI (at1)), .ref aKi, .ref aFi, .ref aSe]))]) hD hS hA [0] rfl
          refine va_calli (va_runV (As := [.int (iI (1))]) (rest := []) (b := h0) ⟨hx, hb, hml, hown, hts⟩ (c_MD_refused l D k s.heap.size (h0) (aTx) (aDt) (aFe) (aRu) (aTa) (aBe) (aEn) (aMa) (aEx) (aAb) (aCo) (aNt) (aNb) (aNe) (aCf) (aCd) (aKi) (aFi) (aSe) (fa) (ty) (sh) (wt) (rd) (cd) (at1) (1) (⟨by omega, by omega⟩)) ⟨callB_of 1 hts (good_MD_refused) rfl rfl rfl (hts _ k_67) (hts _ k_820) (by decide +kernel) ⟨Nat.le_of_ble_eq_true rfl, Nat.le_of_ble_eq_true rfl⟩, (hts _ k_822), (hts _ k_28)⟩ ⟨fun a U g mk q => ⟨q.1, q.2.1, q.2.2.1, va_K.moved (u := U) (U := U.calling g mk a) (Vm.Alike.refl U.vm) q.2.2.2.1, q.2.2.2.2.1, q.2.2.2.2.2.calling⟩, (va_recv (q0 := 0) hK hP rfl rfl), fun U hU hW => ⟨rfl, by rw [hU], by rw [hU]; exact hPc, va_K.moved hW.alike hK, hDc.weaken (fun _ _ _ _ => trivial), by rw [hU]; exact (hX.mono hS hFc).warm hW⟩⟩ rfl rfl hl.1 rfl (lv_room (Nat.le_of_ble_eq_true rfl)) d_MD_total_56 ⟨Nat.le_of_ble_eq_true rfl, Nat.le_of_ble_eq_true rfl⟩) hS (fun q _ h => hFc q h) hFc (fun xr_7 xu_8 t H1 locs ht hvm h_xr_7 hB hz1 hk1 hS => ?_)
          obtain ⟨hP1, hD1⟩ := hB
          rw [ht] at hP1
          obtain ⟨hP, hD⟩ := va_join (wr := []) (w1 := [(h0, .inr (8, [.int (iI ((rfF 1).2)), .int (iI (ty)), .ref aTx, .int (bI (sh)), .ref aDt, .ref aFe, .ref aRu, .ref aTa, .ref aBe, .ref aEn, .ref aMa, .int (iI (wt)), .ref aEx, .ref aAb, .ref aCo, .int (iI (rd)), .ref aNt, .ref aNb, .ref aNe, .ref aCf, .ref aCd, .int (iI (cd)), .int (iI (at1)), .ref aKi, .ref aFi, .ref aSe]))]) hP hD [0] [] rfl rfl (by decide) (by decide) hk1 hFc hP1 hD1
          generalize H1 = H at hP hS ⊢
          have hP := hP.sub (ws' := [(h0, .inr (8, [.int (iI ((rfF 1).2)), .int (iI (ty)), .ref aTx, .int (bI (sh)), .ref aDt, .ref aFe, .ref aRu, .ref aTa, .ref aBe, .ref aEn, .ref aMa, .int (iI (wt)), .ref aEx, .ref aAb, .ref aCo, .int (iI (rd)), .ref aNt, .ref aNb, .ref aNe, .ref aCf, .ref aCd, .int (iI (cd)), .int (iI (at1)), .ref aKi, .ref aFi, .ref aSe]))]) [0] rfl
          have hD := hD.sub (ws' := [(h0, .inr (8, [.int (iI ((rfF 1).2)), .int (iI (ty)), .ref aTx, .int (bI (sh)), .ref aDt, .ref aFe, .ref aRu, .ref aTa, .ref aBe, .ref aEn, .ref aMa, .int (iI (wt)), .ref aEx, .ref aAb, .ref aCo, .int (iI (rd)), .ref aNt, .ref aNb, .ref aNe, .ref aCf, .ref aCd, .int (iI (cd)), .int (iI (at1)), .ref aKi, .ref aFi, .ref aSe]))]) [0] (by decide) rfl
          subst h_xr_7
          refine b_if_eq (tgt := 64) hx hb d_MD_total_59 (by decide) (fun h59 => absurd h59 (by decide)) (fun h59 => ?_)
          refine z_iconst hx hb d_MD_total_62 ?_
          exact ret _ _ _ 63 (iI (0)) () d_MD_total_63 hS (rfl) (fun t ht _ => ⟨by rw [ht]; exact hP, hD⟩)
        · refine lv_iload_n hx hb d_MD_total_18 rfl (lv_at hl 3 rfl) ?_
          refine z_sipush hx hb d_MD_total_19 (by decide) ?_
          refine z_icmp_gt (tgt := 29) hx hb d_MD_total_22 (by decide) ⟨by omega, by omega⟩ ⟨by omega, by omega⟩ (fun h22 => ?_) (fun h22 => ?_)
          · refine z_iconst hx hb d_MD_total_29 ?_
            refine lv_istore (lv' := [(5, .int (iI (0))), (0, .ref h0), (1, .int (iI (cz))), (2, .int (iI (fz))), (3, .int (iI (tz))), (4, .int (iI (w0)))]) hx hb d_MD_total_30 hl (by decide) rfl (fun ls hl => ?_)
            refine lv_aload_n hx hb d_MD_total_32 rfl (lv_at hl 1 rfl) ?_
            refine lv_iload hx hb d_MD_total_33 (lv_at hl 0 rfl) ?_
            refine z_if_ne (tgt := 42) hx hb d_MD_total_35 (by decide) ⟨by omega, by omega⟩ (fun h35 => absurd h35 (by decide)) (fun h35 => ?_)
            refine z_iconst hx hb d_MD_total_38 ?_
            refine lv_goto (tgt := 56) hx hb d_MD_total_39 (by decide) ?_
            have hPc := hP.sub (ws' := [(h0, .inr (8, [.int (iI (fa)), .int (iI (ty)), .ref aTx, .int (bI (sh)), .ref aDt, .ref aFe, .ref aRu, .ref aTa, .ref aBe, .ref aEn, .ref aMa, .int (iI (wt)), .ref aEx, .ref aAb, .ref aCo, .int (iI (rd)), .ref aNt, .ref aNb, .ref aNe, .ref aCf, .ref aCd, .int (iI (cd)), .int (iI (at1)), .ref aKi, .ref aFi, .ref aSe]))]) [0] rfl
            have hDc := hD.sub (ws' := [(h0, .inr (8, [.int (iI (fa)), .int (iI (ty)), .ref aTx, .int (bI (sh)), .ref aDt, .ref aFe, .ref aRu, .ref aTa, .ref aBe, .ref aEn, .ref aMa, .int (iI (wt)), .ref aEx, .ref aAb, .ref aCo, .int (iI (rd)), .ref aNt, .ref aNb, .ref aNe, .ref aCf, .ref aCd, .int (iI (cd)), .int (iI (at1)), .ref aKi, .ref aFi, .ref aSe]))]) [0] (by decide) rfl
            have hFc := va_free (wc := [(h0, .inr (8, [.int (iI (fa)), .int (iI (ty)), .ref aTx, .int (bI (sh)), .ref aDt, .ref aFe, .ref aRu, .ref aTa, .ref aBe, .ref aEn, .ref aMa, .int (iI (wt)), .ref aEx, .ref aAb, .ref aCo, .int (iI (rd)), .ref aNt, .ref aNb, .ref aNe, .ref aCf, .ref aCd, .int (iI (cd)), .int (iI (at1)), .ref aKi, .ref aFi, .ref aSe]))]) hD hS hA [0] rfl
            refine va_calli (va_runV (As := [.int (iI (1))]) (rest := []) (b := h0) ⟨hx, hb, hml, hown, hts⟩ (c_MD_refused l D k s.heap.size (h0) (aTx) (aDt) (aFe) (aRu) (aTa) (aBe) (aEn) (aMa) (aEx) (aAb) (aCo) (aNt) (aNb) (aNe) (aCf) (aCd) (aKi) (aFi) (aSe) (fa) (ty) (sh) (wt) (rd) (cd) (at1) (1) (⟨by omega, by omega⟩)) ⟨callB_of 1 hts (good_MD_refused) rfl rfl rfl (hts _ k_67) (hts _ k_820) (by decide +kernel) ⟨Nat.le_of_ble_eq_true rfl, Nat.le_of_ble_eq_true rfl⟩, (hts _ k_822), (hts _ k_28)⟩ ⟨fun a U g mk q => ⟨q.1, q.2.1, q.2.2.1, va_K.moved (u := U) (U := U.calling g mk a) (Vm.Alike.refl U.vm) q.2.2.2.1, q.2.2.2.2.1, q.2.2.2.2.2.calling⟩, (va_recv (q0 := 0) hK hP rfl rfl), fun U hU hW => ⟨rfl, by rw [hU], by rw [hU]; exact hPc, va_K.moved hW.alike hK, hDc.weaken (fun _ _ _ _ => trivial), by rw [hU]; exact (hX.mono hS hFc).warm hW⟩⟩ rfl rfl hl.1 rfl (lv_room (Nat.le_of_ble_eq_true rfl)) d_MD_total_56 ⟨Nat.le_of_ble_eq_true rfl, Nat.le_of_ble_eq_true rfl⟩) hS (fun q _ h => hFc q h) hFc (fun xr_9 xu_10 t H1 locs ht hvm h_xr_9 hB hz1 hk1 hS => ?_)
            obtain ⟨hP1, hD1⟩ := hB
            rw [ht] at hP1
            obtain ⟨hP, hD⟩ := va_join (wr := []) (w1 := [(h0, .inr (8, [.int (iI ((rfF 1).2)), .int (iI (ty)), .ref aTx, .int (bI (sh)), .ref aDt, .ref aFe, .ref aRu, .ref aTa, .ref aBe, .ref aEn, .ref aMa, .int (iI (wt)), .ref aEx, .ref aAb, .ref aCo, .int (iI (rd)), .ref aNt, .ref aNb, .ref aNe, .ref aCf, .ref aCd, .int (iI (cd)), .int (iI (at1)), .ref aKi, .ref aFi, .ref aSe]))]) hP hD [0] [] rfl rfl (by decide) (by decide) hk1 hFc hP1 hD1
            generalize H1 = H at hP hS ⊢
            have hP := hP.sub (ws' := [(h0, .inr (8, [.int (iI ((rfF 1).2)), .int (iI (ty)), .ref aTx, .int (bI (sh)), .ref aDt, .ref aFe, .ref aRu, .ref aTa, .ref aBe, .ref aEn, .ref aMa, .int (iI (wt)), .ref aEx, .ref aAb, .ref aCo, .int (iI (rd)), .ref aNt, .ref aNb, .ref aNe, .ref aCf, .ref aCd, .int (iI (cd)), .int (iI (at1)), .ref aKi, .ref aFi, .ref aSe]))]) [0] rfl
            have hD := hD.sub (ws' := [(h0, .inr (8, [.int (iI ((rfF 1).2)), .int (iI (ty)), .ref aTx, .int (bI (sh)), .ref aDt, .ref aFe, .ref aRu, .ref aTa, .ref aBe, .ref aEn, .ref aMa, .int (iI (wt)), .ref aEx, .ref aAb, .ref aCo, .int (iI (rd)), .ref aNt, .ref aNb, .ref aNe, .ref aCf, .ref aCd, .int (iI (cd)), .int (iI (at1)), .ref aKi, .ref aFi, .ref aSe]))]) [0] (by decide) rfl
            subst h_xr_9
            refine b_if_eq (tgt := 64) hx hb d_MD_total_59 (by decide) (fun h59 => absurd h59 (by decide)) (fun h59 => ?_)
            refine z_iconst hx hb d_MD_total_62 ?_
            exact ret _ _ _ 63 (iI (0)) () d_MD_total_63 hS (rfl) (fun t ht _ => ⟨by rw [ht]; exact hP, hD⟩)
          · exact absurd hb0 (by omega)

set_option maxHeartbeats 4000000 in
set_option maxRecDepth 100000 in
theorem c_MD_total_bad2 (l : Launch) (D : va_G) (k : Nat → ClassId) (sz : Nat) (h0 aTx aDt aFe aRu aTa aBe aEn aMa aEx aAb aCo aNt aNb aNe aCf aCd aKi aFi aSe : Nat) (fa : Int) (ty : Int) (sh : Bool) (wt : Int) (rd : Int) (cd : Int) (at1 : Int) (mR : Nat → Int) (cc : Nat) (fz : Int) (tz : Int) (w0 : Int) (hc : cc < 3) (hb0 : 0 ≤ fz ∧ fz ≤ tz ∧ tz ≤ 1461) (hr0 : mR cc = 0) : Met l y_MD_total wd_MD_total rm_MD_total (va_Pc [.ref h0, .int (iI ((cc : Int))), .int (iI (fz)), .int (iI (tz)), .int (iI (w0))] (PRW D k [(h0, .inr (8, [.int (iI (fa)), .int (iI (ty)), .ref aTx, .int (bI (sh)), .ref aDt, .ref aFe, .ref aRu, .ref aTa, .ref aBe, .ref aEn, .ref aMa, .int (iI (wt)), .ref aEx, .ref aAb, .ref aCo, .int (iI (rd)), .ref aNt, .ref aNb, .ref aNe, .ref aCf, .ref aCd, .int (iI (cd)), .int (iI (at1)), .ref aKi, .ref aFi, .ref aSe])), (aRu, .inl (k 0, 3, .inl (aZ (mR))))] sz)) (va_Qi (fun (r : Int32) (u : Unit) => r = (iI (0))) (fun _ t => BRW D [(h0, .inr (8, [.int (iI (fa)), .int (iI (ty)), .ref aTx, .int (bI (sh)), .ref aDt, .ref aFe, .ref aRu, .ref aTa, .ref aBe, .ref aEn, .ref aMa, .int (iI (wt)), .ref aEx, .ref aAb, .ref aCo, .int (iI (rd)), .ref aNt, .ref aNb, .ref aNe, .ref aCf, .ref aCd, .int (iI (cd)), .int (iI (at1)), .ref aKi, .ref aFi, .ref aSe])), (aRu, .inl (k 0, 3, .inl (aZ (mR))))] sz [(h0, .inr (8, [.int (iI (2)), .int (iI (ty)), .ref aTx, .int (bI (sh)), .ref aDt, .ref aFe, .ref aRu, .ref aTa, .ref aBe, .ref aEn, .ref aMa, .int (iI (wt)), .ref aEx, .ref aAb, .ref aCo, .int (iI (rd)), .ref aNt, .ref aNb, .ref aNe, .ref aCf, .ref aCd, .int (iI (cd)), .int (iI (at1)), .ref aKi, .ref aFi, .ref aSe])), (aRu, .inl (k 0, 3, .inl (aZ (mR))))] t) (va_A [(h0, .inr (8, [.int (iI (fa)), .int (iI (ty)), .ref aTx, .int (bI (sh)), .ref aDt, .ref aFe, .ref aRu, .ref aTa, .ref aBe, .ref aEn, .ref aMa, .int (iI (wt)), .ref aEx, .ref aAb, .ref aCo, .int (iI (rd)), .ref aNt, .ref aNb, .ref aNe, .ref aCf, .ref aCd, .int (iI (cd)), .int (iI (at1)), .ref aKi, .ref aFi, .ref aSe])), (aRu, .inl (k 0, 3, .inl (aZ (mR))))] sz)) 0 0 (va_A [(h0, .inr (8, [.int (iI (fa)), .int (iI (ty)), .ref aTx, .int (bI (sh)), .ref aDt, .ref aFe, .ref aRu, .ref aTa, .ref aBe, .ref aEn, .ref aMa, .int (iI (wt)), .ref aEx, .ref aAb, .ref aCo, .int (iI (rd)), .ref aNt, .ref aNb, .ref aNe, .ref aCf, .ref aCd, .int (iI (cd)), .int (iI (at1)), .ref aKi, .ref aFi, .ref aSe])), (aRu, .inl (k 0, 3, .inl (aZ (mR))))] sz) := by
  refine e_i (by decide) rfl (Nat.le_of_ble_eq_true rfl) ?_
  intro p e s m args below meth c Q ls hx hb hml hown hts hpre hl ret
  obtain ⟨hsz, hP, hK, hD0, hX⟩ := hpre
  subst hsz
  have hD := hD0.self (sz := s.heap.size)
  have hA : ∀ q : Nat, s.heap.size ≤ q → (va_A [(h0, .inr (8, [.int (iI (fa)), .int (iI (ty)), .ref aTx, .int (bI (sh)), .ref aDt, .ref aFe, .ref aRu, .ref aTa, .ref aBe, .ref aEn, .ref aMa, .int (iI (wt)), .ref aEx, .ref aAb, .ref aCo, .int (iI (rd)), .ref aNt, .ref aNb, .ref aNe, .ref aCf, .ref aCd, .int (iI (cd)), .int (iI (at1)), .ref aKi, .ref aFi, .ref aSe])), (aRu, .inl (k 0, 3, .inl (aZ (mR))))] s.heap.size) q := fun q h => Or.inr h
  have hS : va_S (va_A [(h0, .inr (8, [.int (iI (fa)), .int (iI (ty)), .ref aTx, .int (bI (sh)), .ref aDt, .ref aFe, .ref aRu, .ref aTa, .ref aBe, .ref aEn, .ref aMa, .int (iI (wt)), .ref aEx, .ref aAb, .ref aCo, .int (iI (rd)), .ref aNt, .ref aNb, .ref aNe, .ref aCf, .ref aCd, .int (iI (cd)), .int (iI (at1)), .ref aKi, .ref aFi, .ref aSe])), (aRu, .inl (k 0, 3, .inl (aZ (mR))))] s.heap.size) s.heap s.heap [] := va_S.rf
  have hl : lv_has ls 9 [(0, .ref h0), (1, .int (iI ((cc : Int)))), (2, .int (iI (fz))), (3, .int (iI (tz))), (4, .int (iI (w0)))] := hl
  refine lv_iload_n hx hb d_MD_total_0 rfl (lv_at hl 1 rfl) ?_
  refine z_if_lt (tgt := 29) hx hb d_MD_total_1 (by decide) ⟨by omega, by omega⟩ (fun h1 => absurd h1 (by omega)) (fun h1 => ?_)
  refine lv_iload_n hx hb d_MD_total_4 rfl (lv_at hl 1 rfl) ?_
  refine z_iconst hx hb d_MD_total_5 ?_
  refine z_icmp_gt (tgt := 29) hx hb d_MD_total_6 (by decide) ⟨by omega, by omega⟩ ⟨by omega, by omega⟩ (fun h6 => absurd h6 (by omega)) (fun h6 => ?_)
  refine lv_iload_n hx hb d_MD_total_9 rfl (lv_at hl 2 rfl) ?_
  refine z_if_lt (tgt := 29) hx hb d_MD_total_10 (by decide) ⟨by omega, by omega⟩ (fun h10 => absurd h10 (by omega)) (fun h10 => ?_)
  refine lv_iload_n hx hb d_MD_total_13 rfl (lv_at hl 2 rfl) ?_
  refine lv_iload_n hx hb d_MD_total_14 rfl (lv_at hl 3 rfl) ?_
  refine z_icmp_gt (tgt := 29) hx hb d_MD_total_15 (by decide) ⟨by omega, by omega⟩ ⟨by omega, by omega⟩ (fun h15 => absurd h15 (by omega)) (fun h15 => ?_)
  refine lv_iload_n hx hb d_MD_total_18 rfl (lv_at hl 3 rfl) ?_
  refine z_sipush hx hb d_MD_total_19 (by decide) ?_
  refine z_icmp_gt (tgt := 29) hx hb d_MD_total_22 (by decide) ⟨by omega, by omega⟩ ⟨by omega, by omega⟩ (fun h22 => absurd h22 (by omega)) (fun h22 => ?_)
  refine z_iconst hx hb d_MD_total_25 ?_
  refine lv_goto (tgt := 30) hx hb d_MD_total_26 (by decide) ?_
  refine lv_istore (lv' := [(5, .int (iI (1))), (0, .ref h0), (1, .int (iI ((cc : Int)))), (2, .int (iI (fz))), (3, .int (iI (tz))), (4, .int (iI (w0)))]) hx hb d_MD_total_30 hl (by decide) rfl (fun ls hl => ?_)
  refine lv_aload_n hx hb d_MD_total_32 rfl (lv_at hl 1 rfl) ?_
  refine lv_iload hx hb d_MD_total_33 (lv_at hl 0 rfl) ?_
  refine z_if_ne (tgt := 42) hx hb d_MD_total_35 (by decide) ⟨by omega, by omega⟩ (fun h35 => ?_) (fun h35 => absurd h35 (by decide))
  refine lv_aload_n hx hb d_MD_total_42 rfl (lv_at hl 1 rfl) ?_
  refine va_get (D := D) (ci := 8) (v := .ref aRu) (C := R_MD) (T := F_MD) (N := 26) hx hb hts in_MD hown hK hP 0 rfl rfl 6 (by decide) (hts _ k_739) (fun _ h9 => h9) rfl d_MD_total_43 ?_
  refine lv_iload_n hx hb d_MD_total_46 rfl (lv_at hl 2 rfl) ?_
  refine x_iald hx hb hK hP 1 0 rfl rfl (cc) rfl hc (by omega) d_MD_total_47 ?_
  refine z_top (show _ = iI (mR (cc)) from rfl) ?_
  refine z_if_ne (tgt := 55) hx hb d_MD_total_48 (by decide) ⟨by omega, by omega⟩ (fun h48 => absurd h48 (by omega)) (fun h48 => ?_)
  refine z_iconst hx hb d_MD_total_51 ?_
  refine lv_goto (tgt := 56) hx hb d_MD_total_52 (by decide) ?_
  have hPc := hP.sub (ws' := [(h0, .inr (8, [.int (iI (fa)), .int (iI (ty)), .ref aTx, .int (bI (sh)), .ref aDt, .ref aFe, .ref aRu, .ref aTa, .ref aBe, .ref aEn, .ref aMa, .int (iI (wt)), .ref aEx, .ref aAb, .ref aCo, .int (iI (rd)), .ref aNt, .ref aNb, .ref aNe, .ref aCf, .ref aCd, .int (iI (cd)), .int (iI (at1)), .ref aKi, .ref aFi, .ref aSe]))]) [0] rfl
  have hDc := hD.sub (ws' := [(h0, .inr (8, [.int (iI (fa)), .int (iI (ty)), .ref aTx, .int (bI (sh)), .ref aDt, .ref aFe, .ref aRu, .ref aTa, .ref aBe, .ref aEn, .ref aMa, .int (iI (wt)), .ref aEx, .ref aAb, .ref aCo, .int (iI (rd)), .ref aNt, .ref aNb, .ref aNe, .ref aCf, .ref aCd, .int (iI (cd)), .int (iI (at1)), .ref aKi, .ref aFi, .ref aSe]))]) [0] (by decide) rfl
  have hFc := va_free (wc := [(h0, .inr (8, [.int (iI (fa)), .int (iI (ty)), .ref aTx, .int (bI (sh)), .ref aDt, .ref aFe, .ref aRu, .ref aTa, .ref aBe, .ref aEn, .ref aMa, .int (iI (wt)), .ref aEx, .ref aAb, .ref aCo, .int (iI (rd)), .ref aNt, .ref aNb, .ref aNe, .ref aCf, .ref aCd, .int (iI (cd)), .int (iI (at1)), .ref aKi, .ref aFi, .ref aSe]))]) hD hS hA [0] rfl
  refine va_calli (va_runV (As := [.int (iI (2))]) (rest := []) (b := h0) ⟨hx, hb, hml, hown, hts⟩ (c_MD_refused l D k s.heap.size (h0) (aTx) (aDt) (aFe) (aRu) (aTa) (aBe) (aEn) (aMa) (aEx) (aAb) (aCo) (aNt) (aNb) (aNe) (aCf) (aCd) (aKi) (aFi) (aSe) (fa) (ty) (sh) (wt) (rd) (cd) (at1) (2) (⟨by omega, by omega⟩)) ⟨callB_of 1 hts (good_MD_refused) rfl rfl rfl (hts _ k_67) (hts _ k_820) (by decide +kernel) ⟨Nat.le_of_ble_eq_true rfl, Nat.le_of_ble_eq_true rfl⟩, (hts _ k_822), (hts _ k_28)⟩ ⟨fun a U g mk q => ⟨q.1, q.2.1, q.2.2.1, va_K.moved (u := U) (U := U.calling g mk a) (Vm.Alike.refl U.vm) q.2.2.2.1, q.2.2.2.2.1, q.2.2.2.2.2.calling⟩, (va_recv (q0 := 0) hK hP rfl rfl), fun U hU hW => ⟨rfl, by rw [hU], by rw [hU]; exact hPc, va_K.moved hW.alike hK, hDc.weaken (fun _ _ _ _ => trivial), by rw [hU]; exact (hX.mono hS hFc).warm hW⟩⟩ rfl rfl hl.1 rfl (lv_room (Nat.le_of_ble_eq_true rfl)) d_MD_total_56 ⟨Nat.le_of_ble_eq_true rfl, Nat.le_of_ble_eq_true rfl⟩) hS (fun q _ h => hFc q h) hFc (fun xr_1 xu_2 t H1 locs ht hvm h_xr_1 hB hz1 hk1 hS => ?_)
  obtain ⟨hP1, hD1⟩ := hB
  rw [ht] at hP1
  obtain ⟨hP, hD⟩ := va_join (wr := [(aRu, .inl (k 0, 3, .inl (aZ (mR))))]) (w1 := [(h0, .inr (8, [.int (iI ((rfF 2).2)), .int (iI (ty)), .ref aTx, .int (bI (sh)), .ref aDt, .ref aFe, .ref aRu, .ref aTa, .ref aBe, .ref aEn, .ref aMa, .int (iI (wt)), .ref aEx, .ref aAb, .ref aCo, .int (iI (rd)), .ref aNt, .ref aNb, .ref aNe, .ref aCf, .ref aCd, .int (iI (cd)), .int (iI (at1)), .ref aKi, .ref aFi, .ref aSe]))]) hP hD [0] [1] rfl rfl (by decide) (by decide) hk1 hFc hP1 hD1
  generalize H1 = H at hP hS ⊢
  have hP := hP.sub (ws' := [(h0, .inr (8, [.int (iI ((rfF 2).2)), .int (iI (ty)), .ref aTx, .int (bI (sh)), .ref aDt, .ref aFe, .ref aRu, .ref aTa, .ref aBe, .ref aEn, .ref aMa, .int (iI (wt)), .ref aEx, .ref aAb, .ref aCo, .int (iI (rd)), .ref aNt, .ref aNb, .ref aNe, .ref aCf, .ref aCd, .int (iI (cd)), .int (iI (at1)), .ref aKi, .ref aFi, .ref aSe])), (aRu, .inl (k 0, 3, .inl (aZ (mR))))]) [1, 0] rfl
  have hD := hD.sub (ws' := [(h0, .inr (8, [.int (iI ((rfF 2).2)), .int (iI (ty)), .ref aTx, .int (bI (sh)), .ref aDt, .ref aFe, .ref aRu, .ref aTa, .ref aBe, .ref aEn, .ref aMa, .int (iI (wt)), .ref aEx, .ref aAb, .ref aCo, .int (iI (rd)), .ref aNt, .ref aNb, .ref aNe, .ref aCf, .ref aCd, .int (iI (cd)), .int (iI (at1)), .ref aKi, .ref aFi, .ref aSe])), (aRu, .inl (k 0, 3, .inl (aZ (mR))))]) [1, 0] (by decide) rfl
  subst h_xr_1
  refine b_if_eq (tgt := 64) hx hb d_MD_total_59 (by decide) (fun h59 => absurd h59 (by decide)) (fun h59 => ?_)
  refine z_iconst hx hb d_MD_total_62 ?_
  exact ret _ _ _ 63 (iI (0)) () d_MD_total_63 hS (rfl) (fun t ht _ => ⟨by rw [ht]; exact hP, hD⟩)

set_option maxHeartbeats 4000000 in
set_option maxRecDepth 100000 in
theorem c_MD_dead_ok (l : Launch) (D : va_G) (k : Nat → ClassId) (sz : Nat) (h0 aTx aDt aFe aRu aTa aBe aEn aMa aEx aAb aCo aNt aNb aNe aCf aCd aKi aFi aSe : Nat) (fa : Int) (ty : Int) (sh : Bool) (wt : Int) (rd : Int) (cd : Int) (at1 : Int) (mR : Nat → Int) (mB : Nat → Int) (mE : Nat → Int) (mM : Nat → Int) (cc : Nat) (i0 : Int) (hR : ∀ j, 0 ≤ mR j ∧ mR j ≤ 12) (hB : ∀ j, 0 ≤ mB j ∧ mB j ≤ 48) (hE : ∀ j, 0 ≤ mE j ∧ mE j ≤ 48) (hM : ∀ j, 0 ≤ mM j ∧ mM j < 4096) (hc : cc < 3) (hi0 : rg i0) (hw0 : wrF mR (cc : Int) 0 0 = 0) : Met l y_MD_dead wd_MD_dead rm_MD_dead (va_Pc [.ref h0, .int (iI ((cc : Int))), .int (iI (i0))] (PRW D k [(h0, .inr (8, [.int (iI (fa)), .int (iI (ty)), .ref aTx, .int (bI (sh)), .ref aDt, .ref aFe, .ref aRu, .ref aTa, .ref aBe, .ref aEn, .ref aMa, .int (iI (wt)), .ref aEx, .ref aAb, .ref aCo, .int (iI (rd)), .ref aNt, .ref aNb, .ref aNe, .ref aCf, .ref aCd, .int (iI (cd)), .int (iI (at1)), .ref aKi, .ref aFi, .ref aSe])), (aDt, .inl (k 0, 1461, .inl (aZ (dateZ)))), (aRu, .inl (k 0, 3, .inl (aZ (mR)))), (aBe, .inl (k 0, 36, .inl (aZ (mB)))), (aEn, .inl (k 0, 36, .inl (aZ (mE)))), (aMa, .inl (k 0, 4383, .inl (aZ (mM))))] sz)) (va_Qi (fun (r : Int32) (u : Unit) => r = (iI (ddM (usF (dfM sh (dvM mR mB mE mM cc)) 70128) i0 (mR cc).toNat 0 0))) (fun _ t => BRW D [(h0, .inr (8, [.int (iI (fa)), .int (iI (ty)), .ref aTx, .int (bI (sh)), .ref aDt, .ref aFe, .ref aRu, .ref aTa, .ref aBe, .ref aEn, .ref aMa, .int (iI (wt)), .ref aEx, .ref aAb, .ref aCo, .int (iI (rd)), .ref aNt, .ref aNb, .ref aNe, .ref aCf, .ref aCd, .int (iI (cd)), .int (iI (at1)), .ref aKi, .ref aFi, .ref aSe])), (aDt, .inl (k 0, 1461, .inl (aZ (dateZ)))), (aRu, .inl (k 0, 3, .inl (aZ (mR)))), (aBe, .inl (k 0, 36, .inl (aZ (mB)))), (aEn, .inl (k 0, 36, .inl (aZ (mE)))), (aMa, .inl (k 0, 4383, .inl (aZ (mM))))] sz [(h0, .inr (8, [.int (iI (0)), .int (iI (ty)), .ref aTx, .int (bI (sh)), .ref aDt, .ref aFe, .ref aRu, .ref aTa, .ref aBe, .ref aEn, .ref aMa, .int (iI (wt)), .ref aEx, .ref aAb, .ref aCo, .int (iI (rd)), .ref aNt, .ref aNb, .ref aNe, .ref aCf, .ref aCd, .int (iI (cd)), .int (iI (at1)), .ref aKi, .ref aFi, .ref aSe])), (aDt, .inl (k 0, 1461, .inl (aZ (dateZ)))), (aRu, .inl (k 0, 3, .inl (aZ (mR)))), (aBe, .inl (k 0, 36, .inl (aZ (mB)))), (aEn, .inl (k 0, 36, .inl (aZ (mE)))), (aMa, .inl (k 0, 4383, .inl (aZ (mM))))] t) (va_A [(h0, .inr (8, [.int (iI (fa)), .int (iI (ty)), .ref aTx, .int (bI (sh)), .ref aDt, .ref aFe, .ref aRu, .ref aTa, .ref aBe, .ref aEn, .ref aMa, .int (iI (wt)), .ref aEx, .ref aAb, .ref aCo, .int (iI (rd)), .ref aNt, .ref aNb, .ref aNe, .ref aCf, .ref aCd, .int (iI (cd)), .int (iI (at1)), .ref aKi, .ref aFi, .ref aSe])), (aDt, .inl (k 0, 1461, .inl (aZ (dateZ)))), (aRu, .inl (k 0, 3, .inl (aZ (mR)))), (aBe, .inl (k 0, 36, .inl (aZ (mB)))), (aEn, .inl (k 0, 36, .inl (aZ (mE)))), (aMa, .inl (k 0, 4383, .inl (aZ (mM))))] sz)) 0 0 (va_A [(h0, .inr (8, [.int (iI (fa)), .int (iI (ty)), .ref aTx, .int (bI (sh)), .ref aDt, .ref aFe, .ref aRu, .ref aTa, .ref aBe, .ref aEn, .ref aMa, .int (iI (wt)), .ref aEx, .ref aAb, .ref aCo, .int (iI (rd)), .ref aNt, .ref aNb, .ref aNe, .ref aCf, .ref aCd, .int (iI (cd)), .int (iI (at1)), .ref aKi, .ref aFi, .ref aSe])), (aDt, .inl (k 0, 1461, .inl (aZ (dateZ)))), (aRu, .inl (k 0, 3, .inl (aZ (mR)))), (aBe, .inl (k 0, 36, .inl (aZ (mB)))), (aEn, .inl (k 0, 36, .inl (aZ (mE)))), (aMa, .inl (k 0, 4383, .inl (aZ (mM))))] sz) := by
  refine e_i (by decide) rfl (Nat.le_of_ble_eq_true rfl) ?_
  intro p e s m args below meth c Q ls hx hb hml hown hts hpre hl ret
  obtain ⟨hsz, hP, hK, hD0, hX⟩ := hpre
  subst hsz
  have hD := hD0.self (sz := s.heap.size)
  have hA : ∀ q : Nat, s.heap.size ≤ q → (va_A [(h0, .inr (8, [.int (iI (fa)), .int (iI (ty)), .ref aTx, .int (bI (sh)), .ref aDt, .ref aFe, .ref aRu, .ref aTa, .ref aBe, .ref aEn, .ref aMa, .int (iI (wt)), .ref aEx, .ref aAb, .ref aCo, .int (iI (rd)), .ref aNt, .ref aNb, .ref aNe, .ref aCf, .ref aCd, .int (iI (cd)), .int (iI (at1)), .ref aKi, .ref aFi, .ref aSe])), (aDt, .inl (k 0, 1461, .inl (aZ (dateZ)))), (aRu, .inl (k 0, 3, .inl (aZ (mR)))), (aBe, .inl (k 0, 36, .inl (aZ (mB)))), (aEn, .inl (k 0, 36, .inl (aZ (mE)))), (aMa, .inl (k 0, 4383, .inl (aZ (mM))))] s.heap.size) q := fun q h => Or.inr h
  have hS : va_S (va_A [(h0, .inr (8, [.int (iI (fa)), .int (iI (ty)), .ref aTx, .int (bI (sh)), .ref aDt, .ref aFe, .ref aRu, .ref aTa, .ref aBe, .ref aEn, .ref aMa, .int (iI (wt)), .ref aEx, .ref aAb, .ref aCo, .int (iI (rd)), .ref aNt, .ref aNb, .ref aNe, .ref aCf, .ref aCd, .int (iI (cd)), .int (iI (at1)), .ref aKi, .ref aFi, .ref aSe])), (aDt, .inl (k 0, 1461, .inl (aZ (dateZ)))), (aRu, .inl (k 0, 3, .inl (aZ (mR)))), (aBe, .inl (k 0, 36, .inl (aZ (mB)))), (aEn, .inl (k 0, 36, .inl (aZ (mE)))), (aMa, .inl (k 0, 4383, .inl (aZ (mM))))] s.heap.size) s.heap s.heap [] := va_S.rf
  have hl : lv_has ls 8 [(0, .ref h0), (1, .int (iI ((cc : Int)))), (2, .int (iI (i0)))] := hl
  obtain ⟨i1, i2⟩ := hi0
  have hRc := hR cc
  have hdf : ∀ n, dfM sh (dvM mR mB mE mM cc) n ≤ (mR cc).toNat := fun n => by
    unfold dfM
    split
    · exact Nat.zero_le _
    · exact decM_le _ _
  have hub := fun n => usF_w (R := (mR cc).toNat) (by omega) hdf n
  have hpw : 1 ≤ 2 ^ (mR cc).toNat ∧ 2 ^ (mR cc).toNat ≤ 4096 := pow12 (by omega)
  have hpz : (1 : Int) ≤ 2 ^ (mR cc).toNat ∧ (2 : Int) ^ (mR cc).toNat ≤ 4096 := by exact_mod_cast hpw
  refine lv_aload_n hx hb d_MD_dead_0 rfl (lv_at hl 0 rfl) ?_
  refine lv_aload_n hx hb d_MD_dead_1 rfl (lv_at hl 0 rfl) ?_
  refine lv_iload_n hx hb d_MD_dead_2 rfl (lv_at hl 1 rfl) ?_
  refine z_iconst hx hb d_MD_dead_3 ?_
  refine z_iconst hx hb d_MD_dead_4 ?_
  refine rc_i (va_runV (As := [.int (iI ((cc : Int))), .int (iI (0)), .int (iI (0))]) (rest := [.ref h0]) (b := h0) ⟨hx, hb, hml, hown, hts⟩ (c_MD_wrong l D k (h0) (aTx) (aDt) (aFe) (aRu) (aTa) (aBe) (aEn) (aMa) (aEx) (aAb) (aCo) (aNt) (aNb) (aNe) (aCf) (aCd) (aKi) (aFi) (aSe) (fa) (ty) (sh) (wt) (rd) (cd) (at1) (mR) ((cc : Int)) (0) (0) (hR) (⟨by omega, by omega⟩) (⟨by omega, by omega⟩) (⟨by omega, by omega⟩)) ⟨callB_of 3 hts (good_MD_wrong) rfl rfl rfl (hts _ k_67) (hts _ k_914) (by decide +kernel) ⟨Nat.le_of_ble_eq_true rfl, Nat.le_of_ble_eq_true rfl⟩, (hts _ k_916), (hts _ k_46)⟩ ⟨fun a U g mk q => ⟨q.1, q.2.1, va_K.moved (u := U) (U := U.calling g mk a) (Vm.Alike.refl U.vm) q.2.2.1, q.2.2.2.calling⟩, (va_recv (q0 := 0) hK hP rfl rfl), fun U hU hW => ⟨rfl, by rw [hU]; exact (hP.sub (ws' := [(h0, .inr (8, [.int (iI (fa)), .int (iI (ty)), .ref aTx, .int (bI (sh)), .ref aDt, .ref aFe, .ref aRu, .ref aTa, .ref aBe, .ref aEn, .ref aMa, .int (iI (wt)), .ref aEx, .ref aAb, .ref aCo, .int (iI (rd)), .ref aNt, .ref aNb, .ref aNe, .ref aCf, .ref aCd, .int (iI (cd)), .int (iI (at1)), .ref aKi, .ref aFi, .ref aSe])), (aRu, .inl (k 0, 3, .inl (aZ (mR))))]) [0, 2] rfl), va_K.moved hW.alike hK, by rw [hU]; exact (hX.mono hS (fun _ h => absurd h id)).warm hW⟩⟩ rfl rfl hl.1 rfl (lv_room (Nat.le_of_ble_eq_true rfl)) d_MD_dead_5 ⟨Nat.le_of_ble_eq_true rfl, Nat.le_of_ble_eq_true rfl⟩) (fun xr_1 h_xr_1 => ?_)
  subst h_xr_1
  have hPc := hP.sub (ws' := [(h0, .inr (8, [.int (iI (fa)), .int (iI (ty)), .ref aTx, .int (bI (sh)), .ref aDt, .ref aFe, .ref aRu, .ref aTa, .ref aBe, .ref aEn, .ref aMa, .int (iI (wt)), .ref aEx, .ref aAb, .ref aCo, .int (iI (rd)), .ref aNt, .ref aNb, .ref aNe, .ref aCf, .ref aCd, .int (iI (cd)), .int (iI (at1)), .ref aKi, .ref aFi, .ref aSe]))]) [0] rfl
  have hDc := hD.sub (ws' := [(h0, .inr (8, [.int (iI (fa)), .int (iI (ty)), .ref aTx, .int (bI (sh)), .ref aDt, .ref aFe, .ref aRu, .ref aTa, .ref aBe, .ref aEn, .ref aMa, .int (iI (wt)), .ref aEx, .ref aAb, .ref aCo, .int (iI (rd)), .ref aNt, .ref aNb, .ref aNe, .ref aCf, .ref aCd, .int (iI (cd)), .int (iI (at1)), .ref aKi, .ref aFi, .ref aSe]))]) [0] (by decide) rfl
  have hFc := va_free (wc := [(h0, .inr (8, [.int (iI (fa)), .int (iI (ty)), .ref aTx, .int (bI (sh)), .ref aDt, .ref aFe, .ref aRu, .ref aTa, .ref aBe, .ref aEn, .ref aMa, .int (iI (wt)), .ref aEx, .ref aAb, .ref aCo, .int (iI (rd)), .ref aNt, .ref aNb, .ref aNe, .ref aCf, .ref aCd, .int (iI (cd)), .int (iI (at1)), .ref aKi, .ref aFi, .ref aSe]))]) hD hS hA [0] rfl
  refine va_calli (va_runV (As := [.int (iI ((wrF mR ((cc : Int)) 0 0)))]) (rest := []) (b := h0) ⟨hx, hb, hml, hown, hts⟩ (c_MD_refused l D k s.heap.size (h0) (aTx) (aDt) (aFe) (aRu) (aTa) (aBe) (aEn) (aMa) (aEx) (aAb) (aCo) (aNt) (aNb) (aNe) (aCf) (aCd) (aKi) (aFi) (aSe) (fa) (ty) (sh) (wt) (rd) (cd) (at1) ((wrF mR ((cc : Int)) 0 0)) ((wrF_rg mR _ _ _))) ⟨callB_of 1 hts (good_MD_refused) rfl rfl rfl (hts _ k_67) (hts _ k_820) (by decide +kernel) ⟨Nat.le_of_ble_eq_true rfl, Nat.le_of_ble_eq_true rfl⟩, (hts _ k_822), (hts _ k_28)⟩ ⟨fun a U g mk q => ⟨q.1, q.2.1, q.2.2.1, va_K.moved (u := U) (U := U.calling g mk a) (Vm.Alike.refl U.vm) q.2.2.2.1, q.2.2.2.2.1, q.2.2.2.2.2.calling⟩, (va_recv (q0 := 0) hK hP rfl rfl), fun U hU hW => ⟨rfl, by rw [hU], by rw [hU]; exact hPc, va_K.moved hW.alike hK, hDc.weaken (fun _ _ _ _ => trivial), by rw [hU]; exact (hX.mono hS hFc).warm hW⟩⟩ rfl rfl hl.1 rfl (lv_room (Nat.le_of_ble_eq_true rfl)) d_MD_dead_8 ⟨Nat.le_of_ble_eq_true rfl, Nat.le_of_ble_eq_true rfl⟩) hS (fun q _ h => hFc q h) hFc (fun xr_2 xu_3 t H1 locs ht hvm h_xr_2 hB hz1 hk1 hS => ?_)
  obtain ⟨hP1, hD1⟩ := hB
  rw [ht] at hP1
  obtain ⟨hP, hD⟩ := va_join (wr := [(aDt, .inl (k 0, 1461, .inl (aZ (dateZ)))), (aRu, .inl (k 0, 3, .inl (aZ (mR)))), (aBe, .inl (k 0, 36, .inl (aZ (mB)))), (aEn, .inl (k 0, 36, .inl (aZ (mE)))), (aMa, .inl (k 0, 4383, .inl (aZ (mM))))]) (w1 := [(h0, .inr (8, [.int (iI ((rfF ((wrF mR ((cc : Int)) 0 0))).2)), .int (iI (ty)), .ref aTx, .int (bI (sh)), .ref aDt, .ref aFe, .ref aRu, .ref aTa, .ref aBe, .ref aEn, .ref aMa, .int (iI (wt)), .ref aEx, .ref aAb, .ref aCo, .int (iI (rd)), .ref aNt, .ref aNb, .ref aNe, .ref aCf, .ref aCd, .int (iI (cd)), .int (iI (at1)), .ref aKi, .ref aFi, .ref aSe]))]) hP hD [0] [1, 2, 3, 4, 5] rfl rfl (by decide) (by decide) hk1 hFc hP1 hD1
  generalize H1 = H at hP hS ⊢
  have hP := hP.sub (ws' := [(h0, .inr (8, [.int (iI ((rfF ((wrF mR ((cc : Int)) 0 0))).2)), .int (iI (ty)), .ref aTx, .int (bI (sh)), .ref aDt, .ref aFe, .ref aRu, .ref aTa, .ref aBe, .ref aEn, .ref aMa, .int (iI (wt)), .ref aEx, .ref aAb, .ref aCo, .int (iI (rd)), .ref aNt, .ref aNb, .ref aNe, .ref aCf, .ref aCd, .int (iI (cd)), .int (iI (at1)), .ref aKi, .ref aFi, .ref aSe])), (aDt, .inl (k 0, 1461, .inl (aZ (dateZ)))), (aRu, .inl (k 0, 3, .inl (aZ (mR)))), (aBe, .inl (k 0, 36, .inl (aZ (mB)))), (aEn, .inl (k 0, 36, .inl (aZ (mE)))), (aMa, .inl (k 0, 4383, .inl (aZ (mM))))]) [5, 0, 1, 2, 3, 4] rfl
  have hD := hD.sub (ws' := [(h0, .inr (8, [.int (iI ((rfF ((wrF mR ((cc : Int)) 0 0))).2)), .int (iI (ty)), .ref aTx, .int (bI (sh)), .ref aDt, .ref aFe, .ref aRu, .ref aTa, .ref aBe, .ref aEn, .ref aMa, .int (iI (wt)), .ref aEx, .ref aAb, .ref aCo, .int (iI (rd)), .ref aNt, .ref aNb, .ref aNe, .ref aCf, .ref aCd, .int (iI (cd)), .int (iI (at1)), .ref aKi, .ref aFi, .ref aSe])), (aDt, .inl (k 0, 1461, .inl (aZ (dateZ)))), (aRu, .inl (k 0, 3, .inl (aZ (mR)))), (aBe, .inl (k 0, 36, .inl (aZ (mB)))), (aEn, .inl (k 0, 36, .inl (aZ (mE)))), (aMa, .inl (k 0, 4383, .inl (aZ (mM))))]) [5, 0, 1, 2, 3, 4] (by decide) rfl
  subst h_xr_2
  refine b_if_eq (tgt := 16) hx hb d_MD_dead_11 (by decide) (fun h11 => ?_) (fun h11 => absurd h11 (by rw [hw0]; decide))
  rw [hw0] at hP hD
  have hP : va_P D classes [(h0, .inr (8, [.int (iI (0)), .int (iI (ty)), .ref aTx, .int (bI (sh)), .ref aDt, .ref aFe, .ref aRu, .ref aTa, .ref aBe, .ref aEn, .ref aMa, .int (iI (wt)), .ref aEx, .ref aAb, .ref aCo, .int (iI (rd)), .ref aNt, .ref aNb, .ref aNe, .ref aCf, .ref aCd, .int (iI (cd)), .int (iI (at1)), .ref aKi, .ref aFi, .ref aSe])), (aDt, .inl (k 0, 1461, .inl (aZ (dateZ)))), (aRu, .inl (k 0, 3, .inl (aZ (mR)))), (aBe, .inl (k 0, 36, .inl (aZ (mB)))), (aEn, .inl (k 0, 36, .inl (aZ (mE)))), (aMa, .inl (k 0, 4383, .inl (aZ (mM))))] H := hP
  have hD : va_D (va_A [(h0, .inr (8, [.int (iI (fa)), .int (iI (ty)), .ref aTx, .int (bI (sh)), .ref aDt, .ref aFe, .ref aRu, .ref aTa, .ref aBe, .ref aEn, .ref aMa, .int (iI (wt)), .ref aEx, .ref aAb, .ref aCo, .int (iI (rd)), .ref aNt, .ref aNb, .ref aNe, .ref aCf, .ref aCd, .int (iI (cd)), .int (iI (at1)), .ref aKi, .ref aFi, .ref aSe])), (aDt, .inl (k 0, 1461, .inl (aZ (dateZ)))), (aRu, .inl (k 0, 3, .inl (aZ (mR)))), (aBe, .inl (k 0, 36, .inl (aZ (mB)))), (aEn, .inl (k 0, 36, .inl (aZ (mE)))), (aMa, .inl (k 0, 4383, .inl (aZ (mM))))] s.heap.size) [(h0, .inr (8, [.int (iI (0)), .int (iI (ty)), .ref aTx, .int (bI (sh)), .ref aDt, .ref aFe, .ref aRu, .ref aTa, .ref aBe, .ref aEn, .ref aMa, .int (iI (wt)), .ref aEx, .ref aAb, .ref aCo, .int (iI (rd)), .ref aNt, .ref aNb, .ref aNe, .ref aCf, .ref aCd, .int (iI (cd)), .int (iI (at1)), .ref aKi, .ref aFi, .ref aSe])), (aDt, .inl (k 0, 1461, .inl (aZ (dateZ)))), (aRu, .inl (k 0, 3, .inl (aZ (mR)))), (aBe, .inl (k 0, 36, .inl (aZ (mB)))), (aEn, .inl (k 0, 36, .inl (aZ (mE)))), (aMa, .inl (k 0, 4383, .inl (aZ (mM))))] := hD
  refine z_iconst hx hb d_MD_dead_16 ?_
  refine lv_istore_n (lv' := [(3, .int (iI (0))), (0, .ref h0), (1, .int (iI ((cc : Int)))), (2, .int (iI (i0)))]) hx hb d_MD_dead_17 rfl hl (by decide) rfl (fun ls hl => ?_)
  refine z_iconst hx hb d_MD_dead_18 ?_
  refine lv_aload_n hx hb d_MD_dead_19 rfl (lv_at hl 1 rfl) ?_
  refine va_get (D := D) (ci := 8) (v := .ref aRu) (C := R_MD) (T := F_MD) (N := 26) hx hb hts in_MD hown hK hP 0 rfl rfl 6 (by decide) (hts _ k_739) (fun _ h9 => h9) rfl d_MD_dead_20 ?_
  refine lv_iload_n hx hb d_MD_dead_23 rfl (lv_at hl 2 rfl) ?_
  refine x_iald hx hb hK hP 2 0 rfl rfl (cc) rfl hc (by omega) d_MD_dead_24 ?_
  refine z_top (show _ = iI (mR (cc)) from rfl) ?_
  refine lv_ishl hx hb d_MD_dead_25 ?_
  refine z_top (show ((iI (1)) <<< ((iI (mR (cc))) &&& 31)) = (iI (2 ^ (mR cc).toNat)) from (by rw [show mR cc = (((mR cc).toNat : Nat) : Int) by omega, shl_t (by omega), ← iI_nat, Int.toNat_natCast]; norm_cast)) ?_
  refine z_iconst hx hb d_MD_dead_26 ?_
  refine z_isub hx hb d_MD_dead_27 ?_
  refine lv_istore (lv' := [(4, .int (iI ((2 ^ (mR cc).toNat) - 1))), (3, .int (iI (0))), (0, .ref h0), (1, .int (iI ((cc : Int)))), (2, .int (iI (i0)))]) hx hb d_MD_dead_28 hl (by decide) rfl (fun ls hl => ?_)
  refine z_iconst hx hb d_MD_dead_30 ?_
  refine lv_istore (lv' := [(5, .int (iI (0))), (4, .int (iI ((2 ^ (mR cc).toNat) - 1))), (3, .int (iI (0))), (0, .ref h0), (1, .int (iI ((cc : Int)))), (2, .int (iI (i0)))]) hx hb d_MD_dead_31 hl (by decide) rfl (fun ls hl => ?_)
  have L33 : ∀ (fu : Nat) (i : Nat) (z : Int) (us : Int) (ls : Array Slot) (H : Heap) (locs : List Loc), z = (i : Int) → i ≤ 1461 → us = usF (dfM sh (dvM mR mB mE mM cc)) (48 * i) → 0 ≤ us ∧ us < 4096 → 1461 - i < fu → lv_has ls 8 [(0, .ref h0), (1, .int (iI ((cc : Int)))), (2, .int (iI (i0))), (3, .int (iI (us))), (4, .int (iI (2 ^ (mR cc).toNat - 1))), (5, .int (iI (z)))] → va_P D classes [(h0, .inr (8, [.int (iI (0)), .int (iI (ty)), .ref aTx, .int (bI (sh)), .ref aDt, .ref aFe, .ref aRu, .ref aTa, .ref aBe, .ref aEn, .ref aMa, .int (iI (wt)), .ref aEx, .ref aAb, .ref aCo, .int (iI (rd)), .ref aNt, .ref aNb, .ref aNe, .ref aCf, .ref aCd, .int (iI (cd)), .int (iI (at1)), .ref aKi, .ref aFi, .ref aSe])), (aDt, .inl (k 0, 1461, .inl (aZ (dateZ)))), (aRu, .inl (k 0, 3, .inl (aZ (mR)))), (aBe, .inl (k 0, 36, .inl (aZ (mB)))), (aEn, .inl (k 0, 36, .inl (aZ (mE)))), (aMa, .inl (k 0, 4383, .inl (aZ (mM))))] H → va_D (va_A [(h0, .inr (8, [.int (iI (fa)), .int (iI (ty)), .ref aTx, .int (bI (sh)), .ref aDt, .ref aFe, .ref aRu, .ref aTa, .ref aBe, .ref aEn, .ref aMa, .int (iI (wt)), .ref aEx, .ref aAb, .ref aCo, .int (iI (rd)), .ref aNt, .ref aNb, .ref aNe, .ref aCf, .ref aCd, .int (iI (cd)), .int (iI (at1)), .ref aKi, .ref aFi, .ref aSe])), (aDt, .inl (k 0, 1461, .inl (aZ (dateZ)))), (aRu, .inl (k 0, 3, .inl (aZ (mR)))), (aBe, .inl (k 0, 36, .inl (aZ (mB)))), (aEn, .inl (k 0, 36, .inl (aZ (mE)))), (aMa, .inl (k 0, 4383, .inl (aZ (mM))))] s.heap.size) [(h0, .inr (8, [.int (iI (0)), .int (iI (ty)), .ref aTx, .int (bI (sh)), .ref aDt, .ref aFe, .ref aRu, .ref aTa, .ref aBe, .ref aEn, .ref aMa, .int (iI (wt)), .ref aEx, .ref aAb, .ref aCo, .int (iI (rd)), .ref aNt, .ref aNb, .ref aNe, .ref aCf, .ref aCd, .int (iI (cd)), .int (iI (at1)), .ref aKi, .ref aFi, .ref aSe])), (aDt, .inl (k 0, 1461, .inl (aZ (dateZ)))), (aRu, .inl (k 0, 3, .inl (aZ (mR)))), (aBe, .inl (k 0, 36, .inl (aZ (mB)))), (aEn, .inl (k 0, 36, .inl (aZ (mE)))), (aMa, .inl (k 0, 4383, .inl (aZ (mM))))] → va_S (va_A [(h0, .inr (8, [.int (iI (fa)), .int (iI (ty)), .ref aTx, .int (bI (sh)), .ref aDt, .ref aFe, .ref aRu, .ref aTa, .ref aBe, .ref aEn, .ref aMa, .int (iI (wt)), .ref aEx, .ref aAb, .ref aCo, .int (iI (rd)), .ref aNt, .ref aNb, .ref aNe, .ref aCf, .ref aCd, .int (iI (cd)), .int (iI (at1)), .ref aKi, .ref aFi, .ref aSe])), (aDt, .inl (k 0, 1461, .inl (aZ (dateZ)))), (aRu, .inl (k 0, 3, .inl (aZ (mR)))), (aBe, .inl (k 0, 36, .inl (aZ (mB)))), (aEn, .inl (k 0, 36, .inl (aZ (mE)))), (aMa, .inl (k 0, 4383, .inl (aZ (mM))))] s.heap.size) s.heap H locs → W p l e rm_MD_dead s m args below meth c H locs 0 0 Q (F0 m 33 ls []) := by
    intro fu
    induction fu with
    | zero => intro i z us ls H locs hz hi hus hub2 hmu; exact absurd hmu (Nat.not_lt_zero _)
    | succ fu ih33 =>
      intro i z us ls H locs hz hi hus hub2 hmu hl hP hD hS
      subst hz
      refine lv_iload hx hb d_MD_dead_33 (lv_at hl 5 rfl) ?_
      refine z_sipush hx hb d_MD_dead_35 (by decide) ?_
      refine z_icmp_ge (tgt := 113) hx hb d_MD_dead_38 (by decide) ⟨by omega, by omega⟩ ⟨by omega, by omega⟩ (fun h38 => ?_) (fun h38 => ?_)
      · have huE : us = usF (dfM sh (dvM mR mB mE mM cc)) 70128 := by first | (rw [hus, show 48 * i = 70128 by omega]; done) | (rw [hus]; exact usF_full (R := (mR cc).toNat) (by omega) hdf (by omega) (by rw [← hus]; exact h44))
        refine z_iconst hx hb d_MD_dead_113 ?_
        refine lv_istore (lv' := [(5, .int (iI (0))), (0, .ref h0), (1, .int (iI ((cc : Int)))), (2, .int (iI (i0))), (3, .int (iI (us))), (4, .int (iI (2 ^ (mR cc).toNat - 1)))]) hx hb d_MD_dead_114 hl (by decide) rfl (fun ls hl => ?_)
        refine z_iconst hx hb d_MD_dead_116 ?_
        refine lv_istore (lv' := [(6, .int (iI (0))), (5, .int (iI (0))), (0, .ref h0), (1, .int (iI ((cc : Int)))), (2, .int (iI (i0))), (3, .int (iI (us))), (4, .int (iI (2 ^ (mR cc).toNat - 1)))]) hx hb d_MD_dead_117 hl (by decide) rfl (fun ls hl => ?_)
        have L119 : ∀ (fu : Nat) (r9 : Nat) (zr : Int) (n9 : Nat) (zn : Int) (ls : Array Slot) (H : Heap) (locs : List Loc), zr = (r9 : Int) → zn = (n9 : Int) → (r9 : Int) ≤ mR cc ∧ n9 ≤ r9 → ddM us i0 ((mR cc).toNat - r9) r9 n9 = ddM (usF (dfM sh (dvM mR mB mE mM cc)) 70128) i0 (mR cc).toNat 0 0 → (mR cc).toNat - r9 < fu → lv_has ls 8 [(0, .ref h0), (1, .int (iI ((cc : Int)))), (2, .int (iI (i0))), (3, .int (iI (us))), (5, .int (iI (zn))), (6, .int (iI (zr)))] → va_P D classes [(h0, .inr (8, [.int (iI (0)), .int (iI (ty)), .ref aTx, .int (bI (sh)), .ref aDt, .ref aFe, .ref aRu, .ref aTa, .ref aBe, .ref aEn, .ref aMa, .int (iI (wt)), .ref aEx, .ref aAb, .ref aCo, .int (iI (rd)), .ref aNt, .ref aNb, .ref aNe, .ref aCf, .ref aCd, .int (iI (cd)), .int (iI (at1)), .ref aKi, .ref aFi, .ref aSe])), (aDt, .inl (k 0, 1461, .inl (aZ (dateZ)))), (aRu, .inl (k 0, 3, .inl (aZ (mR)))), (aBe, .inl (k 0, 36, .inl (aZ (mB)))), (aEn, .inl (k 0, 36, .inl (aZ (mE)))), (aMa, .inl (k 0, 4383, .inl (aZ (mM))))] H → va_D (va_A [(h0, .inr (8, [.int (iI (fa)), .int (iI (ty)), .ref aTx, .int (bI (sh)), .ref aDt, .ref aFe, .ref aRu, .ref aTa, .ref aBe, .ref aEn, .ref aMa, .int (iI (wt)), .ref aEx, .ref aAb, .ref aCo, .int (iI (rd)), .ref aNt, .ref aNb, .ref aNe, .ref aCf, .ref aCd, .int (iI (cd)), .int (iI (at1)), .ref aKi, .ref aFi, .ref aSe])), (aDt, .inl (k 0, 1461, .inl (aZ (dateZ)))), (aRu, .inl (k 0, 3, .inl (aZ (mR)))), (aBe, .inl (k 0, 36, .inl (aZ (mB)))), (aEn, .inl (k 0, 36, .inl (aZ (mE)))), (aMa, .inl (k 0, 4383, .inl (aZ (mM))))] s.heap.size) [(h0, .inr (8, [.int (iI (0)), .int (iI (ty)), .ref aTx, .int (bI (sh)), .ref aDt, .ref aFe, .ref aRu, .ref aTa, .ref aBe, .ref aEn, .ref aMa, .int (iI (wt)), .ref aEx, .ref aAb, .ref aCo, .int (iI (rd)), .ref aNt, .ref aNb, .ref aNe, .ref aCf, .ref aCd, .int (iI (cd)), .int (iI (at1)), .ref aKi, .ref aFi, .ref aSe])), (aDt, .inl (k 0, 1461, .inl (aZ (dateZ)))), (aRu, .inl (k 0, 3, .inl (aZ (mR)))), (aBe, .inl (k 0, 36, .inl (aZ (mB)))), (aEn, .inl (k 0, 36, .inl (aZ (mE)))), (aMa, .inl (k 0, 4383, .inl (aZ (mM))))] → va_S (va_A [(h0, .inr (8, [.int (iI (fa)), .int (iI (ty)), .ref aTx, .int (bI (sh)), .ref aDt, .ref aFe, .ref aRu, .ref aTa, .ref aBe, .ref aEn, .ref aMa, .int (iI (wt)), .ref aEx, .ref aAb, .ref aCo, .int (iI (rd)), .ref aNt, .ref aNb, .ref aNe, .ref aCf, .ref aCd, .int (iI (cd)), .int (iI (at1)), .ref aKi, .ref aFi, .ref aSe])), (aDt, .inl (k 0, 1461, .inl (aZ (dateZ)))), (aRu, .inl (k 0, 3, .inl (aZ (mR)))), (aBe, .inl (k 0, 36, .inl (aZ (mB)))), (aEn, .inl (k 0, 36, .inl (aZ (mE)))), (aMa, .inl (k 0, 4383, .inl (aZ (mM))))] s.heap.size) s.heap H locs → W p l e rm_MD_dead s m args below meth c H locs 0 0 Q (F0 m 119 ls []) := by
          intro fu
          induction fu with
          | zero => intro r9 zr n9 zn ls H locs hzr hzn hr9 hw hmu; exact absurd hmu (Nat.not_lt_zero _)
          | succ fu ih119 =>
            intro r9 zr n9 zn ls H locs hzr hzn hr9 hw hmu hl hP hD hS
            subst hzr
            subst hzn
            refine lv_iload hx hb d_MD_dead_119 (lv_at hl 5 rfl) ?_
            refine lv_aload_n hx hb d_MD_dead_121 rfl (lv_at hl 0 rfl) ?_
            refine va_get (D := D) (ci := 8) (v := .ref aRu) (C := R_MD) (T := F_MD) (N := 26) hx hb hts in_MD hown hK hP 0 rfl rfl 6 (by decide) (hts _ k_739) (fun _ h9 => h9) rfl d_MD_dead_122 ?_
            refine lv_iload_n hx hb d_MD_dead_125 rfl (lv_at hl 1 rfl) ?_
            refine x_iald hx hb hK hP 2 0 rfl rfl (cc) rfl hc (by omega) d_MD_dead_126 ?_
            refine z_top (show _ = iI (mR (cc)) from rfl) ?_
            refine z_icmp_ge (tgt := 159) hx hb d_MD_dead_127 (by decide) ⟨by omega, by omega⟩ ⟨by omega, by omega⟩ (fun h127 => ?_) (fun h127 => ?_)
            · refine z_iconst hx hb d_MD_dead_159 ?_
              exact ret _ _ _ 160 (iI (-1)) () d_MD_dead_160 hS (by rw [← hw, show (mR cc).toNat - r9 = 0 by omega]; rfl) (fun t ht _ => ⟨by rw [ht]; exact hP, hD⟩)
            · refine lv_iload_n hx hb d_MD_dead_130 rfl (lv_at hl 3 rfl) ?_
              refine lv_iload hx hb d_MD_dead_131 (lv_at hl 5 rfl) ?_
              refine lv_ishr hx hb d_MD_dead_133 ?_
              have hub9 := hub 70128
              rw [← huE] at hub9
              refine z_iconst hx hb d_MD_dead_134 ?_
              refine lv_iand hx hb d_MD_dead_135 ?_
              refine z_top (show (((iI (us)) >>> ((iI ((r9 : Int))) &&& 31)) &&& (iI (1))) = (iI (((us.toNat / 2 ^ r9 % 2 : Nat) : Int))) from (by have := bitZ (f := us) (w := (r9 : Int)) ⟨by omega, by omega⟩ ⟨by omega, by omega⟩; rw [Int.toNat_natCast] at this; exact this)) ?_
              refine z_if_ne (tgt := 153) hx hb d_MD_dead_136 (by decide) ⟨by omega, by omega⟩ (fun h136 => ?_) (fun h136 => ?_)
              · refine z_iinc (k := 5) (a := (r9 : Int)) (lv' := [(6, .int (iI (((r9 : Int)) + 1))), (0, .ref h0), (1, .int (iI ((cc : Int)))), (2, .int (iI (i0))), (3, .int (iI (us))), (5, .int (iI ((n9 : Int))))]) hx hb d_MD_dead_153 hl rfl (by decide) rfl (fun ls hl => ?_)
                refine lv_goto (tgt := 119) hx hb d_MD_dead_156 (by decide) ?_
                exact ih119 (r9 + 1) ((r9 : Int) + 1) (n9) ((n9 : Int)) ls H locs (by omega) (by omega) (by omega) (by rw [← hw, show (mR cc).toNat - r9 = ((mR cc).toNat - (r9 + 1)) + 1 by omega, ddM_s]; first | (rw [if_pos h136, if_neg h142]; done) | (rw [if_neg h136])) (by omega) (lv_sub hl [1, 2, 3, 4, 5, 0] rfl) hP hD hS
              · refine lv_iload hx hb d_MD_dead_139 (lv_at hl 4 rfl) ?_
                refine lv_iload_n hx hb d_MD_dead_141 rfl (lv_at hl 2 rfl) ?_
                refine z_icmp_ne (tgt := 150) hx hb d_MD_dead_142 (by decide) ⟨by omega, by omega⟩ ⟨by omega, by omega⟩ (fun h142 => ?_) (fun h142 => ?_)
                · refine z_iinc (k := 4) (a := (n9 : Int)) (lv' := [(5, .int (iI (((n9 : Int)) + 1))), (0, .ref h0), (1, .int (iI ((cc : Int)))), (2, .int (iI (i0))), (3, .int (iI (us))), (6, .int (iI ((r9 : Int))))]) hx hb d_MD_dead_150 hl rfl (by decide) rfl (fun ls hl => ?_)
                  refine z_iinc (k := 5) (a := (r9 : Int)) (lv' := [(6, .int (iI (((r9 : Int)) + 1))), (5, .int (iI (((n9 : Int)) + 1))), (0, .ref h0), (1, .int (iI ((cc : Int)))), (2, .int (iI (i0))), (3, .int (iI (us)))]) hx hb d_MD_dead_153 hl rfl (by decide) rfl (fun ls hl => ?_)
                  refine lv_goto (tgt := 119) hx hb d_MD_dead_156 (by decide) ?_
                  exact ih119 (r9 + 1) ((r9 : Int) + 1) (n9 + 1) ((n9 : Int) + 1) ls H locs (by omega) (by omega) (by omega) (by rw [← hw, show (mR cc).toNat - r9 = ((mR cc).toNat - (r9 + 1)) + 1 by omega, ddM_s]; first | (rw [if_pos h136, if_neg h142]; done) | (rw [if_neg h136])) (by omega) (lv_sub hl [2, 3, 4, 5, 1, 0] rfl) hP hD hS
                · refine lv_iload hx hb d_MD_dead_145 (lv_at hl 5 rfl) ?_
                  refine z_iconst hx hb d_MD_dead_147 ?_
                  refine z_iadd hx hb d_MD_dead_148 ?_
                  exact ret _ _ _ 149 (iI (((r9 : Int)) + 1)) () d_MD_dead_149 hS (by rw [← hw, show (mR cc).toNat - r9 = ((mR cc).toNat - (r9 + 1)) + 1 by omega, ddM_s, if_pos h136, if_pos h142]) (fun t ht _ => ⟨by rw [ht]; exact hP, hD⟩)
        exact L119 (_) (0) (0) (0) (0) ls H locs (by omega) (by omega) (by omega) (by rw [huE]; rfl) (Nat.lt_succ_self _) (lv_sub hl [2, 3, 4, 5, 1, 0] rfl) hP hD hS
      · refine lv_iload_n hx hb d_MD_dead_41 rfl (lv_at hl 3 rfl) ?_
        refine lv_iload hx hb d_MD_dead_42 (lv_at hl 4 rfl) ?_
        refine z_icmp_eq (tgt := 113) hx hb d_MD_dead_44 (by decide) ⟨by omega, by omega⟩ ⟨by omega, by omega⟩ (fun h44 => ?_) (fun h44 => ?_)
        · have huE : us = usF (dfM sh (dvM mR mB mE mM cc)) 70128 := by first | (rw [hus, show 48 * i = 70128 by omega]; done) | (rw [hus]; exact usF_full (R := (mR cc).toNat) (by omega) hdf (by omega) (by rw [← hus]; exact h44))
          refine z_iconst hx hb d_MD_dead_113 ?_
          refine lv_istore (lv' := [(5, .int (iI (0))), (0, .ref h0), (1, .int (iI ((cc : Int)))), (2, .int (iI (i0))), (3, .int (iI (us))), (4, .int (iI (2 ^ (mR cc).toNat - 1)))]) hx hb d_MD_dead_114 hl (by decide) rfl (fun ls hl => ?_)
          refine z_iconst hx hb d_MD_dead_116 ?_
          refine lv_istore (lv' := [(6, .int (iI (0))), (5, .int (iI (0))), (0, .ref h0), (1, .int (iI ((cc : Int)))), (2, .int (iI (i0))), (3, .int (iI (us))), (4, .int (iI (2 ^ (mR cc).toNat - 1)))]) hx hb d_MD_dead_117 hl (by decide) rfl (fun ls hl => ?_)
          have L119 : ∀ (fu : Nat) (r9 : Nat) (zr : Int) (n9 : Nat) (zn : Int) (ls : Array Slot) (H : Heap) (locs : List Loc), zr = (r9 : Int) → zn = (n9 : Int) → (r9 : Int) ≤ mR cc ∧ n9 ≤ r9 → ddM us i0 ((mR cc).toNat - r9) r9 n9 = ddM (usF (dfM sh (dvM mR mB mE mM cc)) 70128) i0 (mR cc).toNat 0 0 → (mR cc).toNat - r9 < fu → lv_has ls 8 [(0, .ref h0), (1, .int (iI ((cc : Int)))), (2, .int (iI (i0))), (3, .int (iI (us))), (5, .int (iI (zn))), (6, .int (iI (zr)))] → va_P D classes [(h0, .inr (8, [.int (iI (0)), .int (iI (ty)), .ref aTx, .int (bI (sh)), .ref aDt, .ref aFe, .ref aRu, .ref aTa, .ref aBe, .ref aEn, .ref aMa, .int (iI (wt)), .ref aEx, .ref aAb, .ref aCo, .int (iI (rd)), .ref aNt, .ref aNb, .ref aNe, .ref aCf, .ref aCd, .int (iI (cd)), .int (iI (at1)), .ref aKi, .ref aFi, .ref aSe])), (aDt, .inl (k 0, 1461, .inl (aZ (dateZ)))), (aRu, .inl (k 0, 3, .inl (aZ (mR)))), (aBe, .inl (k 0, 36, .inl (aZ (mB)))), (aEn, .inl (k 0, 36, .inl (aZ (mE)))), (aMa, .inl (k 0, 4383, .inl (aZ (mM))))] H → va_D (va_A [(h0, .inr (8, [.int (iI (fa)), .int (iI (ty)), .ref aTx, .int (bI (sh)), .ref aDt, .ref aFe, .ref aRu, .ref aTa, .ref aBe, .ref aEn, .ref aMa, .int (iI (wt)), .ref aEx, .ref aAb, .ref aCo, .int (iI (rd)), .ref aNt, .ref aNb, .ref aNe, .ref aCf, .ref aCd, .int (iI (cd)), .int (iI (at1)), .ref aKi, .ref aFi, .ref aSe])), (aDt, .inl (k 0, 1461, .inl (aZ (dateZ)))), (aRu, .inl (k 0, 3, .inl (aZ (mR)))), (aBe, .inl (k 0, 36, .inl (aZ (mB)))), (aEn, .inl (k 0, 36, .inl (aZ (mE)))), (aMa, .inl (k 0, 4383, .inl (aZ (mM))))] s.heap.size) [(h0, .inr (8, [.int (iI (0)), .int (iI (ty)), .ref aTx, .int (bI (sh)), .ref aDt, .ref aFe, .ref aRu, .ref aTa, .ref aBe, .ref aEn, .ref aMa, .int (iI (wt)), .ref aEx, .ref aAb, .ref aCo, .int (iI (rd)), .ref aNt, .ref aNb, .ref aNe, .ref aCf, .ref aCd, .int (iI (cd)), .int (iI (at1)), .ref aKi, .ref aFi, .ref aSe])), (aDt, .inl (k 0, 1461, .inl (aZ (dateZ)))), (aRu, .inl (k 0, 3, .inl (aZ (mR)))), (aBe, .inl (k 0, 36, .inl (aZ (mB)))), (aEn, .inl (k 0, 36, .inl (aZ (mE)))), (aMa, .inl (k 0, 4383, .inl (aZ (mM))))] → va_S (va_A [(h0, .inr (8, [.int (iI (fa)), .int (iI (ty)), .ref aTx, .int (bI (sh)), .ref aDt, .ref aFe, .ref aRu, .ref aTa, .ref aBe, .ref aEn, .ref aMa, .int (iI (wt)), .ref aEx, .ref aAb, .ref aCo, .int (iI (rd)), .ref aNt, .ref aNb, .ref aNe, .ref aCf, .ref aCd, .int (iI (cd)), .int (iI (at1)), .ref aKi, .ref aFi, .ref aSe])), (aDt, .inl (k 0, 1461, .inl (aZ (dateZ)))), (aRu, .inl (k 0, 3, .inl (aZ (mR)))), (aBe, .inl (k 0, 36, .inl (aZ (mB)))), (aEn, .inl (k 0, 36, .inl (aZ (mE)))), (aMa, .inl (k 0, 4383, .inl (aZ (mM))))] s.heap.size) s.heap H locs → W p l e rm_MD_dead s m args below meth c H locs 0 0 Q (F0 m 119 ls []) := by
            intro fu
            induction fu with
            | zero => intro r9 zr n9 zn ls H locs hzr hzn hr9 hw hmu; exact absurd hmu (Nat.not_lt_zero _)
            | succ fu ih119 =>
              intro r9 zr n9 zn ls H locs hzr hzn hr9 hw hmu hl hP hD hS
              subst hzr
              subst hzn
              refine lv_iload hx hb d_MD_dead_119 (lv_at hl 5 rfl) ?_
              refine lv_aload_n hx hb d_MD_dead_121 rfl (lv_at hl 0 rfl) ?_
              refine va_get (D := D) (ci := 8) (v := .ref aRu) (C := R_MD) (T := F_MD) (N := 26) hx hb hts in_MD hown hK hP 0 rfl rfl 6 (by decide) (hts _ k_739) (fun _ h9 => h9) rfl d_MD_dead_122 ?_
              refine lv_iload_n hx hb d_MD_dead_125 rfl (lv_at hl 1 rfl) ?_
              refine x_iald hx hb hK hP 2 0 rfl rfl (cc) rfl hc (by omega) d_MD_dead_126 ?_
              refine z_top (show _ = iI (mR (cc)) from rfl) ?_
              refine z_icmp_ge (tgt := 159) hx hb d_MD_dead_127 (by decide) ⟨by omega, by omega⟩ ⟨by omega, by omega⟩ (fun h127 => ?_) (fun h127 => ?_)
              · refine z_iconst hx hb d_MD_dead_159 ?_
                exact ret _ _ _ 160 (iI (-1)) () d_MD_dead_160 hS (by rw [← hw, show (mR cc).toNat - r9 = 0 by omega]; rfl) (fun t ht _ => ⟨by rw [ht]; exact hP, hD⟩)
              · refine lv_iload_n hx hb d_MD_dead_130 rfl (lv_at hl 3 rfl) ?_
                refine lv_iload hx hb d_MD_dead_131 (lv_at hl 5 rfl) ?_
                refine lv_ishr hx hb d_MD_dead_133 ?_
                have hub9 := hub 70128
                rw [← huE] at hub9
                refine z_iconst hx hb d_MD_dead_134 ?_
                refine lv_iand hx hb d_MD_dead_135 ?_
                refine z_top (show (((iI (us)) >>> ((iI ((r9 : Int))) &&& 31)) &&& (iI (1))) = (iI (((us.toNat / 2 ^ r9 % 2 : Nat) : Int))) from (by have := bitZ (f := us) (w := (r9 : Int)) ⟨by omega, by omega⟩ ⟨by omega, by omega⟩; rw [Int.toNat_natCast] at this; exact this)) ?_
                refine z_if_ne (tgt := 153) hx hb d_MD_dead_136 (by decide) ⟨by omega, by omega⟩ (fun h136 => ?_) (fun h136 => ?_)
                · refine z_iinc (k := 5) (a := (r9 : Int)) (lv' := [(6, .int (iI (((r9 : Int)) + 1))), (0, .ref h0), (1, .int (iI ((cc : Int)))), (2, .int (iI (i0))), (3, .int (iI (us))), (5, .int (iI ((n9 : Int))))]) hx hb d_MD_dead_153 hl rfl (by decide) rfl (fun ls hl => ?_)
                  refine lv_goto (tgt := 119) hx hb d_MD_dead_156 (by decide) ?_
                  exact ih119 (r9 + 1) ((r9 : Int) + 1) (n9) ((n9 : Int)) ls H locs (by omega) (by omega) (by omega) (by rw [← hw, show (mR cc).toNat - r9 = ((mR cc).toNat - (r9 + 1)) + 1 by omega, ddM_s]; first | (rw [if_pos h136, if_neg h142]; done) | (rw [if_neg h136])) (by omega) (lv_sub hl [1, 2, 3, 4, 5, 0] rfl) hP hD hS
                · refine lv_iload hx hb d_MD_dead_139 (lv_at hl 4 rfl) ?_
                  refine lv_iload_n hx hb d_MD_dead_141 rfl (lv_at hl 2 rfl) ?_
                  refine z_icmp_ne (tgt := 150) hx hb d_MD_dead_142 (by decide) ⟨by omega, by omega⟩ ⟨by omega, by omega⟩ (fun h142 => ?_) (fun h142 => ?_)
                  · refine z_iinc (k := 4) (a := (n9 : Int)) (lv' := [(5, .int (iI (((n9 : Int)) + 1))), (0, .ref h0), (1, .int (iI ((cc : Int)))), (2, .int (iI (i0))), (3, .int (iI (us))), (6, .int (iI ((r9 : Int))))]) hx hb d_MD_dead_150 hl rfl (by decide) rfl (fun ls hl => ?_)
                    refine z_iinc (k := 5) (a := (r9 : Int)) (lv' := [(6, .int (iI (((r9 : Int)) + 1))), (5, .int (iI (((n9 : Int)) + 1))), (0, .ref h0), (1, .int (iI ((cc : Int)))), (2, .int (iI (i0))), (3, .int (iI (us)))]) hx hb d_MD_dead_153 hl rfl (by decide) rfl (fun ls hl => ?_)
                    refine lv_goto (tgt := 119) hx hb d_MD_dead_156 (by decide) ?_
                    exact ih119 (r9 + 1) ((r9 : Int) + 1) (n9 + 1) ((n9 : Int) + 1) ls H locs (by omega) (by omega) (by omega) (by rw [← hw, show (mR cc).toNat - r9 = ((mR cc).toNat - (r9 + 1)) + 1 by omega, ddM_s]; first | (rw [if_pos h136, if_neg h142]; done) | (rw [if_neg h136])) (by omega) (lv_sub hl [2, 3, 4, 5, 1, 0] rfl) hP hD hS
                  · refine lv_iload hx hb d_MD_dead_145 (lv_at hl 5 rfl) ?_
                    refine z_iconst hx hb d_MD_dead_147 ?_
                    refine z_iadd hx hb d_MD_dead_148 ?_
                    exact ret _ _ _ 149 (iI (((r9 : Int)) + 1)) () d_MD_dead_149 hS (by rw [← hw, show (mR cc).toNat - r9 = ((mR cc).toNat - (r9 + 1)) + 1 by omega, ddM_s, if_pos h136, if_pos h142]) (fun t ht _ => ⟨by rw [ht]; exact hP, hD⟩)
          exact L119 (_) (0) (0) (0) (0) ls H locs (by omega) (by omega) (by omega) (by rw [huE]; rfl) (Nat.lt_succ_self _) (lv_sub hl [2, 3, 4, 5, 1, 0] rfl) hP hD hS
        · refine z_iconst hx hb d_MD_dead_47 ?_
          refine lv_istore (lv' := [(6, .int (iI (0))), (0, .ref h0), (1, .int (iI ((cc : Int)))), (2, .int (iI (i0))), (3, .int (iI (us))), (4, .int (iI (2 ^ (mR cc).toNat - 1))), (5, .int (iI ((i : Int))))]) hx hb d_MD_dead_48 hl (by decide) rfl (fun ls hl => ?_)
          have L50 : ∀ (fu : Nat) (j : Nat) (zj : Int) (us : Int) (ls : Array Slot) (H : Heap) (locs : List Loc), zj = (j : Int) → j ≤ 48 → us = usF (dfM sh (dvM mR mB mE mM cc)) (48 * i + j) → 0 ≤ us ∧ us < 4096 → 48 - j < fu → lv_has ls 8 [(0, .ref h0), (1, .int (iI ((cc : Int)))), (2, .int (iI (i0))), (3, .int (iI (us))), (4, .int (iI (2 ^ (mR cc).toNat - 1))), (5, .int (iI ((i : Int)))), (6, .int (iI (zj)))] → va_P D classes [(h0, .inr (8, [.int (iI (0)), .int (iI (ty)), .ref aTx, .int (bI (sh)), .ref aDt, .ref aFe, .ref aRu, .ref aTa, .ref aBe, .ref aEn, .ref aMa, .int (iI (wt)), .ref aEx, .ref aAb, .ref aCo, .int (iI (rd)), .ref aNt, .ref aNb, .ref aNe, .ref aCf, .ref aCd, .int (iI (cd)), .int (iI (at1)), .ref aKi, .ref aFi, .ref aSe])), (aDt, .inl (k 0, 1461, .inl (aZ (dateZ)))), (aRu, .inl (k 0, 3, .inl (aZ (mR)))), (aBe, .inl (k 0, 36, .inl (aZ (mB)))), (aEn, .inl (k 0, 36, .inl (aZ (mE)))), (aMa, .inl (k 0, 4383, .inl (aZ (mM))))] H → va_D (va_A [(h0, .inr (8, [.int (iI (fa)), .int (iI (ty)), .ref aTx, .int (bI (sh)), .ref aDt, .ref aFe, .ref aRu, .ref aTa, .ref aBe, .ref aEn, .ref aMa, .int (iI (wt)), .ref aEx, .ref aAb, .ref aCo, .int (iI (rd)), .ref aNt, .ref aNb, .ref aNe, .ref aCf, .ref aCd, .int (iI (cd)), .int (iI (at1)), .ref aKi, .ref aFi, .ref aSe])), (aDt, .inl (k 0, 1461, .inl (aZ (dateZ)))), (aRu, .inl (k 0, 3, .inl (aZ (mR)))), (aBe, .inl (k 0, 36, .inl (aZ (mB)))), (aEn, .inl (k 0, 36, .inl (aZ (mE)))), (aMa, .inl (k 0, 4383, .inl (aZ (mM))))] s.heap.size) [(h0, .inr (8, [.int (iI (0)), .int (iI (ty)), .ref aTx, .int (bI (sh)), .ref aDt, .ref aFe, .ref aRu, .ref aTa, .ref aBe, .ref aEn, .ref aMa, .int (iI (wt)), .ref aEx, .ref aAb, .ref aCo, .int (iI (rd)), .ref aNt, .ref aNb, .ref aNe, .ref aCf, .ref aCd, .int (iI (cd)), .int (iI (at1)), .ref aKi, .ref aFi, .ref aSe])), (aDt, .inl (k 0, 1461, .inl (aZ (dateZ)))), (aRu, .inl (k 0, 3, .inl (aZ (mR)))), (aBe, .inl (k 0, 36, .inl (aZ (mB)))), (aEn, .inl (k 0, 36, .inl (aZ (mE)))), (aMa, .inl (k 0, 4383, .inl (aZ (mM))))] → va_S (va_A [(h0, .inr (8, [.int (iI (fa)), .int (iI (ty)), .ref aTx, .int (bI (sh)), .ref aDt, .ref aFe, .ref aRu, .ref aTa, .ref aBe, .ref aEn, .ref aMa, .int (iI (wt)), .ref aEx, .ref aAb, .ref aCo, .int (iI (rd)), .ref aNt, .ref aNb, .ref aNe, .ref aCf, .ref aCd, .int (iI (cd)), .int (iI (at1)), .ref aKi, .ref aFi, .ref aSe])), (aDt, .inl (k 0, 1461, .inl (aZ (dateZ)))), (aRu, .inl (k 0, 3, .inl (aZ (mR)))), (aBe, .inl (k 0, 36, .inl (aZ (mB)))), (aEn, .inl (k 0, 36, .inl (aZ (mE)))), (aMa, .inl (k 0, 4383, .inl (aZ (mM))))] s.heap.size) s.heap H locs → W p l e rm_MD_dead s m args below meth c H locs 0 0 Q (F0 m 50 ls []) := by
            intro fu
            induction fu with
            | zero => intro j zj us ls H locs hzj hj hus2 hub2 hmu; exact absurd hmu (Nat.not_lt_zero _)
            | succ fu ih50 =>
              intro j zj us ls H locs hzj hj hus2 hub2 hmu hl hP hD hS
              subst hzj
              refine lv_iload hx hb d_MD_dead_50 (lv_at hl 6 rfl) ?_
              refine z_bipush hx hb d_MD_dead_52 (by decide) ?_
              refine z_icmp_ge (tgt := 107) hx hb d_MD_dead_54 (by decide) ⟨by omega, by omega⟩ ⟨by omega, by omega⟩ (fun h54 => ?_) (fun h54 => ?_)
              · refine z_iinc (k := 5) (a := (i : Int)) (lv' := [(5, .int (iI (((i : Int)) + 1))), (0, .ref h0), (1, .int (iI ((cc : Int)))), (2, .int (iI (i0))), (3, .int (iI (us))), (4, .int (iI (2 ^ (mR cc).toNat - 1))), (6, .int (iI ((j : Int))))]) hx hb d_MD_dead_107 hl rfl (by decide) rfl (fun ls hl => ?_)
                refine lv_goto (tgt := 33) hx hb d_MD_dead_110 (by decide) ?_
                exact ih33 (i + 1) ((i : Int) + 1) (us) ls H locs (by omega) (by omega) (by rw [hus2, show 48 * (i + 1) = 48 * i + j by omega]) (by omega) (by omega) (lv_sub hl [1, 2, 3, 4, 5, 0] rfl) hP hD hS
              · refine lv_aload_n hx hb d_MD_dead_57 rfl (lv_at hl 0 rfl) ?_
                refine lv_iload hx hb d_MD_dead_58 (lv_at hl 5 rfl) ?_
                refine lv_iload hx hb d_MD_dead_60 (lv_at hl 6 rfl) ?_
                refine rc_i (va_runV (As := [.int (iI ((i : Int))), .int (iI ((j : Int)))]) (rest := []) (b := h0) ⟨hx, hb, hml, hown, hts⟩ (c_MD_isLost l D k (h0) (aTx) (aDt) (aFe) (aRu) (aTa) (aBe) (aEn) (aMa) (aEx) (aAb) (aCo) (aNt) (aNb) (aNe) (aCf) (aCd) (aKi) (aFi) (aSe) (0) (ty) (sh) (wt) (rd) (cd) (at1) (i) ((j : Int)) ((by omega)) (⟨by omega, by omega⟩)) ⟨callB_of 2 hts (good_MD_isLost) rfl rfl rfl (hts _ k_67) (hts _ k_918) (by decide +kernel) ⟨Nat.le_of_ble_eq_true rfl, Nat.le_of_ble_eq_true rfl⟩, (hts _ k_920), (hts _ k_47)⟩ ⟨fun a U g mk q => ⟨q.1, q.2.1, va_K.moved (u := U) (U := U.calling g mk a) (Vm.Alike.refl U.vm) q.2.2.1, q.2.2.2.calling⟩, (va_recv (q0 := 0) hK hP rfl rfl), fun U hU hW => ⟨rfl, by rw [hU]; exact (hP.sub (ws' := [(h0, .inr (8, [.int (iI (0)), .int (iI (ty)), .ref aTx, .int (bI (sh)), .ref aDt, .ref aFe, .ref aRu, .ref aTa, .ref aBe, .ref aEn, .ref aMa, .int (iI (wt)), .ref aEx, .ref aAb, .ref aCo, .int (iI (rd)), .ref aNt, .ref aNb, .ref aNe, .ref aCf, .ref aCd, .int (iI (cd)), .int (iI (at1)), .ref aKi, .ref aFi, .ref aSe])), (aDt, .inl (k 0, 1461, .inl (aZ (dateZ))))]) [0, 1] rfl), va_K.moved hW.alike hK, by rw [hU]; exact (hX.mono hS (fun _ h => absurd h id)).warm hW⟩⟩ rfl rfl hl.1 rfl (lv_room (Nat.le_of_ble_eq_true rfl)) d_MD_dead_62 ⟨Nat.le_of_ble_eq_true rfl, Nat.le_of_ble_eq_true rfl⟩) (fun xr_4 h_xr_4 => ?_)
                subst h_xr_4
                have J65_1 : W p l e rm_MD_dead s m args below meth c H locs 0 0 Q (F0 m 81 ls [.int (iI (((dfM sh (dvM mR mB mE mM cc) (48 * i + j) : Nat) : Int)))]) := by
                  refine lv_istore (lv' := [(7, .int (iI (((dfM sh (dvM mR mB mE mM cc) (48 * i + j) : Nat) : Int)))), (0, .ref h0), (1, .int (iI ((cc : Int)))), (2, .int (iI (i0))), (3, .int (iI (us))), (4, .int (iI (2 ^ (mR cc).toNat - 1))), (5, .int (iI ((i : Int)))), (6, .int (iI ((j : Int))))]) hx hb d_MD_dead_81 hl (by decide) rfl (fun ls hl => ?_)
                  refine lv_iload hx hb d_MD_dead_83 (lv_at hl 0 rfl) ?_
                  have J85_2 : W p l e rm_MD_dead s m args below meth c H locs 0 0 Q (F0 m 100 ls [.int (iI (usF (dfM sh (dvM mR mB mE mM cc)) (48 * i + j + 1)))]) := by
                    refine lv_istore_n (lv' := [(3, .int (iI (usF (dfM sh (dvM mR mB mE mM cc)) (48 * i + j + 1)))), (7, .int (iI (((dfM sh (dvM mR mB mE mM cc) (48 * i + j) : Nat) : Int)))), (0, .ref h0), (1, .int (iI ((cc : Int)))), (2, .int (iI (i0))), (4, .int (iI (2 ^ (mR cc).toNat - 1))), (5, .int (iI ((i : Int)))), (6, .int (iI ((j : Int))))]) hx hb d_MD_dead_100 rfl hl (by decide) rfl (fun ls hl => ?_)
                    refine z_iinc (k := 7) (a := (j : Int)) (lv' := [(6, .int (iI (((j : Int)) + 1))), (3, .int (iI (usF (dfM sh (dvM mR mB mE mM cc)) (48 * i + j + 1)))), (7, .int (iI (((dfM sh (dvM mR mB mE mM cc) (48 * i + j) : Nat) : Int)))), (0, .ref h0), (1, .int (iI ((cc : Int)))), (2, .int (iI (i0))), (4, .int (iI (2 ^ (mR cc).toNat - 1))), (5, .int (iI ((i : Int))))]) hx hb d_MD_dead_101 hl rfl (by decide) rfl (fun ls hl => ?_)
                    refine lv_goto (tgt := 50) hx hb d_MD_dead_104 (by decide) ?_
                    exact ih50 (j + 1) ((j : Int) + 1) (usF (dfM sh (dvM mR mB mE mM cc)) (48 * i + j + 1)) ls H locs (by omega) (by omega) (by rfl) (by exact hub _) (by omega) (lv_sub hl [3, 4, 5, 1, 6, 7, 0] rfl) hP hD hS
                  refine z_if_le (tgt := 99) hx hb d_MD_dead_85 (by decide) (by have := hdf (48 * i + j); exact ⟨by omega, by omega⟩) (fun h85 => ?_) (fun h85 => ?_)
                  · refine lv_iload_n hx hb d_MD_dead_99 rfl (lv_at hl 4 rfl) ?_
                    exact z_top (show (iI (us)) = (iI (usF (dfM sh (dvM mR mB mE mM cc)) (48 * i + j + 1))) from (by rw [hus2]; show _ = iI (if dfM sh (dvM mR mB mE mM cc) (48 * i + j) = 0 then usF (dfM sh (dvM mR mB mE mM cc)) (48 * i + j) else orb (usF (dfM sh (dvM mR mB mE mM cc)) (48 * i + j)) (((dfM sh (dvM mR mB mE mM cc) (48 * i + j) : Nat) : Int) - 1)); first | (rw [if_pos (by omega)]; done) | (rw [if_neg (by omega)]; exact (orbw (hub _) (by have := hdf (48 * i + j); omega)).1))) J85_2
                  · refine lv_iload_n hx hb d_MD_dead_88 rfl (lv_at hl 4 rfl) ?_
                    refine z_iconst hx hb d_MD_dead_89 ?_
                    refine lv_iload hx hb d_MD_dead_90 (lv_at hl 0 rfl) ?_
                    refine z_iconst hx hb d_MD_dead_92 ?_
                    refine z_isub hx hb d_MD_dead_93 ?_
                    refine lv_ishl hx hb d_MD_dead_94 ?_
                    refine lv_ior hx hb d_MD_dead_95 ?_
                    refine lv_goto (tgt := 100) hx hb d_MD_dead_96 (by decide) ?_
                    exact z_top (show ((iI (us)) ||| ((iI (1)) <<< ((iI ((((dfM sh (dvM mR mB mE mM cc) (48 * i + j) : Nat) : Int)) - 1)) &&& 31))) = (iI (usF (dfM sh (dvM mR mB mE mM cc)) (48 * i + j + 1))) from (by rw [hus2]; show _ = iI (if dfM sh (dvM mR mB mE mM cc) (48 * i + j) = 0 then usF (dfM sh (dvM mR mB mE mM cc)) (48 * i + j) else orb (usF (dfM sh (dvM mR mB mE mM cc)) (48 * i + j)) (((dfM sh (dvM mR mB mE mM cc) (48 * i + j) : Nat) : Int) - 1)); first | (rw [if_pos (by omega)]; done) | (rw [if_neg (by omega)]; exact (orbw (hub _) (by have := hdf (48 * i + j); omega)).1))) J85_2
                refine b_if_eq (tgt := 72) hx hb d_MD_dead_65 (by decide) (fun h65 => ?_) (fun h65 => ?_)
                · refine lv_aload_n hx hb d_MD_dead_72 rfl (lv_at hl 0 rfl) ?_
                  refine lv_iload_n hx hb d_MD_dead_73 rfl (lv_at hl 1 rfl) ?_
                  refine lv_iload hx hb d_MD_dead_74 (lv_at hl 5 rfl) ?_
                  refine lv_iload hx hb d_MD_dead_76 (lv_at hl 6 rfl) ?_
                  refine rc_i (va_runV (As := [.int (iI ((cc : Int))), .int (iI ((i : Int))), .int (iI ((j : Int)))]) (rest := []) (b := h0) ⟨hx, hb, hml, hown, hts⟩ (c_MD_decides l D k (h0) (aTx) (aDt) (aFe) (aRu) (aTa) (aBe) (aEn) (aMa) (aEx) (aAb) (aCo) (aNt) (aNb) (aNe) (aCf) (aCd) (aKi) (aFi) (aSe) (0) (ty) (sh) (wt) (rd) (cd) (at1) (mR) (mB) (mE) (mM) (cc) (i) ((j : Int)) (hR) (hB) (hE) (hM) ((by omega)) ((by omega)) ((by omega))) ⟨callB_of 3 hts (good_MD_decides) rfl rfl rfl (hts _ k_67) (hts _ k_930) (by decide +kernel) ⟨Nat.le_of_ble_eq_true rfl, Nat.le_of_ble_eq_true rfl⟩, (hts _ k_932), (hts _ k_50)⟩ ⟨fun a U g mk q => ⟨q.1, q.2.1, va_K.moved (u := U) (U := U.calling g mk a) (Vm.Alike.refl U.vm) q.2.2.1, q.2.2.2.calling⟩, (va_recv (q0 := 0) hK hP rfl rfl), fun U hU hW => ⟨rfl, by rw [hU]; exact (hP.sub (ws' := [(h0, .inr (8, [.int (iI (0)), .int (iI (ty)), .ref aTx, .int (bI (sh)), .ref aDt, .ref aFe, .ref aRu, .ref aTa, .ref aBe, .ref aEn, .ref aMa, .int (iI (wt)), .ref aEx, .ref aAb, .ref aCo, .int (iI (rd)), .ref aNt, .ref aNb, .ref aNe, .ref aCf, .ref aCd, .int (iI (cd)), .int (iI (at1)), .ref aKi, .ref aFi, .ref aSe])), (aRu, .inl (k 0, 3, .inl (aZ (mR)))), (aBe, .inl (k 0, 36, .inl (aZ (mB)))), (aEn, .inl (k 0, 36, .inl (aZ (mE)))), (aMa, .inl (k 0, 4383, .inl (aZ (mM))))]) [0, 2, 3, 4, 5] rfl), va_K.moved hW.alike hK, by rw [hU]; exact (hX.mono hS (fun _ h => absurd h id)).warm hW⟩⟩ rfl rfl hl.1 rfl (lv_room (Nat.le_of_ble_eq_true rfl)) d_MD_dead_78 ⟨Nat.le_of_ble_eq_true rfl, Nat.le_of_ble_eq_true rfl⟩) (fun xr_5 h_xr_5 => ?_)
                  subst h_xr_5
                  refine z_top (show (iI (((decM (covF mB mE mM cc i ((j : Int))) (mR cc).toNat : Nat) : Int))) = (iI (((dvM mR mB mE mM cc i (j : Int) : Nat) : Int))) from rfl) ?_
                  exact z_top (show (iI (((dvM mR mB mE mM cc i (j : Int) : Nat) : Int))) = (iI (((dfM sh (dvM mR mB mE mM cc) (48 * i + j) : Nat) : Int))) from (by rw [dfM_eq (by omega), if_neg (Bool.eq_false_iff.mp h65)])) J65_1
                · refine z_iconst hx hb d_MD_dead_68 ?_
                  refine lv_goto (tgt := 81) hx hb d_MD_dead_69 (by decide) ?_
                  exact z_top (show (iI (0)) = (iI (((dfM sh (dvM mR mB mE mM cc) (48 * i + j) : Nat) : Int))) from (by rw [dfM_eq (by omega), if_pos h65]; rfl)) J65_1
          exact L50 (_) (0) (0) (us) ls H locs (by omega) (by omega) (by exact hus) (by omega) (Nat.lt_succ_self _) (lv_sub hl [1, 2, 3, 4, 5, 6, 0] rfl) hP hD hS
  exact L33 (_) (0) (0) (0) ls H locs (by omega) (by omega) (by rfl) (by omega) (Nat.lt_succ_self _) (lv_sub hl [3, 4, 5, 2, 1, 0] rfl) hP hD hS
