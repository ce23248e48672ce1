theorem rfF_2 (z : Int) : (rfF z).2 = z := by
  unfold rfF
  split <;> rfl
theorem rfF_1 {z : Int} (h : 0 < z) : (rfF z).1 = true := by
  unfold rfF
  rw [if_neg (by omega)]
theorem wrF_bd (mR : Nat → Int) (a b c : Int) : 0 ≤ wrF mR a b c ∧ wrF mR a b c ≤ 2 := by
  unfold wrF
  repeat' (refine ite_P (P := fun x : Int => 0 ≤ x ∧ x ≤ 2) (fun _ => ?_) (fun _ => ?_))
  all_goals omega
theorem wrF_rg (mR : Nat → Int) (a b c : Int) : rg (wrF mR a b c) := by
  have := wrF_bd mR a b c
  exact ⟨by omega, by omega⟩
theorem wr2F_bd (mR : Nat → Int) (a b : Int) : 0 ≤ wr2F mR a b ∧ wr2F mR a b ≤ 2 := by
  unfold wr2F
  repeat' (refine ite_P (P := fun x : Int => 0 ≤ x ∧ x ≤ 2) (fun _ => ?_) (fun _ => ?_))
  all_goals omega
theorem wr2F_rg (mR : Nat → Int) (a b : Int) : rg (wr2F mR a b) := by
  have := wr2F_bd mR a b
  exact ⟨by omega, by omega⟩
def dvM (mR mB mE mM : Nat → Int) (c d : Nat) (q : Int) : Nat := decM (covF mB mE mM c d q) (mR c).toNat
def tfM (mR mT mB mE mM : Nat → Int) (c d : Nat) (q : Int) : Int := if dvM mR mB mE mM c d q = 0 then 0 else mT (12 * c + dvM mR mB mE mM c d q - 1)
theorem tfM_bd {mR mT mB mE mM : Nat → Int} (hT : ∀ j, 0 ≤ mT j ∧ mT j ≤ 9) (c d : Nat) (q : Int) : 0 ≤ tfM mR mT mB mE mM c d q ∧ tfM mR mT mB mE mM c d q ≤ 9 := by
  unfold tfM
  split
  · omega
  · exact hT _
theorem dvM_le {mR mB mE mM : Nat → Int} (hR : ∀ j, 0 ≤ mR j ∧ mR j ≤ 12) (c d : Nat) (q : Int) : dvM mR mB mE mM c d q ≤ 12 := by
  have h1 := decM_le (covF mB mE mM c d q) (mR c).toNat
  have h2 := hR c
  unfold dvM
  omega
def tmS (sh : Bool) : Nat → Int
  | 0 => 0
  | i + 1 => tmS sh i + 48 - (if loF sh i 4 = true then 2 else 0) + (if twF sh i 4 = true then 2 else 0)
theorem tmS_bd (sh : Bool) : ∀ i : Nat, 46 * (i : Int) ≤ tmS sh i ∧ tmS sh i ≤ 50 * (i : Int)
  | 0 => ⟨by show (0 : Int) ≤ 0; omega, by show (0 : Int) ≤ 0; omega⟩
  | i + 1 => by
    have := tmS_bd sh i
    show _ ≤ tmS sh i + 48 - (if loF sh i 4 = true then 2 else 0) + (if twF sh i 4 = true then 2 else 0) ∧ tmS sh i + 48 - (if loF sh i 4 = true then 2 else 0) + (if twF sh i 4 = true then 2 else 0) ≤ _
    split <;> split <;> omega
def tmM (sh : Bool) (d : Nat) (q : Int) (sec : Bool) : Int := ((tmS sh d + q) - (if loF sh d 4 = true ∧ 5 < q then 2 else 0)) + (if twF sh d 4 = true ∧ (5 < q ∨ (sec = true ∧ 3 < q)) then 2 else 0)
def lenM (sh : Bool) (i : Nat) : Int := (48 - (if loF sh i 4 = true then 2 else 0)) + (if twF sh i 4 = true then 2 else 0)
def shQ (sh : Bool) (i : Nat) (x : Int) : Int := if x < 4 then x else if loF sh i 4 = true then x + 2 else if twF sh i 4 = true ∧ 5 < x then x - 2 else x
def shN (sh : Bool) (i : Nat) (x : Int) : Int := if twF sh i 4 = true ∧ 4 ≤ shQ sh i x ∧ shQ sh i x ≤ 5 then (if x < 6 then 1 else 2) else 0
def shL (sh : Bool) : Nat → Nat → Int → Int
  | 0, _, _ => -1
  | k + 1, i, x => if x < lenM sh i then ((1000 * (i : Int)) + (10 * shQ sh i x)) + shN sh i x else shL sh k (i + 1) (x - lenM sh i)
theorem shL_t {sh : Bool} {k i : Nat} {x : Int} (h : x < lenM sh i) : shL sh (k + 1) i x = ((1000 * (i : Int)) + (10 * shQ sh i x)) + shN sh i x := if_pos h
theorem shL_s {sh : Bool} {k i : Nat} {x : Int} (h : ¬ x < lenM sh i) : shL sh (k + 1) i x = shL sh k (i + 1) (x - lenM sh i) := if_neg h
theorem lenM_bd (sh : Bool) (i : Nat) : 46 ≤ lenM sh i ∧ lenM sh i ≤ 50 := by
  unfold lenM
  split <;> split <;> omega
theorem yIx_c (t : Int) : (t < 366 ∧ yIx t = 0) ∨ (366 ≤ t ∧ yIx t = (t - 1) / 365) := by
  by_cases h : t < 366
  · exact Or.inl ⟨h, if_pos h⟩
  · exact Or.inr ⟨by omega, if_neg h⟩
theorem week_a {z t : Int} (ht : t = (z + 4) - wDay z) (h : t < 0) : (199900 + ((t - (-365)) / 7)) + 1 = weekZ z := by
  unfold weekZ
  have e : z - wDay z + 4 = t := by omega
  rw [e, if_pos h]
  have : fDay 1999 = -365 := by decide
  omega
theorem week_b {z t y b : Int} (ht : t = (z + 4) - wDay z) (h : 0 ≤ t) (hy : y = 2000 + yIx t) (hb : b = fDay (2000 + yIx t)) : ((100 * y) + ((t - b) / 7)) + 1 = weekZ z := by
  unfold weekZ
  have e : z - wDay z + 4 = t := by omega
  rw [e, if_neg (by omega), hy, hb]
theorem mML_bd (y m : Int) : 28 ≤ mML y m ∧ mML y m ≤ 31 := by
  unfold mML
  repeat' (refine ite_P (P := fun x : Int => 28 ≤ x ∧ x ≤ 31) (fun _ => ?_) (fun _ => ?_))
  all_goals omega
set_option maxHeartbeats 4000000 in
set_option maxRecDepth 100000 in
theorem c_MD_timeOf (l : Launch) (D : va_G) (k : Nat → ClassId) (h0 aTx aDt aFe aRu aTa aBe aEn aMa aEx aAb aCo aNt aNb aNe aCf aCd aKi aFi aSe : Nat) (fa : Int) (ty : Int) (sh : Bool) (wt : Int) (rd : Int) (cd : Int) (at1 : Int) (d : Nat) (q : Int) (sec : Bool) (hd : d < 1461) (hq : 0 ≤ q ∧ q ≤ 47) : Met l y_MD_timeOf wd_MD_timeOf rm_MD_timeOf (va_Pc [.ref h0, .int (iI ((d : Int))), .int (iI (q)), .int (bI (sec))] (PRO D k [(h0, .inr (8, [.int (iI (fa)), .int (iI (ty)), .ref aTx, .int (bI (sh)), .ref aDt, .ref aFe, .ref aRu, .ref aTa, .ref aBe, .ref aEn, .ref aMa, .int (iI (wt)), .ref aEx, .ref aAb, .ref aCo, .int (iI (rd)), .ref aNt, .ref aNb, .ref aNe, .ref aCf, .ref aCd, .int (iI (cd)), .int (iI (at1)), .ref aKi, .ref aFi, .ref aSe])), (aDt, .inl (k 0, 1461, .inl (aZ (dateZ))))])) (QRi (fun r : Int32 => r = (iI (tmM sh d q sec)))) 0 0 nA := by
  refine r_i (by decide) rfl (Nat.le_of_ble_eq_true rfl) ?_
  intro p e s m args below meth c Q ls hx hb hml hown hts hpre hl ret
  obtain ⟨hP, hK, hX⟩ := hpre
  have hS : va_S nA s.heap s.heap [] := va_S.rf
  have hl : lv_has ls 7 [(0, .ref h0), (1, .int (iI ((d : Int)))), (2, .int (iI (q))), (3, .int (bI (sec)))] := hl
  refine z_iconst hx hb d_MD_timeOf_0 ?_
  refine lv_istore (lv' := [(4, .int (iI (0))), (0, .ref h0), (1, .int (iI ((d : Int)))), (2, .int (iI (q))), (3, .int (bI (sec)))]) hx hb d_MD_timeOf_1 hl (by decide) rfl (fun ls hl => ?_)
  refine z_iconst hx hb d_MD_timeOf_3 ?_
  refine lv_istore (lv' := [(5, .int (iI (0))), (4, .int (iI (0))), (0, .ref h0), (1, .int (iI ((d : Int)))), (2, .int (iI (q))), (3, .int (bI (sec)))]) hx hb d_MD_timeOf_4 hl (by decide) rfl (fun ls hl => ?_)
  have L6 : ∀ (fu : Nat) (i : Nat) (z : Int) (ac : Int) (ls : Array Slot), z = (i : Int) → i ≤ d → ac = tmS sh i → d - i < fu → lv_has ls 7 [(0, .ref h0), (1, .int (iI ((d : Int)))), (2, .int (iI (q))), (3, .int (bI (sec))), (4, .int (iI (ac))), (5, .int (iI (z)))] → W p l e rm_MD_timeOf s m args below meth c s.heap [] 0 0 Q (F0 m 6 ls []) := by
    intro fu
    induction fu with
    | zero => intro i z ac ls hz hi ha hmu; exact absurd hmu (Nat.not_lt_zero _)
    | succ fu ih6 =>
      intro i z ac ls hz hi ha hmu hl
      subst hz
      refine lv_iload hx hb d_MD_timeOf_6 (lv_at hl 5 rfl) ?_
      refine lv_iload_n hx hb d_MD_timeOf_8 rfl (lv_at hl 1 rfl) ?_
      refine z_icmp_ge (tgt := 57) hx hb d_MD_timeOf_9 (by decide) ⟨by omega, by omega⟩ ⟨by omega, by omega⟩ (fun h9 => ?_) (fun h9 => ?_)
      · refine lv_aload_n hx hb d_MD_timeOf_57 rfl (lv_at hl 0 rfl) ?_
        refine lv_iload_n hx hb d_MD_timeOf_58 rfl (lv_at hl 1 rfl) ?_
        refine z_iconst hx hb d_MD_timeOf_59 ?_
        refine rc_i (va_runV (As := [.int (iI ((d : Int))), .int (iI (4))]) (rest := []) (b := h0) ⟨hx, hb, hml, hown, hts⟩ (c_MD_isLost l D k (h0) (aTx) (aDt) (aFe) (aRu) (aTa) (aBe) (aEn) (aMa) (aEx) (aAb) (aCo) (aNt) (aNb) (aNe) (aCf) (aCd) (aKi) (aFi) (aSe) (fa) (ty) (sh) (wt) (rd) (cd) (at1) (d) (4) ((by omega)) (⟨by omega, by omega⟩)) ⟨callB_of 2 hts (good_MD_isLost) rfl rfl rfl (hts _ k_67) (hts _ k_918) (by decide +kernel) ⟨Nat.le_of_ble_eq_true rfl, Nat.le_of_ble_eq_true rfl⟩, (hts _ k_920), (hts _ k_47)⟩ ⟨fun a U g mk q => ⟨q.1, q.2.1, va_K.moved (u := U) (U := U.calling g mk a) (Vm.Alike.refl U.vm) q.2.2.1, q.2.2.2.calling⟩, (va_recv (q0 := 0) hK hP rfl rfl), fun U hU hW => ⟨rfl, by rw [hU]; exact hP, va_K.moved hW.alike hK, by rw [hU]; exact hX.warm hW⟩⟩ rfl rfl hl.1 rfl (lv_room (Nat.le_of_ble_eq_true rfl)) d_MD_timeOf_60 ⟨Nat.le_of_ble_eq_true rfl, Nat.le_of_ble_eq_true rfl⟩) (fun xr_1 h_xr_1 => ?_)
        subst h_xr_1
        have J63_1 : W p l e rm_MD_timeOf s m args below meth c s.heap [] 0 0 Q (F0 m 76 ls [.int (iI (if loF sh d 4 = true ∧ 5 < q then 2 else 0))]) := by
          refine lv_istore (lv' := [(5, .int (iI (if loF sh d 4 = true ∧ 5 < q then 2 else 0))), (0, .ref h0), (1, .int (iI ((d : Int)))), (2, .int (iI (q))), (3, .int (bI (sec))), (4, .int (iI (ac)))]) hx hb d_MD_timeOf_76 hl (by decide) rfl (fun ls hl => ?_)
          refine lv_aload_n hx hb d_MD_timeOf_78 rfl (lv_at hl 1 rfl) ?_
          refine lv_iload_n hx hb d_MD_timeOf_79 rfl (lv_at hl 2 rfl) ?_
          refine z_iconst hx hb d_MD_timeOf_80 ?_
          refine rc_i (va_runV (As := [.int (iI ((d : Int))), .int (iI (4))]) (rest := []) (b := h0) ⟨hx, hb, hml, hown, hts⟩ (c_MD_isTwice l D k (h0) (aTx) (aDt) (aFe) (aRu) (aTa) (aBe) (aEn) (aMa) (aEx) (aAb) (aCo) (aNt) (aNb) (aNe) (aCf) (aCd) (aKi) (aFi) (aSe) (fa) (ty) (sh) (wt) (rd) (cd) (at1) (d) (4) ((by omega)) (⟨by omega, by omega⟩)) ⟨callB_of 2 hts (good_MD_isTwice) rfl rfl rfl (hts _ k_67) (hts _ k_950) (by decide +kernel) ⟨Nat.le_of_ble_eq_true rfl, Nat.le_of_ble_eq_true rfl⟩, (hts _ k_952), (hts _ k_53)⟩ ⟨fun a U g mk q => ⟨q.1, q.2.1, va_K.moved (u := U) (U := U.calling g mk a) (Vm.Alike.refl U.vm) q.2.2.1, q.2.2.2.calling⟩, (va_recv (q0 := 0) hK hP rfl rfl), fun U hU hW => ⟨rfl, by rw [hU]; exact hP, va_K.moved hW.alike hK, by rw [hU]; exact hX.warm hW⟩⟩ rfl rfl hl.1 rfl (lv_room (Nat.le_of_ble_eq_true rfl)) d_MD_timeOf_81 ⟨Nat.le_of_ble_eq_true rfl, Nat.le_of_ble_eq_true rfl⟩) (fun xr_2 h_xr_2 => ?_)
          subst h_xr_2
          have J84_2 : W p l e rm_MD_timeOf s m args below meth c s.heap [] 0 0 Q (F0 m 106 ls [.int (iI (if twF sh d 4 = true ∧ (5 < q ∨ (sec = true ∧ 3 < q)) then 2 else 0))]) := by
            refine lv_istore (lv' := [(6, .int (iI (if twF sh d 4 = true ∧ (5 < q ∨ (sec = true ∧ 3 < q)) then 2 else 0))), (5, .int (iI (if loF sh d 4 = true ∧ 5 < q then 2 else 0))), (0, .ref h0), (1, .int (iI ((d : Int)))), (2, .int (iI (q))), (3, .int (bI (sec))), (4, .int (iI (ac)))]) hx hb d_MD_timeOf_106 hl (by decide) rfl (fun ls hl => ?_)
            refine lv_iload hx hb d_MD_timeOf_108 (lv_at hl 6 rfl) ?_
            refine lv_iload_n hx hb d_MD_timeOf_110 rfl (lv_at hl 4 rfl) ?_
            refine z_iadd hx hb d_MD_timeOf_111 ?_
            refine lv_iload hx hb d_MD_timeOf_112 (lv_at hl 1 rfl) ?_
            refine z_isub hx hb d_MD_timeOf_114 ?_
            refine lv_iload hx hb d_MD_timeOf_115 (lv_at hl 0 rfl) ?_
            refine z_iadd hx hb d_MD_timeOf_117 ?_
            exact ret _ 118 (iI (((ac + q) - (if loF sh d 4 = true ∧ 5 < q then 2 else 0)) + (if twF sh d 4 = true ∧ (5 < q ∨ (sec = true ∧ 3 < q)) then 2 else 0))) d_MD_timeOf_118 (by rw [ha, show i = d by omega]; rfl)
          refine b_if_eq (tgt := 105) hx hb d_MD_timeOf_84 (by decide) (fun h84 => ?_) (fun h84 => ?_)
          · refine z_iconst hx hb d_MD_timeOf_105 ?_
            exact z_top (show (iI (0)) = (iI (if twF sh d 4 = true ∧ (5 < q ∨ (sec = true ∧ 3 < q)) then 2 else 0)) from (by rw [if_neg (by first | (rw [h84]; simp; done) | (rw [h93]; simp; omega) | (rw [h93]; intro q9; omega) | omega)])) J84_2
          · refine lv_iload_n hx hb d_MD_timeOf_87 rfl (lv_at hl 3 rfl) ?_
            refine z_iconst hx hb d_MD_timeOf_88 ?_
            refine z_icmp_gt (tgt := 101) hx hb d_MD_timeOf_89 (by decide) ⟨by omega, by omega⟩ ⟨by omega, by omega⟩ (fun h89 => ?_) (fun h89 => ?_)
            · refine z_iconst hx hb d_MD_timeOf_101 ?_
              refine lv_goto (tgt := 106) hx hb d_MD_timeOf_102 (by decide) ?_
              exact z_top (show (iI (2)) = (iI (if twF sh d 4 = true ∧ (5 < q ∨ (sec = true ∧ 3 < q)) then 2 else 0)) from (by rw [if_pos ⟨h84, by first | exact Or.inl (by omega) | exact Or.inr ⟨h93, by omega⟩⟩])) J84_2
            · refine lv_iload_n hx hb d_MD_timeOf_92 rfl (lv_at hl 4 rfl) ?_
              refine b_if_eq (tgt := 105) hx hb d_MD_timeOf_93 (by decide) (fun h93 => ?_) (fun h93 => ?_)
              · refine z_iconst hx hb d_MD_timeOf_105 ?_
                exact z_top (show (iI (0)) = (iI (if twF sh d 4 = true ∧ (5 < q ∨ (sec = true ∧ 3 < q)) then 2 else 0)) from (by rw [if_neg (by first | (rw [h84]; simp; done) | (rw [h93]; simp; omega) | (rw [h93]; intro q9; omega) | omega)])) J84_2
              · refine lv_iload_n hx hb d_MD_timeOf_96 rfl (lv_at hl 3 rfl) ?_
                refine z_iconst hx hb d_MD_timeOf_97 ?_
                refine z_icmp_le (tgt := 105) hx hb d_MD_timeOf_98 (by decide) ⟨by omega, by omega⟩ ⟨by omega, by omega⟩ (fun h98 => ?_) (fun h98 => ?_)
                · refine z_iconst hx hb d_MD_timeOf_105 ?_
                  exact z_top (show (iI (0)) = (iI (if twF sh d 4 = true ∧ (5 < q ∨ (sec = true ∧ 3 < q)) then 2 else 0)) from (by rw [if_neg (by first | (rw [h84]; simp; done) | (rw [h93]; simp; omega) | (rw [h93]; intro q9; omega) | omega)])) J84_2
                · refine z_iconst hx hb d_MD_timeOf_101 ?_
                  refine lv_goto (tgt := 106) hx hb d_MD_timeOf_102 (by decide) ?_
                  exact z_top (show (iI (2)) = (iI (if twF sh d 4 = true ∧ (5 < q ∨ (sec = true ∧ 3 < q)) then 2 else 0)) from (by rw [if_pos ⟨h84, by first | exact Or.inl (by omega) | exact Or.inr ⟨h93, by omega⟩⟩])) J84_2
        refine b_if_eq (tgt := 75) hx hb d_MD_timeOf_63 (by decide) (fun h63 => ?_) (fun h63 => ?_)
        · refine z_iconst hx hb d_MD_timeOf_75 ?_
          exact z_top (show (iI (0)) = (iI (if loF sh d 4 = true ∧ 5 < q then 2 else 0)) from (by rw [if_neg (by first | omega | (rw [h63]; simp))])) J63_1
        · refine lv_iload_n hx hb d_MD_timeOf_66 rfl (lv_at hl 2 rfl) ?_
          refine z_iconst hx hb d_MD_timeOf_67 ?_
          refine z_icmp_le (tgt := 75) hx hb d_MD_timeOf_68 (by decide) ⟨by omega, by omega⟩ ⟨by omega, by omega⟩ (fun h68 => ?_) (fun h68 => ?_)
          · refine z_iconst hx hb d_MD_timeOf_75 ?_
            exact z_top (show (iI (0)) = (iI (if loF sh d 4 = true ∧ 5 < q then 2 else 0)) from (by rw [if_neg (by first | omega | (rw [h63]; simp))])) J63_1
          · refine z_iconst hx hb d_MD_timeOf_71 ?_
            refine lv_goto (tgt := 76) hx hb d_MD_timeOf_72 (by decide) ?_
            exact z_top (show (iI (2)) = (iI (if loF sh d 4 = true ∧ 5 < q then 2 else 0)) from (by rw [if_pos ⟨h63, by omega⟩])) J63_1
      · refine lv_iload hx hb d_MD_timeOf_12 (lv_at hl 4 rfl) ?_
        refine z_bipush hx hb d_MD_timeOf_14 (by decide) ?_
        refine z_iadd hx hb d_MD_timeOf_16 ?_
        refine lv_aload_n hx hb d_MD_timeOf_17 rfl (lv_at hl 0 rfl) ?_
        refine lv_iload hx hb d_MD_timeOf_18 (lv_at hl 5 rfl) ?_
        refine z_iconst hx hb d_MD_timeOf_20 ?_
        refine rc_i (va_runV (As := [.int (iI ((i : Int))), .int (iI (4))]) (rest := [.int (iI (ac + 48))]) (b := h0) ⟨hx, hb, hml, hown, hts⟩ (c_MD_isLost l D k (h0) (aTx) (aDt) (aFe) (aRu) (aTa) (aBe) (aEn) (aMa) (aEx) (aAb) (aCo) (aNt) (aNb) (aNe) (aCf) (aCd) (aKi) (aFi) (aSe) (fa) (ty) (sh) (wt) (rd) (cd) (at1) (i) (4) ((by omega)) (⟨by omega, by omega⟩)) ⟨callB_of 2 hts (good_MD_isLost) rfl rfl rfl (hts _ k_67) (hts _ k_918) (by decide +kernel) ⟨Nat.le_of_ble_eq_true rfl, Nat.le_of_ble_eq_true rfl⟩, (hts _ k_920), (hts _ k_47)⟩ ⟨fun a U g mk q => ⟨q.1, q.2.1, va_K.moved (u := U) (U := U.calling g mk a) (Vm.Alike.refl U.vm) q.2.2.1, q.2.2.2.calling⟩, (va_recv (q0 := 0) hK hP rfl rfl), fun U hU hW => ⟨rfl, by rw [hU]; exact hP, va_K.moved hW.alike hK, by rw [hU]; exact hX.warm hW⟩⟩ rfl rfl hl.1 rfl (lv_room (Nat.le_of_ble_eq_true rfl)) d_MD_timeOf_21 ⟨Nat.le_of_ble_eq_true rfl, Nat.le_of_ble_eq_true rfl⟩) (fun xr_3 h_xr_3 => ?_)
        subst h_xr_3
        have J24_3 : W p l e rm_MD_timeOf s m args below meth c s.heap [] 0 0 Q (F0 m 32 ls [.int (iI (if loF sh i 4 = true then 2 else 0)), .int (iI (ac + 48))]) := by
          refine z_isub hx hb d_MD_timeOf_32 ?_
          refine lv_aload_n hx hb d_MD_timeOf_33 rfl (lv_at hl 0 rfl) ?_
          refine lv_iload hx hb d_MD_timeOf_34 (lv_at hl 5 rfl) ?_
          refine z_iconst hx hb d_MD_timeOf_36 ?_
          refine rc_i (va_runV (As := [.int (iI ((i : Int))), .int (iI (4))]) (rest := [.int (iI ((ac + 48) - (if loF sh i 4 = true then 2 else 0)))]) (b := h0) ⟨hx, hb, hml, hown, hts⟩ (c_MD_isTwice l D k (h0) (aTx) (aDt) (aFe) (aRu) (aTa) (aBe) (aEn) (aMa) (aEx) (aAb) (aCo) (aNt) (aNb) (aNe) (aCf) (aCd) (aKi) (aFi) (aSe) (fa) (ty) (sh) (wt) (rd) (cd) (at1) (i) (4) ((by omega)) (⟨by omega, by omega⟩)) ⟨callB_of 2 hts (good_MD_isTwice) rfl rfl rfl (hts _ k_67) (hts _ k_950) (by decide +kernel) ⟨Nat.le_of_ble_eq_true rfl, Nat.le_of_ble_eq_true rfl⟩, (hts _ k_952), (hts _ k_53)⟩ ⟨fun a U g mk q => ⟨q.1, q.2.1, va_K.moved (u := U) (U := U.calling g mk a) (Vm.Alike.refl U.vm) q.2.2.1, q.2.2.2.calling⟩, (va_recv (q0 := 0) hK hP rfl rfl), fun U hU hW => ⟨rfl, by rw [hU]; exact hP, va_K.moved hW.alike hK, by rw [hU]; exact hX.warm hW⟩⟩ rfl rfl hl.1 rfl (lv_room (Nat.le_of_ble_eq_true rfl)) d_MD_timeOf_37 ⟨Nat.le_of_ble_eq_true rfl, Nat.le_of_ble_eq_true rfl⟩) (fun xr_4 h_xr_4 => ?_)
          subst h_xr_4
          have J40_4 : W p l e rm_MD_timeOf s m args below meth c s.heap [] 0 0 Q (F0 m 48 ls [.int (iI (if twF sh i 4 = true then 2 else 0)), .int (iI ((ac + 48) - (if loF sh i 4 = true then 2 else 0)))]) := by
            refine z_iadd hx hb d_MD_timeOf_48 ?_
            refine lv_istore (lv' := [(4, .int (iI (((ac + 48) - (if loF sh i 4 = true then 2 else 0)) + (if twF sh i 4 = true then 2 else 0)))), (0, .ref h0), (1, .int (iI ((d : Int)))), (2, .int (iI (q))), (3, .int (bI (sec))), (5, .int (iI ((i : Int))))]) hx hb d_MD_timeOf_49 hl (by decide) rfl (fun ls hl => ?_)
            refine z_iinc (k := 5) (a := (i : Int)) (lv' := [(5, .int (iI (((i : Int)) + 1))), (4, .int (iI (((ac + 48) - (if loF sh i 4 = true then 2 else 0)) + (if twF sh i 4 = true then 2 else 0)))), (0, .ref h0), (1, .int (iI ((d : Int)))), (2, .int (iI (q))), (3, .int (bI (sec)))]) hx hb d_MD_timeOf_51 hl rfl (by decide) rfl (fun ls hl => ?_)
            refine lv_goto (tgt := 6) hx hb d_MD_timeOf_54 (by decide) ?_
            exact ih6 (i + 1) ((i : Int) + 1) (((ac + 48) - (if loF sh i 4 = true then 2 else 0)) + (if twF sh i 4 = true then 2 else 0)) ls (by omega) (by omega) (by rw [ha]; rfl) (by omega) (lv_sub hl [2, 3, 4, 5, 1, 0] rfl)
          refine b_if_eq (tgt := 47) hx hb d_MD_timeOf_40 (by decide) (fun h40 => ?_) (fun h40 => ?_)
          · refine z_iconst hx hb d_MD_timeOf_47 ?_
            exact z_top (show (iI (0)) = (iI (if twF sh i 4 = true then 2 else 0)) from (by rw [if_neg (Bool.eq_false_iff.mp h40)])) J40_4
          · refine z_iconst hx hb d_MD_timeOf_43 ?_
            refine lv_goto (tgt := 48) hx hb d_MD_timeOf_44 (by decide) ?_
            exact z_top (show (iI (2)) = (iI (if twF sh i 4 = true then 2 else 0)) from (by rw [if_pos h40])) J40_4
        refine b_if_eq (tgt := 31) hx hb d_MD_timeOf_24 (by decide) (fun h24 => ?_) (fun h24 => ?_)
        · refine z_iconst hx hb d_MD_timeOf_31 ?_
          exact z_top (show (iI (0)) = (iI (if loF sh i 4 = true then 2 else 0)) from (by rw [if_neg (Bool.eq_false_iff.mp h24)])) J24_3
        · refine z_iconst hx hb d_MD_timeOf_27 ?_
          refine lv_goto (tgt := 32) hx hb d_MD_timeOf_28 (by decide) ?_
          exact z_top (show (iI (2)) = (iI (if loF sh i 4 = true then 2 else 0)) from (by rw [if_pos h24])) J24_3
  exact L6 (_) (0) (0) (0) ls (by omega) (by omega) (by rfl) (Nat.lt_succ_self _) (lv_sub hl [2, 3, 4, 5, 1, 0] rfl)

set_option maxHeartbeats 4000000 in
set_option maxRecDepth 100000 in
theorem c_MD_find (l : Launch) (D : va_G) (k : Nat → ClassId) (h0 aTx aDt aFe aRu aTa aBe aEn aMa aEx aAb aCo aNt aNb aNe aCf aCd aKi aFi aSe : Nat) (fa : Int) (ty : Int) (sh : Bool) (wt : Int) (rd : Int) (cd : Int) (at1 : Int) (x0 : Int) (hx0 : rg x0) : Met l y_MD_find wd_MD_find rm_MD_find (va_Pc [.ref h0, .int (iI (x0))] (PRO D k [(h0, .inr (8, [.int (iI (fa)), .int (iI (ty)), .ref aTx, .int (bI (sh)), .ref aDt, .ref aFe, .ref aRu, .ref aTa, .ref aBe, .ref aEn, .ref aMa, .int (iI (wt)), .ref aEx, .ref aAb, .ref aCo, .int (iI (rd)), .ref aNt, .ref aNb, .ref aNe, .ref aCf, .ref aCd, .int (iI (cd)), .int (iI (at1)), .ref aKi, .ref aFi, .ref aSe])), (aDt, .inl (k 0, 1461, .inl (aZ (dateZ))))])) (QRi (fun r : Int32 => r = (iI (findM x0 1461)))) 0 0 nA := by
  refine r_i (by decide) rfl (Nat.le_of_ble_eq_true rfl) ?_
  intro p e s m args below meth c Q ls hx hb hml hown hts hpre hl ret
  obtain ⟨hP, hK, hX⟩ := hpre
  have hS : va_S nA s.heap s.heap [] := va_S.rf
  have hl : lv_has ls 4 [(0, .ref h0), (1, .int (iI (x0)))] := hl
  obtain ⟨q1, q2⟩ := hx0
  refine z_iconst hx hb d_MD_find_0 ?_
  refine lv_istore_n (lv' := [(2, .int (iI (-1))), (0, .ref h0), (1, .int (iI (x0)))]) hx hb d_MD_find_1 rfl hl (by decide) rfl (fun ls hl => ?_)
  refine z_iconst hx hb d_MD_find_2 ?_
  refine lv_istore_n (lv' := [(3, .int (iI (0))), (2, .int (iI (-1))), (0, .ref h0), (1, .int (iI (x0)))]) hx hb d_MD_find_3 rfl hl (by decide) rfl (fun ls hl => ?_)
  have L4 : ∀ (fu : Nat) (i : Nat) (z : Int) (f : Int) (ls : Array Slot), z = (i : Int) → i ≤ 1461 → f = findM x0 i → 1461 - i < fu → lv_has ls 4 [(0, .ref h0), (1, .int (iI (x0))), (2, .int (iI (f))), (3, .int (iI (z)))] → W p l e rm_MD_find s m args below meth c s.heap [] 0 0 Q (F0 m 4 ls []) := by
    intro fu
    induction fu with
    | zero => intro i z f ls hz hi hf hmu; exact absurd hmu (Nat.not_lt_zero _)
    | succ fu ih4 =>
      intro i z f ls hz hi hf hmu hl
      subst hz
      refine lv_iload_n hx hb d_MD_find_4 rfl (lv_at hl 3 rfl) ?_
      refine z_sipush hx hb d_MD_find_5 (by decide) ?_
      refine z_icmp_ge (tgt := 33) hx hb d_MD_find_8 (by decide) ⟨by omega, by omega⟩ ⟨by omega, by omega⟩ (fun h8 => ?_) (fun h8 => ?_)
      · refine lv_iload_n hx hb d_MD_find_33 rfl (lv_at hl 2 rfl) ?_
        exact ret _ 34 (iI (f)) d_MD_find_34 (by rw [hf, show i = 1461 by omega])
      · refine lv_aload_n hx hb d_MD_find_11 rfl (lv_at hl 0 rfl) ?_
        refine va_get (D := D) (ci := 8) (v := .ref aDt) (C := R_MD) (T := F_MD) (N := 26) hx hb hts in_MD hown hK hP 0 rfl rfl 4 (by decide) (hts _ k_737) (fun _ h9 => h9) rfl d_MD_find_12 ?_
        refine lv_iload_n hx hb d_MD_find_15 rfl (lv_at hl 3 rfl) ?_
        refine x_iald hx hb hK hP 1 0 rfl rfl (i) rfl (by omega) (by omega) d_MD_find_16 ?_
        refine z_top (show _ = iI (dateZ (i)) from rfl) ?_
        have hb9 := dateZ_bd (d := i) (by omega)
        refine lv_iload_n hx hb d_MD_find_17 rfl (lv_at hl 1 rfl) ?_
        have J18_1 : W p l e rm_MD_find s m args below meth c s.heap [] 0 0 Q (F0 m 26 ls [.int (iI (findM x0 (i + 1)))]) := by
          refine lv_istore_n (lv' := [(2, .int (iI (findM x0 (i + 1)))), (0, .ref h0), (1, .int (iI (x0))), (3, .int (iI ((i : Int))))]) hx hb d_MD_find_26 rfl hl (by decide) rfl (fun ls hl => ?_)
          refine z_iinc (k := 3) (a := (i : Int)) (lv' := [(3, .int (iI (((i : Int)) + 1))), (2, .int (iI (findM x0 (i + 1)))), (0, .ref h0), (1, .int (iI (x0)))]) hx hb d_MD_find_27 hl rfl (by decide) rfl (fun ls hl => ?_)
          refine lv_goto (tgt := 4) hx hb d_MD_find_30 (by decide) ?_
          exact ih4 (i + 1) ((i : Int) + 1) (findM x0 (i + 1)) ls (by omega) (by omega) (by rfl) (by omega) (lv_sub hl [2, 3, 1, 0] rfl)
        refine z_icmp_ne (tgt := 25) hx hb d_MD_find_18 (by decide) ⟨by omega, by omega⟩ ⟨by omega, by omega⟩ (fun h18 => ?_) (fun h18 => ?_)
        · refine lv_iload_n hx hb d_MD_find_25 rfl (lv_at hl 2 rfl) ?_
          exact z_top (show (iI (f)) = (iI (findM x0 (i + 1))) from (by show _ = iI (if dateZ i = x0 then (i : Int) else findM x0 i); first | rw [if_pos h18] | rw [if_neg h18, hf])) J18_1
        · refine lv_iload_n hx hb d_MD_find_21 rfl (lv_at hl 3 rfl) ?_
          refine lv_goto (tgt := 26) hx hb d_MD_find_22 (by decide) ?_
          exact z_top (show (iI ((i : Int))) = (iI (findM x0 (i + 1))) from (by show _ = iI (if dateZ i = x0 then (i : Int) else findM x0 i); first | rw [if_pos h18] | rw [if_neg h18, hf])) J18_1
  exact L4 (_) (0) (0) (-1) ls (by omega) (by omega) (by rfl) (Nat.lt_succ_self _) (lv_sub hl [2, 3, 1, 0] rfl)

set_option maxHeartbeats 4000000 in
set_option maxRecDepth 100000 in
theorem c_MD_week (l : Launch) (D : va_G) (k : Nat → ClassId) (h0 aTx aDt aFe aRu aTa aBe aEn aMa aEx aAb aCo aNt aNb aNe aCf aCd aKi aFi aSe : Nat) (fa : Int) (ty : Int) (sh : Bool) (wt : Int) (rd : Int) (cd : Int) (at1 : Int) (z : Int) (hz : 0 ≤ z ∧ z ≤ 1460) : Met l y_MD_week wd_MD_week rm_MD_week (va_Pc [.ref h0, .int (iI (z))] (PRO D k [(h0, .inr (8, [.int (iI (fa)), .int (iI (ty)), .ref aTx, .int (bI (sh)), .ref aDt, .ref aFe, .ref aRu, .ref aTa, .ref aBe, .ref aEn, .ref aMa, .int (iI (wt)), .ref aEx, .ref aAb, .ref aCo, .int (iI (rd)), .ref aNt, .ref aNb, .ref aNe, .ref aCf, .ref aCd, .int (iI (cd)), .int (iI (at1)), .ref aKi, .ref aFi, .ref aSe])), (aDt, .inl (k 0, 1461, .inl (aZ (dateZ))))])) (QRi (fun r : Int32 => r = (iI (weekZ z)))) 0 0 nA := by
  refine r_i (by decide) rfl (Nat.le_of_ble_eq_true rfl) ?_
  intro p e s m args below meth c Q ls hx hb hml hown hts hpre hl ret
  obtain ⟨hP, hK, hX⟩ := hpre
  have hS : va_S nA s.heap s.heap [] := va_S.rf
  have hl : lv_has ls 5 [(0, .ref h0), (1, .int (iI (z)))] := hl
  refine lv_iload_n hx hb d_MD_week_0 rfl (lv_at hl 1 rfl) ?_
  refine z_iconst hx hb d_MD_week_1 ?_
  refine z_iadd hx hb d_MD_week_2 ?_
  refine lv_iload_n hx hb d_MD_week_3 rfl (lv_at hl 1 rfl) ?_
  refine rc_i (va_runS (As := [.int (iI (z))]) (rest := [.int (iI (z + 4))]) ⟨hx, hb, hml, hown, hts⟩ (c_MD_weekday l D k (z) ((by omega))) ⟨callB_of 1 hts (good_MD_weekday) rfl rfl rfl (hts _ k_67) (hts _ k_891) (by decide +kernel) ⟨Nat.le_of_ble_eq_true rfl, Nat.le_of_ble_eq_true rfl⟩, (hts _ k_892)⟩ ⟨fun a U g mk q => ⟨q.1, q.2.1, va_K.moved (u := U) (U := U.calling g mk a) (Vm.Alike.refl U.vm) q.2.2.1, q.2.2.2.calling⟩, fun U hU hW => ⟨rfl, by rw [hU]; exact (hP.sub (ws' := []) [] rfl), va_K.moved hW.alike hK, by rw [hU]; exact hX.warm hW⟩⟩ rfl rfl hl.1 rfl (lv_room (Nat.le_of_ble_eq_true rfl)) d_MD_week_4 ⟨Nat.le_of_ble_eq_true rfl, Nat.le_of_ble_eq_true rfl⟩) (fun xr_1 h_xr_1 => ?_)
  subst h_xr_1
  have hw9 := wDay_bd (z := z) (by omega)
  refine z_isub hx hb d_MD_week_7 ?_
  obtain ⟨t, h_t⟩ : ∃ t : Int, t = (z + 4) - (wDay z) := ⟨_, rfl⟩
  refine z_top (show iI ((z + 4) - (wDay z)) = iI t from by rw [h_t]) ?_
  refine lv_istore_n (lv' := [(2, .int (iI (t))), (0, .ref h0), (1, .int (iI (z)))]) hx hb d_MD_week_8 rfl hl (by decide) rfl (fun ls hl => ?_)
  refine lv_iload_n hx hb d_MD_week_9 rfl (lv_at hl 0 rfl) ?_
  refine z_if_ge (tgt := 19) hx hb d_MD_week_10 (by decide) ⟨by omega, by omega⟩ (fun h10 => ?_) (fun h10 => ?_)
  · refine lv_iload_n hx hb d_MD_week_19 rfl (lv_at hl 0 rfl) ?_
    refine z_sipush hx hb d_MD_week_20 (by decide) ?_
    refine z_icmp_lt (tgt := 32) hx hb d_MD_week_23 (by decide) ⟨by omega, by omega⟩ ⟨by omega, by omega⟩ (fun h23 => ?_) (fun h23 => ?_)
    · refine lv_aload_n hx hb d_MD_week_32 rfl (lv_at hl 1 rfl) ?_
      refine va_get (D := D) (ci := 8) (v := .ref aDt) (C := R_MD) (T := F_MD) (N := 26) hx hb hts in_MD hown hK hP 0 rfl rfl 4 (by decide) (hts _ k_737) (fun _ h9 => h9) rfl d_MD_week_33 ?_
      refine lv_iload_n hx hb d_MD_week_36 rfl (lv_at hl 0 rfl) ?_
      refine x_iald hx hb hK hP 1 0 rfl rfl (t.toNat) (by omega) (by omega) (by omega) d_MD_week_37 ?_
      refine z_top (show _ = iI (dateZ (t.toNat)) from rfl) ?_
      have hb9 := dateZ_bd (d := t.toNat) (by omega)
      have hyx := yIx_c t
      have htn : ((t.toNat : Nat) : Int) = t := by omega
      rw [htn] at hb9
      refine z_sipush hx hb d_MD_week_38 (by decide) ?_
      refine z_idiv hx hb d_MD_week_41 ⟨by omega, by omega⟩ (by omega) ⟨by omega, by omega⟩ (by omega) ?_
      refine lv_istore_n (lv' := [(3, .int (iI ((dateZ (t.toNat)) / (10000)))), (2, .int (iI (t))), (0, .ref h0), (1, .int (iI (z)))]) hx hb d_MD_week_42 rfl hl (by decide) rfl (fun ls hl => ?_)
      refine lv_iload_n hx hb d_MD_week_43 rfl (lv_at hl 0 rfl) ?_
      refine z_sipush hx hb d_MD_week_44 (by decide) ?_
      refine z_icmp_ne (tgt := 56) hx hb d_MD_week_47 (by decide) ⟨by omega, by omega⟩ ⟨by omega, by omega⟩ (fun h47 => ?_) (fun h47 => ?_)
      · refine lv_iload_n hx hb d_MD_week_56 rfl (lv_at hl 0 rfl) ?_
        refine z_sipush hx hb d_MD_week_57 (by decide) ?_
        refine z_icmp_ne (tgt := 67) hx hb d_MD_week_60 (by decide) ⟨by omega, by omega⟩ ⟨by omega, by omega⟩ (fun h60 => ?_) (fun h60 => ?_)
        · refine lv_iload_n hx hb d_MD_week_67 rfl (lv_at hl 0 rfl) ?_
          refine z_sipush hx hb d_MD_week_68 (by decide) ?_
          refine z_icmp_ne (tgt := 80) hx hb d_MD_week_71 (by decide) ⟨by omega, by omega⟩ ⟨by omega, by omega⟩ (fun h71 => ?_) (fun h71 => ?_)
          · refine lv_iload_n hx hb d_MD_week_80 rfl (lv_at hl 0 rfl) ?_
            refine z_sipush hx hb d_MD_week_81 (by decide) ?_
            refine z_icmp_ne (tgt := 93) hx hb d_MD_week_84 (by decide) ⟨by omega, by omega⟩ ⟨by omega, by omega⟩ (fun h84 => ?_) (fun h84 => ?_)
            · refine lv_iload_n hx hb d_MD_week_93 rfl (lv_at hl 0 rfl) ?_
              refine z_sipush hx hb d_MD_week_94 (by decide) ?_
              refine z_icmp_ne (tgt := 106) hx hb d_MD_week_97 (by decide) ⟨by omega, by omega⟩ ⟨by omega, by omega⟩ (fun h97 => ?_) (fun h97 => ?_)
              · refine z_sipush hx hb d_MD_week_106 (by decide) ?_
                refine lv_istore (lv' := [(4, .int (iI (1461))), (3, .int (iI ((dateZ (t.toNat)) / (10000)))), (2, .int (iI (t))), (0, .ref h0), (1, .int (iI (z)))]) hx hb d_MD_week_109 hl (by decide) rfl (fun ls hl => ?_)
                refine z_bipush hx hb d_MD_week_111 (by decide) ?_
                refine lv_iload_n hx hb d_MD_week_113 rfl (lv_at hl 1 rfl) ?_
                refine z_imul hx hb d_MD_week_114 ?_
                refine lv_iload_n hx hb d_MD_week_115 rfl (lv_at hl 2 rfl) ?_
                refine lv_iload hx hb d_MD_week_116 (lv_at hl 0 rfl) ?_
                refine z_isub hx hb d_MD_week_118 ?_
                refine z_bipush hx hb d_MD_week_119 (by decide) ?_
                refine z_idiv hx hb d_MD_week_121 ⟨by omega, by omega⟩ (by omega) ⟨by omega, by omega⟩ (by omega) ?_
                refine z_iadd hx hb d_MD_week_122 ?_
                refine z_iconst hx hb d_MD_week_123 ?_
                refine z_iadd hx hb d_MD_week_124 ?_
                exact ret _ 125 (iI (((100 * ((dateZ (t.toNat)) / (10000))) + ((t - 1461) / (7))) + 1)) d_MD_week_125 (congrArg iI (week_b h_t (by omega) (by omega) (by unfold fDay; rw [show yIx t = (dateZ (t.toNat)) / 10000 - 2000 by omega]; first | (rw [h47]; decide) | (rw [h60]; decide) | (rw [h71]; decide) | (rw [h84]; decide) | (rw [h97]; decide) | (split <;> omega))))
              · refine z_sipush hx hb d_MD_week_100 (by decide) ?_
                refine lv_goto (tgt := 109) hx hb d_MD_week_103 (by decide) ?_
                refine lv_istore (lv' := [(4, .int (iI (1096))), (3, .int (iI ((dateZ (t.toNat)) / (10000)))), (2, .int (iI (t))), (0, .ref h0), (1, .int (iI (z)))]) hx hb d_MD_week_109 hl (by decide) rfl (fun ls hl => ?_)
                refine z_bipush hx hb d_MD_week_111 (by decide) ?_
                refine lv_iload_n hx hb d_MD_week_113 rfl (lv_at hl 1 rfl) ?_
                refine z_imul hx hb d_MD_week_114 ?_
                refine lv_iload_n hx hb d_MD_week_115 rfl (lv_at hl 2 rfl) ?_
                refine lv_iload hx hb d_MD_week_116 (lv_at hl 0 rfl) ?_
                refine z_isub hx hb d_MD_week_118 ?_
                refine z_bipush hx hb d_MD_week_119 (by decide) ?_
                refine z_idiv hx hb d_MD_week_121 ⟨by omega, by omega⟩ (by omega) ⟨by omega, by omega⟩ (by omega) ?_
                refine z_iadd hx hb d_MD_week_122 ?_
                refine z_iconst hx hb d_MD_week_123 ?_
                refine z_iadd hx hb d_MD_week_124 ?_
                exact ret _ 125 (iI (((100 * ((dateZ (t.toNat)) / (10000))) + ((t - 1096) / (7))) + 1)) d_MD_week_125 (congrArg iI (week_b h_t (by omega) (by omega) (by unfold fDay; rw [show yIx t = (dateZ (t.toNat)) / 10000 - 2000 by omega]; first | (rw [h47]; decide) | (rw [h60]; decide) | (rw [h71]; decide) | (rw [h84]; decide) | (rw [h97]; decide) | (split <;> omega))))
            · refine z_sipush hx hb d_MD_week_87 (by decide) ?_
              refine lv_goto (tgt := 109) hx hb d_MD_week_90 (by decide) ?_
              refine lv_istore (lv' := [(4, .int (iI (731))), (3, .int (iI ((dateZ (t.toNat)) / (10000)))), (2, .int (iI (t))), (0, .ref h0), (1, .int (iI (z)))]) hx hb d_MD_week_109 hl (by decide) rfl (fun ls hl => ?_)
              refine z_bipush hx hb d_MD_week_111 (by decide) ?_
              refine lv_iload_n hx hb d_MD_week_113 rfl (lv_at hl 1 rfl) ?_
              refine z_imul hx hb d_MD_week_114 ?_
              refine lv_iload_n hx hb d_MD_week_115 rfl (lv_at hl 2 rfl) ?_
              refine lv_iload hx hb d_MD_week_116 (lv_at hl 0 rfl) ?_
              refine z_isub hx hb d_MD_week_118 ?_
              refine z_bipush hx hb d_MD_week_119 (by decide) ?_
              refine z_idiv hx hb d_MD_week_121 ⟨by omega, by omega⟩ (by omega) ⟨by omega, by omega⟩ (by omega) ?_
              refine z_iadd hx hb d_MD_week_122 ?_
              refine z_iconst hx hb d_MD_week_123 ?_
              refine z_iadd hx hb d_MD_week_124 ?_
              exact ret _ 125 (iI (((100 * ((dateZ (t.toNat)) / (10000))) + ((t - 731) / (7))) + 1)) d_MD_week_125 (congrArg iI (week_b h_t (by omega) (by omega) (by unfold fDay; rw [show yIx t = (dateZ (t.toNat)) / 10000 - 2000 by omega]; first | (rw [h47]; decide) | (rw [h60]; decide) | (rw [h71]; decide) | (rw [h84]; decide) | (rw [h97]; decide) | (split <;> omega))))
          · refine z_sipush hx hb d_MD_week_74 (by decide) ?_
            refine lv_goto (tgt := 109) hx hb d_MD_week_77 (by decide) ?_
            refine lv_istore (lv' := [(4, .int (iI (366))), (3, .int (iI ((dateZ (t.toNat)) / (10000)))), (2, .int (iI (t))), (0, .ref h0), (1, .int (iI (z)))]) hx hb d_MD_week_109 hl (by decide) rfl (fun ls hl => ?_)
            refine z_bipush hx hb d_MD_week_111 (by decide) ?_
            refine lv_iload_n hx hb d_MD_week_113 rfl (lv_at hl 1 rfl) ?_
            refine z_imul hx hb d_MD_week_114 ?_
            refine lv_iload_n hx hb d_MD_week_115 rfl (lv_at hl 2 rfl) ?_
            refine lv_iload hx hb d_MD_week_116 (lv_at hl 0 rfl) ?_
            refine z_isub hx hb d_MD_week_118 ?_
            refine z_bipush hx hb d_MD_week_119 (by decide) ?_
            refine z_idiv hx hb d_MD_week_121 ⟨by omega, by omega⟩ (by omega) ⟨by omega, by omega⟩ (by omega) ?_
            refine z_iadd hx hb d_MD_week_122 ?_
            refine z_iconst hx hb d_MD_week_123 ?_
            refine z_iadd hx hb d_MD_week_124 ?_
            exact ret _ 125 (iI (((100 * ((dateZ (t.toNat)) / (10000))) + ((t - 366) / (7))) + 1)) d_MD_week_125 (congrArg iI (week_b h_t (by omega) (by omega) (by unfold fDay; rw [show yIx t = (dateZ (t.toNat)) / 10000 - 2000 by omega]; first | (rw [h47]; decide) | (rw [h60]; decide) | (rw [h71]; decide) | (rw [h84]; decide) | (rw [h97]; decide) | (split <;> omega))))
        · refine z_iconst hx hb d_MD_week_63 ?_
          refine lv_goto (tgt := 109) hx hb d_MD_week_64 (by decide) ?_
          refine lv_istore (lv' := [(4, .int (iI (0))), (3, .int (iI ((dateZ (t.toNat)) / (10000)))), (2, .int (iI (t))), (0, .ref h0), (1, .int (iI (z)))]) hx hb d_MD_week_109 hl (by decide) rfl (fun ls hl => ?_)
          refine z_bipush hx hb d_MD_week_111 (by decide) ?_
          refine lv_iload_n hx hb d_MD_week_113 rfl (lv_at hl 1 rfl) ?_
          refine z_imul hx hb d_MD_week_114 ?_
          refine lv_iload_n hx hb d_MD_week_115 rfl (lv_at hl 2 rfl) ?_
          refine lv_iload hx hb d_MD_week_116 (lv_at hl 0 rfl) ?_
          refine z_isub hx hb d_MD_week_118 ?_
          refine z_bipush hx hb d_MD_week_119 (by decide) ?_
          refine z_idiv hx hb d_MD_week_121 ⟨by omega, by omega⟩ (by omega) ⟨by omega, by omega⟩ (by omega) ?_
          refine z_iadd hx hb d_MD_week_122 ?_
          refine z_iconst hx hb d_MD_week_123 ?_
          refine z_iadd hx hb d_MD_week_124 ?_
          exact ret _ 125 (iI (((100 * ((dateZ (t.toNat)) / (10000))) + ((t - 0) / (7))) + 1)) d_MD_week_125 (congrArg iI (week_b h_t (by omega) (by omega) (by unfold fDay; rw [show yIx t = (dateZ (t.toNat)) / 10000 - 2000 by omega]; first | (rw [h47]; decide) | (rw [h60]; decide) | (rw [h71]; decide) | (rw [h84]; decide) | (rw [h97]; decide) | (split <;> omega))))
      · refine z_sipush hx hb d_MD_week_50 (by decide) ?_
        refine lv_goto (tgt := 109) hx hb d_MD_week_53 (by decide) ?_
        refine lv_istore (lv' := [(4, .int (iI (-365))), (3, .int (iI ((dateZ (t.toNat)) / (10000)))), (2, .int (iI (t))), (0, .ref h0), (1, .int (iI (z)))]) hx hb d_MD_week_109 hl (by decide) rfl (fun ls hl => ?_)
        refine z_bipush hx hb d_MD_week_111 (by decide) ?_
        refine lv_iload_n hx hb d_MD_week_113 rfl (lv_at hl 1 rfl) ?_
        refine z_imul hx hb d_MD_week_114 ?_
        refine lv_iload_n hx hb d_MD_week_115 rfl (lv_at hl 2 rfl) ?_
        refine lv_iload hx hb d_MD_week_116 (lv_at hl 0 rfl) ?_
        refine z_isub hx hb d_MD_week_118 ?_
        refine z_bipush hx hb d_MD_week_119 (by decide) ?_
        refine z_idiv hx hb d_MD_week_121 ⟨by omega, by omega⟩ (by omega) ⟨by omega, by omega⟩ (by omega) ?_
        refine z_iadd hx hb d_MD_week_122 ?_
        refine z_iconst hx hb d_MD_week_123 ?_
        refine z_iadd hx hb d_MD_week_124 ?_
        exact ret _ 125 (iI (((100 * ((dateZ (t.toNat)) / (10000))) + ((t - (-365)) / (7))) + 1)) d_MD_week_125 (congrArg iI (week_b h_t (by omega) (by omega) (by unfold fDay; rw [show yIx t = (dateZ (t.toNat)) / 10000 - 2000 by omega]; first | (rw [h47]; decide) | (rw [h60]; decide) | (rw [h71]; decide) | (rw [h84]; decide) | (rw [h97]; decide) | (split <;> omega))))
    · refine z_sipush hx hb d_MD_week_26 (by decide) ?_
      refine lv_goto (tgt := 42) hx hb d_MD_week_29 (by decide) ?_
      refine lv_istore_n (lv' := [(3, .int (iI (2004))), (2, .int (iI (t))), (0, .ref h0), (1, .int (iI (z)))]) hx hb d_MD_week_42 rfl hl (by decide) rfl (fun ls hl => ?_)
      refine lv_iload_n hx hb d_MD_week_43 rfl (lv_at hl 0 rfl) ?_
      refine z_sipush hx hb d_MD_week_44 (by decide) ?_
      refine z_icmp_ne (tgt := 56) hx hb d_MD_week_47 (by decide) ⟨by omega, by omega⟩ ⟨by omega, by omega⟩ (fun h47 => ?_) (fun h47 => absurd h47 (by decide))
      refine lv_iload_n hx hb d_MD_week_56 rfl (lv_at hl 0 rfl) ?_
      refine z_sipush hx hb d_MD_week_57 (by decide) ?_
      refine z_icmp_ne (tgt := 67) hx hb d_MD_week_60 (by decide) ⟨by omega, by omega⟩ ⟨by omega, by omega⟩ (fun h60 => ?_) (fun h60 => absurd h60 (by decide))
      refine lv_iload_n hx hb d_MD_week_67 rfl (lv_at hl 0 rfl) ?_
      refine z_sipush hx hb d_MD_week_68 (by decide) ?_
      refine z_icmp_ne (tgt := 80) hx hb d_MD_week_71 (by decide) ⟨by omega, by omega⟩ ⟨by omega, by omega⟩ (fun h71 => ?_) (fun h71 => absurd h71 (by decide))
      refine lv_iload_n hx hb d_MD_week_80 rfl (lv_at hl 0 rfl) ?_
      refine z_sipush hx hb d_MD_week_81 (by decide) ?_
      refine z_icmp_ne (tgt := 93) hx hb d_MD_week_84 (by decide) ⟨by omega, by omega⟩ ⟨by omega, by omega⟩ (fun h84 => ?_) (fun h84 => absurd h84 (by decide))
      refine lv_iload_n hx hb d_MD_week_93 rfl (lv_at hl 0 rfl) ?_
      refine z_sipush hx hb d_MD_week_94 (by decide) ?_
      refine z_icmp_ne (tgt := 106) hx hb d_MD_week_97 (by decide) ⟨by omega, by omega⟩ ⟨by omega, by omega⟩ (fun h97 => ?_) (fun h97 => absurd h97 (by decide))
      refine z_sipush hx hb d_MD_week_106 (by decide) ?_
      refine lv_istore (lv' := [(4, .int (iI (1461))), (3, .int (iI (2004))), (2, .int (iI (t))), (0, .ref h0), (1, .int (iI (z)))]) hx hb d_MD_week_109 hl (by decide) rfl (fun ls hl => ?_)
      refine z_bipush hx hb d_MD_week_111 (by decide) ?_
      refine lv_iload_n hx hb d_MD_week_113 rfl (lv_at hl 1 rfl) ?_
      refine z_imul hx hb d_MD_week_114 ?_
      refine lv_iload_n hx hb d_MD_week_115 rfl (lv_at hl 2 rfl) ?_
      refine lv_iload hx hb d_MD_week_116 (lv_at hl 0 rfl) ?_
      refine z_isub hx hb d_MD_week_118 ?_
      refine z_bipush hx hb d_MD_week_119 (by decide) ?_
      refine z_idiv hx hb d_MD_week_121 ⟨by omega, by omega⟩ (by omega) ⟨by omega, by omega⟩ (by omega) ?_
      refine z_iadd hx hb d_MD_week_122 ?_
      refine z_iconst hx hb d_MD_week_123 ?_
      refine z_iadd hx hb d_MD_week_124 ?_
      exact ret _ 125 (iI ((200400 + ((t - 1461) / (7))) + 1)) d_MD_week_125 (congrArg iI (week_b (y := 2004) (b := 1461) h_t (by omega) (by have := yIx_c t; omega) (by have := yIx_c t; rw [show yIx t = 4 by omega]; decide)))
  · refine z_sipush hx hb d_MD_week_13 (by decide) ?_
    refine lv_goto (tgt := 42) hx hb d_MD_week_16 (by decide) ?_
    refine lv_istore_n (lv' := [(3, .int (iI (1999))), (2, .int (iI (t))), (0, .ref h0), (1, .int (iI (z)))]) hx hb d_MD_week_42 rfl hl (by decide) rfl (fun ls hl => ?_)
    refine lv_iload_n hx hb d_MD_week_43 rfl (lv_at hl 0 rfl) ?_
    refine z_sipush hx hb d_MD_week_44 (by decide) ?_
    refine z_icmp_ne (tgt := 56) hx hb d_MD_week_47 (by decide) ⟨by omega, by omega⟩ ⟨by omega, by omega⟩ (fun h47 => absurd h47 (by decide)) (fun h47 => ?_)
    refine z_sipush hx hb d_MD_week_50 (by decide) ?_
    refine lv_goto (tgt := 109) hx hb d_MD_week_53 (by decide) ?_
    refine lv_istore (lv' := [(4, .int (iI (-365))), (3, .int (iI (1999))), (2, .int (iI (t))), (0, .ref h0), (1, .int (iI (z)))]) hx hb d_MD_week_109 hl (by decide) rfl (fun ls hl => ?_)
    refine z_bipush hx hb d_MD_week_111 (by decide) ?_
    refine lv_iload_n hx hb d_MD_week_113 rfl (lv_at hl 1 rfl) ?_
    refine z_imul hx hb d_MD_week_114 ?_
    refine lv_iload_n hx hb d_MD_week_115 rfl (lv_at hl 2 rfl) ?_
    refine lv_iload hx hb d_MD_week_116 (lv_at hl 0 rfl) ?_
    refine z_isub hx hb d_MD_week_118 ?_
    refine z_bipush hx hb d_MD_week_119 (by decide) ?_
    refine z_idiv hx hb d_MD_week_121 ⟨by omega, by omega⟩ (by omega) ⟨by omega, by omega⟩ (by omega) ?_
    refine z_iadd hx hb d_MD_week_122 ?_
    refine z_iconst hx hb d_MD_week_123 ?_
    refine z_iadd hx hb d_MD_week_124 ?_
    exact ret _ 125 (iI ((199900 + ((t - (-365)) / (7))) + 1)) d_MD_week_125 (congrArg iI (week_a h_t (by omega)))

set_option maxHeartbeats 4000000 in
set_option maxRecDepth 100000 in
theorem c_MD_at_ok (l : Launch) (D : va_G) (k : Nat → ClassId) (sz : Nat) (h0 aTx aDt aFe aRu aTa aBe aEn aMa aEx aAb aCo aNt aNb aNe aCf aCd aKi aFi aSe : Nat) (fa : Int) (ty : Int) (sh : Bool) (wt : Int) (rd : Int) (cd : Int) (at1 : Int) (mR : Nat → Int) (mT : Nat → Int) (mB : Nat → Int) (mE : Nat → Int) (mM : Nat → Int) (cc : Nat) (d : Nat) (q : Nat) (hR : ∀ j, 0 ≤ mR j ∧ mR j ≤ 12) (hB : ∀ j, 0 ≤ mB j ∧ mB j ≤ 48) (hE : ∀ j, 0 ≤ mE j ∧ mE j ≤ 48) (hM : ∀ j, 0 ≤ mM j ∧ mM j < 4096) (hc : cc < 3) (hd : d < 1461) (hq : q < 48) (hw0 : wrF mR (cc : Int) (d : Int) (q : Int) = 0) : Met l y_MD_at wd_MD_at rm_MD_at (va_Pc [.ref h0, .int (iI ((cc : Int))), .int (iI ((d : Int))), .int (iI ((q : Int)))] (PRW D k [(h0, .inr (8, [.int (iI (fa)), .int (iI (ty)), .ref aTx, .int (bI (sh)), .ref aDt, .ref aFe, .ref aRu, .ref aTa, .ref aBe, .ref aEn, .ref aMa, .int (iI (wt)), .ref aEx, .ref aAb, .ref aCo, .int (iI (rd)), .ref aNt, .ref aNb, .ref aNe, .ref aCf, .ref aCd, .int (iI (cd)), .int (iI (at1)), .ref aKi, .ref aFi, .ref aSe])), (aDt, .inl (k 0, 1461, .inl (aZ (dateZ)))), (aRu, .inl (k 0, 3, .inl (aZ (mR)))), (aTa, .inl (k 0, 36, .inl (aZ (mT)))), (aBe, .inl (k 0, 36, .inl (aZ (mB)))), (aEn, .inl (k 0, 36, .inl (aZ (mE)))), (aMa, .inl (k 0, 4383, .inl (aZ (mM))))] sz)) (va_Qi (fun (r : Int32) (u : Unit) => r = (iI (if loF sh d (q : Int) = true then -1 else tfM mR mT mB mE mM cc d (q : Int)))) (fun _ t => BRW D [(h0, .inr (8, [.int (iI (fa)), .int (iI (ty)), .ref aTx, .int (bI (sh)), .ref aDt, .ref aFe, .ref aRu, .ref aTa, .ref aBe, .ref aEn, .ref aMa, .int (iI (wt)), .ref aEx, .ref aAb, .ref aCo, .int (iI (rd)), .ref aNt, .ref aNb, .ref aNe, .ref aCf, .ref aCd, .int (iI (cd)), .int (iI (at1)), .ref aKi, .ref aFi, .ref aSe])), (aDt, .inl (k 0, 1461, .inl (aZ (dateZ)))), (aRu, .inl (k 0, 3, .inl (aZ (mR)))), (aTa, .inl (k 0, 36, .inl (aZ (mT)))), (aBe, .inl (k 0, 36, .inl (aZ (mB)))), (aEn, .inl (k 0, 36, .inl (aZ (mE)))), (aMa, .inl (k 0, 4383, .inl (aZ (mM))))] sz [(h0, .inr (8, [.int (iI (0)), .int (iI (ty)), .ref aTx, .int (bI (sh)), .ref aDt, .ref aFe, .ref aRu, .ref aTa, .ref aBe, .ref aEn, .ref aMa, .int (iI (wt)), .ref aEx, .ref aAb, .ref aCo, .int (iI (rd)), .ref aNt, .ref aNb, .ref aNe, .ref aCf, .ref aCd, .int (iI (cd)), .int (iI (at1)), .ref aKi, .ref aFi, .ref aSe])), (aDt, .inl (k 0, 1461, .inl (aZ (dateZ)))), (aRu, .inl (k 0, 3, .inl (aZ (mR)))), (aTa, .inl (k 0, 36, .inl (aZ (mT)))), (aBe, .inl (k 0, 36, .inl (aZ (mB)))), (aEn, .inl (k 0, 36, .inl (aZ (mE)))), (aMa, .inl (k 0, 4383, .inl (aZ (mM))))] t) (va_A [(h0, .inr (8, [.int (iI (fa)), .int (iI (ty)), .ref aTx, .int (bI (sh)), .ref aDt, .ref aFe, .ref aRu, .ref aTa, .ref aBe, .ref aEn, .ref aMa, .int (iI (wt)), .ref aEx, .ref aAb, .ref aCo, .int (iI (rd)), .ref aNt, .ref aNb, .ref aNe, .ref aCf, .ref aCd, .int (iI (cd)), .int (iI (at1)), .ref aKi, .ref aFi, .ref aSe])), (aDt, .inl (k 0, 1461, .inl (aZ (dateZ)))), (aRu, .inl (k 0, 3, .inl (aZ (mR)))), (aTa, .inl (k 0, 36, .inl (aZ (mT)))), (aBe, .inl (k 0, 36, .inl (aZ (mB)))), (aEn, .inl (k 0, 36, .inl (aZ (mE)))), (aMa, .inl (k 0, 4383, .inl (aZ (mM))))] sz)) 0 0 (va_A [(h0, .inr (8, [.int (iI (fa)), .int (iI (ty)), .ref aTx, .int (bI (sh)), .ref aDt, .ref aFe, .ref aRu, .ref aTa, .ref aBe, .ref aEn, .ref aMa, .int (iI (wt)), .ref aEx, .ref aAb, .ref aCo, .int (iI (rd)), .ref aNt, .ref aNb, .ref aNe, .ref aCf, .ref aCd, .int (iI (cd)), .int (iI (at1)), .ref aKi, .ref aFi, .ref aSe])), (aDt, .inl (k 0, 1461, .inl (aZ (dateZ)))), (aRu, .inl (k 0, 3, .inl (aZ (mR)))), (aTa, .inl (k 0, 36, .inl (aZ (mT)))), (aBe, .inl (k 0, 36, .inl (aZ (mB)))), (aEn, .inl (k 0, 36, .inl (aZ (mE)))), (aMa, .inl (k 0, 4383, .inl (aZ (mM))))] sz) := by
  refine e_i (by decide) rfl (Nat.le_of_ble_eq_true rfl) ?_
  intro p e s m args below meth c Q ls hx hb hml hown hts hpre hl ret
  obtain ⟨hsz, hP, hK, hD0, hX⟩ := hpre
  subst hsz
  have hD := hD0.self (sz := s.heap.size)
  have hA : ∀ q : Nat, s.heap.size ≤ q → (va_A [(h0, .inr (8, [.int (iI (fa)), .int (iI (ty)), .ref aTx, .int (bI (sh)), .ref aDt, .ref aFe, .ref aRu, .ref aTa, .ref aBe, .ref aEn, .ref aMa, .int (iI (wt)), .ref aEx, .ref aAb, .ref aCo, .int (iI (rd)), .ref aNt, .ref aNb, .ref aNe, .ref aCf, .ref aCd, .int (iI (cd)), .int (iI (at1)), .ref aKi, .ref aFi, .ref aSe])), (aDt, .inl (k 0, 1461, .inl (aZ (dateZ)))), (aRu, .inl (k 0, 3, .inl (aZ (mR)))), (aTa, .inl (k 0, 36, .inl (aZ (mT)))), (aBe, .inl (k 0, 36, .inl (aZ (mB)))), (aEn, .inl (k 0, 36, .inl (aZ (mE)))), (aMa, .inl (k 0, 4383, .inl (aZ (mM))))] s.heap.size) q := fun q h => Or.inr h
  have hS : va_S (va_A [(h0, .inr (8, [.int (iI (fa)), .int (iI (ty)), .ref aTx, .int (bI (sh)), .ref aDt, .ref aFe, .ref aRu, .ref aTa, .ref aBe, .ref aEn, .ref aMa, .int (iI (wt)), .ref aEx, .ref aAb, .ref aCo, .int (iI (rd)), .ref aNt, .ref aNb, .ref aNe, .ref aCf, .ref aCd, .int (iI (cd)), .int (iI (at1)), .ref aKi, .ref aFi, .ref aSe])), (aDt, .inl (k 0, 1461, .inl (aZ (dateZ)))), (aRu, .inl (k 0, 3, .inl (aZ (mR)))), (aTa, .inl (k 0, 36, .inl (aZ (mT)))), (aBe, .inl (k 0, 36, .inl (aZ (mB)))), (aEn, .inl (k 0, 36, .inl (aZ (mE)))), (aMa, .inl (k 0, 4383, .inl (aZ (mM))))] s.heap.size) s.heap s.heap [] := va_S.rf
  have hl : lv_has ls 4 [(0, .ref h0), (1, .int (iI ((cc : Int)))), (2, .int (iI ((d : Int)))), (3, .int (iI ((q : Int))))] := hl
  refine lv_aload_n hx hb d_MD_at_0 rfl (lv_at hl 0 rfl) ?_
  refine lv_aload_n hx hb d_MD_at_1 rfl (lv_at hl 0 rfl) ?_
  refine lv_iload_n hx hb d_MD_at_2 rfl (lv_at hl 1 rfl) ?_
  refine lv_iload_n hx hb d_MD_at_3 rfl (lv_at hl 2 rfl) ?_
  refine lv_iload_n hx hb d_MD_at_4 rfl (lv_at hl 3 rfl) ?_
  refine rc_i (va_runV (As := [.int (iI ((cc : Int))), .int (iI ((d : Int))), .int (iI ((q : Int)))]) (rest := [.ref h0]) (b := h0) ⟨hx, hb, hml, hown, hts⟩ (c_MD_wrong l D k (h0) (aTx) (aDt) (aFe) (aRu) (aTa) (aBe) (aEn) (aMa) (aEx) (aAb) (aCo) (aNt) (aNb) (aNe) (aCf) (aCd) (aKi) (aFi) (aSe) (fa) (ty) (sh) (wt) (rd) (cd) (at1) (mR) ((cc : Int)) ((d : Int)) ((q : Int)) (hR) (⟨by omega, by omega⟩) (⟨by omega, by omega⟩) (⟨by omega, by omega⟩)) ⟨callB_of 3 hts (good_MD_wrong) rfl rfl rfl (hts _ k_67) (hts _ k_914) (by decide +kernel) ⟨Nat.le_of_ble_eq_true rfl, Nat.le_of_ble_eq_true rfl⟩, (hts _ k_916), (hts _ k_46)⟩ ⟨fun a U g mk q => ⟨q.1, q.2.1, va_K.moved (u := U) (U := U.calling g mk a) (Vm.Alike.refl U.vm) q.2.2.1, q.2.2.2.calling⟩, (va_recv (q0 := 0) hK hP rfl rfl), fun U hU hW => ⟨rfl, by rw [hU]; exact (hP.sub (ws' := [(h0, .inr (8, [.int (iI (fa)), .int (iI (ty)), .ref aTx, .int (bI (sh)), .ref aDt, .ref aFe, .ref aRu, .ref aTa, .ref aBe, .ref aEn, .ref aMa, .int (iI (wt)), .ref aEx, .ref aAb, .ref aCo, .int (iI (rd)), .ref aNt, .ref aNb, .ref aNe, .ref aCf, .ref aCd, .int (iI (cd)), .int (iI (at1)), .ref aKi, .ref aFi, .ref aSe])), (aRu, .inl (k 0, 3, .inl (aZ (mR))))]) [0, 2] rfl), va_K.moved hW.alike hK, by rw [hU]; exact (hX.mono hS (fun _ h => absurd h id)).warm hW⟩⟩ rfl rfl hl.1 rfl (lv_room (Nat.le_of_ble_eq_true rfl)) d_MD_at_5 ⟨Nat.le_of_ble_eq_true rfl, Nat.le_of_ble_eq_true rfl⟩) (fun xr_1 h_xr_1 => ?_)
  subst h_xr_1
  have hPc := hP.sub (ws' := [(h0, .inr (8, [.int (iI (fa)), .int (iI (ty)), .ref aTx, .int (bI (sh)), .ref aDt, .ref aFe, .ref aRu, .ref aTa, .ref aBe, .ref aEn, .ref aMa, .int (iI (wt)), .ref aEx, .ref aAb, .ref aCo, .int (iI (rd)), .ref aNt, .ref aNb, .ref aNe, .ref aCf, .ref aCd, .int (iI (cd)), .int (iI (at1)), .ref aKi, .ref aFi, .ref aSe]))]) [0] rfl
  have hDc := hD.sub (ws' := [(h0, .inr (8, [.int (iI (fa)), .int (iI (ty)), .ref aTx, .int (bI (sh)), .ref aDt, .ref aFe, .ref aRu, .ref aTa, .ref aBe, .ref aEn, .ref aMa, .int (iI (wt)), .ref aEx, .ref aAb, .ref aCo, .int (iI (rd)), .ref aNt, .ref aNb, .ref aNe, .ref aCf, .ref aCd, .int (iI (cd)), .int (iI (at1)), .ref aKi, .ref aFi, .ref aSe]))]) [0] (by decide) rfl
  have hFc := va_free (wc := [(h0, .inr (8, [.int (iI (fa)), .int (iI (ty)), .ref aTx, .int (bI (sh)), .ref aDt, .ref aFe, .ref aRu, .ref aTa, .ref aBe, .ref aEn, .ref aMa, .int (iI (wt)), .ref aEx, .ref aAb, .ref aCo, .int (iI (rd)), .ref aNt, .ref aNb, .ref aNe, .ref aCf, .ref aCd, .int (iI (cd)), .int (iI (at1)), .ref aKi, .ref aFi, .ref aSe]))]) hD hS hA [0] rfl
  refine va_calli (va_runV (As := [.int (iI ((wrF mR ((cc : Int)) ((d : Int)) ((q : Int)))))]) (rest := []) (b := h0) ⟨hx, hb, hml, hown, hts⟩ (c_MD_refused l D k s.heap.size (h0) (aTx) (aDt) (aFe) (aRu) (aTa) (aBe) (aEn) (aMa) (aEx) (aAb) (aCo) (aNt) (aNb) (aNe) (aCf) (aCd) (aKi) (aFi) (aSe) (fa) (ty) (sh) (wt) (rd) (cd) (at1) ((wrF mR ((cc : Int)) ((d : Int)) ((q : Int)))) ((wrF_rg mR _ _ _))) ⟨callB_of 1 hts (good_MD_refused) rfl rfl rfl (hts _ k_67) (hts _ k_820) (by decide +kernel) ⟨Nat.le_of_ble_eq_true rfl, Nat.le_of_ble_eq_true rfl⟩, (hts _ k_822), (hts _ k_28)⟩ ⟨fun a U g mk q => ⟨q.1, q.2.1, q.2.2.1, va_K.moved (u := U) (U := U.calling g mk a) (Vm.Alike.refl U.vm) q.2.2.2.1, q.2.2.2.2.1, q.2.2.2.2.2.calling⟩, (va_recv (q0 := 0) hK hP rfl rfl), fun U hU hW => ⟨rfl, by rw [hU], by rw [hU]; exact hPc, va_K.moved hW.alike hK, hDc.weaken (fun _ _ _ _ => trivial), by rw [hU]; exact (hX.mono hS hFc).warm hW⟩⟩ rfl rfl hl.1 rfl (lv_room (Nat.le_of_ble_eq_true rfl)) d_MD_at_8 ⟨Nat.le_of_ble_eq_true rfl, Nat.le_of_ble_eq_true rfl⟩) hS (fun q _ h => hFc q h) hFc (fun xr_2 xu_3 t H1 locs ht hvm h_xr_2 hB hz1 hk1 hS => ?_)
  obtain ⟨hP1, hD1⟩ := hB
  rw [ht] at hP1
  obtain ⟨hP, hD⟩ := va_join (wr := [(aDt, .inl (k 0, 1461, .inl (aZ (dateZ)))), (aRu, .inl (k 0, 3, .inl (aZ (mR)))), (aTa, .inl (k 0, 36, .inl (aZ (mT)))), (aBe, .inl (k 0, 36, .inl (aZ (mB)))), (aEn, .inl (k 0, 36, .inl (aZ (mE)))), (aMa, .inl (k 0, 4383, .inl (aZ (mM))))]) (w1 := [(h0, .inr (8, [.int (iI ((rfF ((wrF mR ((cc : Int)) ((d : Int)) ((q : Int))))).2)), .int (iI (ty)), .ref aTx, .int (bI (sh)), .ref aDt, .ref aFe, .ref aRu, .ref aTa, .ref aBe, .ref aEn, .ref aMa, .int (iI (wt)), .ref aEx, .ref aAb, .ref aCo, .int (iI (rd)), .ref aNt, .ref aNb, .ref aNe, .ref aCf, .ref aCd, .int (iI (cd)), .int (iI (at1)), .ref aKi, .ref aFi, .ref aSe]))]) hP hD [0] [1, 2, 3, 4, 5, 6] rfl rfl (by decide) (by decide) hk1 hFc hP1 hD1
  generalize H1 = H at hP hS ⊢
  have hP := hP.sub (ws' := [(h0, .inr (8, [.int (iI ((rfF ((wrF mR ((cc : Int)) ((d : Int)) ((q : Int))))).2)), .int (iI (ty)), .ref aTx, .int (bI (sh)), .ref aDt, .ref aFe, .ref aRu, .ref aTa, .ref aBe, .ref aEn, .ref aMa, .int (iI (wt)), .ref aEx, .ref aAb, .ref aCo, .int (iI (rd)), .ref aNt, .ref aNb, .ref aNe, .ref aCf, .ref aCd, .int (iI (cd)), .int (iI (at1)), .ref aKi, .ref aFi, .ref aSe])), (aDt, .inl (k 0, 1461, .inl (aZ (dateZ)))), (aRu, .inl (k 0, 3, .inl (aZ (mR)))), (aTa, .inl (k 0, 36, .inl (aZ (mT)))), (aBe, .inl (k 0, 36, .inl (aZ (mB)))), (aEn, .inl (k 0, 36, .inl (aZ (mE)))), (aMa, .inl (k 0, 4383, .inl (aZ (mM))))]) [6, 0, 1, 2, 3, 4, 5] rfl
  have hD := hD.sub (ws' := [(h0, .inr (8, [.int (iI ((rfF ((wrF mR ((cc : Int)) ((d : Int)) ((q : Int))))).2)), .int (iI (ty)), .ref aTx, .int (bI (sh)), .ref aDt, .ref aFe, .ref aRu, .ref aTa, .ref aBe, .ref aEn, .ref aMa, .int (iI (wt)), .ref aEx, .ref aAb, .ref aCo, .int (iI (rd)), .ref aNt, .ref aNb, .ref aNe, .ref aCf, .ref aCd, .int (iI (cd)), .int (iI (at1)), .ref aKi, .ref aFi, .ref aSe])), (aDt, .inl (k 0, 1461, .inl (aZ (dateZ)))), (aRu, .inl (k 0, 3, .inl (aZ (mR)))), (aTa, .inl (k 0, 36, .inl (aZ (mT)))), (aBe, .inl (k 0, 36, .inl (aZ (mB)))), (aEn, .inl (k 0, 36, .inl (aZ (mE)))), (aMa, .inl (k 0, 4383, .inl (aZ (mM))))]) [6, 0, 1, 2, 3, 4, 5] (by decide) rfl
  subst h_xr_2
  refine b_if_eq (tgt := 16) hx hb d_MD_at_11 (by decide) (fun h11 => ?_) (fun h11 => absurd h11 (by rw [hw0]; decide))
  refine lv_aload_n hx hb d_MD_at_16 rfl (lv_at hl 0 rfl) ?_
  refine lv_iload_n hx hb d_MD_at_17 rfl (lv_at hl 2 rfl) ?_
  refine lv_iload_n hx hb d_MD_at_18 rfl (lv_at hl 3 rfl) ?_
  refine rc_i (va_runV (As := [.int (iI ((d : Int))), .int (iI ((q : Int)))]) (rest := []) (b := h0) ⟨hx, hb, hml, hown, hts⟩ (c_MD_isLost l D k (h0) (aTx) (aDt) (aFe) (aRu) (aTa) (aBe) (aEn) (aMa) (aEx) (aAb) (aCo) (aNt) (aNb) (aNe) (aCf) (aCd) (aKi) (aFi) (aSe) ((rfF ((wrF mR ((cc : Int)) ((d : Int)) ((q : Int))))).2) (ty) (sh) (wt) (rd) (cd) (at1) (d) ((q : Int)) ((by omega)) (⟨by omega, by omega⟩)) ⟨callB_of 2 hts (good_MD_isLost) rfl rfl rfl (hts _ k_67) (hts _ k_918) (by decide +kernel) ⟨Nat.le_of_ble_eq_true rfl, Nat.le_of_ble_eq_true rfl⟩, (hts _ k_920), (hts _ k_47)⟩ ⟨fun a U g mk q => ⟨q.1, q.2.1, va_K.moved (u := U) (U := U.calling g mk a) (Vm.Alike.refl U.vm) q.2.2.1, q.2.2.2.calling⟩, (va_recv (q0 := 0) hK hP rfl rfl), fun U hU hW => ⟨rfl, by rw [hU]; exact (hP.sub (ws' := [(h0, .inr (8, [.int (iI ((rfF ((wrF mR ((cc : Int)) ((d : Int)) ((q : Int))))).2)), .int (iI (ty)), .ref aTx, .int (bI (sh)), .ref aDt, .ref aFe, .ref aRu, .ref aTa, .ref aBe, .ref aEn, .ref aMa, .int (iI (wt)), .ref aEx, .ref aAb, .ref aCo, .int (iI (rd)), .ref aNt, .ref aNb, .ref aNe, .ref aCf, .ref aCd, .int (iI (cd)), .int (iI (at1)), .ref aKi, .ref aFi, .ref aSe])), (aDt, .inl (k 0, 1461, .inl (aZ (dateZ))))]) [0, 1] rfl), va_K.moved hW.alike hK, by rw [hU]; exact (hX.mono hS (fun _ h => absurd h id)).warm hW⟩⟩ rfl rfl hl.1 rfl (lv_room (Nat.le_of_ble_eq_true rfl)) d_MD_at_19 ⟨Nat.le_of_ble_eq_true rfl, Nat.le_of_ble_eq_true rfl⟩) (fun xr_4 h_xr_4 => ?_)
  subst h_xr_4
  refine b_if_eq (tgt := 29) hx hb d_MD_at_22 (by decide) (fun h22 => ?_) (fun h22 => ?_)
  · refine lv_aload_n hx hb d_MD_at_29 rfl (lv_at hl 0 rfl) ?_
    refine lv_iload_n hx hb d_MD_at_30 rfl (lv_at hl 1 rfl) ?_
    refine lv_iload_n hx hb d_MD_at_31 rfl (lv_at hl 2 rfl) ?_
    refine lv_iload_n hx hb d_MD_at_32 rfl (lv_at hl 3 rfl) ?_
    refine rc_i (va_runV (As := [.int (iI ((cc : Int))), .int (iI ((d : Int))), .int (iI ((q : Int)))]) (rest := []) (b := h0) ⟨hx, hb, hml, hown, hts⟩ (c_MD_tariffOf l D k (h0) (aTx) (aDt) (aFe) (aRu) (aTa) (aBe) (aEn) (aMa) (aEx) (aAb) (aCo) (aNt) (aNb) (aNe) (aCf) (aCd) (aKi) (aFi) (aSe) ((rfF ((wrF mR ((cc : Int)) ((d : Int)) ((q : Int))))).2) (ty) (sh) (wt) (rd) (cd) (at1) (mR) (mT) (mB) (mE) (mM) (cc) (d) ((q : Int)) (hR) (hB) (hE) (hM) ((by omega)) ((by omega)) ((by omega))) ⟨callB_of 3 hts (good_MD_tariffOf) rfl rfl rfl (hts _ k_67) (hts _ k_926) (by decide +kernel) ⟨Nat.le_of_ble_eq_true rfl, Nat.le_of_ble_eq_true rfl⟩, (hts _ k_928), (hts _ k_49)⟩ ⟨fun a U g mk q => ⟨q.1, q.2.1, va_K.moved (u := U) (U := U.calling g mk a) (Vm.Alike.refl U.vm) q.2.2.1, q.2.2.2.calling⟩, (va_recv (q0 := 0) hK hP rfl rfl), fun U hU hW => ⟨rfl, by rw [hU]; exact (hP.sub (ws' := [(h0, .inr (8, [.int (iI ((rfF ((wrF mR ((cc : Int)) ((d : Int)) ((q : Int))))).2)), .int (iI (ty)), .ref aTx, .int (bI (sh)), .ref aDt, .ref aFe, .ref aRu, .ref aTa, .ref aBe, .ref aEn, .ref aMa, .int (iI (wt)), .ref aEx, .ref aAb, .ref aCo, .int (iI (rd)), .ref aNt, .ref aNb, .ref aNe, .ref aCf, .ref aCd, .int (iI (cd)), .int (iI (at1)), .ref aKi, .ref aFi, .ref aSe])), (aRu, .inl (k 0, 3, .inl (aZ (mR)))), (aTa, .inl (k 0, 36, .inl (aZ (mT)))), (aBe, .inl (k 0, 36, .inl (aZ (mB)))), (aEn, .inl (k 0, 36, .inl (aZ (mE)))), (aMa, .inl (k 0, 4383, .inl (aZ (mM))))]) [0, 2, 3, 4, 5, 6] rfl), va_K.moved hW.alike hK, by rw [hU]; exact (hX.mono hS (fun _ h => absurd h id)).warm hW⟩⟩ rfl rfl hl.1 rfl (lv_room (Nat.le_of_ble_eq_true rfl)) d_MD_at_33 ⟨Nat.le_of_ble_eq_true rfl, Nat.le_of_ble_eq_true rfl⟩) (fun xr_5 h_xr_5 => ?_)
    subst h_xr_5
    refine z_top (show (iI (if decM (covF mB mE mM cc d ((q : Int))) (mR cc).toNat = 0 then 0 else mT (12 * cc + (decM (covF mB mE mM cc d ((q : Int))) (mR cc).toNat) - 1))) = (iI (tfM mR mT mB mE mM cc d (q : Int))) from rfl) ?_
    rw [hw0] at hP hD
    exact ret _ _ _ 36 (iI (tfM mR mT mB mE mM cc d (q : Int))) () d_MD_at_36 hS (by rw [if_neg (Bool.eq_false_iff.mp h22)]) (fun t ht _ => ⟨by rw [ht]; exact hP, hD⟩)
  · refine z_iconst hx hb d_MD_at_25 ?_
    refine lv_goto (tgt := 36) hx hb d_MD_at_26 (by decide) ?_
    rw [hw0] at hP hD
    exact ret _ _ _ 36 (iI (-1)) () d_MD_at_36 hS (by rw [if_pos h22]) (fun t ht _ => ⟨by rw [ht]; exact hP, hD⟩)

set_option maxHeartbeats 4000000 in
set_option maxRecDepth 100000 in
theorem c_MD_at_bad (l : Launch) (D : va_G) (k : Nat → ClassId) (sz : Nat) (h0 aTx aDt aFe aRu aTa aBe aEn aMa aEx aAb aCo aNt aNb aNe aCf aCd aKi aFi aSe : Nat) (fa : Int) (ty : Int) (sh : Bool) (wt : Int) (rd : Int) (cd : Int) (at1 : Int) (mR : Nat → Int) (cz : Int) (z : Int) (q : Int) (hR : ∀ j, 0 ≤ mR j ∧ mR j ≤ 12) (h1 : rg cz) (h2 : rg z) (h3 : rg q) (hw1 : 0 < wrF mR cz z q) : Met l y_MD_at wd_MD_at rm_MD_at (va_Pc [.ref h0, .int (iI (cz)), .int (iI (z)), .int (iI (q))] (PRW D k [(h0, .inr (8, [.int (iI (fa)), .int (iI (ty)), .ref aTx, .int (bI (sh)), .ref aDt, .ref aFe, .ref aRu, .ref aTa, .ref aBe, .ref aEn, .ref aMa, .int (iI (wt)), .ref aEx, .ref aAb, .ref aCo, .int (iI (rd)), .ref aNt, .ref aNb, .ref aNe, .ref aCf, .ref aCd, .int (iI (cd)), .int (iI (at1)), .ref aKi, .ref aFi, .ref aSe])), (aRu, .inl (k 0, 3, .inl (aZ (mR))))] sz)) (va_Qi (fun (r : Int32) (u : Unit) => r = (iI (0))) (fun _ t => BRW D [(h0, .inr (8, [.int (iI (fa)), .int (iI (ty)), .ref aTx, .int (bI (sh)), .ref aDt, .ref aFe, .ref aRu, .ref aTa, .ref aBe, .ref aEn, .ref aMa, .int (iI (wt)), .ref aEx, .ref aAb, .ref aCo, .int (iI (rd)), .ref aNt, .ref aNb, .ref aNe, .ref aCf, .ref aCd, .int (iI (cd)), .int (iI (at1)), .ref aKi, .ref aFi, .ref aSe])), (aRu, .inl (k 0, 3, .inl (aZ (mR))))] sz [(h0, .inr (8, [.int (iI (wrF mR cz z q)), .int (iI (ty)), .ref aTx, .int (bI (sh)), .ref aDt, .ref aFe, .ref aRu, .ref aTa, .ref aBe, .ref aEn, .ref aMa, .int (iI (wt)), .ref aEx, .ref aAb, .ref aCo, .int (iI (rd)), .ref aNt, .ref aNb, .ref aNe, .ref aCf, .ref aCd, .int (iI (cd)), .int (iI (at1)), .ref aKi, .ref aFi, .ref aSe])), (aRu, .inl (k 0, 3, .inl (aZ (mR))))] t) (va_A [(h0, .inr (8, [.int (iI (fa)), .int (iI (ty)), .ref aTx, .int (bI (sh)), .ref aDt, .ref aFe, .ref aRu, .ref aTa, .ref aBe, .ref aEn, .ref aMa, .int (iI (wt)), .ref aEx, .ref aAb, .ref aCo, .int (iI (rd)), .ref aNt, .ref aNb, .ref aNe, .ref aCf, .ref aCd, .int (iI (cd)), .int (iI (at1)), .ref aKi, .ref aFi, .ref aSe])), (aRu, .inl (k 0, 3, .inl (aZ (mR))))] sz)) 0 0 (va_A [(h0, .inr (8, [.int (iI (fa)), .int (iI (ty)), .ref aTx, .int (bI (sh)), .ref aDt, .ref aFe, .ref aRu, .ref aTa, .ref aBe, .ref aEn, .ref aMa, .int (iI (wt)), .ref aEx, .ref aAb, .ref aCo, .int (iI (rd)), .ref aNt, .ref aNb, .ref aNe, .ref aCf, .ref aCd, .int (iI (cd)), .int (iI (at1)), .ref aKi, .ref aFi, .ref aSe])), (aRu, .inl (k 0, 3, .inl (aZ (mR))))] sz) := by
  refine e_i (by decide) rfl (Nat.le_of_ble_eq_true rfl) ?_
  intro p e s m args below meth c Q ls hx hb hml hown hts hpre hl ret
  obtain ⟨hsz, hP, hK, hD0, hX⟩ := hpre
  subst hsz
  have hD := hD0.self (sz := s.heap.size)
  have hA : ∀ q : Nat, s.heap.size ≤ q → (va_A [(h0, .inr (8, [.int (iI (fa)), .int (iI (ty)), .ref aTx, .int (bI (sh)), .ref aDt, .ref aFe, .ref aRu, .ref aTa, .ref aBe, .ref aEn, .ref aMa, .int (iI (wt)), .ref aEx, .ref aAb, .ref aCo, .int (iI (rd)), .ref aNt, .ref aNb, .ref aNe, .ref aCf, .ref aCd, .int (iI (cd)), .int (iI (at1)), .ref aKi, .ref aFi, .ref aSe])), (aRu, .inl (k 0, 3, .inl (aZ (mR))))] s.heap.size) q := fun q h => Or.inr h
  have hS : va_S (va_A [(h0, .inr (8, [.int (iI (fa)), .int (iI (ty)), .ref aTx, .int (bI (sh)), .ref aDt, .ref aFe, .ref aRu, .ref aTa, .ref aBe, .ref aEn, .ref aMa, .int (iI (wt)), .ref aEx, .ref aAb, .ref aCo, .int (iI (rd)), .ref aNt, .ref aNb, .ref aNe, .ref aCf, .ref aCd, .int (iI (cd)), .int (iI (at1)), .ref aKi, .ref aFi, .ref aSe])), (aRu, .inl (k 0, 3, .inl (aZ (mR))))] s.heap.size) s.heap s.heap [] := va_S.rf
  have hl : lv_has ls 4 [(0, .ref h0), (1, .int (iI (cz))), (2, .int (iI (z))), (3, .int (iI (q)))] := hl
  refine lv_aload_n hx hb d_MD_at_0 rfl (lv_at hl 0 rfl) ?_
  refine lv_aload_n hx hb d_MD_at_1 rfl (lv_at hl 0 rfl) ?_
  refine lv_iload_n hx hb d_MD_at_2 rfl (lv_at hl 1 rfl) ?_
  refine lv_iload_n hx hb d_MD_at_3 rfl (lv_at hl 2 rfl) ?_
  refine lv_iload_n hx hb d_MD_at_4 rfl (lv_at hl 3 rfl) ?_
  refine rc_i (va_runV (As := [.int (iI (cz)), .int (iI (z)), .int (iI (q))]) (rest := [.ref h0]) (b := h0) ⟨hx, hb, hml, hown, hts⟩ (c_MD_wrong l D k (h0) (aTx) (aDt) (aFe) (aRu) (aTa) (aBe) (aEn) (aMa) (aEx) (aAb) (aCo) (aNt) (aNb) (aNe) (aCf) (aCd) (aKi) (aFi) (aSe) (fa) (ty) (sh) (wt) (rd) (cd) (at1) (mR) (cz) (z) (q) (hR) (h1) (h2) (h3)) ⟨callB_of 3 hts (good_MD_wrong) rfl rfl rfl (hts _ k_67) (hts _ k_914) (by decide +kernel) ⟨Nat.le_of_ble_eq_true rfl, Nat.le_of_ble_eq_true rfl⟩, (hts _ k_916), (hts _ k_46)⟩ ⟨fun a U g mk q => ⟨q.1, q.2.1, va_K.moved (u := U) (U := U.calling g mk a) (Vm.Alike.refl U.vm) q.2.2.1, q.2.2.2.calling⟩, (va_recv (q0 := 0) hK hP rfl rfl), fun U hU hW => ⟨rfl, by rw [hU]; exact hP, va_K.moved hW.alike hK, by rw [hU]; exact (hX.mono hS (fun _ h => absurd h id)).warm hW⟩⟩ rfl rfl hl.1 rfl (lv_room (Nat.le_of_ble_eq_true rfl)) d_MD_at_5 ⟨Nat.le_of_ble_eq_true rfl, Nat.le_of_ble_eq_true rfl⟩) (fun xr_1 h_xr_1 => ?_)
  subst h_xr_1
  have hPc := hP.sub (ws' := [(h0, .inr (8, [.int (iI (fa)), .int (iI (ty)), .ref aTx, .int (bI (sh)), .ref aDt, .ref aFe, .ref aRu, .ref aTa, .ref aBe, .ref aEn, .ref aMa, .int (iI (wt)), .ref aEx, .ref aAb, .ref aCo, .int (iI (rd)), .ref aNt, .ref aNb, .ref aNe, .ref aCf, .ref aCd, .int (iI (cd)), .int (iI (at1)), .ref aKi, .ref aFi, .ref aSe]))]) [0] rfl
  have hDc := hD.sub (ws' := [(h0, .inr (8, [.int (iI (fa)), .int (iI (ty)), .ref aTx, .int (bI (sh)), .ref aDt, .ref aFe, .ref aRu, .ref aTa, .ref aBe, .ref aEn, .ref aMa, .int (iI (wt)), .ref aEx, .ref aAb, .ref aCo, .int (iI (rd)), .ref aNt, .ref aNb, .ref aNe, .ref aCf, .ref aCd, .int (iI (cd)), .int (iI (at1)), .ref aKi, .ref aFi, .ref aSe]))]) [0] (by decide) rfl
  have hFc := va_free (wc := [(h0, .inr (8, [.int (iI (fa)), .int (iI (ty)), .ref aTx, .int (bI (sh)), .ref aDt, .ref aFe, .ref aRu, .ref aTa, .ref aBe, .ref aEn, .ref aMa, .int (iI (wt)), .ref aEx, .ref aAb, .ref aCo, .int (iI (rd)), .ref aNt, .ref aNb, .ref aNe, .ref aCf, .ref aCd, .int (iI (cd)), .int (iI (at1)), .ref aKi, .ref aFi, .ref aSe]))]) hD hS hA [0] rfl
  refine va_calli (va_runV (As := [.int (iI ((wrF mR cz z q)))]) (rest := []) (b := h0) ⟨hx, hb, hml, hown, hts⟩ (c_MD_refused l D k s.heap.size (h0) (aTx) (aDt) (aFe) (aRu) (aTa) (aBe) (aEn) (aMa) (aEx) (aAb) (aCo) (aNt) (aNb) (aNe) (aCf) (aCd) (aKi) (aFi) (aSe) (fa) (ty) (sh) (wt) (rd) (cd) (at1) ((wrF mR cz z q)) ((wrF_rg mR _ _ _))) ⟨callB_of 1 hts (good_MD_refused) rfl rfl rfl (hts _ k_67) (hts _ k_820) (by decide +kernel) ⟨Nat.le_of_ble_eq_true rfl, Nat.le_of_ble_eq_true rfl⟩, (hts _ k_822), (hts _ k_28)⟩ ⟨fun a U g mk q => ⟨q.1, q.2.1, q.2.2.1, va_K.moved (u := U) (U := U.calling g mk a) (Vm.Alike.refl U.vm) q.2.2.2.1, q.2.2.2.2.1, q.2.2.2.2.2.calling⟩, (va_recv (q0 := 0) hK hP rfl rfl), fun U hU hW => ⟨rfl, by rw [hU], by rw [hU]; exact hPc, va_K.moved hW.alike hK, hDc.weaken (fun _ _ _ _ => trivial), by rw [hU]; exact (hX.mono hS hFc).warm hW⟩⟩ rfl rfl hl.1 rfl (lv_room (Nat.le_of_ble_eq_true rfl)) d_MD_at_8 ⟨Nat.le_of_ble_eq_true rfl, Nat.le_of_ble_eq_true rfl⟩) hS (fun q _ h => hFc q h) hFc (fun xr_2 xu_3 t H1 locs ht hvm h_xr_2 hB hz1 hk1 hS => ?_)
  obtain ⟨hP1, hD1⟩ := hB
  rw [ht] at hP1
  obtain ⟨hP, hD⟩ := va_join (wr := [(aRu, .inl (k 0, 3, .inl (aZ (mR))))]) (w1 := [(h0, .inr (8, [.int (iI ((rfF ((wrF mR cz z q))).2)), .int (iI (ty)), .ref aTx, .int (bI (sh)), .ref aDt, .ref aFe, .ref aRu, .ref aTa, .ref aBe, .ref aEn, .ref aMa, .int (iI (wt)), .ref aEx, .ref aAb, .ref aCo, .int (iI (rd)), .ref aNt, .ref aNb, .ref aNe, .ref aCf, .ref aCd, .int (iI (cd)), .int (iI (at1)), .ref aKi, .ref aFi, .ref aSe]))]) hP hD [0] [1] rfl rfl (by decide) (by decide) hk1 hFc hP1 hD1
  generalize H1 = H at hP hS ⊢
  have hP := hP.sub (ws' := [(h0, .inr (8, [.int (iI ((rfF ((wrF mR cz z q))).2)), .int (iI (ty)), .ref aTx, .int (bI (sh)), .ref aDt, .ref aFe, .ref aRu, .ref aTa, .ref aBe, .ref aEn, .ref aMa, .int (iI (wt)), .ref aEx, .ref aAb, .ref aCo, .int (iI (rd)), .ref aNt, .ref aNb, .ref aNe, .ref aCf, .ref aCd, .int (iI (cd)), .int (iI (at1)), .ref aKi, .ref aFi, .ref aSe])), (aRu, .inl (k 0, 3, .inl (aZ (mR))))]) [1, 0] rfl
  have hD := hD.sub (ws' := [(h0, .inr (8, [.int (iI ((rfF ((wrF mR cz z q))).2)), .int (iI (ty)), .ref aTx, .int (bI (sh)), .ref aDt, .ref aFe, .ref aRu, .ref aTa, .ref aBe, .ref aEn, .ref aMa, .int (iI (wt)), .ref aEx, .ref aAb, .ref aCo, .int (iI (rd)), .ref aNt, .ref aNb, .ref aNe, .ref aCf, .ref aCd, .int (iI (cd)), .int (iI (at1)), .ref aKi, .ref aFi, .ref aSe])), (aRu, .inl (k 0, 3, .inl (aZ (mR))))]) [1, 0] (by decide) rfl
  subst h_xr_2
  refine b_if_eq (tgt := 16) hx hb d_MD_at_11 (by decide) (fun h11 => absurd h11 (by rw [rfF_1 hw1]; decide)) (fun h11 => ?_)
  refine z_iconst hx hb d_MD_at_14 ?_
  rw [rfF_2] at hP hD
  exact ret _ _ _ 15 (iI (0)) () d_MD_at_15 hS (rfl) (fun t ht _ => ⟨by rw [ht]; exact hP, hD⟩)

set_option maxHeartbeats 4000000 in
set_option maxRecDepth 100000 in
theorem c_MD_which_ok (l : Launch) (D : va_G) (k : Nat → ClassId) (sz : Nat) (h0 aTx aDt aFe aRu aTa aBe aEn aMa aEx aAb aCo aNt aNb aNe aCf aCd aKi aFi aSe : Nat) (fa : Int) (ty : Int) (sh : Bool) (wt : Int) (rd : Int) (cd : Int) (at1 : Int) (mR : Nat → Int) (mT : Nat → Int) (mB : Nat → Int) (mE : Nat → Int) (mM : Nat → Int) (cc : Nat) (d : Nat) (q : Nat) (hR : ∀ j, 0 ≤ mR j ∧ mR j ≤ 12) (hB : ∀ j, 0 ≤ mB j ∧ mB j ≤ 48) (hE : ∀ j, 0 ≤ mE j ∧ mE j ≤ 48) (hM : ∀ j, 0 ≤ mM j ∧ mM j < 4096) (hc : cc < 3) (hd : d < 1461) (hq : q < 48) (hw0 : wrF mR (cc : Int) (d : Int) (q : Int) = 0) : Met l y_MD_which wd_MD_which rm_MD_which (va_Pc [.ref h0, .int (iI ((cc : Int))), .int (iI ((d : Int))), .int (iI ((q : Int)))] (PRW D k [(h0, .inr (8, [.int (iI (fa)), .int (iI (ty)), .ref aTx, .int (bI (sh)), .ref aDt, .ref aFe, .ref aRu, .ref aTa, .ref aBe, .ref aEn, .ref aMa, .int (iI (wt)), .ref aEx, .ref aAb, .ref aCo, .int (iI (rd)), .ref aNt, .ref aNb, .ref aNe, .ref aCf, .ref aCd, .int (iI (cd)), .int (iI (at1)), .ref aKi, .ref aFi, .ref aSe])), (aDt, .inl (k 0, 1461, .inl (aZ (dateZ)))), (aRu, .inl (k 0, 3, .inl (aZ (mR)))), (aTa, .inl (k 0, 36, .inl (aZ (mT)))), (aBe, .inl (k 0, 36, .inl (aZ (mB)))), (aEn, .inl (k 0, 36, .inl (aZ (mE)))), (aMa, .inl (k 0, 4383, .inl (aZ (mM))))] sz)) (va_Qi (fun (r : Int32) (u : Unit) => r = (iI (if loF sh d (q : Int) = true then -1 else ((dvM mR mB mE mM cc d (q : Int) : Nat) : Int)))) (fun _ t => BRW D [(h0, .inr (8, [.int (iI (fa)), .int (iI (ty)), .ref aTx, .int (bI (sh)), .ref aDt, .ref aFe, .ref aRu, .ref aTa, .ref aBe, .ref aEn, .ref aMa, .int (iI (wt)), .ref aEx, .ref aAb, .ref aCo, .int (iI (rd)), .ref aNt, .ref aNb, .ref aNe, .ref aCf, .ref aCd, .int (iI (cd)), .int (iI (at1)), .ref aKi, .ref aFi, .ref aSe])), (aDt, .inl (k 0, 1461, .inl (aZ (dateZ)))), (aRu, .inl (k 0, 3, .inl (aZ (mR)))), (aTa, .inl (k 0, 36, .inl (aZ (mT)))), (aBe, .inl (k 0, 36, .inl (aZ (mB)))), (aEn, .inl (k 0, 36, .inl (aZ (mE)))), (aMa, .inl (k 0, 4383, .inl (aZ (mM))))] sz [(h0, .inr (8, [.int (iI (0)), .int (iI (ty)), .ref aTx, .int (bI (sh)), .ref aDt, .ref aFe, .ref aRu, .ref aTa, .ref aBe, .ref aEn, .ref aMa, .int (iI (wt)), .ref aEx, .ref aAb, .ref aCo, .int (iI (rd)), .ref aNt, .ref aNb, .ref aNe, .ref aCf, .ref aCd, .int (iI (cd)), .int (iI (at1)), .ref aKi, .ref aFi, .ref aSe])), (aDt, .inl (k 0, 1461, .inl (aZ (dateZ)))), (aRu, .inl (k 0, 3, .inl (aZ (mR)))), (aTa, .inl (k 0, 36, .inl (aZ (mT)))), (aBe, .inl (k 0, 36, .inl (aZ (mB)))), (aEn, .inl (k 0, 36, .inl (aZ (mE)))), (aMa, .inl (k 0, 4383, .inl (aZ (mM))))] t) (va_A [(h0, .inr (8, [.int (iI (fa)), .int (iI (ty)), .ref aTx, .int (bI (sh)), .ref aDt, .ref aFe, .ref aRu, .ref aTa, .ref aBe, .ref aEn, .ref aMa, .int (iI (wt)), .ref aEx, .ref aAb, .ref aCo, .int (iI (rd)), .ref aNt, .ref aNb, .ref aNe, .ref aCf, .ref aCd, .int (iI (cd)), .int (iI (at1)), .ref aKi, .ref aFi, .ref aSe])), (aDt, .inl (k 0, 1461, .inl (aZ (dateZ)))), (aRu, .inl (k 0, 3, .inl (aZ (mR)))), (aTa, .inl (k 0, 36, .inl (aZ (mT)))), (aBe, .inl (k 0, 36, .inl (aZ (mB)))), (aEn, .inl (k 0, 36, .inl (aZ (mE)))), (aMa, .inl (k 0, 4383, .inl (aZ (mM))))] sz)) 0 0 (va_A [(h0, .inr (8, [.int (iI (fa)), .int (iI (ty)), .ref aTx, .int (bI (sh)), .ref aDt, .ref aFe, .ref aRu, .ref aTa, .ref aBe, .ref aEn, .ref aMa, .int (iI (wt)), .ref aEx, .ref aAb, .ref aCo, .int (iI (rd)), .ref aNt, .ref aNb, .ref aNe, .ref aCf, .ref aCd, .int (iI (cd)), .int (iI (at1)), .ref aKi, .ref aFi, .ref aSe])), (aDt, .inl (k 0, 1461, .inl (aZ (dateZ)))), (aRu, .inl (k 0, 3, .inl (aZ (mR)))), (aTa, .inl (k 0, 36, .inl (aZ (mT)))), (aBe, .inl (k 0, 36, .inl (aZ (mB)))), (aEn, .inl (k 0, 36, .inl (aZ (mE)))), (aMa, .inl (k 0, 4383, .inl (aZ (mM))))] sz) := by
  refine e_i (by decide) rfl (Nat.le_of_ble_eq_true rfl) ?_
  intro p e s m args below meth c Q ls hx hb hml hown hts hpre hl ret
  obtain ⟨hsz, hP, hK, hD0, hX⟩ := hpre
  subst hsz
  have hD := hD0.self (sz := s.heap.size)
  have hA : ∀ q : Nat, s.heap.size ≤ q → (va_A [(h0, .inr (8, [.int (iI (fa)), .int (iI (ty)), .ref aTx, .int (bI (sh)), .ref aDt, .ref aFe, .ref aRu, .ref aTa, .ref aBe, .ref aEn, .ref aMa, .int (iI (wt)), .ref aEx, .ref aAb, .ref aCo, .int (iI (rd)), .ref aNt, .ref aNb, .ref aNe, .ref aCf, .ref aCd, .int (iI (cd)), .int (iI (at1)), .ref aKi, .ref aFi, .ref aSe])), (aDt, .inl (k 0, 1461, .inl (aZ (dateZ)))), (aRu, .inl (k 0, 3, .inl (aZ (mR)))), (aTa, .inl (k 0, 36, .inl (aZ (mT)))), (aBe, .inl (k 0, 36, .inl (aZ (mB)))), (aEn, .inl (k 0, 36, .inl (aZ (mE)))), (aMa, .inl (k 0, 4383, .inl (aZ (mM))))] s.heap.size) q := fun q h => Or.inr h
  have hS : va_S (va_A [(h0, .inr (8, [.int (iI (fa)), .int (iI (ty)), .ref aTx, .int (bI (sh)), .ref aDt, .ref aFe, .ref aRu, .ref aTa, .ref aBe, .ref aEn, .ref aMa, .int (iI (wt)), .ref aEx, .ref aAb, .ref aCo, .int (iI (rd)), .ref aNt, .ref aNb, .ref aNe, .ref aCf, .ref aCd, .int (iI (cd)), .int (iI (at1)), .ref aKi, .ref aFi, .ref aSe])), (aDt, .inl (k 0, 1461, .inl (aZ (dateZ)))), (aRu, .inl (k 0, 3, .inl (aZ (mR)))), (aTa, .inl (k 0, 36, .inl (aZ (mT)))), (aBe, .inl (k 0, 36, .inl (aZ (mB)))), (aEn, .inl (k 0, 36, .inl (aZ (mE)))), (aMa, .inl (k 0, 4383, .inl (aZ (mM))))] s.heap.size) s.heap s.heap [] := va_S.rf
  have hl : lv_has ls 4 [(0, .ref h0), (1, .int (iI ((cc : Int)))), (2, .int (iI ((d : Int)))), (3, .int (iI ((q : Int))))] := hl
  refine lv_aload_n hx hb d_MD_which_0 rfl (lv_at hl 0 rfl) ?_
  refine lv_aload_n hx hb d_MD_which_1 rfl (lv_at hl 0 rfl) ?_
  refine lv_iload_n hx hb d_MD_which_2 rfl (lv_at hl 1 rfl) ?_
  refine lv_iload_n hx hb d_MD_which_3 rfl (lv_at hl 2 rfl) ?_
  refine lv_iload_n hx hb d_MD_which_4 rfl (lv_at hl 3 rfl) ?_
  refine rc_i (va_runV (As := [.int (iI ((cc : Int))), .int (iI ((d : Int))), .int (iI ((q : Int)))]) (rest := [.ref h0]) (b := h0) ⟨hx, hb, hml, hown, hts⟩ (c_MD_wrong l D k (h0) (aTx) (aDt) (aFe) (aRu) (aTa) (aBe) (aEn) (aMa) (aEx) (aAb) (aCo) (aNt) (aNb) (aNe) (aCf) (aCd) (aKi) (aFi) (aSe) (fa) (ty) (sh) (wt) (rd) (cd) (at1) (mR) ((cc : Int)) ((d : Int)) ((q : Int)) (hR) (⟨by omega, by omega⟩) (⟨by omega, by omega⟩) (⟨by omega, by omega⟩)) ⟨callB_of 3 hts (good_MD_wrong) rfl rfl rfl (hts _ k_67) (hts _ k_914) (by decide +kernel) ⟨Nat.le_of_ble_eq_true rfl, Nat.le_of_ble_eq_true rfl⟩, (hts _ k_916), (hts _ k_46)⟩ ⟨fun a U g mk q => ⟨q.1, q.2.1, va_K.moved (u := U) (U := U.calling g mk a) (Vm.Alike.refl U.vm) q.2.2.1, q.2.2.2.calling⟩, (va_recv (q0 := 0) hK hP rfl rfl), fun U hU hW => ⟨rfl, by rw [hU]; exact (hP.sub (ws' := [(h0, .inr (8, [.int (iI (fa)), .int (iI (ty)), .ref aTx, .int (bI (sh)), .ref aDt, .ref aFe, .ref aRu, .ref aTa, .ref aBe, .ref aEn, .ref aMa, .int (iI (wt)), .ref aEx, .ref aAb, .ref aCo, .int (iI (rd)), .ref aNt, .ref aNb, .ref aNe, .ref aCf, .ref aCd, .int (iI (cd)), .int (iI (at1)), .ref aKi, .ref aFi, .ref aSe])), (aRu, .inl (k 0, 3, .inl (aZ (mR))))]) [0, 2] rfl), va_K.moved hW.alike hK, by rw [hU]; exact (hX.mono hS (fun _ h => absurd h id)).warm hW⟩⟩ rfl rfl hl.1 rfl (lv_room (Nat.le_of_ble_eq_true rfl)) d_MD_which_5 ⟨Nat.le_of_ble_eq_true rfl, Nat.le_of_ble_eq_true rfl⟩) (fun xr_1 h_xr_1 => ?_)
  subst h_xr_1
  have hPc := hP.sub (ws' := [(h0, .inr (8, [.int (iI (fa)), .int (iI (ty)), .ref aTx, .int (bI (sh)), .ref aDt, .ref aFe, .ref aRu, .ref aTa, .ref aBe, .ref aEn, .ref aMa, .int (iI (wt)), .ref aEx, .ref aAb, .ref aCo, .int (iI (rd)), .ref aNt, .ref aNb, .ref aNe, .ref aCf, .ref aCd, .int (iI (cd)), .int (iI (at1)), .ref aKi, .ref aFi, .ref aSe]))]) [0] rfl
  have hDc := hD.sub (ws' := [(h0, .inr (8, [.int (iI (fa)), .int (iI (ty)), .ref aTx, .int (bI (sh)), .ref aDt, .ref aFe, .ref aRu, .ref aTa, .ref aBe, .ref aEn, .ref aMa, .int (iI (wt)), .ref aEx, .ref aAb, .ref aCo, .int (iI (rd)), .ref aNt, .ref aNb, .ref aNe, .ref aCf, .ref aCd, .int (iI (cd)), .int (iI (at1)), .ref aKi, .ref aFi, .ref aSe]))]) [0] (by decide) rfl
  have hFc := va_free (wc := [(h0, .inr (8, [.int (iI (fa)), .int (iI (ty)), .ref aTx, .int (bI (sh)), .ref aDt, .ref aFe, .ref aRu, .ref aTa, .ref aBe, .ref aEn, .ref aMa, .int (iI (wt)), .ref aEx, .ref aAb, .ref aCo, .int (iI (rd)), .ref aNt, .ref aNb, .ref aNe, .ref aCf, .ref aCd, .int (iI (cd)), .int (iI (at1)), .ref aKi, .ref aFi, .ref aSe]))]) hD hS hA [0] rfl
  refine va_calli (va_runV (As := [.int (iI ((wrF mR ((cc : Int)) ((d : Int)) ((q : Int)))))]) (rest := []) (b := h0) ⟨hx, hb, hml, hown, hts⟩ (c_MD_refused l D k s.heap.size (h0) (aTx) (aDt) (aFe) (aRu) (aTa) (aBe) (aEn) (aMa) (aEx) (aAb) (aCo) (aNt) (aNb) (aNe) (aCf) (aCd) (aKi) (aFi) (aSe) (fa) (ty) (sh) (wt) (rd) (cd) (at1) ((wrF mR ((cc : Int)) ((d : Int)) ((q : Int)))) ((wrF_rg mR _ _ _))) ⟨callB_of 1 hts (good_MD_refused) rfl rfl rfl (hts _ k_67) (hts _ k_820) (by decide +kernel) ⟨Nat.le_of_ble_eq_true rfl, Nat.le_of_ble_eq_true rfl⟩, (hts _ k_822), (hts _ k_28)⟩ ⟨fun a U g mk q => ⟨q.1, q.2.1, q.2.2.1, va_K.moved (u := U) (U := U.calling g mk a) (Vm.Alike.refl U.vm) q.2.2.2.1, q.2.2.2.2.1, q.2.2.2.2.2.calling⟩, (va_recv (q0 := 0) hK hP rfl rfl), fun U hU hW => ⟨rfl, by rw [hU], by rw [hU]; exact hPc, va_K.moved hW.alike hK, hDc.weaken (fun _ _ _ _ => trivial), by rw [hU]; exact (hX.mono hS hFc).warm hW⟩⟩ rfl rfl hl.1 rfl (lv_room (Nat.le_of_ble_eq_true rfl)) d_MD_which_8 ⟨Nat.le_of_ble_eq_true rfl, Nat.le_of_ble_eq_true rfl⟩) hS (fun q _ h => hFc q h) hFc (fun xr_2 xu_3 t H1 locs ht hvm h_xr_2 hB hz1 hk1 hS => ?_)
  obtain ⟨hP1, hD1⟩ := hB
  rw [ht] at hP1
  obtain ⟨hP, hD⟩ := va_join (wr := [(aDt, .inl (k 0, 1461, .inl (aZ (dateZ)))), (aRu, .inl (k 0, 3, .inl (aZ (mR)))), (aTa, .inl (k 0, 36, .inl (aZ (mT)))), (aBe, .inl (k 0, 36, .inl (aZ (mB)))), (aEn, .inl (k 0, 36, .inl (aZ (mE)))), (aMa, .inl (k 0, 4383, .inl (aZ (mM))))]) (w1 := [(h0, .inr (8, [.int (iI ((rfF ((wrF mR ((cc : Int)) ((d : Int)) ((q : Int))))).2)), .int (iI (ty)), .ref aTx, .int (bI (sh)), .ref aDt, .ref aFe, .ref aRu, .ref aTa, .ref aBe, .ref aEn, .ref aMa, .int (iI (wt)), .ref aEx, .ref aAb, .ref aCo, .int (iI (rd)), .ref aNt, .ref aNb, .ref aNe, .ref aCf, .ref aCd, .int (iI (cd)), .int (iI (at1)), .ref aKi, .ref aFi, .ref aSe]))]) hP hD [0] [1, 2, 3, 4, 5, 6] rfl rfl (by decide) (by decide) hk1 hFc hP1 hD1
  generalize H1 = H at hP hS ⊢
  have hP := hP.sub (ws' := [(h0, .inr (8, [.int (iI ((rfF ((wrF mR ((cc : Int)) ((d : Int)) ((q : Int))))).2)), .int (iI (ty)), .ref aTx, .int (bI (sh)), .ref aDt, .ref aFe, .ref aRu, .ref aTa, .ref aBe, .ref aEn, .ref aMa, .int (iI (wt)), .ref aEx, .ref aAb, .ref aCo, .int (iI (rd)), .ref aNt, .ref aNb, .ref aNe, .ref aCf, .ref aCd, .int (iI (cd)), .int (iI (at1)), .ref aKi, .ref aFi, .ref aSe])), (aDt, .inl (k 0, 1461, .inl (aZ (dateZ)))), (aRu, .inl (k 0, 3, .inl (aZ (mR)))), (aTa, .inl (k 0, 36, .inl (aZ (mT)))), (aBe, .inl (k 0, 36, .inl (aZ (mB)))), (aEn, .inl (k 0, 36, .inl (aZ (mE)))), (aMa, .inl (k 0, 4383, .inl (aZ (mM))))]) [6, 0, 1, 2, 3, 4, 5] rfl
  have hD := hD.sub (ws' := [(h0, .inr (8, [.int (iI ((rfF ((wrF mR ((cc : Int)) ((d : Int)) ((q : Int))))).2)), .int (iI (ty)), .ref aTx, .int (bI (sh)), .ref aDt, .ref aFe, .ref aRu, .ref aTa, .ref aBe, .ref aEn, .ref aMa, .int (iI (wt)), .ref aEx, .ref aAb, .ref aCo, .int (iI (rd)), .ref aNt, .ref aNb, .ref aNe, .ref aCf, .ref aCd, .int (iI (cd)), .int (iI (at1)), .ref aKi, .ref aFi, .ref aSe])), (aDt, .inl (k 0, 1461, .inl (aZ (dateZ)))), (aRu, .inl (k 0, 3, .inl (aZ (mR)))), (aTa, .inl (k 0, 36, .inl (aZ (mT)))), (aBe, .inl (k 0, 36, .inl (aZ (mB)))), (aEn, .inl (k 0, 36, .inl (aZ (mE)))), (aMa, .inl (k 0, 4383, .inl (aZ (mM))))]) [6, 0, 1, 2, 3, 4, 5] (by decide) rfl
  subst h_xr_2
  refine b_if_eq (tgt := 16) hx hb d_MD_which_11 (by decide) (fun h11 => ?_) (fun h11 => absurd h11 (by rw [hw0]; decide))
  refine lv_aload_n hx hb d_MD_which_16 rfl (lv_at hl 0 rfl) ?_
  refine lv_iload_n hx hb d_MD_which_17 rfl (lv_at hl 2 rfl) ?_
  refine lv_iload_n hx hb d_MD_which_18 rfl (lv_at hl 3 rfl) ?_
  refine rc_i (va_runV (As := [.int (iI ((d : Int))), .int (iI ((q : Int)))]) (rest := []) (b := h0) ⟨hx, hb, hml, hown, hts⟩ (c_MD_isLost l D k (h0) (aTx) (aDt) (aFe) (aRu) (aTa) (aBe) (aEn) (aMa) (aEx) (aAb) (aCo) (aNt) (aNb) (aNe) (aCf) (aCd) (aKi) (aFi) (aSe) ((rfF ((wrF mR ((cc : Int)) ((d : Int)) ((q : Int))))).2) (ty) (sh) (wt) (rd) (cd) (at1) (d) ((q : Int)) ((by omega)) (⟨by omega, by omega⟩)) ⟨callB_of 2 hts (good_MD_isLost) rfl rfl rfl (hts _ k_67) (hts _ k_918) (by decide +kernel) ⟨Nat.le_of_ble_eq_true rfl, Nat.le_of_ble_eq_true rfl⟩, (hts _ k_920), (hts _ k_47)⟩ ⟨fun a U g mk q => ⟨q.1, q.2.1, va_K.moved (u := U) (U := U.calling g mk a) (Vm.Alike.refl U.vm) q.2.2.1, q.2.2.2.calling⟩, (va_recv (q0 := 0) hK hP rfl rfl), fun U hU hW => ⟨rfl, by rw [hU]; exact (hP.sub (ws' := [(h0, .inr (8, [.int (iI ((rfF ((wrF mR ((cc : Int)) ((d : Int)) ((q : Int))))).2)), .int (iI (ty)), .ref aTx, .int (bI (sh)), .ref aDt, .ref aFe, .ref aRu, .ref aTa, .ref aBe, .ref aEn, .ref aMa, .int (iI (wt)), .ref aEx, .ref aAb, .ref aCo, .int (iI (rd)), .ref aNt, .ref aNb, .ref aNe, .ref aCf, .ref aCd, .int (iI (cd)), .int (iI (at1)), .ref aKi, .ref aFi, .ref aSe])), (aDt, .inl (k 0, 1461, .inl (aZ (dateZ))))]) [0, 1] rfl), va_K.moved hW.alike hK, by rw [hU]; exact (hX.mono hS (fun _ h => absurd h id)).warm hW⟩⟩ rfl rfl hl.1 rfl (lv_room (Nat.le_of_ble_eq_true rfl)) d_MD_which_19 ⟨Nat.le_of_ble_eq_true rfl, Nat.le_of_ble_eq_true rfl⟩) (fun xr_4 h_xr_4 => ?_)
  subst h_xr_4
  refine b_if_eq (tgt := 29) hx hb d_MD_which_22 (by decide) (fun h22 => ?_) (fun h22 => ?_)
  · refine lv_aload_n hx hb d_MD_which_29 rfl (lv_at hl 0 rfl) ?_
    refine lv_iload_n hx hb d_MD_which_30 rfl (lv_at hl 1 rfl) ?_
    refine lv_iload_n hx hb d_MD_which_31 rfl (lv_at hl 2 rfl) ?_
    refine lv_iload_n hx hb d_MD_which_32 rfl (lv_at hl 3 rfl) ?_
    refine rc_i (va_runV (As := [.int (iI ((cc : Int))), .int (iI ((d : Int))), .int (iI ((q : Int)))]) (rest := []) (b := h0) ⟨hx, hb, hml, hown, hts⟩ (c_MD_decides l D k (h0) (aTx) (aDt) (aFe) (aRu) (aTa) (aBe) (aEn) (aMa) (aEx) (aAb) (aCo) (aNt) (aNb) (aNe) (aCf) (aCd) (aKi) (aFi) (aSe) ((rfF ((wrF mR ((cc : Int)) ((d : Int)) ((q : Int))))).2) (ty) (sh) (wt) (rd) (cd) (at1) (mR) (mB) (mE) (mM) (cc) (d) ((q : Int)) (hR) (hB) (hE) (hM) ((by omega)) ((by omega)) ((by omega))) ⟨callB_of 3 hts (good_MD_decides) rfl rfl rfl (hts _ k_67) (hts _ k_930) (by decide +kernel) ⟨Nat.le_of_ble_eq_true rfl, Nat.le_of_ble_eq_true rfl⟩, (hts _ k_932), (hts _ k_50)⟩ ⟨fun a U g mk q => ⟨q.1, q.2.1, va_K.moved (u := U) (U := U.calling g mk a) (Vm.Alike.refl U.vm) q.2.2.1, q.2.2.2.calling⟩, (va_recv (q0 := 0) hK hP rfl rfl), fun U hU hW => ⟨rfl, by rw [hU]; exact (hP.sub (ws' := [(h0, .inr (8, [.int (iI ((rfF ((wrF mR ((cc : Int)) ((d : Int)) ((q : Int))))).2)), .int (iI (ty)), .ref aTx, .int (bI (sh)), .ref aDt, .ref aFe, .ref aRu, .ref aTa, .ref aBe, .ref aEn, .ref aMa, .int (iI (wt)), .ref aEx, .ref aAb, .ref aCo, .int (iI (rd)), .ref aNt, .ref aNb, .ref aNe, .ref aCf, .ref aCd, .int (iI (cd)), .int (iI (at1)), .ref aKi, .ref aFi, .ref aSe])), (aRu, .inl (k 0, 3, .inl (aZ (mR)))), (aBe, .inl (k 0, 36, .inl (aZ (mB)))), (aEn, .inl (k 0, 36, .inl (aZ (mE)))), (aMa, .inl (k 0, 4383, .inl (aZ (mM))))]) [0, 2, 4, 5, 6] rfl), va_K.moved hW.alike hK, by rw [hU]; exact (hX.mono hS (fun _ h => absurd h id)).warm hW⟩⟩ rfl rfl hl.1 rfl (lv_room (Nat.le_of_ble_eq_true rfl)) d_MD_which_33 ⟨Nat.le_of_ble_eq_true rfl, Nat.le_of_ble_eq_true rfl⟩) (fun xr_5 h_xr_5 => ?_)
    subst h_xr_5
    refine z_top (show (iI (((decM (covF mB mE mM cc d ((q : Int))) (mR cc).toNat : Nat) : Int))) = (iI (((dvM mR mB mE mM cc d (q : Int) : Nat) : Int))) from rfl) ?_
    rw [hw0] at hP hD
    exact ret _ _ _ 36 (iI (((dvM mR mB mE mM cc d (q : Int) : Nat) : Int))) () d_MD_which_36 hS (by rw [if_neg (Bool.eq_false_iff.mp h22)]) (fun t ht _ => ⟨by rw [ht]; exact hP, hD⟩)
  · refine z_iconst hx hb d_MD_which_25 ?_
    refine lv_goto (tgt := 36) hx hb d_MD_which_26 (by decide) ?_
    rw [hw0] at hP hD
    exact ret _ _ _ 36 (iI (-1)) () d_MD_which_36 hS (by rw [if_pos h22]) (fun t ht _ => ⟨by rw [ht]; exact hP, hD⟩)

set_option maxHeartbeats 4000000 in
set_option maxRecDepth 100000 in
theorem c_MD_which_bad (l : Launch) (D : va_G) (k : Nat → ClassId) (sz : Nat) (h0 aTx aDt aFe aRu aTa aBe aEn aMa aEx aAb aCo aNt aNb aNe aCf aCd aKi aFi aSe : Nat) (fa : Int) (ty : Int) (sh : Bool) (wt : Int) (rd : Int) (cd : Int) (at1 : Int) (mR : Nat → Int) (cz : Int) (z : Int) (q : Int) (hR : ∀ j, 0 ≤ mR j ∧ mR j ≤ 12) (h1 : rg cz) (h2 : rg z) (h3 : rg q) (hw1 : 0 < wrF mR cz z q) : Met l y_MD_which wd_MD_which rm_MD_which (va_Pc [.ref h0, .int (iI (cz)), .int (iI (z)), .int (iI (q))] (PRW D k [(h0, .inr (8, [.int (iI (fa)), .int (iI (ty)), .ref aTx, .int (bI (sh)), .ref aDt, .ref aFe, .ref aRu, .ref aTa, .ref aBe, .ref aEn, .ref aMa, .int (iI (wt)), .ref aEx, .ref aAb, .ref aCo, .int (iI (rd)), .ref aNt, .ref aNb, .ref aNe, .ref aCf, .ref aCd, .int (iI (cd)), .int (iI (at1)), .ref aKi, .ref aFi, .ref aSe])), (aRu, .inl (k 0, 3, .inl (aZ (mR))))] sz)) (va_Qi (fun (r : Int32) (u : Unit) => r = (iI (0))) (fun _ t => BRW D [(h0, .inr (8, [.int (iI (fa)), .int (iI (ty)), .ref aTx, .int (bI (sh)), .ref aDt, .ref aFe, .ref aRu, .ref aTa, .ref aBe, .ref aEn, .ref aMa, .int (iI (wt)), .ref aEx, .ref aAb, .ref aCo, .int (iI (rd)), .ref aNt, .ref aNb, .ref aNe, .ref aCf, .ref aCd, .int (iI (cd)), .int (iI (at1)), .ref aKi, .ref aFi, .ref aSe])), (aRu, .inl (k 0, 3, .inl (aZ (mR))))] sz [(h0, .inr (8, [.int (iI (wrF mR cz z q)), .int (iI (ty)), .ref aTx, .int (bI (sh)), .ref aDt, .ref aFe, .ref aRu, .ref aTa, .ref aBe, .ref aEn, .ref aMa, .int (iI (wt)), .ref aEx, .ref aAb, .ref aCo, .int (iI (rd)), .ref aNt, .ref aNb, .ref aNe, .ref aCf, .ref aCd, .int (iI (cd)), .int (iI (at1)), .ref aKi, .ref aFi, .ref aSe])), (aRu, .inl (k 0, 3, .inl (aZ (mR))))] t) (va_A [(h0, .inr (8, [.int (iI (fa)), .int (iI (ty)), .ref aTx, .int (bI (sh)), .ref aDt, .ref aFe, .ref aRu, .ref aTa, .ref aBe, .ref aEn, .ref aMa, .int (iI (wt)), .ref aEx, .ref aAb, .ref aCo, .int (iI (rd)), .ref aNt, .ref aNb, .ref aNe, .ref aCf, .ref aCd, .int (iI (cd)), .int (iI (at1)), .ref aKi, .ref aFi, .ref aSe])), (aRu, .inl (k 0, 3, .inl (aZ (mR))))] sz)) 0 0 (va_A [(h0, .inr (8, [.int (iI (fa)), .int (iI (ty)), .ref aTx, .int (bI (sh)), .ref aDt, .ref aFe, .ref aRu, .ref aTa, .ref aBe, .ref aEn, .ref aMa, .int (iI (wt)), .ref aEx, .ref aAb, .ref aCo, .int (iI (rd)), .ref aNt, .ref aNb, .ref aNe, .ref aCf, .ref aCd, .int (iI (cd)), .int (iI (at1)), .ref aKi, .ref aFi, .ref aSe])), (aRu, .inl (k 0, 3, .inl (aZ (mR))))] sz) := by
  refine e_i (by decide) rfl (Nat.le_of_ble_eq_true rfl) ?_
  intro p e s m args below meth c Q ls hx hb hml hown hts hpre hl ret
  obtain ⟨hsz, hP, hK, hD0, hX⟩ := hpre
  subst hsz
  have hD := hD0.self (sz := s.heap.size)
  have hA : ∀ q : Nat, s.heap.size ≤ q → (va_A [(h0, .inr (8, [.int (iI (fa)), .int (iI (ty)), .ref aTx, .int (bI (sh)), .ref aDt, .ref aFe, .ref aRu, .ref aTa, .ref aBe, .ref aEn, .ref aMa, .int (iI (wt)), .ref aEx, .ref aAb, .ref aCo, .int (iI (rd)), .ref aNt, .ref aNb, .ref aNe, .ref aCf, .ref aCd, .int (iI (cd)), .int (iI (at1)), .ref aKi, .ref aFi, .ref aSe])), (aRu, .inl (k 0, 3, .inl (aZ (mR))))] s.heap.size) q := fun q h => Or.inr h
  have hS : va_S (va_A [(h0, .inr (8, [.int (iI (fa)), .int (iI (ty)), .ref aTx, .int (bI (sh)), .ref aDt, .ref aFe, .ref aRu, .ref aTa, .ref aBe, .ref aEn, .ref aMa, .int (iI (wt)), .ref aEx, .ref aAb, .ref aCo, .int (iI (rd)), .ref aNt, .ref aNb, .ref aNe, .ref aCf, .ref aCd, .int (iI (cd)), .int (iI (at1)), .ref aKi, .ref aFi, .ref aSe])), (aRu, .inl (k 0, 3, .inl (aZ (mR))))] s.heap.size) s.heap s.heap [] := va_S.rf
  have hl : lv_has ls 4 [(0, .ref h0), (1, .int (iI (cz))), (2, .int (iI (z))), (3, .int (iI (q)))] := hl
  refine lv_aload_n hx hb d_MD_which_0 rfl (lv_at hl 0 rfl) ?_
  refine lv_aload_n hx hb d_MD_which_1 rfl (lv_at hl 0 rfl) ?_
  refine lv_iload_n hx hb d_MD_which_2 rfl (lv_at hl 1 rfl) ?_
  refine lv_iload_n hx hb d_MD_which_3 rfl (lv_at hl 2 rfl) ?_
  refine lv_iload_n hx hb d_MD_which_4 rfl (lv_at hl 3 rfl) ?_
  refine rc_i (va_runV (As := [.int (iI (cz)), .int (iI (z)), .int (iI (q))]) (rest := [.ref h0]) (b := h0) ⟨hx, hb, hml, hown, hts⟩ (c_MD_wrong l D k (h0) (aTx) (aDt) (aFe) (aRu) (aTa) (aBe) (aEn) (aMa) (aEx) (aAb) (aCo) (aNt) (aNb) (aNe) (aCf) (aCd) (aKi) (aFi) (aSe) (fa) (ty) (sh) (wt) (rd) (cd) (at1) (mR) (cz) (z) (q) (hR) (h1) (h2) (h3)) ⟨callB_of 3 hts (good_MD_wrong) rfl rfl rfl (hts _ k_67) (hts _ k_914) (by decide +kernel) ⟨Nat.le_of_ble_eq_true rfl, Nat.le_of_ble_eq_true rfl⟩, (hts _ k_916), (hts _ k_46)⟩ ⟨fun a U g mk q => ⟨q.1, q.2.1, va_K.moved (u := U) (U := U.calling g mk a) (Vm.Alike.refl U.vm) q.2.2.1, q.2.2.2.calling⟩, (va_recv (q0 := 0) hK hP rfl rfl), fun U hU hW => ⟨rfl, by rw [hU]; exact hP, va_K.moved hW.alike hK, by rw [hU]; exact (hX.mono hS (fun _ h => absurd h id)).warm hW⟩⟩ rfl rfl hl.1 rfl (lv_room (Nat.le_of_ble_eq_true rfl)) d_MD_which_5 ⟨Nat.le_of_ble_eq_true rfl, Nat.le_of_ble_eq_true rfl⟩) (fun xr_1 h_xr_1 => ?_)
  subst h_xr_1
  have hPc := hP.sub (ws' := [(h0, .inr (8, [.int (iI (fa)), .int (iI (ty)), .ref aTx, .int (bI (sh)), .ref aDt, .ref aFe, .ref aRu, .ref aTa, .ref aBe, .ref aEn, .ref aMa, .int (iI (wt)), .ref aEx, .ref aAb, .ref aCo, .int (iI (rd)), .ref aNt, .ref aNb, .ref aNe, .ref aCf, .ref aCd, .int (iI (cd)), .int (iI (at1)), .ref aKi, .ref aFi, .ref aSe]))]) [0] rfl
  have hDc := hD.sub (ws' := [(h0, .inr (8, [.int (iI (fa)), .int (iI (ty)), .ref aTx, .int (bI (sh)), .ref aDt, .ref aFe, .ref aRu, .ref aTa, .ref aBe, .ref aEn, .ref aMa, .int (iI (wt)), .ref aEx, .ref aAb, .ref aCo, .int (iI (rd)), .ref aNt, .ref aNb, .ref aNe, .ref aCf, .ref aCd, .int (iI (cd)), .int (iI (at1)), .ref aKi, .ref aFi, .ref aSe]))]) [0] (by decide) rfl
  have hFc := va_free (wc := [(h0, .inr (8, [.int (iI (fa)), .int (iI (ty)), .ref aTx, .int (bI (sh)), .ref aDt, .ref aFe, .ref aRu, .ref aTa, .ref aBe, .ref aEn, .ref aMa, .int (iI (wt)), .ref aEx, .ref aAb, .ref aCo, .int (iI (rd)), .ref aNt, .ref aNb, .ref aNe, .ref aCf, .ref aCd, .int (iI (cd)), .int (iI (at1)), .ref aKi, .ref aFi, .ref aSe]))]) hD hS hA [0] rfl
  refine va_calli (va_runV (As := [.int (iI ((wrF mR cz z q)))]) (rest := []) (b := h0) ⟨hx, hb, hml, hown, hts⟩ (c_MD_refused l D k s.heap.size (h0) (aTx) (aDt) (aFe) (aRu) (aTa) (aBe) (aEn) (aMa) (aEx) (aAb) (aCo) (aNt) (aNb) (aNe) (aCf) (aCd) (aKi) (aFi) (aSe) (fa) (ty) (sh) (wt) (rd) (cd) (at1) ((wrF mR cz z q)) ((wrF_rg mR _ _ _))) ⟨callB_of 1 hts (good_MD_refused) rfl rfl rfl (hts _ k_67) (hts _ k_820) (by decide +kernel) ⟨Nat.le_of_ble_eq_true rfl, Nat.le_of_ble_eq_true rfl⟩, (hts _ k_822), (hts _ k_28)⟩ ⟨fun a U g mk q => ⟨q.1, q.2.1, q.2.2.1, va_K.moved (u := U) (U := U.calling g mk a) (Vm.Alike.refl U.vm) q.2.2.2.1, q.2.2.2.2.1, q.2.2.2.2.2.calling⟩, (va_recv (q0 := 0) hK hP rfl rfl), fun U hU hW => ⟨rfl, by rw [hU], by rw [hU]; exact hPc, va_K.moved hW.alike hK, hDc.weaken (fun _ _ _ _ => trivial), by rw [hU]; exact (hX.mono hS hFc).warm hW⟩⟩ rfl rfl hl.1 rfl (lv_room (Nat.le_of_ble_eq_true rfl)) d_MD_which_8 ⟨Nat.le_of_ble_eq_true rfl, Nat.le_of_ble_eq_true rfl⟩) hS (fun q _ h => hFc q h) hFc (fun xr_2 xu_3 t H1 locs ht hvm h_xr_2 hB hz1 hk1 hS => ?_)
  obtain ⟨hP1, hD1⟩ := hB
  rw [ht] at hP1
  obtain ⟨hP, hD⟩ := va_join (wr := [(aRu, .inl (k 0, 3, .inl (aZ (mR))))]) (w1 := [(h0, .inr (8, [.int (iI ((rfF ((wrF mR cz z q))).2)), .int (iI (ty)), .ref aTx, .int (bI (sh)), .ref aDt, .ref aFe, .ref aRu, .ref aTa, .ref aBe, .ref aEn, .ref aMa, .int (iI (wt)), .ref aEx, .ref aAb, .ref aCo, .int (iI (rd)), .ref aNt, .ref aNb, .ref aNe, .ref aCf, .ref aCd, .int (iI (cd)), .int (iI (at1)), .ref aKi, .ref aFi, .ref aSe]))]) hP hD [0] [1] rfl rfl (by decide) (by decide) hk1 hFc hP1 hD1
  generalize H1 = H at hP hS ⊢
  have hP := hP.sub (ws' := [(h0, .inr (8, [.int (iI ((rfF ((wrF mR cz z q))).2)), .int (iI (ty)), .ref aTx, .int (bI (sh)), .ref aDt, .ref aFe, .ref aRu, .ref aTa, .ref aBe, .ref aEn, .ref aMa, .int (iI (wt)), .ref aEx, .ref aAb, .ref aCo, .int (iI (rd)), .ref aNt, .ref aNb, .ref aNe, .ref aCf, .ref aCd, .int (iI (cd)), .int (iI (at1)), .ref aKi, .ref aFi, .ref aSe])), (aRu, .inl (k 0, 3, .inl (aZ (mR))))]) [1, 0] rfl
  have hD := hD.sub (ws' := [(h0, .inr (8, [.int (iI ((rfF ((wrF mR cz z q))).2)), .int (iI (ty)), .ref aTx, .int (bI (sh)), .ref aDt, .ref aFe, .ref aRu, .ref aTa, .ref aBe, .ref aEn, .ref aMa, .int (iI (wt)), .ref aEx, .ref aAb, .ref aCo, .int (iI (rd)), .ref aNt, .ref aNb, .ref aNe, .ref aCf, .ref aCd, .int (iI (cd)), .int (iI (at1)), .ref aKi, .ref aFi, .ref aSe])), (aRu, .inl (k 0, 3, .inl (aZ (mR))))]) [1, 0] (by decide) rfl
  subst h_xr_2
  refine b_if_eq (tgt := 16) hx hb d_MD_which_11 (by decide) (fun h11 => absurd h11 (by rw [rfF_1 hw1]; decide)) (fun h11 => ?_)
  refine z_iconst hx hb d_MD_which_14 ?_
  rw [rfF_2] at hP hD
  exact ret _ _ _ 15 (iI (0)) () d_MD_which_15 hS (rfl) (fun t ht _ => ⟨by rw [ht]; exact hP, hD⟩)

set_option maxHeartbeats 4000000 in
set_option maxRecDepth 100000 in
theorem c_MD_elapsed_ok (l : Launch) (D : va_G) (k : Nat → ClassId) (sz : Nat) (h0 aTx aDt aFe aRu aTa aBe aEn aMa aEx aAb aCo aNt aNb aNe aCf aCd aKi aFi aSe : Nat) (fa : Int) (ty : Int) (sh : Bool) (wt : Int) (rd : Int) (cd : Int) (at1 : Int) (d : Nat) (q : Int) (sec : Bool) (hd : d < 1461) (hq : 0 ≤ q ∧ q ≤ 47) : Met l y_MD_elapsed wd_MD_elapsed rm_MD_elapsed (va_Pc [.ref h0, .int (iI ((d : Int))), .int (iI (q)), .int (bI (sec))] (PRW D k [(h0, .inr (8, [.int (iI (fa)), .int (iI (ty)), .ref aTx, .int (bI (sh)), .ref aDt, .ref aFe, .ref aRu, .ref aTa, .ref aBe, .ref aEn, .ref aMa, .int (iI (wt)), .ref aEx, .ref aAb, .ref aCo, .int (iI (rd)), .ref aNt, .ref aNb, .ref aNe, .ref aCf, .ref aCd, .int (iI (cd)), .int (iI (at1)), .ref aKi, .ref aFi, .ref aSe])), (aDt, .inl (k 0, 1461, .inl (aZ (dateZ))))] sz)) (va_Qi (fun (r : Int32) (u : Unit) => r = (iI (if loF sh d q = true then -1 else tmM sh d q sec))) (fun _ t => BRW D [(h0, .inr (8, [.int (iI (fa)), .int (iI (ty)), .ref aTx, .int (bI (sh)), .ref aDt, .ref aFe, .ref aRu, .ref aTa, .ref aBe, .ref aEn, .ref aMa, .int (iI (wt)), .ref aEx, .ref aAb, .ref aCo, .int (iI (rd)), .ref aNt, .ref aNb, .ref aNe, .ref aCf, .ref aCd, .int (iI (cd)), .int (iI (at1)), .ref aKi, .ref aFi, .ref aSe])), (aDt, .inl (k 0, 1461, .inl (aZ (dateZ))))] sz [(h0, .inr (8, [.int (iI (0)), .int (iI (ty)), .ref aTx, .int (bI (sh)), .ref aDt, .ref aFe, .ref aRu, .ref aTa, .ref aBe, .ref aEn, .ref aMa, .int (iI (wt)), .ref aEx, .ref aAb, .ref aCo, .int (iI (rd)), .ref aNt, .ref aNb, .ref aNe, .ref aCf, .ref aCd, .int (iI (cd)), .int (iI (at1)), .ref aKi, .ref aFi, .ref aSe])), (aDt, .inl (k 0, 1461, .inl (aZ (dateZ))))] t) (va_A [(h0, .inr (8, [.int (iI (fa)), .int (iI (ty)), .ref aTx, .int (bI (sh)), .ref aDt, .ref aFe, .ref aRu, .ref aTa, .ref aBe, .ref aEn, .ref aMa, .int (iI (wt)), .ref aEx, .ref aAb, .ref aCo, .int (iI (rd)), .ref aNt, .ref aNb, .ref aNe, .ref aCf, .ref aCd, .int (iI (cd)), .int (iI (at1)), .ref aKi, .ref aFi, .ref aSe])), (aDt, .inl (k 0, 1461, .inl (aZ (dateZ))))] sz)) 0 0 (va_A [(h0, .inr (8, [.int (iI (fa)), .int (iI (ty)), .ref aTx, .int (bI (sh)), .ref aDt, .ref aFe, .ref aRu, .ref aTa, .ref aBe, .ref aEn, .ref aMa, .int (iI (wt)), .ref aEx, .ref aAb, .ref aCo, .int (iI (rd)), .ref aNt, .ref aNb, .ref aNe, .ref aCf, .ref aCd, .int (iI (cd)), .int (iI (at1)), .ref aKi, .ref aFi, .ref aSe])), (aDt, .inl (k 0, 1461, .inl (aZ (dateZ))))] sz) := by
  refine e_i (by decide) rfl (Nat.le_of_ble_eq_true rfl) ?_
  intro p e s m args below meth c Q ls hx hb hml hown hts hpre hl ret
  obtain ⟨hsz, hP, hK, hD0, hX⟩ := hpre
  subst hsz
  have hD := hD0.self (sz := s.heap.size)
  have hA : ∀ q : Nat, s.heap.size ≤ q → (va_A [(h0, .inr (8, [.int (iI (fa)), .int (iI (ty)), .ref aTx, .int (bI (sh)), .ref aDt, .ref aFe, .ref aRu, .ref aTa, .ref aBe, .ref aEn, .ref aMa, .int (iI (wt)), .ref aEx, .ref aAb, .ref aCo, .int (iI (rd)), .ref aNt, .ref aNb, .ref aNe, .ref aCf, .ref aCd, .int (iI (cd)), .int (iI (at1)), .ref aKi, .ref aFi, .ref aSe])), (aDt, .inl (k 0, 1461, .inl (aZ (dateZ))))] s.heap.size) q := fun q h => Or.inr h
  have hS : va_S (va_A [(h0, .inr (8, [.int (iI (fa)), .int (iI (ty)), .ref aTx, .int (bI (sh)), .ref aDt, .ref aFe, .ref aRu, .ref aTa, .ref aBe, .ref aEn, .ref aMa, .int (iI (wt)), .ref aEx, .ref aAb, .ref aCo, .int (iI (rd)), .ref aNt, .ref aNb, .ref aNe, .ref aCf, .ref aCd, .int (iI (cd)), .int (iI (at1)), .ref aKi, .ref aFi, .ref aSe])), (aDt, .inl (k 0, 1461, .inl (aZ (dateZ))))] s.heap.size) s.heap s.heap [] := va_S.rf
  have hl : lv_has ls 4 [(0, .ref h0), (1, .int (iI ((d : Int)))), (2, .int (iI (q))), (3, .int (bI (sec)))] := hl
  refine lv_aload_n hx hb d_MD_elapsed_0 rfl (lv_at hl 0 rfl) ?_
  refine lv_iload_n hx hb d_MD_elapsed_1 rfl (lv_at hl 1 rfl) ?_
  refine z_if_lt (tgt := 22) hx hb d_MD_elapsed_2 (by decide) ⟨by omega, by omega⟩ (fun h2 => absurd h2 (by omega)) (fun h2 => ?_)
  refine lv_iload_n hx hb d_MD_elapsed_5 rfl (lv_at hl 1 rfl) ?_
  refine z_sipush hx hb d_MD_elapsed_6 (by decide) ?_
  refine z_icmp_ge (tgt := 22) hx hb d_MD_elapsed_9 (by decide) ⟨by omega, by omega⟩ ⟨by omega, by omega⟩ (fun h9 => absurd h9 (by omega)) (fun h9 => ?_)
  refine lv_iload_n hx hb d_MD_elapsed_12 rfl (lv_at hl 2 rfl) ?_
  refine z_if_lt (tgt := 22) hx hb d_MD_elapsed_13 (by decide) ⟨by omega, by omega⟩ (fun h13 => absurd h13 (by omega)) (fun h13 => ?_)
  refine lv_iload_n hx hb d_MD_elapsed_16 rfl (lv_at hl 2 rfl) ?_
  refine z_bipush hx hb d_MD_elapsed_17 (by decide) ?_
  refine z_icmp_le (tgt := 26) hx hb d_MD_elapsed_19 (by decide) ⟨by omega, by omega⟩ ⟨by omega, by omega⟩ (fun h19 => ?_) (fun h19 => absurd h19 (by omega))
  refine z_iconst hx hb d_MD_elapsed_26 ?_
  have hPc := hP.sub (ws' := [(h0, .inr (8, [.int (iI (fa)), .int (iI (ty)), .ref aTx, .int (bI (sh)), .ref aDt, .ref aFe, .ref aRu, .ref aTa, .ref aBe, .ref aEn, .ref aMa, .int (iI (wt)), .ref aEx, .ref aAb, .ref aCo, .int (iI (rd)), .ref aNt, .ref aNb, .ref aNe, .ref aCf, .ref aCd, .int (iI (cd)), .int (iI (at1)), .ref aKi, .ref aFi, .ref aSe]))]) [0] rfl
  have hDc := hD.sub (ws' := [(h0, .inr (8, [.int (iI (fa)), .int (iI (ty)), .ref aTx, .int (bI (sh)), .ref aDt, .ref aFe, .ref aRu, .ref aTa, .ref aBe, .ref aEn, .ref aMa, .int (iI (wt)), .ref aEx, .ref aAb, .ref aCo, .int (iI (rd)), .ref aNt, .ref aNb, .ref aNe, .ref aCf, .ref aCd, .int (iI (cd)), .int (iI (at1)), .ref aKi, .ref aFi, .ref aSe]))]) [0] (by decide) rfl
  have hFc := va_free (wc := [(h0, .inr (8, [.int (iI (fa)), .int (iI (ty)), .ref aTx, .int (bI (sh)), .ref aDt, .ref aFe, .ref aRu, .ref aTa, .ref aBe, .ref aEn, .ref aMa, .int (iI (wt)), .ref aEx, .ref aAb, .ref aCo, .int (iI (rd)), .ref aNt, .ref aNb, .ref aNe, .ref aCf, .ref aCd, .int (iI (cd)), .int (iI (at1)), .ref aKi, .ref aFi, .ref aSe]))]) hD hS hA [0] rfl
  refine va_calli (va_runV (As := [.int (iI (0))]) (rest := []) (b := h0) ⟨hx, hb, hml, hown, hts⟩ (c_MD_refused l D k s.heap.size (h0) (aTx) (aDt) (aFe) (aRu) (aTa) (aBe) (aEn) (aMa) (aEx) (aAb) (aCo) (aNt) (aNb) (aNe) (aCf) (aCd) (aKi) (aFi) (aSe) (fa) (ty) (sh) (wt) (rd) (cd) (at1) (0) (⟨by omega, by omega⟩)) ⟨callB_of 1 hts (good_MD_refused) rfl rfl rfl (hts _ k_67) (hts _ k_820) (by decide +kernel) ⟨Nat.le_of_ble_eq_true rfl, Nat.le_of_ble_eq_true rfl⟩, (hts _ k_822), (hts _ k_28)⟩ ⟨fun a U g mk q => ⟨q.1, q.2.1, q.2.2.1, va_K.moved (u := U) (U := U.calling g mk a) (Vm.Alike.refl U.vm) q.2.2.2.1, q.2.2.2.2.1, q.2.2.2.2.2.calling⟩, (va_recv (q0 := 0) hK hP rfl rfl), fun U hU hW => ⟨rfl, by rw [hU], by rw [hU]; exact hPc, va_K.moved hW.alike hK, hDc.weaken (fun _ _ _ _ => trivial), by rw [hU]; exact (hX.mono hS hFc).warm hW⟩⟩ rfl rfl hl.1 rfl (lv_room (Nat.le_of_ble_eq_true rfl)) d_MD_elapsed_27 ⟨Nat.le_of_ble_eq_true rfl, Nat.le_of_ble_eq_true rfl⟩) hS (fun q _ h => hFc q h) hFc (fun xr_1 xu_2 t H1 locs ht hvm h_xr_1 hB hz1 hk1 hS => ?_)
  obtain ⟨hP1, hD1⟩ := hB
  rw [ht] at hP1
  obtain ⟨hP, hD⟩ := va_join (wr := [(aDt, .inl (k 0, 1461, .inl (aZ (dateZ))))]) (w1 := [(h0, .inr (8, [.int (iI ((rfF 0).2)), .int (iI (ty)), .ref aTx, .int (bI (sh)), .ref aDt, .ref aFe, .ref aRu, .ref aTa, .ref aBe, .ref aEn, .ref aMa, .int (iI (wt)), .ref aEx, .ref aAb, .ref aCo, .int (iI (rd)), .ref aNt, .ref aNb, .ref aNe, .ref aCf, .ref aCd, .int (iI (cd)), .int (iI (at1)), .ref aKi, .ref aFi, .ref aSe]))]) hP hD [0] [1] rfl rfl (by decide) (by decide) hk1 hFc hP1 hD1
  generalize H1 = H at hP hS ⊢
  have hP := hP.sub (ws' := [(h0, .inr (8, [.int (iI ((rfF 0).2)), .int (iI (ty)), .ref aTx, .int (bI (sh)), .ref aDt, .ref aFe, .ref aRu, .ref aTa, .ref aBe, .ref aEn, .ref aMa, .int (iI (wt)), .ref aEx, .ref aAb, .ref aCo, .int (iI (rd)), .ref aNt, .ref aNb, .ref aNe, .ref aCf, .ref aCd, .int (iI (cd)), .int (iI (at1)), .ref aKi, .ref aFi, .ref aSe])), (aDt, .inl (k 0, 1461, .inl (aZ (dateZ))))]) [1, 0] rfl
  have hD := hD.sub (ws' := [(h0, .inr (8, [.int (iI ((rfF 0).2)), .int (iI (ty)), .ref aTx, .int (bI (sh)), .ref aDt, .ref aFe, .ref aRu, .ref aTa, .ref aBe, .ref aEn, .ref aMa, .int (iI (wt)), .ref aEx, .ref aAb, .ref aCo, .int (iI (rd)), .ref aNt, .ref aNb, .ref aNe, .ref aCf, .ref aCd, .int (iI (cd)), .int (iI (at1)), .ref aKi, .ref aFi, .ref aSe])), (aDt, .inl (k 0, 1461, .inl (aZ (dateZ))))]) [1, 0] (by decide) rfl
  subst h_xr_1
  refine b_if_eq (tgt := 35) hx hb d_MD_elapsed_30 (by decide) (fun h30 => ?_) (fun h30 => absurd h30 (by decide))
  refine lv_aload_n hx hb d_MD_elapsed_35 rfl (lv_at hl 0 rfl) ?_
  refine lv_iload_n hx hb d_MD_elapsed_36 rfl (lv_at hl 1 rfl) ?_
  refine lv_iload_n hx hb d_MD_elapsed_37 rfl (lv_at hl 2 rfl) ?_
  refine rc_i (va_runV (As := [.int (iI ((d : Int))), .int (iI (q))]) (rest := []) (b := h0) ⟨hx, hb, hml, hown, hts⟩ (c_MD_isLost l D k (h0) (aTx) (aDt) (aFe) (aRu) (aTa) (aBe) (aEn) (aMa) (aEx) (aAb) (aCo) (aNt) (aNb) (aNe) (aCf) (aCd) (aKi) (aFi) (aSe) ((rfF 0).2) (ty) (sh) (wt) (rd) (cd) (at1) (d) (q) ((by omega)) (⟨by omega, by omega⟩)) ⟨callB_of 2 hts (good_MD_isLost) rfl rfl rfl (hts _ k_67) (hts _ k_918) (by decide +kernel) ⟨Nat.le_of_ble_eq_true rfl, Nat.le_of_ble_eq_true rfl⟩, (hts _ k_920), (hts _ k_47)⟩ ⟨fun a U g mk q => ⟨q.1, q.2.1, va_K.moved (u := U) (U := U.calling g mk a) (Vm.Alike.refl U.vm) q.2.2.1, q.2.2.2.calling⟩, (va_recv (q0 := 0) hK hP rfl rfl), fun U hU hW => ⟨rfl, by rw [hU]; exact hP, va_K.moved hW.alike hK, by rw [hU]; exact (hX.mono hS (fun _ h => absurd h id)).warm hW⟩⟩ rfl rfl hl.1 rfl (lv_room (Nat.le_of_ble_eq_true rfl)) d_MD_elapsed_38 ⟨Nat.le_of_ble_eq_true rfl, Nat.le_of_ble_eq_true rfl⟩) (fun xr_3 h_xr_3 => ?_)
  subst h_xr_3
  refine b_if_eq (tgt := 48) hx hb d_MD_elapsed_41 (by decide) (fun h41 => ?_) (fun h41 => ?_)
  · refine lv_aload_n hx hb d_MD_elapsed_48 rfl (lv_at hl 0 rfl) ?_
    refine lv_iload_n hx hb d_MD_elapsed_49 rfl (lv_at hl 1 rfl) ?_
    refine lv_iload_n hx hb d_MD_elapsed_50 rfl (lv_at hl 2 rfl) ?_
    refine lv_iload_n hx hb d_MD_elapsed_51 rfl (lv_at hl 3 rfl) ?_
    refine rc_i (va_runV (As := [.int (iI ((d : Int))), .int (iI (q)), .int (bI (sec))]) (rest := []) (b := h0) ⟨hx, hb, hml, hown, hts⟩ (c_MD_timeOf l D k (h0) (aTx) (aDt) (aFe) (aRu) (aTa) (aBe) (aEn) (aMa) (aEx) (aAb) (aCo) (aNt) (aNb) (aNe) (aCf) (aCd) (aKi) (aFi) (aSe) ((rfF 0).2) (ty) (sh) (wt) (rd) (cd) (at1) (d) (q) (sec) ((by omega)) ((by omega))) ⟨callB_of 3 hts (good_MD_timeOf) rfl rfl rfl (hts _ k_67) (hts _ k_978) (by decide +kernel) ⟨Nat.le_of_ble_eq_true rfl, Nat.le_of_ble_eq_true rfl⟩, (hts _ k_980), (hts _ k_55)⟩ ⟨fun a U g mk q => ⟨q.1, q.2.1, va_K.moved (u := U) (U := U.calling g mk a) (Vm.Alike.refl U.vm) q.2.2.1, q.2.2.2.calling⟩, (va_recv (q0 := 0) hK hP rfl rfl), fun U hU hW => ⟨rfl, by rw [hU]; exact hP, va_K.moved hW.alike hK, by rw [hU]; exact (hX.mono hS (fun _ h => absurd h id)).warm hW⟩⟩ rfl rfl hl.1 rfl (lv_room (Nat.le_of_ble_eq_true rfl)) d_MD_elapsed_52 ⟨Nat.le_of_ble_eq_true rfl, Nat.le_of_ble_eq_true rfl⟩) (fun xr_4 h_xr_4 => ?_)
    subst h_xr_4
    exact ret _ _ _ 55 (iI (tmM sh d q sec)) () d_MD_elapsed_55 hS (by rw [if_neg (Bool.eq_false_iff.mp h41)]) (fun t ht _ => ⟨by rw [ht]; exact hP, hD⟩)
  · refine z_iconst hx hb d_MD_elapsed_44 ?_
    refine lv_goto (tgt := 55) hx hb d_MD_elapsed_45 (by decide) ?_
    exact ret _ _ _ 55 (iI (-1)) () d_MD_elapsed_55 hS (by rw [if_pos h41]) (fun t ht _ => ⟨by rw [ht]; exact hP, hD⟩)

set_option maxHeartbeats 4000000 in
set_option maxRecDepth 100000 in
theorem c_MD_elapsed_bad (l : Launch) (D : va_G) (k : Nat → ClassId) (sz : Nat) (h0 aTx aDt aFe aRu aTa aBe aEn aMa aEx aAb aCo aNt aNb aNe aCf aCd aKi aFi aSe : Nat) (fa : Int) (ty : Int) (sh : Bool) (wt : Int) (rd : Int) (cd : Int) (at1 : Int) (z : Int) (q : Int) (sec : Bool) (h1 : rg z) (h2 : rg q) (hb0 : z < 0 ∨ 1461 ≤ z ∨ q < 0 ∨ 47 < q) : Met l y_MD_elapsed wd_MD_elapsed rm_MD_elapsed (va_Pc [.ref h0, .int (iI (z)), .int (iI (q)), .int (bI (sec))] (PRW D k [(h0, .inr (8, [.int (iI (fa)), .int (iI (ty)), .ref aTx, .int (bI (sh)), .ref aDt, .ref aFe, .ref aRu, .ref aTa, .ref aBe, .ref aEn, .ref aMa, .int (iI (wt)), .ref aEx, .ref aAb, .ref aCo, .int (iI (rd)), .ref aNt, .ref aNb, .ref aNe, .ref aCf, .ref aCd, .int (iI (cd)), .int (iI (at1)), .ref aKi, .ref aFi, .ref aSe]))] sz)) (va_Qi (fun (r : Int32) (u : Unit) => r = (iI (0))) (fun _ t => BRW D [(h0, .inr (8, [.int (iI (fa)), .int (iI (ty)), .ref aTx, .int (bI (sh)), .ref aDt, .ref aFe, .ref aRu, .ref aTa, .ref aBe, .ref aEn, .ref aMa, .int (iI (wt)), .ref aEx, .ref aAb, .ref aCo, .int (iI (rd)), .ref aNt, .ref aNb, .ref aNe, .ref aCf, .ref aCd, .int (iI (cd)), .int (iI (at1)), .ref aKi, .ref aFi, .ref aSe]))] sz [(h0, .inr (8, [.int (iI (1)), .int (iI (ty)), .ref aTx, .int (bI (sh)), .ref aDt, .ref aFe, .ref aRu, .ref aTa, .ref aBe, .ref aEn, .ref aMa, .int (iI (wt)), .ref aEx, .ref aAb, .ref aCo, .int (iI (rd)), .ref aNt, .ref aNb, .ref aNe, .ref aCf, .ref aCd, .int (iI (cd)), .int (iI (at1)), .ref aKi, .ref aFi, .ref aSe]))] t) (va_A [(h0, .inr (8, [.int (iI (fa)), .int (iI (ty)), .ref aTx, .int (bI (sh)), .ref aDt, .ref aFe, .ref aRu, .ref aTa, .ref aBe, .ref aEn, .ref aMa, .int (iI (wt)), .ref aEx, .ref aAb, .ref aCo, .int (iI (rd)), .ref aNt, .ref aNb, .ref aNe, .ref aCf, .ref aCd, .int (iI (cd)), .int (iI (at1)), .ref aKi, .ref aFi, .ref aSe]))] sz)) 0 0 (va_A [(h0, .inr (8, [.int (iI (fa)), .int (iI (ty)), .ref aTx, .int (bI (sh)), .ref aDt, .ref aFe, .ref aRu, .ref aTa, .ref aBe, .ref aEn, .ref aMa, .int (iI (wt)), .ref aEx, .ref aAb, .ref aCo, .int (iI (rd)), .ref aNt, .ref aNb, .ref aNe, .ref aCf, .ref aCd, .int (iI (cd)), .int (iI (at1)), .ref aKi, .ref aFi, .ref aSe]))] sz) := by
  refine e_i (by decide) rfl (Nat.le_of_ble_eq_true rfl) ?_
  intro p e s m args below meth c Q ls hx hb hml hown hts hpre hl ret
  obtain ⟨hsz, hP, hK, hD0, hX⟩ := hpre
  subst hsz
  have hD := hD0.self (sz := s.heap.size)
  have hA : ∀ q : Nat, s.heap.size ≤ q → (va_A [(h0, .inr (8, [.int (iI (fa)), .int (iI (ty)), .ref aTx, .int (bI (sh)), .ref aDt, .ref aFe, .ref aRu, .ref aTa, .ref aBe, .ref aEn, .ref aMa, .int (iI (wt)), .ref aEx, .ref aAb, .ref aCo, .int (iI (rd)), .ref aNt, .ref aNb, .ref aNe, .ref aCf, .ref aCd, .int (iI (cd)), .int (iI (at1)), .ref aKi, .ref aFi, .ref aSe]))] s.heap.size) q := fun q h => Or.inr h
  have hS : va_S (va_A [(h0, .inr (8, [.int (iI (fa)), .int (iI (ty)), .ref aTx, .int (bI (sh)), .ref aDt, .ref aFe, .ref aRu, .ref aTa, .ref aBe, .ref aEn, .ref aMa, .int (iI (wt)), .ref aEx, .ref aAb, .ref aCo, .int (iI (rd)), .ref aNt, .ref aNb, .ref aNe, .ref aCf, .ref aCd, .int (iI (cd)), .int (iI (at1)), .ref aKi, .ref aFi, .ref aSe]))] s.heap.size) s.heap s.heap [] := va_S.rf
  have hl : lv_has ls 4 [(0, .ref h0), (1, .int (iI (z))), (2, .int (iI (q))), (3, .int (bI (sec)))] := hl
  obtain ⟨q1, q2⟩ := h1
  obtain ⟨q3, q4⟩ := h2
  refine lv_aload_n hx hb d_MD_elapsed_0 rfl (lv_at hl 0 rfl) ?_
  refine lv_iload_n hx hb d_MD_elapsed_1 rfl (lv_at hl 1 rfl) ?_
  refine z_if_lt (tgt := 22) hx hb d_MD_elapsed_2 (by decide) ⟨by omega, by omega⟩ (fun h2 => ?_) (fun h2 => ?_)
  · refine z_iconst hx hb d_MD_elapsed_22 ?_
    refine lv_goto (tgt := 27) hx hb d_MD_elapsed_23 (by decide) ?_
    have hPc := hP.sub (ws' := [(h0, .inr (8, [.int (iI (fa)), .int (iI (ty)), .ref aTx, .int (bI (sh)), .ref aDt, .ref aFe, .ref aRu, .ref aTa, .ref aBe, .ref aEn, .ref aMa, .int (iI (wt)), .ref aEx, .ref aAb, .ref aCo, .int (iI (rd)), .ref aNt, .ref aNb, .ref aNe, .ref aCf, .ref aCd, .int (iI (cd)), .int (iI (at1)), .ref aKi, .ref aFi, .ref aSe]))]) [0] rfl
    have hDc := hD.sub (ws' := [(h0, .inr (8, [.int (iI (fa)), .int (iI (ty)), .ref aTx, .int (bI (sh)), .ref aDt, .ref aFe, .ref aRu, .ref aTa, .ref aBe, .ref aEn, .ref aMa, .int (iI (wt)), .ref aEx, .ref aAb, .ref aCo, .int (iI (rd)), .ref aNt, .ref aNb, .ref aNe, .ref aCf, .ref aCd, .int (iI (cd)), .int (iI (at1)), .ref aKi, .ref aFi, .ref aSe]))]) [0] (by decide) rfl
    have hFc := va_free (wc := [(h0, .inr (8, [.int (iI (fa)), .int (iI (ty)), .ref aTx, .int (bI (sh)), .ref aDt, .ref aFe, .ref aRu, .ref aTa, .ref aBe, .ref aEn, .ref aMa, .int (iI (wt)), .ref aEx, .ref aAb, .ref aCo, .int (iI (rd)), .ref aNt, .ref aNb, .ref aNe, .ref aCf, .ref aCd, .int (iI (cd)), .int (iI (at1)), .ref aKi, .ref aFi, .ref aSe]))]) hD hS hA [0] rfl
    refine va_calli (va_runV (As := [.int (iI (1))]) (rest := []) (b := h0) ⟨hx, hb, hml, hown, hts⟩ (c_MD_refused l D k s.heap.size (h0) (aTx) (aDt) (aFe) (aRu) (aTa) (aBe) (aEn) (aMa) (aEx) (aAb) (aCo) (aNt) (aNb) (aNe) (aCf) (aCd) (aKi) (aFi) (aSe) (fa) (ty) (sh) (wt) (rd) (cd) (at1) (1) (⟨by omega, by omega⟩)) ⟨callB_of 1 hts (good_MD_refused) rfl rfl rfl (hts _ k_67) (hts _ k_820) (by decide +kernel) ⟨Nat.le_of_ble_eq_true rfl, Nat.le_of_ble_eq_true rfl⟩, (hts _ k_822), (hts _ k_28)⟩ ⟨fun a U g mk q => ⟨q.1, q.2.1, q.2.2.1, va_K.moved (u := U) (U := U.calling g mk a) (Vm.Alike.refl U.vm) q.2.2.2.1, q.2.2.2.2.1, q.2.2.2.2.2.calling⟩, (va_recv (q0 := 0) hK hP rfl rfl), fun U hU hW => ⟨rfl, by rw [hU], by rw [hU]; exact hPc, va_K.moved hW.alike hK, hDc.weaken (fun _ _ _ _ => trivial), by rw [hU]; exact (hX.mono hS hFc).warm hW⟩⟩ rfl rfl hl.1 rfl (lv_room (Nat.le_of_ble_eq_true rfl)) d_MD_elapsed_27 ⟨Nat.le_of_ble_eq_true rfl, Nat.le_of_ble_eq_true rfl⟩) hS (fun q _ h => hFc q h) hFc (fun xr_1 xu_2 t H1 locs ht hvm h_xr_1 hB hz1 hk1 hS => ?_)
    obtain ⟨hP1, hD1⟩ := hB
    rw [ht] at hP1
    obtain ⟨hP, hD⟩ := va_join (wr := []) (w1 := [(h0, .inr (8, [.int (iI ((rfF 1).2)), .int (iI (ty)), .ref aTx, .int (bI (sh)), .ref aDt, .ref aFe, .ref aRu, .ref aTa, .ref aBe, .ref aEn, .ref aMa, .int (iI (wt)), .ref aEx, .ref aAb, .ref aCo, .int (iI (rd)), .ref aNt, .ref aNb, .ref aNe, .ref aCf, .ref aCd, .int (iI (cd)), .int (iI (at1)), .ref aKi, .ref aFi, .ref aSe]))]) hP hD [0] [] rfl rfl (by decide) (by decide) hk1 hFc hP1 hD1
    generalize H1 = H at hP hS ⊢
    have hP := hP.sub (ws' := [(h0, .inr (8, [.int (iI ((rfF 1).2)), .int (iI (ty)), .ref aTx, .int (bI (sh)), .ref aDt, .ref aFe, .ref aRu, .ref aTa, .ref aBe, .ref aEn, .ref aMa, .int (iI (wt)), .ref aEx, .ref aAb, .ref aCo, .int (iI (rd)), .ref aNt, .ref aNb, .ref aNe, .ref aCf, .ref aCd, .int (iI (cd)), .int (iI (at1)), .ref aKi, .ref aFi, .ref aSe]))]) [0] rfl
    have hD := hD.sub (ws' := [(h0, .inr (8, [.int (iI ((rfF 1).2)), .int (iI (ty)), .ref aTx, .int (bI (sh)), .ref aDt, .ref aFe, .ref aRu, .ref aTa, .ref aBe, .ref aEn, .ref aMa, .int (iI (wt)), .ref aEx, .ref aAb, .ref aCo, .int (iI (rd)), .ref aNt, .ref aNb, .ref aNe, .ref aCf, .ref aCd, .int (iI (cd)), .int (iI (at1)), .ref aKi, .ref aFi, .ref aSe]))]) [0] (by decide) rfl
    subst h_xr_1
    refine b_if_eq (tgt := 35) hx hb d_MD_elapsed_30 (by decide) (fun h30 => absurd h30 (by decide)) (fun h30 => ?_)
    refine z_iconst hx hb d_MD_elapsed_33 ?_
    exact ret _ _ _ 34 (iI (0)) () d_MD_elapsed_34 hS (rfl) (fun t ht _ => ⟨by rw [ht]; exact hP, hD⟩)
  · refine lv_iload_n hx hb d_MD_elapsed_5 rfl (lv_at hl 1 rfl) ?_
    refine z_sipush hx hb d_MD_elapsed_6 (by decide) ?_
    refine z_icmp_ge (tgt := 22) hx hb d_MD_elapsed_9 (by decide) ⟨by omega, by omega⟩ ⟨by omega, by omega⟩ (fun h9 => ?_) (fun h9 => ?_)
    · refine z_iconst hx hb d_MD_elapsed_22 ?_
      refine lv_goto (tgt := 27) hx hb d_MD_elapsed_23 (by decide) ?_
      have hPc := hP.sub (ws' := [(h0, .inr (8, [.int (iI (fa)), .int (iI (ty)), .ref aTx, .int (bI (sh)), .ref aDt, .ref aFe, .ref aRu, .ref aTa, .ref aBe, .ref aEn, .ref aMa, .int (iI (wt)), .ref aEx, .ref aAb, .ref aCo, .int (iI (rd)), .ref aNt, .ref aNb, .ref aNe, .ref aCf, .ref aCd, .int (iI (cd)), .int (iI (at1)), .ref aKi, .ref aFi, .ref aSe]))]) [0] rfl
      have hDc := hD.sub (ws' := [(h0, .inr (8, [.int (iI (fa)), .int (iI (ty)), .ref aTx, .int (bI (sh)), .ref aDt, .ref aFe, .ref aRu, .ref aTa, .ref aBe, .ref aEn, .ref aMa, .int (iI (wt)), .ref aEx, .ref aAb, .ref aCo, .int (iI (rd)), .ref aNt, .ref aNb, .ref aNe, .ref aCf, .ref aCd, .int (iI (cd)), .int (iI (at1)), .ref aKi, .ref aFi, .ref aSe]))]) [0] (by decide) rfl
      have hFc := va_free (wc := [(h0, .inr (8, [.int (iI (fa)), .int (iI (ty)), .ref aTx, .int (bI (sh)), .ref aDt, .ref aFe, .ref aRu, .ref aTa, .ref aBe, .ref aEn, .ref aMa, .int (iI (wt)), .ref aEx, .ref aAb, .ref aCo, .int (iI (rd)), .ref aNt, .ref aNb, .ref aNe, .ref aCf, .ref aCd, .int (iI (cd)), .int (iI (at1)), .ref aKi, .ref aFi, .ref aSe]))]) hD hS hA [0] rfl
      refine va_calli (va_runV (As := [.int (iI (1))]) (rest := []) (b := h0) ⟨hx, hb, hml, hown, hts⟩ (c_MD_refused l D k s.heap.size (h0) (aTx) (aDt) (aFe) (aRu) (aTa) (aBe) (aEn) (aMa) (aEx) (aAb) (aCo) (aNt) (aNb) (aNe) (aCf) (aCd) (aKi) (aFi) (aSe) (fa) (ty) (sh) (wt) (rd) (cd) (at1) (1) (⟨by omega, by omega⟩)) ⟨callB_of 1 hts (good_MD_refused) rfl rfl rfl (hts _ k_67) (hts _ k_820) (by decide +kernel) ⟨Nat.le_of_ble_eq_true rfl, Nat.le_of_ble_eq_true rfl⟩, (hts _ k_822), (hts _ k_28)⟩ ⟨fun a U g mk q => ⟨q.1, q.2.1, q.2.2.1, va_K.moved (u := U) (U := U.calling g mk a) (Vm.Alike.refl U.vm) q.2.2.2.1, q.2.2.2.2.1, q.2.2.2.2.2.calling⟩, (va_recv (q0 := 0) hK hP rfl rfl), fun U hU hW => ⟨rfl, by rw [hU], by rw [hU]; exact hPc, va_K.moved hW.alike hK, hDc.weaken (fun _ _ _ _ => trivial), by rw [hU]; exact (hX.mono hS hFc).warm hW⟩⟩ rfl rfl hl.1 rfl (lv_room (Nat.le_of_ble_eq_true rfl)) d_MD_elapsed_27 ⟨Nat.le_of_ble_eq_true rfl, Nat.le_of_ble_eq_true rfl⟩) hS (fun q _ h => hFc q h) hFc (fun xr_3 xu_4 t H1 locs ht hvm h_xr_3 hB hz1 hk1 hS => ?_)
      obtain ⟨hP1, hD1⟩ := hB
      rw [ht] at hP1
      obtain ⟨hP, hD⟩ := va_join (wr := []) (w1 := [(h0, .inr (8, [.int (iI ((rfF 1).2)), .int (iI (ty)), .ref aTx, .int (bI (sh)), .ref aDt, .ref aFe, .ref aRu, .ref aTa, .ref aBe, .ref aEn, .ref aMa, .int (iI (wt)), .ref aEx, .ref aAb, .ref aCo, .int (iI (rd)), .ref aNt, .ref aNb, .ref aNe, .ref aCf, .ref aCd, .int (iI (cd)), .int (iI (at1)), .ref aKi, .ref aFi, .ref aSe]))]) hP hD [0] [] rfl rfl (by decide) (by decide) hk1 hFc hP1 hD1
      generalize H1 = H at hP hS ⊢
      have hP := hP.sub (ws' := [(h0, .inr (8, [.int (iI ((rfF 1).2)), .int (iI (ty)), .ref aTx, .int (bI (sh)), .ref aDt, .ref aFe, .ref aRu, .ref aTa, .ref aBe, .ref aEn, .ref aMa, .int (iI (wt)), .ref aEx, .ref aAb, .ref aCo, .int (iI (rd)), .ref aNt, .ref aNb, .ref aNe, .ref aCf, .ref aCd, .int (iI (cd)), .int (iI (at1)), .ref aKi, .ref aFi, .ref aSe]))]) [0] rfl
      have hD := hD.sub (ws' := [(h0, .inr (8, [.int (iI ((rfF 1).2)), .int (iI (ty)), .ref aTx, .int (bI (sh)), .ref aDt, .ref aFe, .ref aRu, .ref aTa, .ref aBe, .ref aEn, .ref aMa, .int (iI (wt)), .ref aEx, .ref aAb, .ref aCo, .int (iI (rd)), .ref aNt, .ref aNb, .ref aNe, .ref aCf, .ref aCd, .int (iI (cd)), .int (iI (at1)), .ref aKi, .ref aFi, .ref aSe]))]) [0] (by decide) rfl
      subst h_xr_3
      refine b_if_eq (tgt := 35) hx hb d_MD_elapsed_30 (by decide) (fun h30 => absurd h30 (by decide)) (fun h30 => ?_)
      refine z_iconst hx hb d_MD_elapsed_33 ?_
      exact ret _ _ _ 34 (iI (0)) () d_MD_elapsed_34 hS (rfl) (fun t ht _ => ⟨by rw [ht]; exact hP, hD⟩)
    · refine lv_iload_n hx hb d_MD_elapsed_12 rfl (lv_at hl 2 rfl) ?_
      refine z_if_lt (tgt := 22) hx hb d_MD_elapsed_13 (by decide) ⟨by omega, by omega⟩ (fun h13 => ?_) (fun h13 => ?_)
      · refine z_iconst hx hb d_MD_elapsed_22 ?_
        refine lv_goto (tgt := 27) hx hb d_MD_elapsed_23 (by decide) ?_
        have hPc := hP.sub (ws' := [(h0, .inr (8, [.int (iI (fa)), .int (iI (ty)), .ref aTx, .int (bI (sh)), .ref aDt, .ref aFe, .ref aRu, .ref aTa, .ref aBe, .ref aEn, .ref aMa, .int (iI (wt)), .ref aEx, .ref aAb, .ref aCo, .int (iI (rd)), .ref aNt, .ref aNb, .ref aNe, .ref aCf, .ref aCd, .int (iI (cd)), .int (iI (at1)), .ref aKi, .ref aFi, .ref aSe]))]) [0] rfl
        have hDc := hD.sub (ws' := [(h0, .inr (8, [.int (iI (fa)), .int (iI (ty)), .ref aTx, .int (bI (sh)), .ref aDt, .ref aFe, .ref aRu, .ref aTa, .ref aBe, .ref aEn, .ref aMa, .int (iI (wt)), .ref aEx, .ref aAb, .ref aCo, .int (iI (rd)), .ref aNt, .ref aNb, .ref aNe, .ref aCf, .ref aCd, .int (iI (cd)), .int (iI (at1)), .ref aKi, .ref aFi, .ref aSe]))]) [0] (by decide) rfl
        have hFc := va_free (wc := [(h0, .inr (8, [.int (iI (fa)), .int (iI (ty)), .ref aTx, .int (bI (sh)), .ref aDt, .ref aFe, .ref aRu, .ref aTa, .ref aBe, .ref aEn, .ref aMa, .int (iI (wt)), .ref aEx, .ref aAb, .ref aCo, .int (iI (rd)), .ref aNt, .ref aNb, .ref aNe, .ref aCf, .ref aCd, .int (iI (cd)), .int (iI (at1)), .ref aKi, .ref aFi, .ref aSe]))]) hD hS hA [0] rfl
        refine va_calli (va_runV (As := [.int (iI (1))]) (rest := []) (b := h0) ⟨hx, hb, hml, hown, hts⟩ (c_MD_refused l D k s.heap.size (h0) (aTx) (aDt) (aFe) (aRu) (aTa) (aBe) (aEn) (aMa) (aEx) (aAb) (aCo) (aNt) (aNb) (aNe) (aCf) (aCd) (aKi) (aFi) (aSe) (fa) (ty) (sh) (wt) (rd) (cd) (at1) (1) (⟨by omega, by omega⟩)) ⟨callB_of 1 hts (good_MD_refused) rfl rfl rfl (hts _ k_67) (hts _ k_820) (by decide +kernel) ⟨Nat.le_of_ble_eq_true rfl, Nat.le_of_ble_eq_true rfl⟩, (hts _ k_822), (hts _ k_28)⟩ ⟨fun a U g mk q => ⟨q.1, q.2.1, q.2.2.1, va_K.moved (u := U) (U := U.calling g mk a) (Vm.Alike.refl U.vm) q.2.2.2.1, q.2.2.2.2.1, q.2.2.2.2.2.calling⟩, (va_recv (q0 := 0) hK hP rfl rfl), fun U hU hW => ⟨rfl, by rw [hU], by rw [hU]; exact hPc, va_K.moved hW.alike hK, hDc.weaken (fun _ _ _ _ => trivial), by rw [hU]; exact (hX.mono hS hFc).warm hW⟩⟩ rfl rfl hl.1 rfl (lv_room (Nat.le_of_ble_eq_true rfl)) d_MD_elapsed_27 ⟨Nat.le_of_ble_eq_true rfl, Nat.le_of_ble_eq_true rfl⟩) hS (fun q _ h => hFc q h) hFc (fun xr_5 xu_6 t H1 locs ht hvm h_xr_5 hB hz1 hk1 hS => ?_)
        obtain ⟨hP1, hD1⟩ := hB
        rw [ht] at hP1
        obtain ⟨hP, hD⟩ := va_join (wr := []) (w1 := [(h0, .inr (8, [.int (iI ((rfF 1).2)), .int (iI (ty)), .ref aTx, .int (bI (sh)), .ref aDt, .ref aFe, .ref aRu, .ref aTa, .ref aBe, .ref aEn, .ref aMa, .int (iI (wt)), .ref aEx, .ref aAb, .ref aCo, .int (iI (rd)), .ref aNt, .ref aNb, .ref aNe, .ref aCf, .ref aCd, .int (iI (cd)), .int (iI (at1)), .ref aKi, .ref aFi, .ref aSe]))]) hP hD [0] [] rfl rfl (by decide) (by decide) hk1 hFc hP1 hD1
        generalize H1 = H at hP hS ⊢
        have hP := hP.sub (ws' := [(h0, .inr (8, [.int (iI ((rfF 1).2)), .int (iI (ty)), .ref aTx, .int (bI (sh)), .ref aDt, .ref aFe, .ref aRu, .ref aTa, .ref aBe, .ref aEn, .ref aMa, .int (iI (wt)), .ref aEx, .ref aAb, .ref aCo, .int (iI (rd)), .ref aNt, .ref aNb, .ref aNe, .ref aCf, .ref aCd, .int (iI (cd)), .int (iI (at1)), .ref aKi, .ref aFi, .ref aSe]))]) [0] rfl
        have hD := hD.sub (ws' := [(h0, .inr (8, [.int (iI ((rfF 1).2)), .int (iI (ty)), .ref aTx, .int (bI (sh)), .ref aDt, .ref aFe, .ref aRu, .ref aTa, .ref aBe, .ref aEn, .ref aMa, .int (iI (wt)), .ref aEx, .ref aAb, .ref aCo, .int (iI (rd)), .ref aNt, .ref aNb, .ref aNe, .ref aCf, .ref aCd, .int (iI (cd)), .int (iI (at1)), .ref aKi, .ref aFi, .ref aSe]))]) [0] (by decide) rfl
        subst h_xr_5
        refine b_if_eq (tgt := 35) hx hb d_MD_elapsed_30 (by decide) (fun h30 => absurd h30 (by decide)) (fun h30 => ?_)
        refine z_iconst hx hb d_MD_elapsed_33 ?_
        exact ret _ _ _ 34 (iI (0)) () d_MD_elapsed_34 hS (rfl) (fun t ht _ => ⟨by rw [ht]; exact hP, hD⟩)
      · refine lv_iload_n hx hb d_MD_elapsed_16 rfl (lv_at hl 2 rfl) ?_
        refine z_bipush hx hb d_MD_elapsed_17 (by decide) ?_
        refine z_icmp_le (tgt := 26) hx hb d_MD_elapsed_19 (by decide) ⟨by omega, by omega⟩ ⟨by omega, by omega⟩ (fun h19 => ?_) (fun h19 => ?_)
        · exact absurd hb0 (by omega)
        · refine z_iconst hx hb d_MD_elapsed_22 ?_
          refine lv_goto (tgt := 27) hx hb d_MD_elapsed_23 (by decide) ?_
          have hPc := hP.sub (ws' := [(h0, .inr (8, [.int (iI (fa)), .int (iI (ty)), .ref aTx, .int (bI (sh)), .ref aDt, .ref aFe, .ref aRu, .ref aTa, .ref aBe, .ref aEn, .ref aMa, .int (iI (wt)), .ref aEx, .ref aAb, .ref aCo, .int (iI (rd)), .ref aNt, .ref aNb, .ref aNe, .ref aCf, .ref aCd, .int (iI (cd)), .int (iI (at1)), .ref aKi, .ref aFi, .ref aSe]))]) [0] rfl
          have hDc := hD.sub (ws' := [(h0, .inr (8, [.int (iI (fa)), .int (iI (ty)), .ref aTx, .int (bI (sh)), .ref aDt, .ref aFe, .ref aRu, .ref aTa, .ref aBe, .ref aEn, .ref aMa, .int (iI (wt)), .ref aEx, .ref aAb, .ref aCo, .int (iI (rd)), .ref aNt, .ref aNb, .ref aNe, .ref aCf, .ref aCd, .int (iI (cd)), .int (iI (at1)), .ref aKi, .ref aFi, .ref aSe]))]) [0] (by decide) rfl
          have hFc := va_free (wc := [(h0, .inr (8, [.int (iI (fa)), .int (iI (ty)), .ref aTx, .int (bI (sh)), .ref aDt, .ref aFe, .ref aRu, .ref aTa, .ref aBe, .ref aEn, .ref aMa, .int (iI (wt)), .ref aEx, .ref aAb, .ref aCo, .int (iI (rd)), .ref aNt, .ref aNb, .ref aNe, .ref aCf, .ref aCd, .int (iI (cd)), .int (iI (at1)), .ref aKi, .ref aFi, .ref aSe]))]) hD hS hA [0] rfl
          refine va_calli (va_runV (As := [.int (iI (1))]) (rest := []) (b := h0) ⟨hx, hb, hml, hown, hts⟩ (c_MD_refused l D k s.heap.size (h0) (aTx) (aDt) (aFe) (aRu) (aTa) (aBe) (aEn) (aMa) (aEx) (aAb) (aCo) (aNt) (aNb) (aNe) (aCf) (aCd) (aKi) (aFi) (aSe) (fa) (ty) (sh) (wt) (rd) (cd) (at1) (1) (⟨by omega, by omega⟩)) ⟨callB_of 1 hts (good_MD_refused) rfl rfl rfl (hts _ k_67) (hts _ k_820) (by decide +kernel) ⟨Nat.le_of_ble_eq_true rfl, Nat.le_of_ble_eq_true rfl⟩, (hts _ k_822), (hts _ k_28)⟩ ⟨fun a U g mk q => ⟨q.1, q.2.1, q.2.2.1, va_K.moved (u := U) (U := U.calling g mk a) (Vm.Alike.refl U.vm) q.2.2.2.1, q.2.2.2.2.1, q.2.2.2.2.2.calling⟩, (va_recv (q0 := 0) hK hP rfl rfl), fun U hU hW => ⟨rfl, by rw [hU], by rw [hU]; exact hPc, va_K.moved hW.alike hK, hDc.weaken (fun _ _ _ _ => trivial), by rw [hU]; exact (hX.mono hS hFc).warm hW⟩⟩ rfl rfl hl.1 rfl (lv_room (Nat.le_of_ble_eq_true rfl)) d_MD_elapsed_27 ⟨Nat.le_of_ble_eq_true rfl, Nat.le_of_ble_eq_true rfl⟩) hS (fun q _ h => hFc q h) hFc (fun xr_7 xu_8 t H1 locs ht hvm h_xr_7 hB hz1 hk1 hS => ?_)
          obtain ⟨hP1, hD1⟩ := hB
          rw [ht] at hP1
          obtain ⟨hP, hD⟩ := va_join (wr := []) (w1 := [(h0, .inr (8, [.int (iI ((rfF 1).2)), .int (iI (ty)), .ref aTx, .int (bI (sh)), .ref aDt, .ref aFe, .ref aRu, .ref aTa, .ref aBe, .ref aEn, .ref aMa, .int (iI (wt)), .ref aEx, .ref aAb, .ref aCo, .int (iI (rd)), .ref aNt, .ref aNb, .ref aNe, .ref aCf, .ref aCd, .int (iI (cd)), .int (iI (at1)), .ref aKi, .ref aFi, .ref aSe]))]) hP hD [0] [] rfl rfl (by decide) (by decide) hk1 hFc hP1 hD1
          generalize H1 = H at hP hS ⊢
          have hP := hP.sub (ws' := [(h0, .inr (8, [.int (iI ((rfF 1).2)), .int (iI (ty)), .ref aTx, .int (bI (sh)), .ref aDt, .ref aFe, .ref aRu, .ref aTa, .ref aBe, .ref aEn, .ref aMa, .int (iI (wt)), .ref aEx, .ref aAb, .ref aCo, .int (iI (rd)), .ref aNt, .ref aNb, .ref aNe, .ref aCf, .ref aCd, .int (iI (cd)), .int (iI (at1)), .ref aKi, .ref aFi, .ref aSe]))]) [0] rfl
          have hD := hD.sub (ws' := [(h0, .inr (8, [.int (iI ((rfF 1).2)), .int (iI (ty)), .ref aTx, .int (bI (sh)), .ref aDt, .ref aFe, .ref aRu, .ref aTa, .ref aBe, .ref aEn, .ref aMa, .int (iI (wt)), .ref aEx, .ref aAb, .ref aCo, .int (iI (rd)), .ref aNt, .ref aNb, .ref aNe, .ref aCf, .ref aCd, .int (iI (cd)), .int (iI (at1)), .ref aKi, .ref aFi, .ref aSe]))]) [0] (by decide) rfl
          subst h_xr_7
          refine b_if_eq (tgt := 35) hx hb d_MD_elapsed_30 (by decide) (fun h30 => absurd h30 (by decide)) (fun h30 => ?_)
          refine z_iconst hx hb d_MD_elapsed_33 ?_
          exact ret _ _ _ 34 (iI (0)) () d_MD_elapsed_34 hS (rfl) (fun t ht _ => ⟨by rw [ht]; exact hP, hD⟩)

def mwpF (ty : Int) : Int × Int × Int := (ty, 0, 0)
set_option maxHeartbeats 4000000 in
set_option maxRecDepth 100000 in
theorem c_MD_wipe (l : Launch) (D : va_G) (k : Nat → ClassId) (sz : Nat) (h0 aTx aDt aFe aRu aTa aBe aEn aMa aEx aAb aCo aNt aNb aNe aCf aCd aKi aFi aSe : Nat) (fa : Int) (ty : Int) (sh : Bool) (wt : Int) (rd : Int) (cd : Int) (at1 : Int) : Met l y_MD_wipe wd_MD_wipe rm_MD_wipe (va_Pc [.ref h0] (PRW D k [(h0, .inr (8, [.int (iI (fa)), .int (iI (ty)), .ref aTx, .int (bI (sh)), .ref aDt, .ref aFe, .ref aRu, .ref aTa, .ref aBe, .ref aEn, .ref aMa, .int (iI (wt)), .ref aEx, .ref aAb, .ref aCo, .int (iI (rd)), .ref aNt, .ref aNb, .ref aNe, .ref aCf, .ref aCd, .int (iI (cd)), .int (iI (at1)), .ref aKi, .ref aFi, .ref aSe]))] sz)) (va_Qi (fun (r : Int32) (u : Unit) => r = (iI ((mwpF ty).1))) (fun _ t => BRW D [(h0, .inr (8, [.int (iI (fa)), .int (iI (ty)), .ref aTx, .int (bI (sh)), .ref aDt, .ref aFe, .ref aRu, .ref aTa, .ref aBe, .ref aEn, .ref aMa, .int (iI (wt)), .ref aEx, .ref aAb, .ref aCo, .int (iI (rd)), .ref aNt, .ref aNb, .ref aNe, .ref aCf, .ref aCd, .int (iI (cd)), .int (iI (at1)), .ref aKi, .ref aFi, .ref aSe]))] sz [(h0, .inr (8, [.int (iI ((mwpF ty).2.1)), .int (iI ((mwpF ty).2.2)), .ref aTx, .int (bI (sh)), .ref aDt, .ref aFe, .ref aRu, .ref aTa, .ref aBe, .ref aEn, .ref aMa, .int (iI (wt)), .ref aEx, .ref aAb, .ref aCo, .int (iI (rd)), .ref aNt, .ref aNb, .ref aNe, .ref aCf, .ref aCd, .int (iI (cd)), .int (iI (at1)), .ref aKi, .ref aFi, .ref aSe]))] t) (va_A [(h0, .inr (8, [.int (iI (fa)), .int (iI (ty)), .ref aTx, .int (bI (sh)), .ref aDt, .ref aFe, .ref aRu, .ref aTa, .ref aBe, .ref aEn, .ref aMa, .int (iI (wt)), .ref aEx, .ref aAb, .ref aCo, .int (iI (rd)), .ref aNt, .ref aNb, .ref aNe, .ref aCf, .ref aCd, .int (iI (cd)), .int (iI (at1)), .ref aKi, .ref aFi, .ref aSe]))] sz)) 0 0 (va_A [(h0, .inr (8, [.int (iI (fa)), .int (iI (ty)), .ref aTx, .int (bI (sh)), .ref aDt, .ref aFe, .ref aRu, .ref aTa, .ref aBe, .ref aEn, .ref aMa, .int (iI (wt)), .ref aEx, .ref aAb, .ref aCo, .int (iI (rd)), .ref aNt, .ref aNb, .ref aNe, .ref aCf, .ref aCd, .int (iI (cd)), .int (iI (at1)), .ref aKi, .ref aFi, .ref aSe]))] sz) := by
  refine e_i (by decide) rfl (Nat.le_of_ble_eq_true rfl) ?_
  intro p e s m args below meth c Q ls hx hb hml hown hts hpre hl ret
  obtain ⟨hsz, hP, hK, hD0, hX⟩ := hpre
  subst hsz
  have hD := hD0.self (sz := s.heap.size)
  have hA : ∀ q : Nat, s.heap.size ≤ q → (va_A [(h0, .inr (8, [.int (iI (fa)), .int (iI (ty)), .ref aTx, .int (bI (sh)), .ref aDt, .ref aFe, .ref aRu, .ref aTa, .ref aBe, .ref aEn, .ref aMa, .int (iI (wt)), .ref aEx, .ref aAb, .ref aCo, .int (iI (rd)), .ref aNt, .ref aNb, .ref aNe, .ref aCf, .ref aCd, .int (iI (cd)), .int (iI (at1)), .ref aKi, .ref aFi, .ref aSe]))] s.heap.size) q := fun q h => Or.inr h
  have hS : va_S (va_A [(h0, .inr (8, [.int (iI (fa)), .int (iI (ty)), .ref aTx, .int (bI (sh)), .ref aDt, .ref aFe, .ref aRu, .ref aTa, .ref aBe, .ref aEn, .ref aMa, .int (iI (wt)), .ref aEx, .ref aAb, .ref aCo, .int (iI (rd)), .ref aNt, .ref aNb, .ref aNe, .ref aCf, .ref aCd, .int (iI (cd)), .int (iI (at1)), .ref aKi, .ref aFi, .ref aSe]))] s.heap.size) s.heap s.heap [] := va_S.rf
  have hl : lv_has ls 2 [(0, .ref h0)] := hl
  refine lv_aload_n hx hb d_MD_wipe_0 rfl (lv_at hl 0 rfl) ?_
  refine z_iconst hx hb d_MD_wipe_1 ?_
  refine va_put (D := D) (ci := 8) (v := .int (iI (0))) (ty := .int) (C := R_MD) (T := F_MD) (N := 26) hx hb hts in_MD t_MD t_MD_ok n_MD hown hK hP hD hS 0 rfl rfl 0 (by decide) (hts _ k_733) (fun _ h9 => h9) rfl (by decide +kernel) rfl rfl (Nat.le_of_ble_eq_true rfl) d_MD_wipe_2 (fun H locs hP hD hS => ?_)
  have hP : va_P D classes [(h0, .inr (8, [.int (iI (0)), .int (iI (ty)), .ref aTx, .int (bI (sh)), .ref aDt, .ref aFe, .ref aRu, .ref aTa, .ref aBe, .ref aEn, .ref aMa, .int (iI (wt)), .ref aEx, .ref aAb, .ref aCo, .int (iI (rd)), .ref aNt, .ref aNb, .ref aNe, .ref aCf, .ref aCd, .int (iI (cd)), .int (iI (at1)), .ref aKi, .ref aFi, .ref aSe]))] H := hP
  have hD : va_D (va_A [(h0, .inr (8, [.int (iI (fa)), .int (iI (ty)), .ref aTx, .int (bI (sh)), .ref aDt, .ref aFe, .ref aRu, .ref aTa, .ref aBe, .ref aEn, .ref aMa, .int (iI (wt)), .ref aEx, .ref aAb, .ref aCo, .int (iI (rd)), .ref aNt, .ref aNb, .ref aNe, .ref aCf, .ref aCd, .int (iI (cd)), .int (iI (at1)), .ref aKi, .ref aFi, .ref aSe]))] s.heap.size) [(h0, .inr (8, [.int (iI (0)), .int (iI (ty)), .ref aTx, .int (bI (sh)), .ref aDt, .ref aFe, .ref aRu, .ref aTa, .ref aBe, .ref aEn, .ref aMa, .int (iI (wt)), .ref aEx, .ref aAb, .ref aCo, .int (iI (rd)), .ref aNt, .ref aNb, .ref aNe, .ref aCf, .ref aCd, .int (iI (cd)), .int (iI (at1)), .ref aKi, .ref aFi, .ref aSe]))] := hD
  refine lv_aload_n hx hb d_MD_wipe_5 rfl (lv_at hl 0 rfl) ?_
  refine va_get (D := D) (ci := 8) (v := .int (iI (ty))) (C := R_MD) (T := F_MD) (N := 26) hx hb hts in_MD hown hK hP 0 rfl rfl 1 (by decide) (hts _ k_734) (fun _ h9 => h9) rfl d_MD_wipe_6 ?_
  refine lv_istore_n (lv' := [(1, .int (iI (ty))), (0, .ref h0)]) hx hb d_MD_wipe_9 rfl hl (by decide) rfl (fun ls hl => ?_)
  refine lv_aload_n hx hb d_MD_wipe_10 rfl (lv_at hl 1 rfl) ?_
  refine z_iconst hx hb d_MD_wipe_11 ?_
  refine va_put (D := D) (ci := 8) (v := .int (iI (0))) (ty := .int) (C := R_MD) (T := F_MD) (N := 26) hx hb hts in_MD t_MD t_MD_ok n_MD hown hK hP hD hS 0 rfl rfl 1 (by decide) (hts _ k_734) (fun _ h9 => h9) rfl (by decide +kernel) rfl rfl (Nat.le_of_ble_eq_true rfl) d_MD_wipe_12 (fun H locs hP hD hS => ?_)
  have hP : va_P D classes [(h0, .inr (8, [.int (iI (0)), .int (iI (0)), .ref aTx, .int (bI (sh)), .ref aDt, .ref aFe, .ref aRu, .ref aTa, .ref aBe, .ref aEn, .ref aMa, .int (iI (wt)), .ref aEx, .ref aAb, .ref aCo, .int (iI (rd)), .ref aNt, .ref aNb, .ref aNe, .ref aCf, .ref aCd, .int (iI (cd)), .int (iI (at1)), .ref aKi, .ref aFi, .ref aSe]))] H := hP
  have hD : va_D (va_A [(h0, .inr (8, [.int (iI (fa)), .int (iI (ty)), .ref aTx, .int (bI (sh)), .ref aDt, .ref aFe, .ref aRu, .ref aTa, .ref aBe, .ref aEn, .ref aMa, .int (iI (wt)), .ref aEx, .ref aAb, .ref aCo, .int (iI (rd)), .ref aNt, .ref aNb, .ref aNe, .ref aCf, .ref aCd, .int (iI (cd)), .int (iI (at1)), .ref aKi, .ref aFi, .ref aSe]))] s.heap.size) [(h0, .inr (8, [.int (iI (0)), .int (iI (0)), .ref aTx, .int (bI (sh)), .ref aDt, .ref aFe, .ref aRu, .ref aTa, .ref aBe, .ref aEn, .ref aMa, .int (iI (wt)), .ref aEx, .ref aAb, .ref aCo, .int (iI (rd)), .ref aNt, .ref aNb, .ref aNe, .ref aCf, .ref aCd, .int (iI (cd)), .int (iI (at1)), .ref aKi, .ref aFi, .ref aSe]))] := hD
  refine lv_iload_n hx hb d_MD_wipe_15 rfl (lv_at hl 0 rfl) ?_
  have e9 : mwpF ty = (ty, 0, 0) := rfl
  exact ret _ _ _ 16 (iI (ty)) () d_MD_wipe_16 hS ((congrArg (fun q9 => iI q9.1) e9).symm) (fun t ht _ => ⟨by rw [e9, ht]; exact hP, by rw [e9]; exact hD⟩)

def mtyF (ty : Int) (tx : Nat → Int) (ch : Int) : Bool × Int × Int × (Nat → Int) := (if ch < 32 then (false, 0, ty, tx) else (if 126 < ch then (false, 0, ty, tx) else (if ty = 100 then (false, 0, ty, tx) else (true, 0, ty + 1, updZ (tx) ((ty).toNat) (ch)))))
set_option maxHeartbeats 4000000 in
set_option maxRecDepth 100000 in
theorem c_MD_type (l : Launch) (D : va_G) (k : Nat → ClassId) (sz : Nat) (h0 aTx aDt aFe aRu aTa aBe aEn aMa aEx aAb aCo aNt aNb aNe aCf aCd aKi aFi aSe : Nat) (fa : Int) (ty : Int) (sh : Bool) (wt : Int) (rd : Int) (cd : Int) (at1 : Int) (tx : Nat → Int) (ch : Int) (hl : 0 ≤ ty ∧ ty ≤ 100) (hch : 0 ≤ ch ∧ ch ≤ 65535) : Met l y_MD_type wd_MD_type rm_MD_type (va_Pc [.ref h0, .int (iI (ch))] (PRW D k [(h0, .inr (8, [.int (iI (fa)), .int (iI (ty)), .ref aTx, .int (bI (sh)), .ref aDt, .ref aFe, .ref aRu, .ref aTa, .ref aBe, .ref aEn, .ref aMa, .int (iI (wt)), .ref aEx, .ref aAb, .ref aCo, .int (iI (rd)), .ref aNt, .ref aNb, .ref aNe, .ref aCf, .ref aCd, .int (iI (cd)), .int (iI (at1)), .ref aKi, .ref aFi, .ref aSe])), (aTx, .inl (k 0, 100, .inl (aZ (tx))))] sz)) (va_Qi (fun (r : Int32) (u : Unit) => r = (bI ((mtyF ty tx ch).1))) (fun _ t => BRW D [(h0, .inr (8, [.int (iI (fa)), .int (iI (ty)), .ref aTx, .int (bI (sh)), .ref aDt, .ref aFe, .ref aRu, .ref aTa, .ref aBe, .ref aEn, .ref aMa, .int (iI (wt)), .ref aEx, .ref aAb, .ref aCo, .int (iI (rd)), .ref aNt, .ref aNb, .ref aNe, .ref aCf, .ref aCd, .int (iI (cd)), .int (iI (at1)), .ref aKi, .ref aFi, .ref aSe])), (aTx, .inl (k 0, 100, .inl (aZ (tx))))] sz [(h0, .inr (8, [.int (iI ((mtyF ty tx ch).2.1)), .int (iI ((mtyF ty tx ch).2.2.1)), .ref aTx, .int (bI (sh)), .ref aDt, .ref aFe, .ref aRu, .ref aTa, .ref aBe, .ref aEn, .ref aMa, .int (iI (wt)), .ref aEx, .ref aAb, .ref aCo, .int (iI (rd)), .ref aNt, .ref aNb, .ref aNe, .ref aCf, .ref aCd, .int (iI (cd)), .int (iI (at1)), .ref aKi, .ref aFi, .ref aSe])), (aTx, .inl (k 0, 100, .inl (aZ ((mtyF ty tx ch).2.2.2))))] t) (va_A [(h0, .inr (8, [.int (iI (fa)), .int (iI (ty)), .ref aTx, .int (bI (sh)), .ref aDt, .ref aFe, .ref aRu, .ref aTa, .ref aBe, .ref aEn, .ref aMa, .int (iI (wt)), .ref aEx, .ref aAb, .ref aCo, .int (iI (rd)), .ref aNt, .ref aNb, .ref aNe, .ref aCf, .ref aCd, .int (iI (cd)), .int (iI (at1)), .ref aKi, .ref aFi, .ref aSe])), (aTx, .inl (k 0, 100, .inl (aZ (tx))))] sz)) 0 0 (va_A [(h0, .inr (8, [.int (iI (fa)), .int (iI (ty)), .ref aTx, .int (bI (sh)), .ref aDt, .ref aFe, .ref aRu, .ref aTa, .ref aBe, .ref aEn, .ref aMa, .int (iI (wt)), .ref aEx, .ref aAb, .ref aCo, .int (iI (rd)), .ref aNt, .ref aNb, .ref aNe, .ref aCf, .ref aCd, .int (iI (cd)), .int (iI (at1)), .ref aKi, .ref aFi, .ref aSe])), (aTx, .inl (k 0, 100, .inl (aZ (tx))))] sz) := by
  refine e_z (by decide) rfl (Nat.le_of_ble_eq_true rfl) ?_
  intro p e s m args below meth c Q ls hx hb hml hown hts hpre hl ret
  obtain ⟨hsz, hP, hK, hD0, hX⟩ := hpre
  subst hsz
  have hD := hD0.self (sz := s.heap.size)
  have hA : ∀ q : Nat, s.heap.size ≤ q → (va_A [(h0, .inr (8, [.int (iI (fa)), .int (iI (ty)), .ref aTx, .int (bI (sh)), .ref aDt, .ref aFe, .ref aRu, .ref aTa, .ref aBe, .ref aEn, .ref aMa, .int (iI (wt)), .ref aEx, .ref aAb, .ref aCo, .int (iI (rd)), .ref aNt, .ref aNb, .ref aNe, .ref aCf, .ref aCd, .int (iI (cd)), .int (iI (at1)), .ref aKi, .ref aFi, .ref aSe])), (aTx, .inl (k 0, 100, .inl (aZ (tx))))] s.heap.size) q := fun q h => Or.inr h
  have hS : va_S (va_A [(h0, .inr (8, [.int (iI (fa)), .int (iI (ty)), .ref aTx, .int (bI (sh)), .ref aDt, .ref aFe, .ref aRu, .ref aTa, .ref aBe, .ref aEn, .ref aMa, .int (iI (wt)), .ref aEx, .ref aAb, .ref aCo, .int (iI (rd)), .ref aNt, .ref aNb, .ref aNe, .ref aCf, .ref aCd, .int (iI (cd)), .int (iI (at1)), .ref aKi, .ref aFi, .ref aSe])), (aTx, .inl (k 0, 100, .inl (aZ (tx))))] s.heap.size) s.heap s.heap [] := va_S.rf
  have hl : lv_has ls 2 [(0, .ref h0), (1, .int (iI (ch)))] := hl
  refine lv_aload_n hx hb d_MD_type_0 rfl (lv_at hl 0 rfl) ?_
  refine z_iconst hx hb d_MD_type_1 ?_
  refine va_put (D := D) (ci := 8) (v := .int (iI (0))) (ty := .int) (C := R_MD) (T := F_MD) (N := 26) hx hb hts in_MD t_MD t_MD_ok n_MD hown hK hP hD hS 0 rfl rfl 0 (by decide) (hts _ k_733) (fun _ h9 => h9) rfl (by decide +kernel) rfl rfl (Nat.le_of_ble_eq_true rfl) d_MD_type_2 (fun H locs hP hD hS => ?_)
  have hP : va_P D classes [(h0, .inr (8, [.int (iI (0)), .int (iI (ty)), .ref aTx, .int (bI (sh)), .ref aDt, .ref aFe, .ref aRu, .ref aTa, .ref aBe, .ref aEn, .ref aMa, .int (iI (wt)), .ref aEx, .ref aAb, .ref aCo, .int (iI (rd)), .ref aNt, .ref aNb, .ref aNe, .ref aCf, .ref aCd, .int (iI (cd)), .int (iI (at1)), .ref aKi, .ref aFi, .ref aSe])), (aTx, .inl (k 0, 100, .inl (aZ (tx))))] H := hP
  have hD : va_D (va_A [(h0, .inr (8, [.int (iI (fa)), .int (iI (ty)), .ref aTx, .int (bI (sh)), .ref aDt, .ref aFe, .ref aRu, .ref aTa, .ref aBe, .ref aEn, .ref aMa, .int (iI (wt)), .ref aEx, .ref aAb, .ref aCo, .int (iI (rd)), .ref aNt, .ref aNb, .ref aNe, .ref aCf, .ref aCd, .int (iI (cd)), .int (iI (at1)), .ref aKi, .ref aFi, .ref aSe])), (aTx, .inl (k 0, 100, .inl (aZ (tx))))] s.heap.size) [(h0, .inr (8, [.int (iI (0)), .int (iI (ty)), .ref aTx, .int (bI (sh)), .ref aDt, .ref aFe, .ref aRu, .ref aTa, .ref aBe, .ref aEn, .ref aMa, .int (iI (wt)), .ref aEx, .ref aAb, .ref aCo, .int (iI (rd)), .ref aNt, .ref aNb, .ref aNe, .ref aCf, .ref aCd, .int (iI (cd)), .int (iI (at1)), .ref aKi, .ref aFi, .ref aSe])), (aTx, .inl (k 0, 100, .inl (aZ (tx))))] := hD
  refine lv_iload_n hx hb d_MD_type_5 rfl (lv_at hl 1 rfl) ?_
  refine z_bipush hx hb d_MD_type_6 (by decide) ?_
  refine z_icmp_lt (tgt := 26) hx hb d_MD_type_8 (by decide) ⟨by omega, by omega⟩ ⟨by omega, by omega⟩ (fun h8 => ?_) (fun h8 => ?_)
  · refine z_iconst hx hb d_MD_type_26 ?_
    have e9 : mtyF ty tx ch = (false, 0, ty, tx) := by unfold mtyF; rw [if_pos h8]
    exact ret _ _ _ 27 false () d_MD_type_27 hS ((congrArg (fun q9 => bI q9.1) e9).symm) (fun t ht _ => ⟨by rw [e9, ht]; exact hP, by rw [e9]; exact hD⟩)
  · refine lv_iload_n hx hb d_MD_type_11 rfl (lv_at hl 1 rfl) ?_
    refine z_bipush hx hb d_MD_type_12 (by decide) ?_
    refine z_icmp_gt (tgt := 26) hx hb d_MD_type_14 (by decide) ⟨by omega, by omega⟩ ⟨by omega, by omega⟩ (fun h14 => ?_) (fun h14 => ?_)
    · refine z_iconst hx hb d_MD_type_26 ?_
      have e9 : mtyF ty tx ch = (false, 0, ty, tx) := by unfold mtyF; rw [if_neg h8, if_pos h14]
      exact ret _ _ _ 27 false () d_MD_type_27 hS ((congrArg (fun q9 => bI q9.1) e9).symm) (fun t ht _ => ⟨by rw [e9, ht]; exact hP, by rw [e9]; exact hD⟩)
    · refine lv_aload_n hx hb d_MD_type_17 rfl (lv_at hl 0 rfl) ?_
      refine va_get (D := D) (ci := 8) (v := .int (iI (ty))) (C := R_MD) (T := F_MD) (N := 26) hx hb hts in_MD hown hK hP 0 rfl rfl 1 (by decide) (hts _ k_734) (fun _ h9 => h9) rfl d_MD_type_18 ?_
      refine z_bipush hx hb d_MD_type_21 (by decide) ?_
      refine z_icmp_ne (tgt := 28) hx hb d_MD_type_23 (by decide) ⟨by omega, by omega⟩ ⟨by omega, by omega⟩ (fun h23 => ?_) (fun h23 => ?_)
      · refine lv_aload_n hx hb d_MD_type_28 rfl (lv_at hl 0 rfl) ?_
        refine va_get (D := D) (ci := 8) (v := .ref aTx) (C := R_MD) (T := F_MD) (N := 26) hx hb hts in_MD hown hK hP 0 rfl rfl 2 (by decide) (hts _ k_735) (fun _ h9 => h9) rfl d_MD_type_29 ?_
        refine lv_aload_n hx hb d_MD_type_32 rfl (lv_at hl 0 rfl) ?_
        refine va_get (D := D) (ci := 8) (v := .int (iI (ty))) (C := R_MD) (T := F_MD) (N := 26) hx hb hts in_MD hown hK hP 0 rfl rfl 1 (by decide) (hts _ k_734) (fun _ h9 => h9) rfl d_MD_type_33 ?_
        refine lv_iload_n hx hb d_MD_type_36 rfl (lv_at hl 1 rfl) ?_
        refine x_iast hx hb hK hP hD hS 1 0 rfl rfl ((ty).toNat) (by omega) (by omega) (by omega) d_MD_type_37 (fun H locs hP hD hS => ?_)
        rw [aZ_upd] at hP hD
        have hP : va_P D classes [(h0, .inr (8, [.int (iI (0)), .int (iI (ty)), .ref aTx, .int (bI (sh)), .ref aDt, .ref aFe, .ref aRu, .ref aTa, .ref aBe, .ref aEn, .ref aMa, .int (iI (wt)), .ref aEx, .ref aAb, .ref aCo, .int (iI (rd)), .ref aNt, .ref aNb, .ref aNe, .ref aCf, .ref aCd, .int (iI (cd)), .int (iI (at1)), .ref aKi, .ref aFi, .ref aSe])), (aTx, .inl (k 0, 100, .inl (aZ (updZ (tx) ((ty).toNat) (ch)))))] H := hP
        have hD : va_D (va_A [(h0, .inr (8, [.int (iI (fa)), .int (iI (ty)), .ref aTx, .int (bI (sh)), .ref aDt, .ref aFe, .ref aRu, .ref aTa, .ref aBe, .ref aEn, .ref aMa, .int (iI (wt)), .ref aEx, .ref aAb, .ref aCo, .int (iI (rd)), .ref aNt, .ref aNb, .ref aNe, .ref aCf, .ref aCd, .int (iI (cd)), .int (iI (at1)), .ref aKi, .ref aFi, .ref aSe])), (aTx, .inl (k 0, 100, .inl (aZ (tx))))] s.heap.size) [(h0, .inr (8, [.int (iI (0)), .int (iI (ty)), .ref aTx, .int (bI (sh)), .ref aDt, .ref aFe, .ref aRu, .ref aTa, .ref aBe, .ref aEn, .ref aMa, .int (iI (wt)), .ref aEx, .ref aAb, .ref aCo, .int (iI (rd)), .ref aNt, .ref aNb, .ref aNe, .ref aCf, .ref aCd, .int (iI (cd)), .int (iI (at1)), .ref aKi, .ref aFi, .ref aSe])), (aTx, .inl (k 0, 100, .inl (aZ (updZ (tx) ((ty).toNat) (ch)))))] := hD
        refine lv_aload_n hx hb d_MD_type_38 rfl (lv_at hl 0 rfl) ?_
        refine lv_dup hx hb d_MD_type_39 rfl ?_
        refine va_get (D := D) (ci := 8) (v := .int (iI (ty))) (C := R_MD) (T := F_MD) (N := 26) hx hb hts in_MD hown hK hP 0 rfl rfl 1 (by decide) (hts _ k_734) (fun _ h9 => h9) rfl d_MD_type_40 ?_
        refine z_iconst hx hb d_MD_type_43 ?_
        refine z_iadd hx hb d_MD_type_44 ?_
        refine va_put (D := D) (ci := 8) (v := .int (iI (ty + 1))) (ty := .int) (C := R_MD) (T := F_MD) (N := 26) hx hb hts in_MD t_MD t_MD_ok n_MD hown hK hP hD hS 0 rfl rfl 1 (by decide) (hts _ k_734) (fun _ h9 => h9) rfl (by decide +kernel) rfl rfl (Nat.le_of_ble_eq_true rfl) d_MD_type_45 (fun H locs hP hD hS => ?_)
        have hP : va_P D classes [(h0, .inr (8, [.int (iI (0)), .int (iI (ty + 1)), .ref aTx, .int (bI (sh)), .ref aDt, .ref aFe, .ref aRu, .ref aTa, .ref aBe, .ref aEn, .ref aMa, .int (iI (wt)), .ref aEx, .ref aAb, .ref aCo, .int (iI (rd)), .ref aNt, .ref aNb, .ref aNe, .ref aCf, .ref aCd, .int (iI (cd)), .int (iI (at1)), .ref aKi, .ref aFi, .ref aSe])), (aTx, .inl (k 0, 100, .inl (aZ (updZ (tx) ((ty).toNat) (ch)))))] H := hP
        have hD : va_D (va_A [(h0, .inr (8, [.int (iI (fa)), .int (iI (ty)), .ref aTx, .int (bI (sh)), .ref aDt, .ref aFe, .ref aRu, .ref aTa, .ref aBe, .ref aEn, .ref aMa, .int (iI (wt)), .ref aEx, .ref aAb, .ref aCo, .int (iI (rd)), .ref aNt, .ref aNb, .ref aNe, .ref aCf, .ref aCd, .int (iI (cd)), .int (iI (at1)), .ref aKi, .ref aFi, .ref aSe])), (aTx, .inl (k 0, 100, .inl (aZ (tx))))] s.heap.size) [(h0, .inr (8, [.int (iI (0)), .int (iI (ty + 1)), .ref aTx, .int (bI (sh)), .ref aDt, .ref aFe, .ref aRu, .ref aTa, .ref aBe, .ref aEn, .ref aMa, .int (iI (wt)), .ref aEx, .ref aAb, .ref aCo, .int (iI (rd)), .ref aNt, .ref aNb, .ref aNe, .ref aCf, .ref aCd, .int (iI (cd)), .int (iI (at1)), .ref aKi, .ref aFi, .ref aSe])), (aTx, .inl (k 0, 100, .inl (aZ (updZ (tx) ((ty).toNat) (ch)))))] := hD
        refine z_iconst hx hb d_MD_type_48 ?_
        have e9 : mtyF ty tx ch = (true, 0, ty + 1, updZ (tx) ((ty).toNat) (ch)) := by unfold mtyF; rw [if_neg h8, if_neg h14, if_neg h23]
        exact ret _ _ _ 49 true () d_MD_type_49 hS ((congrArg (fun q9 => bI q9.1) e9).symm) (fun t ht _ => ⟨by rw [e9, ht]; exact hP, by rw [e9]; exact hD⟩)
      · refine z_iconst hx hb d_MD_type_26 ?_
        have e9 : mtyF ty tx ch = (false, 0, ty, tx) := by unfold mtyF; rw [if_neg h8, if_neg h14, if_pos h23]
        exact ret _ _ _ 27 false () d_MD_type_27 hS ((congrArg (fun q9 => bI q9.1) e9).symm) (fun t ht _ => ⟨by rw [e9, ht]; exact hP, by rw [e9]; exact hD⟩)

set_option maxHeartbeats 4000000 in
set_option maxRecDepth 100000 in
theorem c_MD_shifts (l : Launch) (D : va_G) (k : Nat → ClassId) (sz : Nat) (h0 aTx aDt aFe aRu aTa aBe aEn aMa aEx aAb aCo aNt aNb aNe aCf aCd aKi aFi aSe : Nat) (fa : Int) (ty : Int) (sh : Bool) (wt : Int) (rd : Int) (cd : Int) (at1 : Int) (b1 : Bool) : Met l y_MD_shifts wd_MD_shifts rm_MD_shifts (va_Pc [.ref h0, .int (bI (b1))] (PRW D k [(h0, .inr (8, [.int (iI (fa)), .int (iI (ty)), .ref aTx, .int (bI (sh)), .ref aDt, .ref aFe, .ref aRu, .ref aTa, .ref aBe, .ref aEn, .ref aMa, .int (iI (wt)), .ref aEx, .ref aAb, .ref aCo, .int (iI (rd)), .ref aNt, .ref aNb, .ref aNe, .ref aCf, .ref aCd, .int (iI (cd)), .int (iI (at1)), .ref aKi, .ref aFi, .ref aSe]))] sz)) (va_Qv (fun u : Unit => True) (fun _ t => BRW D [(h0, .inr (8, [.int (iI (fa)), .int (iI (ty)), .ref aTx, .int (bI (sh)), .ref aDt, .ref aFe, .ref aRu, .ref aTa, .ref aBe, .ref aEn, .ref aMa, .int (iI (wt)), .ref aEx, .ref aAb, .ref aCo, .int (iI (rd)), .ref aNt, .ref aNb, .ref aNe, .ref aCf, .ref aCd, .int (iI (cd)), .int (iI (at1)), .ref aKi, .ref aFi, .ref aSe]))] sz [(h0, .inr (8, [.int (iI (0)), .int (iI (ty)), .ref aTx, .int (bI (b1)), .ref aDt, .ref aFe, .ref aRu, .ref aTa, .ref aBe, .ref aEn, .ref aMa, .int (iI (wt)), .ref aEx, .ref aAb, .ref aCo, .int (iI (rd)), .ref aNt, .ref aNb, .ref aNe, .ref aCf, .ref aCd, .int (iI (cd)), .int (iI (at1)), .ref aKi, .ref aFi, .ref aSe]))] t) (va_A [(h0, .inr (8, [.int (iI (fa)), .int (iI (ty)), .ref aTx, .int (bI (sh)), .ref aDt, .ref aFe, .ref aRu, .ref aTa, .ref aBe, .ref aEn, .ref aMa, .int (iI (wt)), .ref aEx, .ref aAb, .ref aCo, .int (iI (rd)), .ref aNt, .ref aNb, .ref aNe, .ref aCf, .ref aCd, .int (iI (cd)), .int (iI (at1)), .ref aKi, .ref aFi, .ref aSe]))] sz)) 0 0 (va_A [(h0, .inr (8, [.int (iI (fa)), .int (iI (ty)), .ref aTx, .int (bI (sh)), .ref aDt, .ref aFe, .ref aRu, .ref aTa, .ref aBe, .ref aEn, .ref aMa, .int (iI (wt)), .ref aEx, .ref aAb, .ref aCo, .int (iI (rd)), .ref aNt, .ref aNb, .ref aNe, .ref aCf, .ref aCd, .int (iI (cd)), .int (iI (at1)), .ref aKi, .ref aFi, .ref aSe]))] sz) := by
  refine e_v (by decide) rfl (Nat.le_of_ble_eq_true rfl) ?_
  intro p e s m args below meth c Q ls hx hb hml hown hts hpre hl hin ret
  obtain ⟨hsz, hP, hK, hD0, hX⟩ := hpre
  subst hsz
  have hD := hD0.self (sz := s.heap.size)
  have hA : ∀ q : Nat, s.heap.size ≤ q → (va_A [(h0, .inr (8, [.int (iI (fa)), .int (iI (ty)), .ref aTx, .int (bI (sh)), .ref aDt, .ref aFe, .ref aRu, .ref aTa, .ref aBe, .ref aEn, .ref aMa, .int (iI (wt)), .ref aEx, .ref aAb, .ref aCo, .int (iI (rd)), .ref aNt, .ref aNb, .ref aNe, .ref aCf, .ref aCd, .int (iI (cd)), .int (iI (at1)), .ref aKi, .ref aFi, .ref aSe]))] s.heap.size) q := fun q h => Or.inr h
  have hS : va_S (va_A [(h0, .inr (8, [.int (iI (fa)), .int (iI (ty)), .ref aTx, .int (bI (sh)), .ref aDt, .ref aFe, .ref aRu, .ref aTa, .ref aBe, .ref aEn, .ref aMa, .int (iI (wt)), .ref aEx, .ref aAb, .ref aCo, .int (iI (rd)), .ref aNt, .ref aNb, .ref aNe, .ref aCf, .ref aCd, .int (iI (cd)), .int (iI (at1)), .ref aKi, .ref aFi, .ref aSe]))] s.heap.size) s.heap s.heap [] := va_S.rf
  have hl : lv_has ls 2 [(0, .ref h0), (1, .int (bI (b1)))] := hl
  refine lv_aload_n hx hb d_MD_shifts_0 rfl (lv_at hl 0 rfl) ?_
  refine z_iconst hx hb d_MD_shifts_1 ?_
  refine va_put (D := D) (ci := 8) (v := .int (iI (0))) (ty := .int) (C := R_MD) (T := F_MD) (N := 26) hx hb hts in_MD t_MD t_MD_ok n_MD hown hK hP hD hS 0 rfl rfl 0 (by decide) (hts _ k_733) (fun _ h9 => h9) rfl (by decide +kernel) rfl rfl (Nat.le_of_ble_eq_true rfl) d_MD_shifts_2 (fun H locs hP hD hS => ?_)
  have hP : va_P D classes [(h0, .inr (8, [.int (iI (0)), .int (iI (ty)), .ref aTx, .int (bI (sh)), .ref aDt, .ref aFe, .ref aRu, .ref aTa, .ref aBe, .ref aEn, .ref aMa, .int (iI (wt)), .ref aEx, .ref aAb, .ref aCo, .int (iI (rd)), .ref aNt, .ref aNb, .ref aNe, .ref aCf, .ref aCd, .int (iI (cd)), .int (iI (at1)), .ref aKi, .ref aFi, .ref aSe]))] H := hP
  have hD : va_D (va_A [(h0, .inr (8, [.int (iI (fa)), .int (iI (ty)), .ref aTx, .int (bI (sh)), .ref aDt, .ref aFe, .ref aRu, .ref aTa, .ref aBe, .ref aEn, .ref aMa, .int (iI (wt)), .ref aEx, .ref aAb, .ref aCo, .int (iI (rd)), .ref aNt, .ref aNb, .ref aNe, .ref aCf, .ref aCd, .int (iI (cd)), .int (iI (at1)), .ref aKi, .ref aFi, .ref aSe]))] s.heap.size) [(h0, .inr (8, [.int (iI (0)), .int (iI (ty)), .ref aTx, .int (bI (sh)), .ref aDt, .ref aFe, .ref aRu, .ref aTa, .ref aBe, .ref aEn, .ref aMa, .int (iI (wt)), .ref aEx, .ref aAb, .ref aCo, .int (iI (rd)), .ref aNt, .ref aNb, .ref aNe, .ref aCf, .ref aCd, .int (iI (cd)), .int (iI (at1)), .ref aKi, .ref aFi, .ref aSe]))] := hD
  refine lv_aload_n hx hb d_MD_shifts_5 rfl (lv_at hl 0 rfl) ?_
  refine lv_iload_n hx hb d_MD_shifts_6 rfl (lv_at hl 1 rfl) ?_
  refine va_put (D := D) (ci := 8) (v := .int (bI (b1))) (ty := .boolean) (C := R_MD) (T := F_MD) (N := 26) hx hb hts in_MD t_MD t_MD_ok n_MD hown hK hP hD hS 0 rfl rfl 3 (by decide) (hts _ k_736) (fun _ h9 => h9) rfl (by decide +kernel) (by cases b1 <;> rfl) (by cases b1 <;> rfl) (Nat.le_of_ble_eq_true rfl) d_MD_shifts_7 (fun H locs hP hD hS => ?_)
  have hP : va_P D classes [(h0, .inr (8, [.int (iI (0)), .int (iI (ty)), .ref aTx, .int (bI (b1)), .ref aDt, .ref aFe, .ref aRu, .ref aTa, .ref aBe, .ref aEn, .ref aMa, .int (iI (wt)), .ref aEx, .ref aAb, .ref aCo, .int (iI (rd)), .ref aNt, .ref aNb, .ref aNe, .ref aCf, .ref aCd, .int (iI (cd)), .int (iI (at1)), .ref aKi, .ref aFi, .ref aSe]))] H := hP
  have hD : va_D (va_A [(h0, .inr (8, [.int (iI (fa)), .int (iI (ty)), .ref aTx, .int (bI (sh)), .ref aDt, .ref aFe, .ref aRu, .ref aTa, .ref aBe, .ref aEn, .ref aMa, .int (iI (wt)), .ref aEx, .ref aAb, .ref aCo, .int (iI (rd)), .ref aNt, .ref aNb, .ref aNe, .ref aCf, .ref aCd, .int (iI (cd)), .int (iI (at1)), .ref aKi, .ref aFi, .ref aSe]))] s.heap.size) [(h0, .inr (8, [.int (iI (0)), .int (iI (ty)), .ref aTx, .int (bI (b1)), .ref aDt, .ref aFe, .ref aRu, .ref aTa, .ref aBe, .ref aEn, .ref aMa, .int (iI (wt)), .ref aEx, .ref aAb, .ref aCo, .int (iI (rd)), .ref aNt, .ref aNb, .ref aNe, .ref aCf, .ref aCd, .int (iI (cd)), .int (iI (at1)), .ref aKi, .ref aFi, .ref aSe]))] := hD
  exact ret _ _ _ 10 () d_MD_shifts_10 hS (trivial) (fun t ht _ => ⟨by rw [ht]; exact hP, hD⟩)

set_option maxHeartbeats 4000000 in
set_option maxRecDepth 100000 in
theorem c_MD_feast (l : Launch) (D : va_G) (k : Nat → ClassId) (sz : Nat) (h0 aTx aDt aFe aRu aTa aBe aEn aMa aEx aAb aCo aNt aNb aNe aCf aCd aKi aFi aSe : Nat) (fa : Int) (ty : Int) (sh : Bool) (wt : Int) (rd : Int) (cd : Int) (at1 : Int) (y : Int) (hy : rg y) : Met l y_MD_feast wd_MD_feast rm_MD_feast (va_Pc [.ref h0, .int (iI (y))] (PRW D k [(h0, .inr (8, [.int (iI (fa)), .int (iI (ty)), .ref aTx, .int (bI (sh)), .ref aDt, .ref aFe, .ref aRu, .ref aTa, .ref aBe, .ref aEn, .ref aMa, .int (iI (wt)), .ref aEx, .ref aAb, .ref aCo, .int (iI (rd)), .ref aNt, .ref aNb, .ref aNe, .ref aCf, .ref aCd, .int (iI (cd)), .int (iI (at1)), .ref aKi, .ref aFi, .ref aSe]))] sz)) (va_Qi (fun (r : Int32) (u : Unit) => r = (iI (feastZ y))) (fun _ t => BRW D [(h0, .inr (8, [.int (iI (fa)), .int (iI (ty)), .ref aTx, .int (bI (sh)), .ref aDt, .ref aFe, .ref aRu, .ref aTa, .ref aBe, .ref aEn, .ref aMa, .int (iI (wt)), .ref aEx, .ref aAb, .ref aCo, .int (iI (rd)), .ref aNt, .ref aNb, .ref aNe, .ref aCf, .ref aCd, .int (iI (cd)), .int (iI (at1)), .ref aKi, .ref aFi, .ref aSe]))] sz [(h0, .inr (8, [.int (iI (0)), .int (iI (ty)), .ref aTx, .int (bI (sh)), .ref aDt, .ref aFe, .ref aRu, .ref aTa, .ref aBe, .ref aEn, .ref aMa, .int (iI (wt)), .ref aEx, .ref aAb, .ref aCo, .int (iI (rd)), .ref aNt, .ref aNb, .ref aNe, .ref aCf, .ref aCd, .int (iI (cd)), .int (iI (at1)), .ref aKi, .ref aFi, .ref aSe]))] t) (va_A [(h0, .inr (8, [.int (iI (fa)), .int (iI (ty)), .ref aTx, .int (bI (sh)), .ref aDt, .ref aFe, .ref aRu, .ref aTa, .ref aBe, .ref aEn, .ref aMa, .int (iI (wt)), .ref aEx, .ref aAb, .ref aCo, .int (iI (rd)), .ref aNt, .ref aNb, .ref aNe, .ref aCf, .ref aCd, .int (iI (cd)), .int (iI (at1)), .ref aKi, .ref aFi, .ref aSe]))] sz)) 0 0 (va_A [(h0, .inr (8, [.int (iI (fa)), .int (iI (ty)), .ref aTx, .int (bI (sh)), .ref aDt, .ref aFe, .ref aRu, .ref aTa, .ref aBe, .ref aEn, .ref aMa, .int (iI (wt)), .ref aEx, .ref aAb, .ref aCo, .int (iI (rd)), .ref aNt, .ref aNb, .ref aNe, .ref aCf, .ref aCd, .int (iI (cd)), .int (iI (at1)), .ref aKi, .ref aFi, .ref aSe]))] sz) := by
  refine e_i (by decide) rfl (Nat.le_of_ble_eq_true rfl) ?_
  intro p e s m args below meth c Q ls hx hb hml hown hts hpre hl ret
  obtain ⟨hsz, hP, hK, hD0, hX⟩ := hpre
  subst hsz
  have hD := hD0.self (sz := s.heap.size)
  have hA : ∀ q : Nat, s.heap.size ≤ q → (va_A [(h0, .inr (8, [.int (iI (fa)), .int (iI (ty)), .ref aTx, .int (bI (sh)), .ref aDt, .ref aFe, .ref aRu, .ref aTa, .ref aBe, .ref aEn, .ref aMa, .int (iI (wt)), .ref aEx, .ref aAb, .ref aCo, .int (iI (rd)), .ref aNt, .ref aNb, .ref aNe, .ref aCf, .ref aCd, .int (iI (cd)), .int (iI (at1)), .ref aKi, .ref aFi, .ref aSe]))] s.heap.size) q := fun q h => Or.inr h
  have hS : va_S (va_A [(h0, .inr (8, [.int (iI (fa)), .int (iI (ty)), .ref aTx, .int (bI (sh)), .ref aDt, .ref aFe, .ref aRu, .ref aTa, .ref aBe, .ref aEn, .ref aMa, .int (iI (wt)), .ref aEx, .ref aAb, .ref aCo, .int (iI (rd)), .ref aNt, .ref aNb, .ref aNe, .ref aCf, .ref aCd, .int (iI (cd)), .int (iI (at1)), .ref aKi, .ref aFi, .ref aSe]))] s.heap.size) s.heap s.heap [] := va_S.rf
  have hl : lv_has ls 2 [(0, .ref h0), (1, .int (iI (y)))] := hl
  obtain ⟨q1, q2⟩ := hy
  refine lv_aload_n hx hb d_MD_feast_0 rfl (lv_at hl 0 rfl) ?_
  refine z_iconst hx hb d_MD_feast_1 ?_
  refine va_put (D := D) (ci := 8) (v := .int (iI (0))) (ty := .int) (C := R_MD) (T := F_MD) (N := 26) hx hb hts in_MD t_MD t_MD_ok n_MD hown hK hP hD hS 0 rfl rfl 0 (by decide) (hts _ k_733) (fun _ h9 => h9) rfl (by decide +kernel) rfl rfl (Nat.le_of_ble_eq_true rfl) d_MD_feast_2 (fun H locs hP hD hS => ?_)
  have hP : va_P D classes [(h0, .inr (8, [.int (iI (0)), .int (iI (ty)), .ref aTx, .int (bI (sh)), .ref aDt, .ref aFe, .ref aRu, .ref aTa, .ref aBe, .ref aEn, .ref aMa, .int (iI (wt)), .ref aEx, .ref aAb, .ref aCo, .int (iI (rd)), .ref aNt, .ref aNb, .ref aNe, .ref aCf, .ref aCd, .int (iI (cd)), .int (iI (at1)), .ref aKi, .ref aFi, .ref aSe]))] H := hP
  have hD : va_D (va_A [(h0, .inr (8, [.int (iI (fa)), .int (iI (ty)), .ref aTx, .int (bI (sh)), .ref aDt, .ref aFe, .ref aRu, .ref aTa, .ref aBe, .ref aEn, .ref aMa, .int (iI (wt)), .ref aEx, .ref aAb, .ref aCo, .int (iI (rd)), .ref aNt, .ref aNb, .ref aNe, .ref aCf, .ref aCd, .int (iI (cd)), .int (iI (at1)), .ref aKi, .ref aFi, .ref aSe]))] s.heap.size) [(h0, .inr (8, [.int (iI (0)), .int (iI (ty)), .ref aTx, .int (bI (sh)), .ref aDt, .ref aFe, .ref aRu, .ref aTa, .ref aBe, .ref aEn, .ref aMa, .int (iI (wt)), .ref aEx, .ref aAb, .ref aCo, .int (iI (rd)), .ref aNt, .ref aNb, .ref aNe, .ref aCf, .ref aCd, .int (iI (cd)), .int (iI (at1)), .ref aKi, .ref aFi, .ref aSe]))] := hD
  refine lv_iload_n hx hb d_MD_feast_5 rfl (lv_at hl 1 rfl) ?_
  refine z_sipush hx hb d_MD_feast_6 (by decide) ?_
  refine z_icmp_lt (tgt := 19) hx hb d_MD_feast_9 (by decide) ⟨by omega, by omega⟩ ⟨by omega, by omega⟩ (fun h9 => ?_) (fun h9 => ?_)
  · refine z_iconst hx hb d_MD_feast_19 ?_
    refine lv_goto (tgt := 27) hx hb d_MD_feast_20 (by decide) ?_
    exact ret _ _ _ 27 (iI (-1)) () d_MD_feast_27 hS (by rw [feastZ_out (by omega)]) (fun t ht _ => ⟨by rw [ht]; exact hP, hD⟩)
  · refine lv_iload_n hx hb d_MD_feast_12 rfl (lv_at hl 1 rfl) ?_
    refine z_sipush hx hb d_MD_feast_13 (by decide) ?_
    refine z_icmp_le (tgt := 23) hx hb d_MD_feast_16 (by decide) ⟨by omega, by omega⟩ ⟨by omega, by omega⟩ (fun h16 => ?_) (fun h16 => ?_)
    · refine lv_iload_n hx hb d_MD_feast_23 rfl (lv_at hl 1 rfl) ?_
      refine rc_i (va_runS (As := [.int (iI (y))]) (rest := []) ⟨hx, hb, hml, hown, hts⟩ (c_MD_feastOf l D k (y) ((by omega))) ⟨callB_of 1 hts (good_MD_feastOf) rfl rfl rfl (hts _ k_67) (hts _ k_730) (by decide +kernel) ⟨Nat.le_of_ble_eq_true rfl, Nat.le_of_ble_eq_true rfl⟩, (hts _ k_731)⟩ ⟨fun a U g mk q => ⟨q.1, q.2.1, va_K.moved (u := U) (U := U.calling g mk a) (Vm.Alike.refl U.vm) q.2.2.1, q.2.2.2.calling⟩, fun U hU hW => ⟨rfl, by rw [hU]; exact (hP.sub (ws' := []) [] rfl), va_K.moved hW.alike hK, by rw [hU]; exact (hX.mono hS (fun _ h => absurd h id)).warm hW⟩⟩ rfl rfl hl.1 rfl (lv_room (Nat.le_of_ble_eq_true rfl)) d_MD_feast_24 ⟨Nat.le_of_ble_eq_true rfl, Nat.le_of_ble_eq_true rfl⟩) (fun xr_1 h_xr_1 => ?_)
      subst h_xr_1
      exact ret _ _ _ 27 (iI (fE y)) () d_MD_feast_27 hS (by rw [feastZ_in (by omega)]) (fun t ht _ => ⟨by rw [ht]; exact hP, hD⟩)
    · refine z_iconst hx hb d_MD_feast_19 ?_
      refine lv_goto (tgt := 27) hx hb d_MD_feast_20 (by decide) ?_
      exact ret _ _ _ 27 (iI (-1)) () d_MD_feast_27 hS (by rw [feastZ_out (by omega)]) (fun t ht _ => ⟨by rw [ht]; exact hP, hD⟩)

def mdoF (y : Int) (m1 : Int) (o : Int) : Int × Int := (if y < 2000 then (-1, 0) else (if 2003 < y then (-1, 0) else (if m1 < 1 then (-1, 0) else (if 12 < m1 then (-1, 0) else (if o < 1 then (-1, 0) else (if o ≤ (mML y m1) then (findM (((10000 * y) + (100 * m1)) + o) 1461, 0) else (-1, 0)))))))
set_option maxHeartbeats 4000000 in
set_option maxRecDepth 100000 in
theorem c_MD_dayOf (l : Launch) (D : va_G) (k : Nat → ClassId) (sz : Nat) (h0 aTx aDt aFe aRu aTa aBe aEn aMa aEx aAb aCo aNt aNb aNe aCf aCd aKi aFi aSe : Nat) (fa : Int) (ty : Int) (sh : Bool) (wt : Int) (rd : Int) (cd : Int) (at1 : Int) (y : Int) (m1 : Int) (o : Int) (hy : rg y) (hm : rg m1) (ho : rg o) : Met l y_MD_dayOf wd_MD_dayOf rm_MD_dayOf (va_Pc [.ref h0, .int (iI (y)), .int (iI (m1)), .int (iI (o))] (PRW D k [(h0, .inr (8, [.int (iI (fa)), .int (iI (ty)), .ref aTx, .int (bI (sh)), .ref aDt, .ref aFe, .ref aRu, .ref aTa, .ref aBe, .ref aEn, .ref aMa, .int (iI (wt)), .ref aEx, .ref aAb, .ref aCo, .int (iI (rd)), .ref aNt, .ref aNb, .ref aNe, .ref aCf, .ref aCd, .int (iI (cd)), .int (iI (at1)), .ref aKi, .ref aFi, .ref aSe])), (aDt, .inl (k 0, 1461, .inl (aZ (dateZ))))] sz)) (va_Qi (fun (r : Int32) (u : Unit) => r = (iI ((mdoF y m1 o).1))) (fun _ t => BRW D [(h0, .inr (8, [.int (iI (fa)), .int (iI (ty)), .ref aTx, .int (bI (sh)), .ref aDt, .ref aFe, .ref aRu, .ref aTa, .ref aBe, .ref aEn, .ref aMa, .int (iI (wt)), .ref aEx, .ref aAb, .ref aCo, .int (iI (rd)), .ref aNt, .ref aNb, .ref aNe, .ref aCf, .ref aCd, .int (iI (cd)), .int (iI (at1)), .ref aKi, .ref aFi, .ref aSe])), (aDt, .inl (k 0, 1461, .inl (aZ (dateZ))))] sz [(h0, .inr (8, [.int (iI ((mdoF y m1 o).2)), .int (iI (ty)), .ref aTx, .int (bI (sh)), .ref aDt, .ref aFe, .ref aRu, .ref aTa, .ref aBe, .ref aEn, .ref aMa, .int (iI (wt)), .ref aEx, .ref aAb, .ref aCo, .int (iI (rd)), .ref aNt, .ref aNb, .ref aNe, .ref aCf, .ref aCd, .int (iI (cd)), .int (iI (at1)), .ref aKi, .ref aFi, .ref aSe])), (aDt, .inl (k 0, 1461, .inl (aZ (dateZ))))] t) (va_A [(h0, .inr (8, [.int (iI (fa)), .int (iI (ty)), .ref aTx, .int (bI (sh)), .ref aDt, .ref aFe, .ref aRu, .ref aTa, .ref aBe, .ref aEn, .ref aMa, .int (iI (wt)), .ref aEx, .ref aAb, .ref aCo, .int (iI (rd)), .ref aNt, .ref aNb, .ref aNe, .ref aCf, .ref aCd, .int (iI (cd)), .int (iI (at1)), .ref aKi, .ref aFi, .ref aSe])), (aDt, .inl (k 0, 1461, .inl (aZ (dateZ))))] sz)) 0 0 (va_A [(h0, .inr (8, [.int (iI (fa)), .int (iI (ty)), .ref aTx, .int (bI (sh)), .ref aDt, .ref aFe, .ref aRu, .ref aTa, .ref aBe, .ref aEn, .ref aMa, .int (iI (wt)), .ref aEx, .ref aAb, .ref aCo, .int (iI (rd)), .ref aNt, .ref aNb, .ref aNe, .ref aCf, .ref aCd, .int (iI (cd)), .int (iI (at1)), .ref aKi, .ref aFi, .ref aSe])), (aDt, .inl (k 0, 1461, .inl (aZ (dateZ))))] sz) := by
  refine e_i (by decide) rfl (Nat.le_of_ble_eq_true rfl) ?_
  intro p e s m args below meth c Q ls hx hb hml hown hts hpre hl ret
  obtain ⟨hsz, hP, hK, hD0, hX⟩ := hpre
  subst hsz
  have hD := hD0.self (sz := s.heap.size)
  have hA : ∀ q : Nat, s.heap.size ≤ q → (va_A [(h0, .inr (8, [.int (iI (fa)), .int (iI (ty)), .ref aTx, .int (bI (sh)), .ref aDt, .ref aFe, .ref aRu, .ref aTa, .ref aBe, .ref aEn, .ref aMa, .int (iI (wt)), .ref aEx, .ref aAb, .ref aCo, .int (iI (rd)), .ref aNt, .ref aNb, .ref aNe, .ref aCf, .ref aCd, .int (iI (cd)), .int (iI (at1)), .ref aKi, .ref aFi, .ref aSe])), (aDt, .inl (k 0, 1461, .inl (aZ (dateZ))))] s.heap.size) q := fun q h => Or.inr h
  have hS : va_S (va_A [(h0, .inr (8, [.int (iI (fa)), .int (iI (ty)), .ref aTx, .int (bI (sh)), .ref aDt, .ref aFe, .ref aRu, .ref aTa, .ref aBe, .ref aEn, .ref aMa, .int (iI (wt)), .ref aEx, .ref aAb, .ref aCo, .int (iI (rd)), .ref aNt, .ref aNb, .ref aNe, .ref aCf, .ref aCd, .int (iI (cd)), .int (iI (at1)), .ref aKi, .ref aFi, .ref aSe])), (aDt, .inl (k 0, 1461, .inl (aZ (dateZ))))] s.heap.size) s.heap s.heap [] := va_S.rf
  have hl : lv_has ls 4 [(0, .ref h0), (1, .int (iI (y))), (2, .int (iI (m1))), (3, .int (iI (o)))] := hl
  obtain ⟨q1, q2⟩ := hy
  obtain ⟨q3, q4⟩ := hm
  obtain ⟨q5, q6⟩ := ho
  refine lv_aload_n hx hb d_MD_dayOf_0 rfl (lv_at hl 0 rfl) ?_
  refine z_iconst hx hb d_MD_dayOf_1 ?_
  refine va_put (D := D) (ci := 8) (v := .int (iI (0))) (ty := .int) (C := R_MD) (T := F_MD) (N := 26) hx hb hts in_MD t_MD t_MD_ok n_MD hown hK hP hD hS 0 rfl rfl 0 (by decide) (hts _ k_733) (fun _ h9 => h9) rfl (by decide +kernel) rfl rfl (Nat.le_of_ble_eq_true rfl) d_MD_dayOf_2 (fun H locs hP hD hS => ?_)
  have hP : va_P D classes [(h0, .inr (8, [.int (iI (0)), .int (iI (ty)), .ref aTx, .int (bI (sh)), .ref aDt, .ref aFe, .ref aRu, .ref aTa, .ref aBe, .ref aEn, .ref aMa, .int (iI (wt)), .ref aEx, .ref aAb, .ref aCo, .int (iI (rd)), .ref aNt, .ref aNb, .ref aNe, .ref aCf, .ref aCd, .int (iI (cd)), .int (iI (at1)), .ref aKi, .ref aFi, .ref aSe])), (aDt, .inl (k 0, 1461, .inl (aZ (dateZ))))] H := hP
  have hD : va_D (va_A [(h0, .inr (8, [.int (iI (fa)), .int (iI (ty)), .ref aTx, .int (bI (sh)), .ref aDt, .ref aFe, .ref aRu, .ref aTa, .ref aBe, .ref aEn, .ref aMa, .int (iI (wt)), .ref aEx, .ref aAb, .ref aCo, .int (iI (rd)), .ref aNt, .ref aNb, .ref aNe, .ref aCf, .ref aCd, .int (iI (cd)), .int (iI (at1)), .ref aKi, .ref aFi, .ref aSe])), (aDt, .inl (k 0, 1461, .inl (aZ (dateZ))))] s.heap.size) [(h0, .inr (8, [.int (iI (0)), .int (iI (ty)), .ref aTx, .int (bI (sh)), .ref aDt, .ref aFe, .ref aRu, .ref aTa, .ref aBe, .ref aEn, .ref aMa, .int (iI (wt)), .ref aEx, .ref aAb, .ref aCo, .int (iI (rd)), .ref aNt, .ref aNb, .ref aNe, .ref aCf, .ref aCd, .int (iI (cd)), .int (iI (at1)), .ref aKi, .ref aFi, .ref aSe])), (aDt, .inl (k 0, 1461, .inl (aZ (dateZ))))] := hD
  refine lv_iload_n hx hb d_MD_dayOf_5 rfl (lv_at hl 1 rfl) ?_
  refine z_sipush hx hb d_MD_dayOf_6 (by decide) ?_
  refine z_icmp_lt (tgt := 44) hx hb d_MD_dayOf_9 (by decide) ⟨by omega, by omega⟩ ⟨by omega, by omega⟩ (fun h9 => ?_) (fun h9 => ?_)
  · refine z_iconst hx hb d_MD_dayOf_44 ?_
    have e9 : mdoF y m1 o = (-1, 0) := by unfold mdoF; rw [if_pos h9]
    exact ret _ _ _ 45 (iI (-1)) () d_MD_dayOf_45 hS ((congrArg (fun q9 => iI q9.1) e9).symm) (fun t ht _ => ⟨by rw [e9, ht]; exact hP, by rw [e9]; exact hD⟩)
  · refine lv_iload_n hx hb d_MD_dayOf_12 rfl (lv_at hl 1 rfl) ?_
    refine z_sipush hx hb d_MD_dayOf_13 (by decide) ?_
    refine z_icmp_gt (tgt := 44) hx hb d_MD_dayOf_16 (by decide) ⟨by omega, by omega⟩ ⟨by omega, by omega⟩ (fun h16 => ?_) (fun h16 => ?_)
    · refine z_iconst hx hb d_MD_dayOf_44 ?_
      have e9 : mdoF y m1 o = (-1, 0) := by unfold mdoF; rw [if_neg h9, if_pos h16]
      exact ret _ _ _ 45 (iI (-1)) () d_MD_dayOf_45 hS ((congrArg (fun q9 => iI q9.1) e9).symm) (fun t ht _ => ⟨by rw [e9, ht]; exact hP, by rw [e9]; exact hD⟩)
    · refine lv_iload_n hx hb d_MD_dayOf_19 rfl (lv_at hl 2 rfl) ?_
      refine z_iconst hx hb d_MD_dayOf_20 ?_
      refine z_icmp_lt (tgt := 44) hx hb d_MD_dayOf_21 (by decide) ⟨by omega, by omega⟩ ⟨by omega, by omega⟩ (fun h21 => ?_) (fun h21 => ?_)
      · refine z_iconst hx hb d_MD_dayOf_44 ?_
        have e9 : mdoF y m1 o = (-1, 0) := by unfold mdoF; rw [if_neg h9, if_neg h16, if_pos h21]
        exact ret _ _ _ 45 (iI (-1)) () d_MD_dayOf_45 hS ((congrArg (fun q9 => iI q9.1) e9).symm) (fun t ht _ => ⟨by rw [e9, ht]; exact hP, by rw [e9]; exact hD⟩)
      · refine lv_iload_n hx hb d_MD_dayOf_24 rfl (lv_at hl 2 rfl) ?_
        refine z_bipush hx hb d_MD_dayOf_25 (by decide) ?_
        refine z_icmp_gt (tgt := 44) hx hb d_MD_dayOf_27 (by decide) ⟨by omega, by omega⟩ ⟨by omega, by omega⟩ (fun h27 => ?_) (fun h27 => ?_)
        · refine z_iconst hx hb d_MD_dayOf_44 ?_
          have e9 : mdoF y m1 o = (-1, 0) := by unfold mdoF; rw [if_neg h9, if_neg h16, if_neg h21, if_pos h27]
          exact ret _ _ _ 45 (iI (-1)) () d_MD_dayOf_45 hS ((congrArg (fun q9 => iI q9.1) e9).symm) (fun t ht _ => ⟨by rw [e9, ht]; exact hP, by rw [e9]; exact hD⟩)
        · refine lv_iload_n hx hb d_MD_dayOf_30 rfl (lv_at hl 3 rfl) ?_
          refine z_iconst hx hb d_MD_dayOf_31 ?_
          refine z_icmp_lt (tgt := 44) hx hb d_MD_dayOf_32 (by decide) ⟨by omega, by omega⟩ ⟨by omega, by omega⟩ (fun h32 => ?_) (fun h32 => ?_)
          · refine z_iconst hx hb d_MD_dayOf_44 ?_
            have e9 : mdoF y m1 o = (-1, 0) := by unfold mdoF; rw [if_neg h9, if_neg h16, if_neg h21, if_neg h27, if_pos h32]
            exact ret _ _ _ 45 (iI (-1)) () d_MD_dayOf_45 hS ((congrArg (fun q9 => iI q9.1) e9).symm) (fun t ht _ => ⟨by rw [e9, ht]; exact hP, by rw [e9]; exact hD⟩)
          · refine lv_iload_n hx hb d_MD_dayOf_35 rfl (lv_at hl 3 rfl) ?_
            refine lv_iload_n hx hb d_MD_dayOf_36 rfl (lv_at hl 1 rfl) ?_
            refine lv_iload_n hx hb d_MD_dayOf_37 rfl (lv_at hl 2 rfl) ?_
            refine rc_i (va_runS (As := [.int (iI (y)), .int (iI (m1))]) (rest := [.int (iI (o))]) ⟨hx, hb, hml, hown, hts⟩ (c_MD_monthLength l D k (y) (m1) ((by omega)) (⟨by omega, by omega⟩)) ⟨callB_of 2 hts (good_MD_monthLength) rfl rfl rfl (hts _ k_67) (hts _ k_727) (by decide +kernel) ⟨Nat.le_of_ble_eq_true rfl, Nat.le_of_ble_eq_true rfl⟩, (hts _ k_728)⟩ ⟨fun a U g mk q => ⟨q.1, q.2.1, va_K.moved (u := U) (U := U.calling g mk a) (Vm.Alike.refl U.vm) q.2.2.1, q.2.2.2.calling⟩, fun U hU hW => ⟨rfl, by rw [hU]; exact (hP.sub (ws' := []) [] rfl), va_K.moved hW.alike hK, by rw [hU]; exact (hX.mono hS (fun _ h => absurd h id)).warm hW⟩⟩ rfl rfl hl.1 rfl (lv_room (Nat.le_of_ble_eq_true rfl)) d_MD_dayOf_38 ⟨Nat.le_of_ble_eq_true rfl, Nat.le_of_ble_eq_true rfl⟩) (fun xr_1 h_xr_1 => ?_)
            subst h_xr_1
            have hmb := mML_bd y m1
            refine z_icmp_le (tgt := 46) hx hb d_MD_dayOf_41 (by decide) ⟨by omega, by omega⟩ ⟨by omega, by omega⟩ (fun h41 => ?_) (fun h41 => ?_)
            · refine lv_aload_n hx hb d_MD_dayOf_46 rfl (lv_at hl 0 rfl) ?_
              refine z_sipush hx hb d_MD_dayOf_47 (by decide) ?_
              refine lv_iload_n hx hb d_MD_dayOf_50 rfl (lv_at hl 1 rfl) ?_
              refine z_imul hx hb d_MD_dayOf_51 ?_
              refine z_bipush hx hb d_MD_dayOf_52 (by decide) ?_
              refine lv_iload_n hx hb d_MD_dayOf_54 rfl (lv_at hl 2 rfl) ?_
              refine z_imul hx hb d_MD_dayOf_55 ?_
              refine z_iadd hx hb d_MD_dayOf_56 ?_
              refine lv_iload_n hx hb d_MD_dayOf_57 rfl (lv_at hl 3 rfl) ?_
              refine z_iadd hx hb d_MD_dayOf_58 ?_
              refine rc_i (va_runV (As := [.int (iI (((10000 * y) + (100 * m1)) + o))]) (rest := []) (b := h0) ⟨hx, hb, hml, hown, hts⟩ (c_MD_find l D k (h0) (aTx) (aDt) (aFe) (aRu) (aTa) (aBe) (aEn) (aMa) (aEx) (aAb) (aCo) (aNt) (aNb) (aNe) (aCf) (aCd) (aKi) (aFi) (aSe) (0) (ty) (sh) (wt) (rd) (cd) (at1) (((10000 * y) + (100 * m1)) + o) (⟨by omega, by omega⟩)) ⟨callB_of 1 hts (good_MD_find) rfl rfl rfl (hts _ k_67) (hts _ k_962) (by decide +kernel) ⟨Nat.le_of_ble_eq_true rfl, Nat.le_of_ble_eq_true rfl⟩, (hts _ k_964), (hts _ k_54)⟩ ⟨fun a U g mk q => ⟨q.1, q.2.1, va_K.moved (u := U) (U := U.calling g mk a) (Vm.Alike.refl U.vm) q.2.2.1, q.2.2.2.calling⟩, (va_recv (q0 := 0) hK hP rfl rfl), fun U hU hW => ⟨rfl, by rw [hU]; exact hP, va_K.moved hW.alike hK, by rw [hU]; exact (hX.mono hS (fun _ h => absurd h id)).warm hW⟩⟩ rfl rfl hl.1 rfl (lv_room (Nat.le_of_ble_eq_true rfl)) d_MD_dayOf_59 ⟨Nat.le_of_ble_eq_true rfl, Nat.le_of_ble_eq_true rfl⟩) (fun xr_2 h_xr_2 => ?_)
              subst h_xr_2
              have e9 : mdoF y m1 o = (findM (((10000 * y) + (100 * m1)) + o) 1461, 0) := by unfold mdoF; rw [if_neg h9, if_neg h16, if_neg h21, if_neg h27, if_neg h32, if_pos h41]
              exact ret _ _ _ 62 (iI (findM (((10000 * y) + (100 * m1)) + o) 1461)) () d_MD_dayOf_62 hS ((congrArg (fun q9 => iI q9.1) e9).symm) (fun t ht _ => ⟨by rw [e9, ht]; exact hP, by rw [e9]; exact hD⟩)
            · refine z_iconst hx hb d_MD_dayOf_44 ?_
              have e9 : mdoF y m1 o = (-1, 0) := by unfold mdoF; rw [if_neg h9, if_neg h16, if_neg h21, if_neg h27, if_neg h32, if_neg h41]
              exact ret _ _ _ 45 (iI (-1)) () d_MD_dayOf_45 hS ((congrArg (fun q9 => iI q9.1) e9).symm) (fun t ht _ => ⟨by rw [e9, ht]; exact hP, by rw [e9]; exact hD⟩)

def mdaF (z : Int) (wh : Int) : Int × Int := (if z < 0 then (-1, 0) else (if 1461 ≤ z then (-1, 0) else (if wh < 0 then (-1, 0) else (if wh ≤ 2 then (if wh = 0 then (dateZ ((z).toNat), 0) else (if wh = 1 then (wDay z, 0) else (weekZ z, 0))) else (-1, 0)))))
set_option maxHeartbeats 4000000 in
set_option maxRecDepth 100000 in
theorem c_MD_dateOf (l : Launch) (D : va_G) (k : Nat → ClassId) (sz : Nat) (h0 aTx aDt aFe aRu aTa aBe aEn aMa aEx aAb aCo aNt aNb aNe aCf aCd aKi aFi aSe : Nat) (fa : Int) (ty : Int) (sh : Bool) (wt : Int) (rd : Int) (cd : Int) (at1 : Int) (z : Int) (wh : Int) (hz : rg z) (hw : rg wh) : Met l y_MD_dateOf wd_MD_dateOf rm_MD_dateOf (va_Pc [.ref h0, .int (iI (z)), .int (iI (wh))] (PRW D k [(h0, .inr (8, [.int (iI (fa)), .int (iI (ty)), .ref aTx, .int (bI (sh)), .ref aDt, .ref aFe, .ref aRu, .ref aTa, .ref aBe, .ref aEn, .ref aMa, .int (iI (wt)), .ref aEx, .ref aAb, .ref aCo, .int (iI (rd)), .ref aNt, .ref aNb, .ref aNe, .ref aCf, .ref aCd, .int (iI (cd)), .int (iI (at1)), .ref aKi, .ref aFi, .ref aSe])), (aDt, .inl (k 0, 1461, .inl (aZ (dateZ))))] sz)) (va_Qi (fun (r : Int32) (u : Unit) => r = (iI ((mdaF z wh).1))) (fun _ t => BRW D [(h0, .inr (8, [.int (iI (fa)), .int (iI (ty)), .ref aTx, .int (bI (sh)), .ref aDt, .ref aFe, .ref aRu, .ref aTa, .ref aBe, .ref aEn, .ref aMa, .int (iI (wt)), .ref aEx, .ref aAb, .ref aCo, .int (iI (rd)), .ref aNt, .ref aNb, .ref aNe, .ref aCf, .ref aCd, .int (iI (cd)), .int (iI (at1)), .ref aKi, .ref aFi, .ref aSe])), (aDt, .inl (k 0, 1461, .inl (aZ (dateZ))))] sz [(h0, .inr (8, [.int (iI ((mdaF z wh).2)), .int (iI (ty)), .ref aTx, .int (bI (sh)), .ref aDt, .ref aFe, .ref aRu, .ref aTa, .ref aBe, .ref aEn, .ref aMa, .int (iI (wt)), .ref aEx, .ref aAb, .ref aCo, .int (iI (rd)), .ref aNt, .ref aNb, .ref aNe, .ref aCf, .ref aCd, .int (iI (cd)), .int (iI (at1)), .ref aKi, .ref aFi, .ref aSe])), (aDt, .inl (k 0, 1461, .inl (aZ (dateZ))))] t) (va_A [(h0, .inr (8, [.int (iI (fa)), .int (iI (ty)), .ref aTx, .int (bI (sh)), .ref aDt, .ref aFe, .ref aRu, .ref aTa, .ref aBe, .ref aEn, .ref aMa, .int (iI (wt)), .ref aEx, .ref aAb, .ref aCo, .int (iI (rd)), .ref aNt, .ref aNb, .ref aNe, .ref aCf, .ref aCd, .int (iI (cd)), .int (iI (at1)), .ref aKi, .ref aFi, .ref aSe])), (aDt, .inl (k 0, 1461, .inl (aZ (dateZ))))] sz)) 0 0 (va_A [(h0, .inr (8, [.int (iI (fa)), .int (iI (ty)), .ref aTx, .int (bI (sh)), .ref aDt, .ref aFe, .ref aRu, .ref aTa, .ref aBe, .ref aEn, .ref aMa, .int (iI (wt)), .ref aEx, .ref aAb, .ref aCo, .int (iI (rd)), .ref aNt, .ref aNb, .ref aNe, .ref aCf, .ref aCd, .int (iI (cd)), .int (iI (at1)), .ref aKi, .ref aFi, .ref aSe])), (aDt, .inl (k 0, 1461, .inl (aZ (dateZ))))] sz) := by
  refine e_i (by decide) rfl (Nat.le_of_ble_eq_true rfl) ?_
  intro p e s m args below meth c Q ls hx hb hml hown hts hpre hl ret
  obtain ⟨hsz, hP, hK, hD0, hX⟩ := hpre
  subst hsz
  have hD := hD0.self (sz := s.heap.size)
  have hA : ∀ q : Nat, s.heap.size ≤ q → (va_A [(h0, .inr (8, [.int (iI (fa)), .int (iI (ty)), .ref aTx, .int (bI (sh)), .ref aDt, .ref aFe, .ref aRu, .ref aTa, .ref aBe, .ref aEn, .ref aMa, .int (iI (wt)), .ref aEx, .ref aAb, .ref aCo, .int (iI (rd)), .ref aNt, .ref aNb, .ref aNe, .ref aCf, .ref aCd, .int (iI (cd)), .int (iI (at1)), .ref aKi, .ref aFi, .ref aSe])), (aDt, .inl (k 0, 1461, .inl (aZ (dateZ))))] s.heap.size) q := fun q h => Or.inr h
  have hS : va_S (va_A [(h0, .inr (8, [.int (iI (fa)), .int (iI (ty)), .ref aTx, .int (bI (sh)), .ref aDt, .ref aFe, .ref aRu, .ref aTa, .ref aBe, .ref aEn, .ref aMa, .int (iI (wt)), .ref aEx, .ref aAb, .ref aCo, .int (iI (rd)), .ref aNt, .ref aNb, .ref aNe, .ref aCf, .ref aCd, .int (iI (cd)), .int (iI (at1)), .ref aKi, .ref aFi, .ref aSe])), (aDt, .inl (k 0, 1461, .inl (aZ (dateZ))))] s.heap.size) s.heap s.heap [] := va_S.rf
  have hl : lv_has ls 3 [(0, .ref h0), (1, .int (iI (z))), (2, .int (iI (wh)))] := hl
  obtain ⟨q1, q2⟩ := hz
  obtain ⟨q3, q4⟩ := hw
  refine lv_aload_n hx hb d_MD_dateOf_0 rfl (lv_at hl 0 rfl) ?_
  refine z_iconst hx hb d_MD_dateOf_1 ?_
  refine va_put (D := D) (ci := 8) (v := .int (iI (0))) (ty := .int) (C := R_MD) (T := F_MD) (N := 26) hx hb hts in_MD t_MD t_MD_ok n_MD hown hK hP hD hS 0 rfl rfl 0 (by decide) (hts _ k_733) (fun _ h9 => h9) rfl (by decide +kernel) rfl rfl (Nat.le_of_ble_eq_true rfl) d_MD_dateOf_2 (fun H locs hP hD hS => ?_)
  have hP : va_P D classes [(h0, .inr (8, [.int (iI (0)), .int (iI (ty)), .ref aTx, .int (bI (sh)), .ref aDt, .ref aFe, .ref aRu, .ref aTa, .ref aBe, .ref aEn, .ref aMa, .int (iI (wt)), .ref aEx, .ref aAb, .ref aCo, .int (iI (rd)), .ref aNt, .ref aNb, .ref aNe, .ref aCf, .ref aCd, .int (iI (cd)), .int (iI (at1)), .ref aKi, .ref aFi, .ref aSe])), (aDt, .inl (k 0, 1461, .inl (aZ (dateZ))))] H := hP
  have hD : va_D (va_A [(h0, .inr (8, [.int (iI (fa)), .int (iI (ty)), .ref aTx, .int (bI (sh)), .ref aDt, .ref aFe, .ref aRu, .ref aTa, .ref aBe, .ref aEn, .ref aMa, .int (iI (wt)), .ref aEx, .ref aAb, .ref aCo, .int (iI (rd)), .ref aNt, .ref aNb, .ref aNe, .ref aCf, .ref aCd, .int (iI (cd)), .int (iI (at1)), .ref aKi, .ref aFi, .ref aSe])), (aDt, .inl (k 0, 1461, .inl (aZ (dateZ))))] s.heap.size) [(h0, .inr (8, [.int (iI (0)), .int (iI (ty)), .ref aTx, .int (bI (sh)), .ref aDt, .ref aFe, .ref aRu, .ref aTa, .ref aBe, .ref aEn, .ref aMa, .int (iI (wt)), .ref aEx, .ref aAb, .ref aCo, .int (iI (rd)), .ref aNt, .ref aNb, .ref aNe, .ref aCf, .ref aCd, .int (iI (cd)), .int (iI (at1)), .ref aKi, .ref aFi, .ref aSe])), (aDt, .inl (k 0, 1461, .inl (aZ (dateZ))))] := hD
  refine lv_iload_n hx hb d_MD_dateOf_5 rfl (lv_at hl 1 rfl) ?_
  refine z_if_lt (tgt := 25) hx hb d_MD_dateOf_6 (by decide) ⟨by omega, by omega⟩ (fun h6 => ?_) (fun h6 => ?_)
  · refine z_iconst hx hb d_MD_dateOf_25 ?_
    have e9 : mdaF z wh = (-1, 0) := by unfold mdaF; rw [if_pos h6]
    exact ret _ _ _ 26 (iI (-1)) () d_MD_dateOf_26 hS ((congrArg (fun q9 => iI q9.1) e9).symm) (fun t ht _ => ⟨by rw [e9, ht]; exact hP, by rw [e9]; exact hD⟩)
  · refine lv_iload_n hx hb d_MD_dateOf_9 rfl (lv_at hl 1 rfl) ?_
    refine z_sipush hx hb d_MD_dateOf_10 (by decide) ?_
    refine z_icmp_ge (tgt := 25) hx hb d_MD_dateOf_13 (by decide) ⟨by omega, by omega⟩ ⟨by omega, by omega⟩ (fun h13 => ?_) (fun h13 => ?_)
    · refine z_iconst hx hb d_MD_dateOf_25 ?_
      have e9 : mdaF z wh = (-1, 0) := by unfold mdaF; rw [if_neg h6, if_pos h13]
      exact ret _ _ _ 26 (iI (-1)) () d_MD_dateOf_26 hS ((congrArg (fun q9 => iI q9.1) e9).symm) (fun t ht _ => ⟨by rw [e9, ht]; exact hP, by rw [e9]; exact hD⟩)
    · refine lv_iload_n hx hb d_MD_dateOf_16 rfl (lv_at hl 2 rfl) ?_
      refine z_if_lt (tgt := 25) hx hb d_MD_dateOf_17 (by decide) ⟨by omega, by omega⟩ (fun h17 => ?_) (fun h17 => ?_)
      · refine z_iconst hx hb d_MD_dateOf_25 ?_
        have e9 : mdaF z wh = (-1, 0) := by unfold mdaF; rw [if_neg h6, if_neg h13, if_pos h17]
        exact ret _ _ _ 26 (iI (-1)) () d_MD_dateOf_26 hS ((congrArg (fun q9 => iI q9.1) e9).symm) (fun t ht _ => ⟨by rw [e9, ht]; exact hP, by rw [e9]; exact hD⟩)
      · refine lv_iload_n hx hb d_MD_dateOf_20 rfl (lv_at hl 2 rfl) ?_
        refine z_iconst hx hb d_MD_dateOf_21 ?_
        refine z_icmp_le (tgt := 27) hx hb d_MD_dateOf_22 (by decide) ⟨by omega, by omega⟩ ⟨by omega, by omega⟩ (fun h22 => ?_) (fun h22 => ?_)
        · refine lv_iload_n hx hb d_MD_dateOf_27 rfl (lv_at hl 2 rfl) ?_
          refine z_if_ne (tgt := 40) hx hb d_MD_dateOf_28 (by decide) ⟨by omega, by omega⟩ (fun h28 => ?_) (fun h28 => ?_)
          · refine lv_iload_n hx hb d_MD_dateOf_40 rfl (lv_at hl 2 rfl) ?_
            refine z_iconst hx hb d_MD_dateOf_41 ?_
            refine z_icmp_ne (tgt := 52) hx hb d_MD_dateOf_42 (by decide) ⟨by omega, by omega⟩ ⟨by omega, by omega⟩ (fun h42 => ?_) (fun h42 => ?_)
            · refine lv_aload_n hx hb d_MD_dateOf_52 rfl (lv_at hl 0 rfl) ?_
              refine lv_iload_n hx hb d_MD_dateOf_53 rfl (lv_at hl 1 rfl) ?_
              refine rc_i (va_runV (As := [.int (iI (z))]) (rest := []) (b := h0) ⟨hx, hb, hml, hown, hts⟩ (c_MD_week l D k (h0) (aTx) (aDt) (aFe) (aRu) (aTa) (aBe) (aEn) (aMa) (aEx) (aAb) (aCo) (aNt) (aNb) (aNe) (aCf) (aCd) (aKi) (aFi) (aSe) (0) (ty) (sh) (wt) (rd) (cd) (at1) (z) ((by omega))) ⟨callB_of 1 hts (good_MD_week) rfl rfl rfl (hts _ k_67) (hts _ k_894) (by decide +kernel) ⟨Nat.le_of_ble_eq_true rfl, Nat.le_of_ble_eq_true rfl⟩, (hts _ k_896), (hts _ k_45)⟩ ⟨fun a U g mk q => ⟨q.1, q.2.1, va_K.moved (u := U) (U := U.calling g mk a) (Vm.Alike.refl U.vm) q.2.2.1, q.2.2.2.calling⟩, (va_recv (q0 := 0) hK hP rfl rfl), fun U hU hW => ⟨rfl, by rw [hU]; exact hP, va_K.moved hW.alike hK, by rw [hU]; exact (hX.mono hS (fun _ h => absurd h id)).warm hW⟩⟩ rfl rfl hl.1 rfl (lv_room (Nat.le_of_ble_eq_true rfl)) d_MD_dateOf_54 ⟨Nat.le_of_ble_eq_true rfl, Nat.le_of_ble_eq_true rfl⟩) (fun xr_1 h_xr_1 => ?_)
              subst h_xr_1
              have e9 : mdaF z wh = (weekZ z, 0) := by unfold mdaF; rw [if_neg h6, if_neg h13, if_neg h17, if_pos h22, if_neg h28, if_neg h42]
              exact ret _ _ _ 57 (iI (weekZ z)) () d_MD_dateOf_57 hS ((congrArg (fun q9 => iI q9.1) e9).symm) (fun t ht _ => ⟨by rw [e9, ht]; exact hP, by rw [e9]; exact hD⟩)
            · refine lv_iload_n hx hb d_MD_dateOf_45 rfl (lv_at hl 1 rfl) ?_
              refine rc_i (va_runS (As := [.int (iI (z))]) (rest := []) ⟨hx, hb, hml, hown, hts⟩ (c_MD_weekday l D k (z) ((by omega))) ⟨callB_of 1 hts (good_MD_weekday) rfl rfl rfl (hts _ k_67) (hts _ k_891) (by decide +kernel) ⟨Nat.le_of_ble_eq_true rfl, Nat.le_of_ble_eq_true rfl⟩, (hts _ k_892)⟩ ⟨fun a U g mk q => ⟨q.1, q.2.1, va_K.moved (u := U) (U := U.calling g mk a) (Vm.Alike.refl U.vm) q.2.2.1, q.2.2.2.calling⟩, fun U hU hW => ⟨rfl, by rw [hU]; exact (hP.sub (ws' := []) [] rfl), va_K.moved hW.alike hK, by rw [hU]; exact (hX.mono hS (fun _ h => absurd h id)).warm hW⟩⟩ rfl rfl hl.1 rfl (lv_room (Nat.le_of_ble_eq_true rfl)) d_MD_dateOf_46 ⟨Nat.le_of_ble_eq_true rfl, Nat.le_of_ble_eq_true rfl⟩) (fun xr_2 h_xr_2 => ?_)
              subst h_xr_2
              refine lv_goto (tgt := 57) hx hb d_MD_dateOf_49 (by decide) ?_
              have e9 : mdaF z wh = (wDay z, 0) := by unfold mdaF; rw [if_neg h6, if_neg h13, if_neg h17, if_pos h22, if_neg h28, if_pos h42]
              exact ret _ _ _ 57 (iI (wDay z)) () d_MD_dateOf_57 hS ((congrArg (fun q9 => iI q9.1) e9).symm) (fun t ht _ => ⟨by rw [e9, ht]; exact hP, by rw [e9]; exact hD⟩)
          · refine lv_aload_n hx hb d_MD_dateOf_31 rfl (lv_at hl 0 rfl) ?_
            refine va_get (D := D) (ci := 8) (v := .ref aDt) (C := R_MD) (T := F_MD) (N := 26) hx hb hts in_MD hown hK hP 0 rfl rfl 4 (by decide) (hts _ k_737) (fun _ h9 => h9) rfl d_MD_dateOf_32 ?_
            refine lv_iload_n hx hb d_MD_dateOf_35 rfl (lv_at hl 1 rfl) ?_
            refine x_iald hx hb hK hP 1 0 rfl rfl ((z).toNat) (by omega) (by omega) (by omega) d_MD_dateOf_36 ?_
            refine z_top (show _ = iI (dateZ ((z).toNat)) from rfl) ?_
            refine lv_goto (tgt := 57) hx hb d_MD_dateOf_37 (by decide) ?_
            have e9 : mdaF z wh = (dateZ ((z).toNat), 0) := by unfold mdaF; rw [if_neg h6, if_neg h13, if_neg h17, if_pos h22, if_pos h28]
            exact ret _ _ _ 57 (iI (dateZ ((z).toNat))) () d_MD_dateOf_57 hS ((congrArg (fun q9 => iI q9.1) e9).symm) (fun t ht _ => ⟨by rw [e9, ht]; exact hP, by rw [e9]; exact hD⟩)
        · refine z_iconst hx hb d_MD_dateOf_25 ?_
          have e9 : mdaF z wh = (-1, 0) := by unfold mdaF; rw [if_neg h6, if_neg h13, if_neg h17, if_neg h22]
          exact ret _ _ _ 26 (iI (-1)) () d_MD_dateOf_26 hS ((congrArg (fun q9 => iI q9.1) e9).symm) (fun t ht _ => ⟨by rw [e9, ht]; exact hP, by rw [e9]; exact hD⟩)
