def mStep (ce kd fi se : Nat → Int) (d : Nat) (s : Int32) (j : Nat) : Int32 :=
  if ce j = 102 then s ^^^ iI 1 else if ce j = 100 then (s >>> (iI 1 &&& 31)) &&& ((s &&& iI 1) ||| iI (-2)) else if ce j = 101 then (s >>> (iI 1 &&& 31)) ||| (s &&& iI 1) else iI 2 * s + bI (atF (kd (ce j).toNat) fi se (ce j).toNat d)
def mFold (ce kd fi se : Nat → Int) (d : Nat) : Nat → Nat → Int32 → Int32
  | 0, _, s => s
  | k + 1, j, s => mFold ce kd fi se d k (j + 1) (mStep ce kd fi se d s j)
theorem mFold_s {ce kd fi se : Nat → Int} {d k j : Nat} {s v : Int32} (h : mStep ce kd fi se d s j = v) : mFold ce kd fi se d (k + 1) j s = mFold ce kd fi se d k (j + 1) v := by
  rw [← h]; rfl
/-- whether a rule's matcher has a day -/
def mtM (cf ce kd fi se : Nat → Int) (d r : Nat) : Bool := decide (cf r = cf (r + 1)) || decide (mFold ce kd fi se d ((cf (r + 1)).toNat - (cf r).toNat) (cf r).toNat (iI 0) &&& iI 1 = iI 1)
/-- a rule's code that can be run -/
def RK (cf ce kd fi se : Nat → Int) (r : Nat) : Prop := (0 ≤ cf r ∧ cf r ≤ cf (r + 1) ∧ cf (r + 1) ≤ 110) ∧ ∀ j : Nat, cf r ≤ (j : Int) → (j : Int) < cf (r + 1) → CEO kd fi se (ce j)
set_option maxHeartbeats 4000000 in
set_option maxRecDepth 100000 in
theorem c_MD_isMatched (l : Launch) (D : va_G) (k : Nat → ClassId) (h0 aTx aDt aFe aRu aTa aBe aEn aMa aEx aAb aCo aNt aNb aNe aCf aCd aKi aFi aSe : Nat) (fa : Int) (ty : Int) (sh : Bool) (wt : Int) (rd : Int) (cd : Int) (at1 : Int) (cf : Nat → Int) (ce : Nat → Int) (kd : Nat → Int) (fi : Nat → Int) (se : Nat → Int) (rn : Nat) (d : Nat) (hr : rn < 12) (hd : d < 1461) (hrk : RK cf ce kd fi se rn) : Met l y_MD_isMatched wd_MD_isMatched rm_MD_isMatched (va_Pc [.ref h0, .int (iI ((rn : Int))), .int (iI ((d : Int)))] (PRO D k [(h0, .inr (8, [.int (iI (fa)), .int (iI (ty)), .ref aTx, .int (bI (sh)), .ref aDt, .ref aFe, .ref aRu, .ref aTa, .ref aBe, .ref aEn, .ref aMa, .int (iI (wt)), .ref aEx, .ref aAb, .ref aCo, .int (iI (rd)), .ref aNt, .ref aNb, .ref aNe, .ref aCf, .ref aCd, .int (iI (cd)), .int (iI (at1)), .ref aKi, .ref aFi, .ref aSe])), (aDt, .inl (k 0, 1461, .inl (aZ (dateZ)))), (aFe, .inl (k 0, 4, .inl (aZ (feaZ)))), (aCf, .inl (k 0, 13, .inl (aZ (cf)))), (aCd, .inl (k 0, 110, .inl (aZ (ce)))), (aKi, .inl (k 0, 60, .inl (aZ (kd)))), (aFi, .inl (k 0, 60, .inl (aZ (fi)))), (aSe, .inl (k 0, 60, .inl (aZ (se))))])) (QRi (fun r : Int32 => r = (bI (mtM cf ce kd fi se d rn)))) 0 0 nA := by
  refine r_z (by decide) rfl (Nat.le_of_ble_eq_true rfl) ?_
  intro p e s m args below meth c Q ls hx hb hml hown hts hpre hl ret
  obtain ⟨hP, hK, hX⟩ := hpre
  have hS : va_S nA s.heap s.heap [] := va_S.rf
  have hl : lv_has ls 7 [(0, .ref h0), (1, .int (iI ((rn : Int)))), (2, .int (iI ((d : Int))))] := hl
  obtain ⟨hcf, hce⟩ := hrk
  refine lv_aload_n hx hb d_MD_isMatched_0 rfl (lv_at hl 0 rfl) ?_
  refine va_get (D := D) (ci := 8) (v := .ref aCf) (C := R_MD) (T := F_MD) (N := 26) hx hb hts in_MD hown hK hP 0 rfl rfl 19 (by decide) (hts _ k_752) (fun _ h9 => h9) rfl d_MD_isMatched_1 ?_
  refine lv_iload_n hx hb d_MD_isMatched_4 rfl (lv_at hl 1 rfl) ?_
  refine x_iald hx hb hK hP 3 0 rfl rfl (rn) rfl (by omega) (by omega) d_MD_isMatched_5 ?_
  refine z_top (show _ = iI (cf (rn)) from rfl) ?_
  refine lv_istore_n (lv' := [(3, .int (iI (cf (rn)))), (0, .ref h0), (1, .int (iI ((rn : Int)))), (2, .int (iI ((d : Int))))]) hx hb d_MD_isMatched_6 rfl hl (by decide) rfl (fun ls hl => ?_)
  refine lv_aload_n hx hb d_MD_isMatched_7 rfl (lv_at hl 1 rfl) ?_
  refine va_get (D := D) (ci := 8) (v := .ref aCf) (C := R_MD) (T := F_MD) (N := 26) hx hb hts in_MD hown hK hP 0 rfl rfl 19 (by decide) (hts _ k_752) (fun _ h9 => h9) rfl d_MD_isMatched_8 ?_
  refine lv_iload_n hx hb d_MD_isMatched_11 rfl (lv_at hl 2 rfl) ?_
  refine z_iconst hx hb d_MD_isMatched_12 ?_
  refine z_iadd hx hb d_MD_isMatched_13 ?_
  refine x_iald hx hb hK hP 3 0 rfl rfl (rn + 1) (by omega) (by omega) (by omega) d_MD_isMatched_14 ?_
  refine z_top (show _ = iI (cf (rn + 1)) from rfl) ?_
  refine lv_istore (lv' := [(4, .int (iI (cf (rn + 1)))), (3, .int (iI (cf (rn)))), (0, .ref h0), (1, .int (iI ((rn : Int)))), (2, .int (iI ((d : Int))))]) hx hb d_MD_isMatched_15 hl (by decide) rfl (fun ls hl => ?_)
  refine z_iconst hx hb d_MD_isMatched_17 ?_
  refine lv_istore (lv' := [(5, .int (iI (0))), (4, .int (iI (cf (rn + 1)))), (3, .int (iI (cf (rn)))), (0, .ref h0), (1, .int (iI ((rn : Int)))), (2, .int (iI ((d : Int))))]) hx hb d_MD_isMatched_18 hl (by decide) rfl (fun ls hl => ?_)
  refine lv_iload_n hx hb d_MD_isMatched_20 rfl (lv_at hl 2 rfl) ?_
  refine lv_istore (lv' := [(6, .int (iI (cf (rn)))), (5, .int (iI (0))), (4, .int (iI (cf (rn + 1)))), (3, .int (iI (cf (rn)))), (0, .ref h0), (1, .int (iI ((rn : Int)))), (2, .int (iI ((d : Int))))]) hx hb d_MD_isMatched_21 hl (by decide) rfl (fun ls hl => ?_)
  have L23 : ∀ (fu : Nat) (k1 : Nat) (z : Int) (s9 : Int32) (ls : Array Slot), z = (k1 : Int) → cf rn ≤ (k1 : Int) ∧ (k1 : Int) ≤ cf (rn + 1) → mFold ce kd fi se d ((cf (rn + 1)).toNat - k1) k1 s9 = mFold ce kd fi se d ((cf (rn + 1)).toNat - (cf rn).toNat) (cf rn).toNat (iI 0) → (cf (rn + 1)).toNat - k1 < fu → lv_has ls 7 [(0, .ref h0), (1, .int (iI ((rn : Int)))), (2, .int (iI ((d : Int)))), (3, .int (iI (cf (rn)))), (4, .int (iI (cf (rn + 1)))), (5, .int (s9)), (6, .int (iI (z)))] → W p l e rm_MD_isMatched s m args below meth c s.heap [] 0 0 Q (F0 m 23 ls []) := by
    intro fu
    induction fu with
    | zero => intro k1 z s9 ls hz hk1 hw hmu; exact absurd hmu (Nat.not_lt_zero _)
    | succ fu ih23 =>
      intro k1 z s9 ls hz hk1 hw hmu hl
      subst hz
      refine lv_iload hx hb d_MD_isMatched_23 (lv_at hl 6 rfl) ?_
      refine lv_iload hx hb d_MD_isMatched_25 (lv_at hl 4 rfl) ?_
      refine z_icmp_ge (tgt := 139) hx hb d_MD_isMatched_27 (by decide) ⟨by omega, by omega⟩ ⟨by omega, by omega⟩ (fun h27 => ?_) (fun h27 => ?_)
      · have hs9 : s9 = mFold ce kd fi se d ((cf (rn + 1)).toNat - (cf rn).toNat) (cf rn).toNat (iI 0) := by rw [← hw, show (cf (rn + 1)).toNat - k1 = 0 by omega]; rfl
        refine lv_iload_n hx hb d_MD_isMatched_139 rfl (lv_at hl 3 rfl) ?_
        refine lv_iload hx hb d_MD_isMatched_140 (lv_at hl 4 rfl) ?_
        refine z_icmp_eq (tgt := 153) hx hb d_MD_isMatched_142 (by decide) ⟨by omega, by omega⟩ ⟨by omega, by omega⟩ (fun h142 => ?_) (fun h142 => ?_)
        · refine z_iconst hx hb d_MD_isMatched_153 ?_
          refine lv_goto (tgt := 158) hx hb d_MD_isMatched_154 (by decide) ?_
          exact ret _ 158 true d_MD_isMatched_158 (congrArg bI (by unfold mtM; first | (rw [decide_eq_true h142]; rfl) | (rw [← hs9, decide_eq_true h150, Bool.or_true]) | (rw [decide_eq_false h142, ← hs9, decide_eq_false h150]; rfl)))
        · refine lv_iload hx hb d_MD_isMatched_145 (lv_at hl 5 rfl) ?_
          refine z_iconst hx hb d_MD_isMatched_147 ?_
          refine lv_iand hx hb d_MD_isMatched_148 ?_
          refine z_iconst hx hb d_MD_isMatched_149 ?_
          refine lv_icmp_ne (tgt := 157) hx hb d_MD_isMatched_150 (by decide) (fun h150 => ?_) (fun h150 => ?_)
          · refine z_iconst hx hb d_MD_isMatched_157 ?_
            exact ret _ 158 false d_MD_isMatched_158 (congrArg bI (by unfold mtM; first | (rw [decide_eq_true h142]; rfl) | (rw [← hs9, decide_eq_true h150, Bool.or_true]) | (rw [decide_eq_false h142, ← hs9, decide_eq_false h150]; rfl)))
          · refine z_iconst hx hb d_MD_isMatched_153 ?_
            refine lv_goto (tgt := 158) hx hb d_MD_isMatched_154 (by decide) ?_
            exact ret _ 158 true d_MD_isMatched_158 (congrArg bI (by unfold mtM; first | (rw [decide_eq_true h142]; rfl) | (rw [← hs9, decide_eq_true h150, Bool.or_true]) | (rw [decide_eq_false h142, ← hs9, decide_eq_false h150]; rfl)))
      · have hc9 := hce k1 (by omega) (by omega)
        have hc8 := CEO_bd hc9
        refine lv_aload_n hx hb d_MD_isMatched_30 rfl (lv_at hl 0 rfl) ?_
        refine va_get (D := D) (ci := 8) (v := .ref aCd) (C := R_MD) (T := F_MD) (N := 26) hx hb hts in_MD hown hK hP 0 rfl rfl 20 (by decide) (hts _ k_753) (fun _ h9 => h9) rfl d_MD_isMatched_31 ?_
        refine lv_iload hx hb d_MD_isMatched_34 (lv_at hl 6 rfl) ?_
        refine x_iald hx hb hK hP 4 0 rfl rfl (k1) rfl (by omega) (by omega) d_MD_isMatched_36 ?_
        refine z_top (show _ = iI (ce (k1)) from rfl) ?_
        refine z_bipush hx hb d_MD_isMatched_37 (by decide) ?_
        refine z_icmp_ne (tgt := 51) hx hb d_MD_isMatched_39 (by decide) ⟨by omega, by omega⟩ ⟨by omega, by omega⟩ (fun h39 => ?_) (fun h39 => ?_)
        · refine lv_aload_n hx hb d_MD_isMatched_51 rfl (lv_at hl 0 rfl) ?_
          refine va_get (D := D) (ci := 8) (v := .ref aCd) (C := R_MD) (T := F_MD) (N := 26) hx hb hts in_MD hown hK hP 0 rfl rfl 20 (by decide) (hts _ k_753) (fun _ h9 => h9) rfl d_MD_isMatched_52 ?_
          refine lv_iload hx hb d_MD_isMatched_55 (lv_at hl 6 rfl) ?_
          refine x_iald hx hb hK hP 4 0 rfl rfl (k1) rfl (by omega) (by omega) d_MD_isMatched_57 ?_
          refine z_top (show _ = iI (ce (k1)) from rfl) ?_
          refine z_bipush hx hb d_MD_isMatched_58 (by decide) ?_
          refine z_icmp_ne (tgt := 80) hx hb d_MD_isMatched_60 (by decide) ⟨by omega, by omega⟩ ⟨by omega, by omega⟩ (fun h60 => ?_) (fun h60 => ?_)
          · refine lv_aload_n hx hb d_MD_isMatched_80 rfl (lv_at hl 0 rfl) ?_
            refine va_get (D := D) (ci := 8) (v := .ref aCd) (C := R_MD) (T := F_MD) (N := 26) hx hb hts in_MD hown hK hP 0 rfl rfl 20 (by decide) (hts _ k_753) (fun _ h9 => h9) rfl d_MD_isMatched_81 ?_
            refine lv_iload hx hb d_MD_isMatched_84 (lv_at hl 6 rfl) ?_
            refine x_iald hx hb hK hP 4 0 rfl rfl (k1) rfl (by omega) (by omega) d_MD_isMatched_86 ?_
            refine z_top (show _ = iI (ce (k1)) from rfl) ?_
            refine z_bipush hx hb d_MD_isMatched_87 (by decide) ?_
            refine z_icmp_ne (tgt := 106) hx hb d_MD_isMatched_89 (by decide) ⟨by omega, by omega⟩ ⟨by omega, by omega⟩ (fun h89 => ?_) (fun h89 => ?_)
            · refine z_iconst hx hb d_MD_isMatched_106 ?_
              refine lv_iload hx hb d_MD_isMatched_107 (lv_at hl 5 rfl) ?_
              refine lv_imul hx hb d_MD_isMatched_109 ?_
              refine lv_aload_n hx hb d_MD_isMatched_110 rfl (lv_at hl 0 rfl) ?_
              refine lv_aload_n hx hb d_MD_isMatched_111 rfl (lv_at hl 0 rfl) ?_
              refine va_get (D := D) (ci := 8) (v := .ref aCd) (C := R_MD) (T := F_MD) (N := 26) hx hb hts in_MD hown hK hP 0 rfl rfl 20 (by decide) (hts _ k_753) (fun _ h9 => h9) rfl d_MD_isMatched_112 ?_
              refine lv_iload hx hb d_MD_isMatched_115 (lv_at hl 6 rfl) ?_
              refine x_iald hx hb hK hP 4 0 rfl rfl (k1) rfl (by omega) (by omega) d_MD_isMatched_117 ?_
              refine z_top (show _ = iI (ce (k1)) from rfl) ?_
              obtain ⟨ca1, ca2, hak⟩ := CEO_a hc9 h39 h60 h89
              obtain ⟨an9, han⟩ : ∃ an9 : Nat, (an9 : Int) = ce k1 := ⟨(ce k1).toNat, by omega⟩
              rw [show (ce k1).toNat = an9 by omega] at hak
              refine z_top (show (iI (ce (k1))) = (iI ((an9 : Int))) from congrArg iI han.symm) ?_
              refine lv_iload_n hx hb d_MD_isMatched_118 rfl (lv_at hl 2 rfl) ?_
              refine rc_i (va_runV (As := [.int (iI ((an9 : Int))), .int (iI ((d : Int)))]) (rest := [.int ((iI (2)) * (s9))]) (b := h0) ⟨hx, hb, hml, hown, hts⟩ (c_MD_isAtom l D k (h0) (aTx) (aDt) (aFe) (aRu) (aTa) (aBe) (aEn) (aMa) (aEx) (aAb) (aCo) (aNt) (aNb) (aNe) (aCf) (aCd) (aKi) (aFi) (aSe) (fa) (ty) (sh) (wt) (rd) (cd) (at1) (kd) (kd an9) (fi) (se) (an9) (d) ((by omega)) (hd) (rfl) (hak.1) (hak.2.1) (hak.2.2.1) (hak.2.2.2.1) (hak.2.2.2.2.1) (hak.2.2.2.2.2)) ⟨callB_of 2 hts (good_MD_isAtom) rfl rfl rfl (hts _ k_67) (hts _ k_887) (by decide +kernel) ⟨Nat.le_of_ble_eq_true rfl, Nat.le_of_ble_eq_true rfl⟩, (hts _ k_889), (hts _ k_44)⟩ ⟨fun a U g mk q => ⟨q.1, q.2.1, va_K.moved (u := U) (U := U.calling g mk a) (Vm.Alike.refl U.vm) q.2.2.1, q.2.2.2.calling⟩, (va_recv (q0 := 0) hK hP rfl rfl), fun U hU hW => ⟨rfl, by rw [hU]; exact (hP.sub (ws' := [(h0, .inr (8, [.int (iI (fa)), .int (iI (ty)), .ref aTx, .int (bI (sh)), .ref aDt, .ref aFe, .ref aRu, .ref aTa, .ref aBe, .ref aEn, .ref aMa, .int (iI (wt)), .ref aEx, .ref aAb, .ref aCo, .int (iI (rd)), .ref aNt, .ref aNb, .ref aNe, .ref aCf, .ref aCd, .int (iI (cd)), .int (iI (at1)), .ref aKi, .ref aFi, .ref aSe])), (aDt, .inl (k 0, 1461, .inl (aZ (dateZ)))), (aFe, .inl (k 0, 4, .inl (aZ (feaZ)))), (aKi, .inl (k 0, 60, .inl (aZ (kd)))), (aFi, .inl (k 0, 60, .inl (aZ (fi)))), (aSe, .inl (k 0, 60, .inl (aZ (se))))]) [0, 1, 2, 5, 6, 7] rfl), va_K.moved hW.alike hK, by rw [hU]; exact hX.warm hW⟩⟩ rfl rfl hl.1 rfl (lv_room (Nat.le_of_ble_eq_true rfl)) d_MD_isMatched_119 ⟨Nat.le_of_ble_eq_true rfl, Nat.le_of_ble_eq_true rfl⟩) (fun xr_1 h_xr_1 => ?_)
              subst h_xr_1
              have J122_1 : W p l e rm_MD_isMatched s m args below meth c s.heap [] 0 0 Q (F0 m 130 ls [.int (bI ((atF (kd an9) fi se an9 d))), .int ((iI (2)) * (s9))]) := by
                refine lv_iadd hx hb d_MD_isMatched_130 ?_
                refine lv_istore (lv' := [(5, .int (((iI (2)) * (s9)) + (bI ((atF (kd an9) fi se an9 d))))), (0, .ref h0), (1, .int (iI ((rn : Int)))), (2, .int (iI ((d : Int)))), (3, .int (iI (cf (rn)))), (4, .int (iI (cf (rn + 1)))), (6, .int (iI ((k1 : Int))))]) hx hb d_MD_isMatched_131 hl (by decide) rfl (fun ls hl => ?_)
                refine z_iinc (k := 6) (a := (k1 : Int)) (lv' := [(6, .int (iI (((k1 : Int)) + 1))), (5, .int (((iI (2)) * (s9)) + (bI ((atF (kd an9) fi se an9 d))))), (0, .ref h0), (1, .int (iI ((rn : Int)))), (2, .int (iI ((d : Int)))), (3, .int (iI (cf (rn)))), (4, .int (iI (cf (rn + 1))))]) hx hb d_MD_isMatched_133 hl rfl (by decide) rfl (fun ls hl => ?_)
                refine lv_goto (tgt := 23) hx hb d_MD_isMatched_136 (by decide) ?_
                exact ih23 (k1 + 1) ((k1 : Int) + 1) (((iI (2)) * (s9)) + (bI ((atF (kd an9) fi se an9 d)))) ls (by omega) (by omega) (by rw [← hw, show (cf (rn + 1)).toNat - k1 = ((cf (rn + 1)).toNat - (k1 + 1)) + 1 by omega]; refine (mFold_s ?_).symm; unfold mStep; first | exact if_pos h39 | exact (if_neg h39).trans (if_pos h60) | exact (if_neg h39).trans ((if_neg h60).trans (if_pos h89)) | (rw [if_neg h39, if_neg h60, if_neg h89, show (ce k1).toNat = an9 by omega])) (by omega) (lv_sub hl [2, 3, 4, 5, 6, 1, 0] rfl)
              refine b_if_eq (tgt := 129) hx hb d_MD_isMatched_122 (by decide) (fun h122 => ?_) (fun h122 => ?_)
              · refine z_iconst hx hb d_MD_isMatched_129 ?_
                exact z_top (show (iI (0)) = (bI ((atF (kd an9) fi se an9 d))) from bI_F (h122)) J122_1
              · refine z_iconst hx hb d_MD_isMatched_125 ?_
                refine lv_goto (tgt := 130) hx hb d_MD_isMatched_126 (by decide) ?_
                exact z_top (show (iI (1)) = (bI ((atF (kd an9) fi se an9 d))) from bI_T (h122)) J122_1
            · refine lv_iload hx hb d_MD_isMatched_92 (lv_at hl 5 rfl) ?_
              refine z_iconst hx hb d_MD_isMatched_94 ?_
              refine lv_ishr hx hb d_MD_isMatched_95 ?_
              refine lv_iload hx hb d_MD_isMatched_96 (lv_at hl 5 rfl) ?_
              refine z_iconst hx hb d_MD_isMatched_98 ?_
              refine lv_iand hx hb d_MD_isMatched_99 ?_
              refine lv_ior hx hb d_MD_isMatched_100 ?_
              refine lv_istore (lv' := [(5, .int (((s9) >>> ((iI (1)) &&& 31)) ||| ((s9) &&& (iI (1))))), (0, .ref h0), (1, .int (iI ((rn : Int)))), (2, .int (iI ((d : Int)))), (3, .int (iI (cf (rn)))), (4, .int (iI (cf (rn + 1)))), (6, .int (iI ((k1 : Int))))]) hx hb d_MD_isMatched_101 hl (by decide) rfl (fun ls hl => ?_)
              refine lv_goto (tgt := 133) hx hb d_MD_isMatched_103 (by decide) ?_
              refine z_iinc (k := 6) (a := (k1 : Int)) (lv' := [(6, .int (iI (((k1 : Int)) + 1))), (5, .int (((s9) >>> ((iI (1)) &&& 31)) ||| ((s9) &&& (iI (1))))), (0, .ref h0), (1, .int (iI ((rn : Int)))), (2, .int (iI ((d : Int)))), (3, .int (iI (cf (rn)))), (4, .int (iI (cf (rn + 1))))]) hx hb d_MD_isMatched_133 hl rfl (by decide) rfl (fun ls hl => ?_)
              refine lv_goto (tgt := 23) hx hb d_MD_isMatched_136 (by decide) ?_
              exact ih23 (k1 + 1) ((k1 : Int) + 1) (((s9) >>> ((iI (1)) &&& 31)) ||| ((s9) &&& (iI (1)))) ls (by omega) (by omega) (by rw [← hw, show (cf (rn + 1)).toNat - k1 = ((cf (rn + 1)).toNat - (k1 + 1)) + 1 by omega]; refine (mFold_s ?_).symm; unfold mStep; first | exact if_pos h39 | exact (if_neg h39).trans (if_pos h60) | exact (if_neg h39).trans ((if_neg h60).trans (if_pos h89)) | (rw [if_neg h39, if_neg h60, if_neg h89, show (ce k1).toNat = an9 by omega])) (by omega) (lv_sub hl [2, 3, 4, 5, 6, 1, 0] rfl)
          · refine lv_iload hx hb d_MD_isMatched_63 (lv_at hl 5 rfl) ?_
            refine z_iconst hx hb d_MD_isMatched_65 ?_
            refine lv_ishr hx hb d_MD_isMatched_66 ?_
            refine lv_iload hx hb d_MD_isMatched_67 (lv_at hl 5 rfl) ?_
            refine z_iconst hx hb d_MD_isMatched_69 ?_
            refine lv_iand hx hb d_MD_isMatched_70 ?_
            refine z_bipush hx hb d_MD_isMatched_71 (by decide) ?_
            refine lv_ior hx hb d_MD_isMatched_73 ?_
            refine lv_iand hx hb d_MD_isMatched_74 ?_
            refine lv_istore (lv' := [(5, .int (((s9) >>> ((iI (1)) &&& 31)) &&& (((s9) &&& (iI (1))) ||| (iI (-2))))), (0, .ref h0), (1, .int (iI ((rn : Int)))), (2, .int (iI ((d : Int)))), (3, .int (iI (cf (rn)))), (4, .int (iI (cf (rn + 1)))), (6, .int (iI ((k1 : Int))))]) hx hb d_MD_isMatched_75 hl (by decide) rfl (fun ls hl => ?_)
            refine lv_goto (tgt := 133) hx hb d_MD_isMatched_77 (by decide) ?_
            refine z_iinc (k := 6) (a := (k1 : Int)) (lv' := [(6, .int (iI (((k1 : Int)) + 1))), (5, .int (((s9) >>> ((iI (1)) &&& 31)) &&& (((s9) &&& (iI (1))) ||| (iI (-2))))), (0, .ref h0), (1, .int (iI ((rn : Int)))), (2, .int (iI ((d : Int)))), (3, .int (iI (cf (rn)))), (4, .int (iI (cf (rn + 1))))]) hx hb d_MD_isMatched_133 hl rfl (by decide) rfl (fun ls hl => ?_)
            refine lv_goto (tgt := 23) hx hb d_MD_isMatched_136 (by decide) ?_
            exact ih23 (k1 + 1) ((k1 : Int) + 1) (((s9) >>> ((iI (1)) &&& 31)) &&& (((s9) &&& (iI (1))) ||| (iI (-2)))) ls (by omega) (by omega) (by rw [← hw, show (cf (rn + 1)).toNat - k1 = ((cf (rn + 1)).toNat - (k1 + 1)) + 1 by omega]; refine (mFold_s ?_).symm; unfold mStep; first | exact if_pos h39 | exact (if_neg h39).trans (if_pos h60) | exact (if_neg h39).trans ((if_neg h60).trans (if_pos h89)) | (rw [if_neg h39, if_neg h60, if_neg h89, show (ce k1).toNat = an9 by omega])) (by omega) (lv_sub hl [2, 3, 4, 5, 6, 1, 0] rfl)
        · refine lv_iload hx hb d_MD_isMatched_42 (lv_at hl 5 rfl) ?_
          refine z_iconst hx hb d_MD_isMatched_44 ?_
          refine lv_ixor hx hb d_MD_isMatched_45 ?_
          refine lv_istore (lv' := [(5, .int ((s9) ^^^ (iI (1)))), (0, .ref h0), (1, .int (iI ((rn : Int)))), (2, .int (iI ((d : Int)))), (3, .int (iI (cf (rn)))), (4, .int (iI (cf (rn + 1)))), (6, .int (iI ((k1 : Int))))]) hx hb d_MD_isMatched_46 hl (by decide) rfl (fun ls hl => ?_)
          refine lv_goto (tgt := 133) hx hb d_MD_isMatched_48 (by decide) ?_
          refine z_iinc (k := 6) (a := (k1 : Int)) (lv' := [(6, .int (iI (((k1 : Int)) + 1))), (5, .int ((s9) ^^^ (iI (1)))), (0, .ref h0), (1, .int (iI ((rn : Int)))), (2, .int (iI ((d : Int)))), (3, .int (iI (cf (rn)))), (4, .int (iI (cf (rn + 1))))]) hx hb d_MD_isMatched_133 hl rfl (by decide) rfl (fun ls hl => ?_)
          refine lv_goto (tgt := 23) hx hb d_MD_isMatched_136 (by decide) ?_
          exact ih23 (k1 + 1) ((k1 : Int) + 1) ((s9) ^^^ (iI (1))) ls (by omega) (by omega) (by rw [← hw, show (cf (rn + 1)).toNat - k1 = ((cf (rn + 1)).toNat - (k1 + 1)) + 1 by omega]; refine (mFold_s ?_).symm; unfold mStep; first | exact if_pos h39 | exact (if_neg h39).trans (if_pos h60) | exact (if_neg h39).trans ((if_neg h60).trans (if_pos h89)) | (rw [if_neg h39, if_neg h60, if_neg h89, show (ce k1).toNat = an9 by omega])) (by omega) (lv_sub hl [2, 3, 4, 5, 6, 1, 0] rfl)
  exact L23 (_) ((cf rn).toNat) (cf rn) (iI (0)) ls (by omega) (by omega) (by rfl) (Nat.lt_succ_self _) (lv_sub hl [4, 5, 6, 3, 2, 1, 0] rfl)
