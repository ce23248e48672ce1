theorem lb_and (a b : Int64) (j : Nat) : lb (a &&& b) j = (lb a j && lb b j) := by
  unfold lb
  rw [Int64.toBitVec_and, BitVec.getLsbD_and]
theorem lb_or (a b : Int64) (j : Nat) : lb (a ||| b) j = (lb a j || lb b j) := by
  unfold lb
  rw [Int64.toBitVec_or, BitVec.getLsbD_or]
theorem lb_xor (a b : Int64) (j : Nat) : lb (a ^^^ b) j = (lb a j ^^ lb b j) := by
  unfold lb
  rw [Int64.toBitVec_xor, BitVec.getLsbD_xor]
theorem lb_ge (a : Int64) {j : Nat} (h : 64 ≤ j) : lb a j = false := by
  unfold lb
  exact BitVec.getLsbD_of_ge _ _ h
theorem lb_m1 : (List.range 64).all (fun j => lb (-1) j) = true := by decide +kernel
theorem lb_not (a : Int64) {j : Nat} (h : j < 64) : lb (a ^^^ (-1)) j = !lb a j := by
  rw [lb_xor, List.all_eq_true.mp lb_m1 j (List.mem_range.mpr h)]
  cases lb a j <;> rfl
theorem lb_ext {a b : Int64} (h : ∀ j, j < 64 → lb a j = lb b j) : a = b := by
  apply Int64.toBitVec_inj.mp
  apply BitVec.eq_of_getLsbD_eq
  intro i hi
  exact h i hi
theorem lb_0 (j : Nat) : lb 0 j = false := by
  by_cases h : j < 64
  · have : (List.range 64).all (fun j => !lb 0 j) = true := by decide +kernel
    simpa using List.all_eq_true.mp this j (List.mem_range.mpr h)
  · exact lb_ge _ (by omega)
def lowF (P : Nat → Bool) : Nat → Nat → Nat
  | 0, j => j
  | k + 1, j => if P j = true then j else lowF P k (j + 1)
/-- the lowest bit that is set -/
def lowK (w : Int64) : Nat := lowF (lb w) 64 0
theorem lowF_spec (P : Nat → Bool) : ∀ k j, (∃ i, j ≤ i ∧ i < j + k ∧ P i = true) → j ≤ lowF P k j ∧ lowF P k j < j + k ∧ P (lowF P k j) = true ∧ ∀ i, j ≤ i → i < lowF P k j → P i = false
  | 0, j, h => by
    obtain ⟨i, h1, h2, _⟩ := h
    omega
  | k + 1, j, h => by
    show j ≤ (if P j = true then j else lowF P k (j + 1)) ∧ (if P j = true then j else lowF P k (j + 1)) < j + (k + 1) ∧ P (if P j = true then j else lowF P k (j + 1)) = true ∧ ∀ i, j ≤ i → i < (if P j = true then j else lowF P k (j + 1)) → P i = false
    by_cases c : P j = true
    · rw [if_pos c]
      exact ⟨Nat.le_refl _, by omega, c, fun i h1 h2 => absurd h2 (by omega)⟩
    · rw [if_neg c]
      obtain ⟨i, h1, h2, h3⟩ := h
      have hij : i ≠ j := fun q => c (by rw [← q]; exact h3)
      obtain ⟨q1, q2, q3, q4⟩ := lowF_spec P k (j + 1) ⟨i, by omega, by omega, h3⟩
      refine ⟨by omega, by omega, q3, fun x hx hy => ?_⟩
      by_cases hxj : x = j
      · rw [hxj]; simpa using c
      · exact q4 x (by omega) hy
theorem lowK_spec {w : Int64} (h : ¬ w = 0) : lowK w < 64 ∧ lb w (lowK w) = true ∧ ∀ j, j < lowK w → lb w j = false := by
  have he : ∃ i, 0 ≤ i ∧ i < 0 + 64 ∧ lb w i = true := by
    apply Classical.byContradiction
    intro hn
    apply h
    apply lb_ext
    intro j hj
    rw [lb_0]
    cases hb : lb w j with
    | false => rfl
    | true => exact absurd ⟨j, Nat.zero_le _, by omega, hb⟩ hn
  obtain ⟨_, h2, h3, h4⟩ := lowF_spec (lb w) 64 0 he
  unfold lowK
  exact ⟨by omega, h3, fun j hj => h4 j (Nat.zero_le _) hj⟩
def bitK (k : Nat) : Int64 := Int64.ofBitVec (BitVec.twoPow 64 k)
theorem low_and {w : Int64} (h : ¬ w = 0) : w &&& -w = bitK (lowK w) := by
  obtain ⟨h1, h2, h3⟩ := lowK_spec h
  apply lb_ext
  intro j hj
  rw [lb_and]
  have hn : lb (-w) j = (lb w j ^^ decide (∃ i, i < j ∧ lb w i = true)) := by
    unfold lb
    rw [Int64.toBitVec_neg, BitVec.getLsbD_neg]
    simp [hj]
  have hk : lb (bitK (lowK w)) j = decide (j = lowK w) := by
    unfold lb bitK
    show (BitVec.twoPow 64 (lowK w)).getLsbD j = _
    rw [BitVec.getLsbD_twoPow]
    by_cases q : j = lowK w
    · simp [q, h1]
    · have : ¬ lowK w = j := fun z => q z.symm
      simp [q, this]
  rw [hn, hk]
  by_cases q : j < lowK w
  · rw [h3 j q]
    have : ¬ j = lowK w := by omega
    simp [this]
  · by_cases q2 : j = lowK w
    · rw [q2, h2]
      have : ¬ ∃ i, i < lowK w ∧ lb w i = true := fun ⟨i, a, b⟩ => by rw [h3 i a] at b; cases b
      simp [this]
    · have hx : ∃ i, i < j ∧ lb w i = true := ⟨lowK w, by omega, h2⟩
      simp only [hx, q2, decide_true, decide_false]
      cases lb w j <;> rfl
theorem low_all : (List.range 64).all (fun k => decide (bcRaw (bitK k - 1) = iI (k : Int))) = true := by decide +kernel
theorem lowR_eq {w : Int64} (h : ¬ w = 0) : lowR w = iI ((lowK w : Nat) : Int) := by
  unfold lowR
  rw [low_and h]
  exact of_decide_eq_true (List.all_eq_true.mp low_all (lowK w) (List.mem_range.mpr (lowK_spec h).1))
theorem cOf_hi_all : (List.range 64).all (fun j => decide (j < 48) || (!lb 281474976710607 j && !lb 281474976710655 j && !lb 48 j)) = true := by decide +kernel
theorem cOf_hi {on : Bool} {d j : Nat} (h : 48 ≤ j) : lb (cOf on d) j = false ∧ lb 48 j = false ∧ lb 281474976710655 j = false := by
  by_cases hj : j < 64
  · have h1 := List.all_eq_true.mp cOf_hi_all j (List.mem_range.mpr hj)
    have h2 : ¬ j < 48 := by omega
    simp [h2] at h1
    unfold cOf
    split <;> simp [h1]
  · exact ⟨lb_ge _ (by omega), lb_ge _ (by omega), lb_ge _ (by omega)⟩
theorem cBeh_hi {on : Bool} {d q j : Nat} (h : 48 ≤ j) : lb (cBeh on d q) j = false := by
  obtain ⟨h1, h2, _⟩ := cOf_hi (on := on) (d := d) h
  unfold cBeh
  split <;> simp [lb_and, lb_or, h1, h2]
/-- a day's cells that have another tariff -/
def nxW (on : Bool) (T : PN) (t d : Nat) : Int64 := cOf on d &&& (cW T d t ^^^ (-1))
def nxL (on : Bool) (T : PN) (t : Nat) : Nat → Nat → Int64 → Nat × Int64
  | 0, d, w => (d, w)
  | k + 1, d, w => if w = 0 then nxL on T t k (d + 1) (nxW on T t (d + 1)) else (d, w)
theorem nxL_s {on : Bool} {T : PN} {t k d : Nat} {w : Int64} (h : w = 0) : nxL on T t (k + 1) d w = nxL on T t k (d + 1) (nxW on T t (d + 1)) := if_pos h
theorem nxL_e {on : Bool} {T : PN} {t k d : Nat} {w : Int64} (h : ¬ w = 0) : nxL on T t k d w = (d, w) := by
  cases k with
  | zero => rfl
  | succ k => exact if_neg h
theorem nxW_hi {on : Bool} {T : PN} {t d j : Nat} (h : 48 ≤ j) : lb (nxW on T t d) j = false := by
  unfold nxW
  rw [lb_and, (cOf_hi h).1]
  rfl
def nxZ (on : Bool) (d q : Nat) (r : Nat × Int64) : Int := if r.2 = 0 then -1 else tmZ on r.1 ((lowK r.2 : Nat) : Int) (decide (r.1 = d) && decide (((lowK r.2 : Nat) : Int) < (q : Int))) - tmZ on d (q : Int) false
set_option maxHeartbeats 4000000 in
set_option maxRecDepth 100000 in
theorem c_RC_next (l : Launch) (D : va_G) (k : Nat → ClassId) (h0 t0 sh al rd pa sp sa sb u0 u1 u2 u3 u4 u5 w0 : Nat) (ln : Int) (po : Nat → Nat) (on : Bool) (cc : Nat) (rl : Nat) (T : Nat → Nat → Int64) (d : Nat) (q : Nat) (hc : cc < 3) (hr : 0 < rl) (hr2 : rl < 1000) (hd : d < 1461) (hq : q < 48) : Met l y_RC_next wd_RC_next rm_RC_next (va_Pc [.ref h0, .int (iI ((cc : Int))), .int (iI ((d : Int))), .int (iI ((q : Int)))] (PRO D k [(h0, .inr (0, [.ref t0, .int (iI (ln)), .ref sh, .ref al, .ref rd, .ref pa, .ref sp])), (sh, .inr (7, [.ref sa, .ref sb, .int (bI (on))])), (sa, .inl (k 0, 4, .inl (aZ (losZ)))), (sb, .inl (k 0, 4, .inl (aZ (dblZ)))), (pa, .inl (k 6, 3, .inr (.inr (.inr (.inr (q3 po)))))), (po cc, .inr (5, [.ref u0, .ref w0, .int (iI ((rl : Int)))])), (u0, .inr (3, [.ref u1])), (u1, .inl (k 4, 4, .inr (.inr (.inr (.inr (rws u2 u3 u4 u5)))))), (u2, .inl (k 1, 1461, .inr (.inl (T 0)))), (u3, .inl (k 1, 1461, .inr (.inl (T 1)))), (u4, .inl (k 1, 1461, .inr (.inl (T 2)))), (u5, .inl (k 1, 1461, .inr (.inl (T 3))))])) (QRi (fun r : Int32 => r = (iI (if lostZ on d (q : Int) = true then -1 else nxZ on d q (nxL on T (gT T d q).toNat (1460 - d) d (cBeh on d q &&& (cW T d (gT T d q).toNat ^^^ (-1)))))))) 0 0 nA := by
  refine r_i (by decide) rfl (Nat.le_of_ble_eq_true rfl) ?_
  intro p e s m args below meth c Q ls hx hb hml hown hts hpre hl ret
  obtain ⟨hP, hK, hX⟩ := hpre
  have hS : va_S nA s.heap s.heap [] := va_S.rf
  have hl : lv_has ls 11 [(0, .ref h0), (1, .int (iI ((cc : Int)))), (2, .int (iI ((d : Int)))), (3, .int (iI ((q : Int))))] := hl
  refine lv_aload_n hx hb d_RC_next_0 rfl (lv_at hl 0 rfl) ?_
  refine lv_iload_n hx hb d_RC_next_1 rfl (lv_at hl 1 rfl) ?_
  refine lv_iload_n hx hb d_RC_next_2 rfl (lv_at hl 2 rfl) ?_
  refine lv_iload_n hx hb d_RC_next_3 rfl (lv_at hl 3 rfl) ?_
  refine rc_r (va_runV (As := [.int (iI ((cc : Int))), .int (iI ((d : Int))), .int (iI ((q : Int)))]) (rest := []) (b := h0) ⟨hx, hb, hml, hown, hts⟩ (c_RC_planWithCell l D k (h0) (t0) (sh) (al) (rd) (pa) (sp) (u0) (w0) (ln) (po) (cc) (rl) (d) ((q : Int)) (hc) (hr) (hr2) (hd) ((by omega))) ⟨callB_of 3 hts (good_RC_planWithCell) rfl rfl rfl (hts _ k_59) (hts _ k_569) (by decide +kernel) ⟨Nat.le_of_ble_eq_true rfl, Nat.le_of_ble_eq_true rfl⟩, (hts _ k_571), (hts _ k_22)⟩ ⟨fun a U g mk q => ⟨q.1, q.2.1, va_K.moved (u := U) (U := U.calling g mk a) (Vm.Alike.refl U.vm) q.2.2.1, q.2.2.2.calling⟩, (va_recv (q0 := 0) hK hP rfl rfl), fun U hU hW => ⟨rfl, by rw [hU]; exact (hP.sub (ws' := [(h0, .inr (0, [.ref t0, .int (iI (ln)), .ref sh, .ref al, .ref rd, .ref pa, .ref sp])), (pa, .inl (k 6, 3, .inr (.inr (.inr (.inr (q3 po)))))), (po cc, .inr (5, [.ref u0, .ref w0, .int (iI ((rl : Int)))]))]) [0, 4, 5] rfl), va_K.moved hW.alike hK, by rw [hU]; exact hX.warm hW⟩⟩ rfl rfl hl.1 rfl (lv_room (Nat.le_of_ble_eq_true rfl)) d_RC_next_4 ⟨Nat.le_of_ble_eq_true rfl, Nat.le_of_ble_eq_true rfl⟩) (fun xr_1 h_xr_1 => ?_)
  subst h_xr_1
  refine lv_astore (lv' := [(4, .ref (po cc)), (0, .ref h0), (1, .int (iI ((cc : Int)))), (2, .int (iI ((d : Int)))), (3, .int (iI ((q : Int))))]) hx hb d_RC_next_7 hl (by decide) rfl (fun ls hl => ?_)
  refine lv_aload_n hx hb d_RC_next_9 rfl (lv_at hl 1 rfl) ?_
  refine va_get (D := D) (ci := 0) (v := .ref sh) (C := R_RC) (T := F_RC) (N := 7) hx hb hts in_RC hown hK hP 0 rfl rfl 2 (by decide) (hts _ k_239) (fun _ h9 => h9) rfl d_RC_next_10 ?_
  refine lv_iload_n hx hb d_RC_next_13 rfl (lv_at hl 3 rfl) ?_
  refine lv_iload_n hx hb d_RC_next_14 rfl (lv_at hl 4 rfl) ?_
  refine rc_i (va_runV (As := [.int (iI ((d : Int))), .int (iI ((q : Int)))]) (rest := []) (b := sh) ⟨hx, hb, hml, hown, hts⟩ (c_SH_isLost l D k (sh) (sa) (sb) (on) (d) ((q : Int)) ((by omega)) (⟨by omega, by omega⟩)) ⟨callB_of 2 hts (good_SH_isLost) rfl rfl rfl (hts _ k_60) (hts _ k_598) (by decide +kernel) ⟨Nat.le_of_ble_eq_true rfl, Nat.le_of_ble_eq_true rfl⟩, (hts _ k_599), (hts _ k_600)⟩ ⟨fun a U g mk q => ⟨q.1, q.2.1, va_K.moved (u := U) (U := U.calling g mk a) (Vm.Alike.refl U.vm) q.2.2.1, q.2.2.2.calling⟩, (va_recv (q0 := 1) hK hP rfl rfl), fun U hU hW => ⟨rfl, by rw [hU]; exact (hP.sub (ws' := [(sh, .inr (7, [.ref sa, .ref sb, .int (bI (on))])), (sa, .inl (k 0, 4, .inl (aZ (losZ)))), (sb, .inl (k 0, 4, .inl (aZ (dblZ))))]) [1, 2, 3] rfl), va_K.moved hW.alike hK, by rw [hU]; exact hX.warm hW⟩⟩ rfl rfl hl.1 rfl (lv_room (Nat.le_of_ble_eq_true rfl)) d_RC_next_15 ⟨Nat.le_of_ble_eq_true rfl, Nat.le_of_ble_eq_true rfl⟩) (fun xr_2 h_xr_2 => ?_)
  subst h_xr_2
  refine z_top (show (bI (shf ((q : Int)) && lose on d)) = (bI (lostZ on d (q : Int))) from rfl) ?_
  refine b_if_eq (tgt := 23) hx hb d_RC_next_18 (by decide) (fun h18 => ?_) (fun h18 => ?_)
  · refine lv_aload hx hb d_RC_next_23 (lv_at hl 0 rfl) ?_
    refine va_getN (D := D) (ci := 5) (v := .ref u0) (C := R_PL) (T := F_PL) (N := 3) hx hb hts in_PL hown hK hP 5 rfl rfl 0 (by decide) (va_Nw.use rfl (hX.2 _ n_225)) (fun _ h9 => h9) rfl d_RC_next_25 ?_
    refine lv_iload_n hx hb d_RC_next_28 rfl (lv_at hl 3 rfl) ?_
    refine lv_iload_n hx hb d_RC_next_29 rfl (lv_at hl 4 rfl) ?_
    refine rc_i (va_runV (As := [.int (iI ((d : Int))), .int (iI ((q : Int)))]) (rest := []) (b := u0) ⟨hx, hb, hml, hown, hts⟩ (c_CN_get l D k (u0) (u1) (u2) (u3) (u4) (u5) (T 0) (T 1) (T 2) (T 3) (d) (q) ((by omega)) ((by omega))) ⟨callB_of 2 hts (good_CN_get) rfl rfl rfl (hts _ k_66) (hts _ k_602) (by decide +kernel) ⟨Nat.le_of_ble_eq_true rfl, Nat.le_of_ble_eq_true rfl⟩, (hts _ k_603), (hts _ k_604)⟩ ⟨fun a U g mk q => ⟨q.1, q.2.1, va_K.moved (u := U) (U := U.calling g mk a) (Vm.Alike.refl U.vm) q.2.2.1, q.2.2.2.calling⟩, (va_recv (q0 := 6) hK hP rfl rfl), fun U hU hW => ⟨rfl, by rw [hU]; exact (hP.sub (ws' := [(u0, .inr (3, [.ref u1])), (u1, .inl (k 4, 4, .inr (.inr (.inr (.inr (rws u2 u3 u4 u5)))))), (u2, .inl (k 1, 1461, .inr (.inl (T 0)))), (u3, .inl (k 1, 1461, .inr (.inl (T 1)))), (u4, .inl (k 1, 1461, .inr (.inl (T 2)))), (u5, .inl (k 1, 1461, .inr (.inl (T 3))))]) [6, 7, 8, 9, 10, 11] rfl), va_K.moved hW.alike hK, by rw [hU]; exact hX.warm hW⟩⟩ rfl rfl hl.1 rfl (lv_room (Nat.le_of_ble_eq_true rfl)) d_RC_next_30 ⟨Nat.le_of_ble_eq_true rfl, Nat.le_of_ble_eq_true rfl⟩) (fun xr_3 h_xr_3 => ?_)
    subst h_xr_3
    have hg9 : 0 ≤ gT T d q ∧ gT T d q ≤ 15 := cnGet_bd (T 0 d) (T 1 d) (T 2 d) (T 3 d) q
    obtain ⟨tn, htn⟩ : ∃ tn : Nat, (tn : Int) = gT T d q := ⟨(gT T d q).toNat, by omega⟩
    refine z_top (show (iI (cnGet ((T 0) d) ((T 1) d) ((T 2) d) ((T 3) d) q)) = (iI (gT T d q)) from rfl) ?_
    refine z_top (show iI (gT T d q) = iI ((tn : Int)) from congrArg iI htn.symm) ?_
    refine lv_istore (lv' := [(5, .int (iI ((tn : Int)))), (4, .ref (po cc)), (0, .ref h0), (1, .int (iI ((cc : Int)))), (2, .int (iI ((d : Int)))), (3, .int (iI ((q : Int))))]) hx hb d_RC_next_33 hl (by decide) rfl (fun ls hl => ?_)
    refine lv_aload_n hx hb d_RC_next_35 rfl (lv_at hl 2 rfl) ?_
    refine va_get (D := D) (ci := 0) (v := .ref sh) (C := R_RC) (T := F_RC) (N := 7) hx hb hts in_RC hown hK hP 0 rfl rfl 2 (by decide) (hts _ k_239) (fun _ h9 => h9) rfl d_RC_next_36 ?_
    refine lv_iload_n hx hb d_RC_next_39 rfl (lv_at hl 4 rfl) ?_
    refine lv_iload_n hx hb d_RC_next_40 rfl (lv_at hl 5 rfl) ?_
    refine rc_l (va_runV (As := [.int (iI ((d : Int))), .int (iI ((q : Int)))]) (rest := []) (b := sh) ⟨hx, hb, hml, hown, hts⟩ (c_SH_cellsBehind l D k (sh) (sa) (sb) (on) (d) (q) (hd) (hq)) ⟨callB_of 2 hts (good_SH_cellsBehind) rfl rfl rfl (hts _ k_60) (hts _ k_620) (by decide +kernel) ⟨Nat.le_of_ble_eq_true rfl, Nat.le_of_ble_eq_true rfl⟩, (hts _ k_621), (hts _ k_622)⟩ ⟨fun a U g mk q => ⟨q.1, q.2.1, va_K.moved (u := U) (U := U.calling g mk a) (Vm.Alike.refl U.vm) q.2.2.1, q.2.2.2.calling⟩, (va_recv (q0 := 1) hK hP rfl rfl), fun U hU hW => ⟨rfl, by rw [hU]; exact (hP.sub (ws' := [(sh, .inr (7, [.ref sa, .ref sb, .int (bI (on))])), (sa, .inl (k 0, 4, .inl (aZ (losZ)))), (sb, .inl (k 0, 4, .inl (aZ (dblZ))))]) [1, 2, 3] rfl), va_K.moved hW.alike hK, by rw [hU]; exact hX.warm hW⟩⟩ rfl rfl hl.1 rfl (lv_room (Nat.le_of_ble_eq_true rfl)) d_RC_next_41 ⟨Nat.le_of_ble_eq_true rfl, Nat.le_of_ble_eq_true rfl⟩) (fun xr_4 h_xr_4 => ?_)
    subst h_xr_4
    refine lv_aload hx hb d_RC_next_44 (lv_at hl 1 rfl) ?_
    refine va_getN (D := D) (ci := 5) (v := .ref u0) (C := R_PL) (T := F_PL) (N := 3) hx hb hts in_PL hown hK hP 5 rfl rfl 0 (by decide) (va_Nw.use rfl (hX.2 _ n_225)) (fun _ h9 => h9) rfl d_RC_next_46 ?_
    refine lv_iload_n hx hb d_RC_next_49 rfl (lv_at hl 4 rfl) ?_
    refine lv_iload hx hb d_RC_next_50 (lv_at hl 0 rfl) ?_
    refine rc_l (va_runV (As := [.int (iI ((d : Int))), .int (iI ((tn : Int)))]) (rest := [.long (cBeh on d q)]) (b := u0) ⟨hx, hb, hml, hown, hts⟩ (c_CN_cellsWith l D k (u0) (u1) (u2) (u3) (u4) (u5) (T 0) (T 1) (T 2) (T 3) (d) (tn) ((by omega)) ((by omega))) ⟨callB_of 2 hts (good_CN_cellsWith) rfl rfl rfl (hts _ k_66) (hts _ k_633) (by decide +kernel) ⟨Nat.le_of_ble_eq_true rfl, Nat.le_of_ble_eq_true rfl⟩, (hts _ k_634), (hts _ k_635)⟩ ⟨fun a U g mk q => ⟨q.1, q.2.1, va_K.moved (u := U) (U := U.calling g mk a) (Vm.Alike.refl U.vm) q.2.2.1, q.2.2.2.calling⟩, (va_recv (q0 := 6) hK hP rfl rfl), fun U hU hW => ⟨rfl, by rw [hU]; exact (hP.sub (ws' := [(u0, .inr (3, [.ref u1])), (u1, .inl (k 4, 4, .inr (.inr (.inr (.inr (rws u2 u3 u4 u5)))))), (u2, .inl (k 1, 1461, .inr (.inl (T 0)))), (u3, .inl (k 1, 1461, .inr (.inl (T 1)))), (u4, .inl (k 1, 1461, .inr (.inl (T 2)))), (u5, .inl (k 1, 1461, .inr (.inl (T 3))))]) [6, 7, 8, 9, 10, 11] rfl), va_K.moved hW.alike hK, by rw [hU]; exact hX.warm hW⟩⟩ rfl rfl hl.1 rfl (lv_room (Nat.le_of_ble_eq_true rfl)) d_RC_next_52 ⟨Nat.le_of_ble_eq_true rfl, Nat.le_of_ble_eq_true rfl⟩) (fun xr_5 h_xr_5 => ?_)
    subst h_xr_5
    refine z_topl (show cnWith ((T 0) d) ((T 1) d) ((T 2) d) ((T 3) d) tn = cW T d tn from rfl) ?_
    refine W.ldc2 (v := -1) hx hb hown (hts _ k_638) rfl d_RC_next_55 ?_
    refine W.eq (g2 := F0 m 58 ls (.long (-1) :: [.long (cW T d tn), .long (cBeh on d q)])) rfl ?_
    refine lv_lxor hx hb d_RC_next_58 ?_
    refine lv_land hx hb d_RC_next_59 ?_
    refine lv_lstore (lv' := [(6, .long ((cBeh on d q) &&& ((cW T d tn) ^^^ ((-1 : Int64))))), (5, .int (iI ((tn : Int)))), (4, .ref (po cc)), (0, .ref h0), (1, .int (iI ((cc : Int)))), (2, .int (iI ((d : Int)))), (3, .int (iI ((q : Int))))]) hx hb d_RC_next_60 hl (by decide) rfl (fun ls hl => ?_)
    refine lv_iload_n hx hb d_RC_next_62 rfl (lv_at hl 5 rfl) ?_
    refine lv_istore (lv' := [(8, .int (iI ((d : Int)))), (6, .long ((cBeh on d q) &&& ((cW T d tn) ^^^ ((-1 : Int64))))), (5, .int (iI ((tn : Int)))), (4, .ref (po cc)), (0, .ref h0), (1, .int (iI ((cc : Int)))), (2, .int (iI ((d : Int)))), (3, .int (iI ((q : Int))))]) hx hb d_RC_next_63 hl (by decide) rfl (fun ls hl => ?_)
    have L65 : ∀ (fu : Nat) (fd : Nat) (z : Int) (w9 : Int64) (ls : Array Slot), z = (fd : Int) → d ≤ fd ∧ fd ≤ 1460 → (∀ j, 48 ≤ j → lb w9 j = false) → nxL on T tn (1460 - fd) fd w9 = nxL on T tn (1460 - d) d (cBeh on d q &&& (cW T d tn ^^^ (-1))) → 1460 - fd < fu → lv_has ls 11 [(0, .ref h0), (2, .int (iI ((d : Int)))), (3, .int (iI ((q : Int)))), (4, .ref (po cc)), (5, .int (iI ((tn : Int)))), (6, .long (w9)), (8, .int (iI (z)))] → W p l e rm_RC_next s m args below meth c s.heap [] 0 0 Q (F0 m 65 ls []) := by
      intro fu
      induction fu with
      | zero => intro fd z w9 ls hz hfd hb48 hw hmu; exact absurd hmu (Nat.not_lt_zero _)
      | succ fu ih65 =>
        intro fd z w9 ls hz hfd hb48 hw hmu hl
        subst hz
        refine lv_lload hx hb d_RC_next_65 (lv_at hl 5 rfl) ?_
        refine lv_lconst (v := 0) hx hb d_RC_next_67 (by decide) ?_
        refine l_ne (tgt := 114) hx hb d_RC_next_68 d_RC_next_69 (by decide) (fun h68 => ?_) (fun h68 => ?_)
        · refine lv_lload hx hb d_RC_next_114 (lv_at hl 5 rfl) ?_
          refine lv_lconst (v := 0) hx hb d_RC_next_116 (by decide) ?_
          refine l_ne (tgt := 123) hx hb d_RC_next_117 d_RC_next_118 (by decide) (fun h117 => ?_) (fun h117 => ?_)
          · refine lv_lload hx hb d_RC_next_123 (lv_at hl 5 rfl) ?_
            refine rc_i (va_runS (As := [.long (w9)]) (rest := []) ⟨hx, hb, hml, hown, hts⟩ (c_RC_lowestCell l D k (w9)) ⟨callB_of 1 hts (good_RC_lowestCell) rfl rfl rfl (hts _ k_59) (hts _ k_640) (by decide +kernel) ⟨Nat.le_of_ble_eq_true rfl, Nat.le_of_ble_eq_true rfl⟩, (hts _ k_641)⟩ ⟨fun a U g mk q => ⟨q.1, q.2.1, va_K.moved (u := U) (U := U.calling g mk a) (Vm.Alike.refl U.vm) q.2.2.1, q.2.2.2.calling⟩, fun U hU hW => ⟨rfl, by rw [hU]; exact (hP.sub (ws' := []) [] rfl), va_K.moved hW.alike hK, by rw [hU]; exact hX.warm hW⟩⟩ rfl rfl hl.1 rfl (lv_room (Nat.le_of_ble_eq_true rfl)) d_RC_next_125 ⟨Nat.le_of_ble_eq_true rfl, Nat.le_of_ble_eq_true rfl⟩) (fun xr_6 h_xr_6 => ?_)
            subst h_xr_6
            refine z_top (show (bcRaw ((w9 &&& -w9) - 1)) = (lowR w9) from rfl) ?_
            obtain ⟨l1, l2, l3⟩ := lowK_spec h117
            have l4 : lowK w9 < 48 := by
              apply Classical.byContradiction
              intro l5
              rw [hb48 (lowK w9) (by omega)] at l2
              cases l2
            refine z_top (show (lowR w9) = (iI (((lowK w9 : Nat) : Int))) from lowR_eq h117) ?_
            refine lv_istore (lv' := [(9, .int (iI (((lowK w9 : Nat) : Int)))), (0, .ref h0), (2, .int (iI ((d : Int)))), (3, .int (iI ((q : Int)))), (4, .ref (po cc)), (5, .int (iI ((tn : Int)))), (6, .long (w9)), (8, .int (iI ((fd : Int))))]) hx hb d_RC_next_128 hl (by decide) rfl (fun ls hl => ?_)
            refine lv_iload hx hb d_RC_next_130 (lv_at hl 7 rfl) ?_
            refine lv_iload_n hx hb d_RC_next_132 rfl (lv_at hl 2 rfl) ?_
            have J133_1 : W p l e rm_RC_next s m args below meth c s.heap [] 0 0 Q (F0 m 147 ls [.int (bI (decide (fd = d) && decide (((lowK w9 : Nat) : Int) < (q : Int))))]) := by
              refine lv_istore (lv' := [(10, .int (bI (decide (fd = d) && decide (((lowK w9 : Nat) : Int) < (q : Int))))), (9, .int (iI (((lowK w9 : Nat) : Int)))), (0, .ref h0), (2, .int (iI ((d : Int)))), (3, .int (iI ((q : Int)))), (4, .ref (po cc)), (5, .int (iI ((tn : Int)))), (6, .long (w9)), (8, .int (iI ((fd : Int))))]) hx hb d_RC_next_147 hl (by decide) rfl (fun ls hl => ?_)
              refine lv_aload_n hx hb d_RC_next_149 rfl (lv_at hl 2 rfl) ?_
              refine va_get (D := D) (ci := 0) (v := .ref sh) (C := R_RC) (T := F_RC) (N := 7) hx hb hts in_RC hown hK hP 0 rfl rfl 2 (by decide) (hts _ k_239) (fun _ h9 => h9) rfl d_RC_next_150 ?_
              refine lv_iload hx hb d_RC_next_153 (lv_at hl 8 rfl) ?_
              refine lv_iload hx hb d_RC_next_155 (lv_at hl 1 rfl) ?_
              refine lv_iload hx hb d_RC_next_157 (lv_at hl 0 rfl) ?_
              refine rc_i (va_runV (As := [.int (iI ((fd : Int))), .int (iI (((lowK w9 : Nat) : Int))), .int (bI (decide (fd = d) && decide (((lowK w9 : Nat) : Int) < (q : Int))))]) (rest := []) (b := sh) ⟨hx, hb, hml, hown, hts⟩ (c_SH_timeOf l D k (sh) (sa) (sb) (on) (fd) (((lowK w9 : Nat) : Int)) (decide (fd = d) && decide (((lowK w9 : Nat) : Int) < (q : Int))) ((by omega)) ((by omega))) ⟨callB_of 3 hts (good_SH_timeOf) rfl rfl rfl (hts _ k_60) (hts _ k_649) (by decide +kernel) ⟨Nat.le_of_ble_eq_true rfl, Nat.le_of_ble_eq_true rfl⟩, (hts _ k_650), (hts _ k_651)⟩ ⟨fun a U g mk q => ⟨q.1, q.2.1, va_K.moved (u := U) (U := U.calling g mk a) (Vm.Alike.refl U.vm) q.2.2.1, q.2.2.2.calling⟩, (va_recv (q0 := 1) hK hP rfl rfl), fun U hU hW => ⟨rfl, by rw [hU]; exact (hP.sub (ws' := [(sh, .inr (7, [.ref sa, .ref sb, .int (bI (on))])), (sa, .inl (k 0, 4, .inl (aZ (losZ)))), (sb, .inl (k 0, 4, .inl (aZ (dblZ))))]) [1, 2, 3] rfl), va_K.moved hW.alike hK, by rw [hU]; exact hX.warm hW⟩⟩ rfl rfl hl.1 rfl (lv_room (Nat.le_of_ble_eq_true rfl)) d_RC_next_159 ⟨Nat.le_of_ble_eq_true rfl, Nat.le_of_ble_eq_true rfl⟩) (fun xr_7 h_xr_7 => ?_)
              subst h_xr_7
              have htf := stZ_bd (on := on) (d := fd)
              refine lv_aload_n hx hb d_RC_next_162 rfl (lv_at hl 2 rfl) ?_
              refine va_get (D := D) (ci := 0) (v := .ref sh) (C := R_RC) (T := F_RC) (N := 7) hx hb hts in_RC hown hK hP 0 rfl rfl 2 (by decide) (hts _ k_239) (fun _ h9 => h9) rfl d_RC_next_163 ?_
              refine lv_iload_n hx hb d_RC_next_166 rfl (lv_at hl 3 rfl) ?_
              refine lv_iload_n hx hb d_RC_next_167 rfl (lv_at hl 4 rfl) ?_
              refine z_iconst hx hb d_RC_next_168 ?_
              refine z_top (show iI (0) = bI (false) from rfl) ?_
              refine rc_i (va_runV (As := [.int (iI ((d : Int))), .int (iI ((q : Int))), .int (bI (false))]) (rest := [.int (iI (tmZ on fd (((lowK w9 : Nat) : Int)) (decide (fd = d) && decide (((lowK w9 : Nat) : Int) < (q : Int)))))]) (b := sh) ⟨hx, hb, hml, hown, hts⟩ (c_SH_timeOf l D k (sh) (sa) (sb) (on) (d) ((q : Int)) (false) (hd) ((by omega))) ⟨callB_of 3 hts (good_SH_timeOf) rfl rfl rfl (hts _ k_60) (hts _ k_649) (by decide +kernel) ⟨Nat.le_of_ble_eq_true rfl, Nat.le_of_ble_eq_true rfl⟩, (hts _ k_650), (hts _ k_651)⟩ ⟨fun a U g mk q => ⟨q.1, q.2.1, va_K.moved (u := U) (U := U.calling g mk a) (Vm.Alike.refl U.vm) q.2.2.1, q.2.2.2.calling⟩, (va_recv (q0 := 1) hK hP rfl rfl), fun U hU hW => ⟨rfl, by rw [hU]; exact (hP.sub (ws' := [(sh, .inr (7, [.ref sa, .ref sb, .int (bI (on))])), (sa, .inl (k 0, 4, .inl (aZ (losZ)))), (sb, .inl (k 0, 4, .inl (aZ (dblZ))))]) [1, 2, 3] rfl), va_K.moved hW.alike hK, by rw [hU]; exact hX.warm hW⟩⟩ rfl rfl hl.1 rfl (lv_room (Nat.le_of_ble_eq_true rfl)) d_RC_next_169 ⟨Nat.le_of_ble_eq_true rfl, Nat.le_of_ble_eq_true rfl⟩) (fun xr_8 h_xr_8 => ?_)
              subst h_xr_8
              have htg := stZ_bd (on := on) (d := d)
              refine z_isub hx hb d_RC_next_172 ?_
              exact ret _ 173 (iI ((tmZ on fd (((lowK w9 : Nat) : Int)) (decide (fd = d) && decide (((lowK w9 : Nat) : Int) < (q : Int)))) - (tmZ on d ((q : Int)) false))) d_RC_next_173 (by rw [if_neg (Bool.eq_false_iff.mp h18), show (gT T d q).toNat = tn by omega, ← hw, nxL_e h117]; unfold nxZ; rw [if_neg h117])
            refine z_icmp_ne (tgt := 146) hx hb d_RC_next_133 (by decide) ⟨by omega, by omega⟩ ⟨by omega, by omega⟩ (fun h133 => ?_) (fun h133 => ?_)
            · refine z_iconst hx hb d_RC_next_146 ?_
              exact z_top (show (iI (0)) = (bI (decide (fd = d) && decide (((lowK w9 : Nat) : Int) < (q : Int)))) from bI_F ((by first | (rw [show decide (fd = d) = false from decide_eq_false (by omega)]; rfl) | (rw [show decide (((lowK w9 : Nat) : Int) < (q : Int)) = false from decide_eq_false (by omega)]; exact Bool.and_false _)))) J133_1
            · refine lv_iload hx hb d_RC_next_136 (lv_at hl 0 rfl) ?_
              refine lv_iload_n hx hb d_RC_next_138 rfl (lv_at hl 3 rfl) ?_
              refine z_icmp_ge (tgt := 146) hx hb d_RC_next_139 (by decide) ⟨by omega, by omega⟩ ⟨by omega, by omega⟩ (fun h139 => ?_) (fun h139 => ?_)
              · refine z_iconst hx hb d_RC_next_146 ?_
                exact z_top (show (iI (0)) = (bI (decide (fd = d) && decide (((lowK w9 : Nat) : Int) < (q : Int)))) from bI_F ((by first | (rw [show decide (fd = d) = false from decide_eq_false (by omega)]; rfl) | (rw [show decide (((lowK w9 : Nat) : Int) < (q : Int)) = false from decide_eq_false (by omega)]; exact Bool.and_false _)))) J133_1
              · refine z_iconst hx hb d_RC_next_142 ?_
                refine lv_goto (tgt := 147) hx hb d_RC_next_143 (by decide) ?_
                exact z_top (show (iI (1)) = (bI (decide (fd = d) && decide (((lowK w9 : Nat) : Int) < (q : Int)))) from bI_T ((by rw [decide_eq_true (by omega), decide_eq_true (by omega)]; rfl))) J133_1
          · refine z_iconst hx hb d_RC_next_121 ?_
            exact ret _ 122 (iI (-1)) d_RC_next_122 (by rw [if_neg (Bool.eq_false_iff.mp h18), show (gT T d q).toNat = tn by omega, ← hw]; first | (rw [show 1460 - fd = 0 by omega]; unfold nxZ; exact congrArg iI (if_pos (by assumption)).symm) | exact absurd h117 h68)
        · refine lv_iload hx hb d_RC_next_72 (lv_at hl 6 rfl) ?_
          refine z_sipush hx hb d_RC_next_74 (by decide) ?_
          refine z_icmp_ge (tgt := 114) hx hb d_RC_next_77 (by decide) ⟨by omega, by omega⟩ ⟨by omega, by omega⟩ (fun h77 => ?_) (fun h77 => ?_)
          · refine lv_lload hx hb d_RC_next_114 (lv_at hl 5 rfl) ?_
            refine lv_lconst (v := 0) hx hb d_RC_next_116 (by decide) ?_
            refine l_ne (tgt := 123) hx hb d_RC_next_117 d_RC_next_118 (by decide) (fun h117 => ?_) (fun h117 => ?_)
            · refine lv_lload hx hb d_RC_next_123 (lv_at hl 5 rfl) ?_
              refine rc_i (va_runS (As := [.long (w9)]) (rest := []) ⟨hx, hb, hml, hown, hts⟩ (c_RC_lowestCell l D k (w9)) ⟨callB_of 1 hts (good_RC_lowestCell) rfl rfl rfl (hts _ k_59) (hts _ k_640) (by decide +kernel) ⟨Nat.le_of_ble_eq_true rfl, Nat.le_of_ble_eq_true rfl⟩, (hts _ k_641)⟩ ⟨fun a U g mk q => ⟨q.1, q.2.1, va_K.moved (u := U) (U := U.calling g mk a) (Vm.Alike.refl U.vm) q.2.2.1, q.2.2.2.calling⟩, fun U hU hW => ⟨rfl, by rw [hU]; exact (hP.sub (ws' := []) [] rfl), va_K.moved hW.alike hK, by rw [hU]; exact hX.warm hW⟩⟩ rfl rfl hl.1 rfl (lv_room (Nat.le_of_ble_eq_true rfl)) d_RC_next_125 ⟨Nat.le_of_ble_eq_true rfl, Nat.le_of_ble_eq_true rfl⟩) (fun xr_9 h_xr_9 => ?_)
              subst h_xr_9
              refine z_top (show (bcRaw ((w9 &&& -w9) - 1)) = (lowR w9) from rfl) ?_
              obtain ⟨l1, l2, l3⟩ := lowK_spec h117
              have l4 : lowK w9 < 48 := by
                apply Classical.byContradiction
                intro l5
                rw [hb48 (lowK w9) (by omega)] at l2
                cases l2
              refine z_top (show (lowR w9) = (iI (((lowK w9 : Nat) : Int))) from lowR_eq h117) ?_
              refine lv_istore (lv' := [(9, .int (iI (((lowK w9 : Nat) : Int)))), (0, .ref h0), (2, .int (iI ((d : Int)))), (3, .int (iI ((q : Int)))), (4, .ref (po cc)), (5, .int (iI ((tn : Int)))), (6, .long (w9)), (8, .int (iI ((fd : Int))))]) hx hb d_RC_next_128 hl (by decide) rfl (fun ls hl => ?_)
              refine lv_iload hx hb d_RC_next_130 (lv_at hl 7 rfl) ?_
              refine lv_iload_n hx hb d_RC_next_132 rfl (lv_at hl 2 rfl) ?_
              have J133_2 : W p l e rm_RC_next s m args below meth c s.heap [] 0 0 Q (F0 m 147 ls [.int (bI (decide (fd = d) && decide (((lowK w9 : Nat) : Int) < (q : Int))))]) := by
                refine lv_istore (lv' := [(10, .int (bI (decide (fd = d) && decide (((lowK w9 : Nat) : Int) < (q : Int))))), (9, .int (iI (((lowK w9 : Nat) : Int)))), (0, .ref h0), (2, .int (iI ((d : Int)))), (3, .int (iI ((q : Int)))), (4, .ref (po cc)), (5, .int (iI ((tn : Int)))), (6, .long (w9)), (8, .int (iI ((fd : Int))))]) hx hb d_RC_next_147 hl (by decide) rfl (fun ls hl => ?_)
                refine lv_aload_n hx hb d_RC_next_149 rfl (lv_at hl 2 rfl) ?_
                refine va_get (D := D) (ci := 0) (v := .ref sh) (C := R_RC) (T := F_RC) (N := 7) hx hb hts in_RC hown hK hP 0 rfl rfl 2 (by decide) (hts _ k_239) (fun _ h9 => h9) rfl d_RC_next_150 ?_
                refine lv_iload hx hb d_RC_next_153 (lv_at hl 8 rfl) ?_
                refine lv_iload hx hb d_RC_next_155 (lv_at hl 1 rfl) ?_
                refine lv_iload hx hb d_RC_next_157 (lv_at hl 0 rfl) ?_
                refine rc_i (va_runV (As := [.int (iI ((fd : Int))), .int (iI (((lowK w9 : Nat) : Int))), .int (bI (decide (fd = d) && decide (((lowK w9 : Nat) : Int) < (q : Int))))]) (rest := []) (b := sh) ⟨hx, hb, hml, hown, hts⟩ (c_SH_timeOf l D k (sh) (sa) (sb) (on) (fd) (((lowK w9 : Nat) : Int)) (decide (fd = d) && decide (((lowK w9 : Nat) : Int) < (q : Int))) ((by omega)) ((by omega))) ⟨callB_of 3 hts (good_SH_timeOf) rfl rfl rfl (hts _ k_60) (hts _ k_649) (by decide +kernel) ⟨Nat.le_of_ble_eq_true rfl, Nat.le_of_ble_eq_true rfl⟩, (hts _ k_650), (hts _ k_651)⟩ ⟨fun a U g mk q => ⟨q.1, q.2.1, va_K.moved (u := U) (U := U.calling g mk a) (Vm.Alike.refl U.vm) q.2.2.1, q.2.2.2.calling⟩, (va_recv (q0 := 1) hK hP rfl rfl), fun U hU hW => ⟨rfl, by rw [hU]; exact (hP.sub (ws' := [(sh, .inr (7, [.ref sa, .ref sb, .int (bI (on))])), (sa, .inl (k 0, 4, .inl (aZ (losZ)))), (sb, .inl (k 0, 4, .inl (aZ (dblZ))))]) [1, 2, 3] rfl), va_K.moved hW.alike hK, by rw [hU]; exact hX.warm hW⟩⟩ rfl rfl hl.1 rfl (lv_room (Nat.le_of_ble_eq_true rfl)) d_RC_next_159 ⟨Nat.le_of_ble_eq_true rfl, Nat.le_of_ble_eq_true rfl⟩) (fun xr_10 h_xr_10 => ?_)
                subst h_xr_10
                have htf := stZ_bd (on := on) (d := fd)
                refine lv_aload_n hx hb d_RC_next_162 rfl (lv_at hl 2 rfl) ?_
                refine va_get (D := D) (ci := 0) (v := .ref sh) (C := R_RC) (T := F_RC) (N := 7) hx hb hts in_RC hown hK hP 0 rfl rfl 2 (by decide) (hts _ k_239) (fun _ h9 => h9) rfl d_RC_next_163 ?_
                refine lv_iload_n hx hb d_RC_next_166 rfl (lv_at hl 3 rfl) ?_
                refine lv_iload_n hx hb d_RC_next_167 rfl (lv_at hl 4 rfl) ?_
                refine z_iconst hx hb d_RC_next_168 ?_
                refine z_top (show iI (0) = bI (false) from rfl) ?_
                refine rc_i (va_runV (As := [.int (iI ((d : Int))), .int (iI ((q : Int))), .int (bI (false))]) (rest := [.int (iI (tmZ on fd (((lowK w9 : Nat) : Int)) (decide (fd = d) && decide (((lowK w9 : Nat) : Int) < (q : Int)))))]) (b := sh) ⟨hx, hb, hml, hown, hts⟩ (c_SH_timeOf l D k (sh) (sa) (sb) (on) (d) ((q : Int)) (false) (hd) ((by omega))) ⟨callB_of 3 hts (good_SH_timeOf) rfl rfl rfl (hts _ k_60) (hts _ k_649) (by decide +kernel) ⟨Nat.le_of_ble_eq_true rfl, Nat.le_of_ble_eq_true rfl⟩, (hts _ k_650), (hts _ k_651)⟩ ⟨fun a U g mk q => ⟨q.1, q.2.1, va_K.moved (u := U) (U := U.calling g mk a) (Vm.Alike.refl U.vm) q.2.2.1, q.2.2.2.calling⟩, (va_recv (q0 := 1) hK hP rfl rfl), fun U hU hW => ⟨rfl, by rw [hU]; exact (hP.sub (ws' := [(sh, .inr (7, [.ref sa, .ref sb, .int (bI (on))])), (sa, .inl (k 0, 4, .inl (aZ (losZ)))), (sb, .inl (k 0, 4, .inl (aZ (dblZ))))]) [1, 2, 3] rfl), va_K.moved hW.alike hK, by rw [hU]; exact hX.warm hW⟩⟩ rfl rfl hl.1 rfl (lv_room (Nat.le_of_ble_eq_true rfl)) d_RC_next_169 ⟨Nat.le_of_ble_eq_true rfl, Nat.le_of_ble_eq_true rfl⟩) (fun xr_11 h_xr_11 => ?_)
                subst h_xr_11
                have htg := stZ_bd (on := on) (d := d)
                refine z_isub hx hb d_RC_next_172 ?_
                exact ret _ 173 (iI ((tmZ on fd (((lowK w9 : Nat) : Int)) (decide (fd = d) && decide (((lowK w9 : Nat) : Int) < (q : Int)))) - (tmZ on d ((q : Int)) false))) d_RC_next_173 (by rw [if_neg (Bool.eq_false_iff.mp h18), show (gT T d q).toNat = tn by omega, ← hw, nxL_e h117]; unfold nxZ; rw [if_neg h117])
              refine z_icmp_ne (tgt := 146) hx hb d_RC_next_133 (by decide) ⟨by omega, by omega⟩ ⟨by omega, by omega⟩ (fun h133 => ?_) (fun h133 => ?_)
              · refine z_iconst hx hb d_RC_next_146 ?_
                exact z_top (show (iI (0)) = (bI (decide (fd = d) && decide (((lowK w9 : Nat) : Int) < (q : Int)))) from bI_F ((by first | (rw [show decide (fd = d) = false from decide_eq_false (by omega)]; rfl) | (rw [show decide (((lowK w9 : Nat) : Int) < (q : Int)) = false from decide_eq_false (by omega)]; exact Bool.and_false _)))) J133_2
              · refine lv_iload hx hb d_RC_next_136 (lv_at hl 0 rfl) ?_
                refine lv_iload_n hx hb d_RC_next_138 rfl (lv_at hl 3 rfl) ?_
                refine z_icmp_ge (tgt := 146) hx hb d_RC_next_139 (by decide) ⟨by omega, by omega⟩ ⟨by omega, by omega⟩ (fun h139 => ?_) (fun h139 => ?_)
                · refine z_iconst hx hb d_RC_next_146 ?_
                  exact z_top (show (iI (0)) = (bI (decide (fd = d) && decide (((lowK w9 : Nat) : Int) < (q : Int)))) from bI_F ((by first | (rw [show decide (fd = d) = false from decide_eq_false (by omega)]; rfl) | (rw [show decide (((lowK w9 : Nat) : Int) < (q : Int)) = false from decide_eq_false (by omega)]; exact Bool.and_false _)))) J133_2
                · refine z_iconst hx hb d_RC_next_142 ?_
                  refine lv_goto (tgt := 147) hx hb d_RC_next_143 (by decide) ?_
                  exact z_top (show (iI (1)) = (bI (decide (fd = d) && decide (((lowK w9 : Nat) : Int) < (q : Int)))) from bI_T ((by rw [decide_eq_true (by omega), decide_eq_true (by omega)]; rfl))) J133_2
            · refine z_iconst hx hb d_RC_next_121 ?_
              exact ret _ 122 (iI (-1)) d_RC_next_122 (by rw [if_neg (Bool.eq_false_iff.mp h18), show (gT T d q).toNat = tn by omega, ← hw]; first | (rw [show 1460 - fd = 0 by omega]; unfold nxZ; exact congrArg iI (if_pos (by assumption)).symm) | exact absurd h117 h68)
          · refine z_iinc (k := 6) (a := (fd : Int)) (lv' := [(8, .int (iI (((fd : Int)) + 1))), (0, .ref h0), (2, .int (iI ((d : Int)))), (3, .int (iI ((q : Int)))), (4, .ref (po cc)), (5, .int (iI ((tn : Int)))), (6, .long (w9))]) hx hb d_RC_next_80 hl rfl (by decide) rfl (fun ls hl => ?_)
            refine lv_aload_n hx hb d_RC_next_83 rfl (lv_at hl 1 rfl) ?_
            refine va_get (D := D) (ci := 0) (v := .ref sh) (C := R_RC) (T := F_RC) (N := 7) hx hb hts in_RC hown hK hP 0 rfl rfl 2 (by decide) (hts _ k_239) (fun _ h9 => h9) rfl d_RC_next_84 ?_
            refine lv_iload hx hb d_RC_next_87 (lv_at hl 0 rfl) ?_
            refine rc_l (va_runV (As := [.int (iI (((fd : Int)) + 1))]) (rest := []) (b := sh) ⟨hx, hb, hml, hown, hts⟩ (c_SH_cellsOf l D k (sh) (sa) (sb) (on) (fd + 1) ((by omega))) ⟨callB_of 1 hts (good_SH_cellsOf) rfl rfl rfl (hts _ k_60) (hts _ k_639) (by decide +kernel) ⟨Nat.le_of_ble_eq_true rfl, Nat.le_of_ble_eq_true rfl⟩, (hts _ k_625), (hts _ k_626)⟩ ⟨fun a U g mk q => ⟨q.1, q.2.1, va_K.moved (u := U) (U := U.calling g mk a) (Vm.Alike.refl U.vm) q.2.2.1, q.2.2.2.calling⟩, (va_recv (q0 := 1) hK hP rfl rfl), fun U hU hW => ⟨rfl, by rw [hU]; exact (hP.sub (ws' := [(sh, .inr (7, [.ref sa, .ref sb, .int (bI (on))])), (sa, .inl (k 0, 4, .inl (aZ (losZ)))), (sb, .inl (k 0, 4, .inl (aZ (dblZ))))]) [1, 2, 3] rfl), va_K.moved hW.alike hK, by rw [hU]; exact hX.warm hW⟩⟩ rfl rfl hl.1 rfl (lv_room (Nat.le_of_ble_eq_true rfl)) d_RC_next_89 ⟨Nat.le_of_ble_eq_true rfl, Nat.le_of_ble_eq_true rfl⟩) (fun xr_12 h_xr_12 => ?_)
            subst h_xr_12
            refine lv_aload hx hb d_RC_next_92 (lv_at hl 4 rfl) ?_
            refine va_getN (D := D) (ci := 5) (v := .ref u0) (C := R_PL) (T := F_PL) (N := 3) hx hb hts in_PL hown hK hP 5 rfl rfl 0 (by decide) (va_Nw.use rfl (hX.2 _ n_225)) (fun _ h9 => h9) rfl d_RC_next_94 ?_
            refine lv_iload hx hb d_RC_next_97 (lv_at hl 0 rfl) ?_
            refine lv_iload hx hb d_RC_next_99 (lv_at hl 5 rfl) ?_
            refine rc_l (va_runV (As := [.int (iI (((fd : Int)) + 1)), .int (iI ((tn : Int)))]) (rest := [.long (cOf on (fd + 1))]) (b := u0) ⟨hx, hb, hml, hown, hts⟩ (c_CN_cellsWith l D k (u0) (u1) (u2) (u3) (u4) (u5) (T 0) (T 1) (T 2) (T 3) ((fd + 1)) (tn) ((by omega)) ((by omega))) ⟨callB_of 2 hts (good_CN_cellsWith) rfl rfl rfl (hts _ k_66) (hts _ k_633) (by decide +kernel) ⟨Nat.le_of_ble_eq_true rfl, Nat.le_of_ble_eq_true rfl⟩, (hts _ k_634), (hts _ k_635)⟩ ⟨fun a U g mk q => ⟨q.1, q.2.1, va_K.moved (u := U) (U := U.calling g mk a) (Vm.Alike.refl U.vm) q.2.2.1, q.2.2.2.calling⟩, (va_recv (q0 := 6) hK hP rfl rfl), fun U hU hW => ⟨rfl, by rw [hU]; exact (hP.sub (ws' := [(u0, .inr (3, [.ref u1])), (u1, .inl (k 4, 4, .inr (.inr (.inr (.inr (rws u2 u3 u4 u5)))))), (u2, .inl (k 1, 1461, .inr (.inl (T 0)))), (u3, .inl (k 1, 1461, .inr (.inl (T 1)))), (u4, .inl (k 1, 1461, .inr (.inl (T 2)))), (u5, .inl (k 1, 1461, .inr (.inl (T 3))))]) [6, 7, 8, 9, 10, 11] rfl), va_K.moved hW.alike hK, by rw [hU]; exact hX.warm hW⟩⟩ rfl rfl hl.1 rfl (lv_room (Nat.le_of_ble_eq_true rfl)) d_RC_next_101 ⟨Nat.le_of_ble_eq_true rfl, Nat.le_of_ble_eq_true rfl⟩) (fun xr_13 h_xr_13 => ?_)
            subst h_xr_13
            refine z_topl (show cnWith ((T 0) ((fd + 1))) ((T 1) ((fd + 1))) ((T 2) ((fd + 1))) ((T 3) ((fd + 1))) tn = cW T (fd + 1) tn from rfl) ?_
            refine W.ldc2 (v := -1) hx hb hown (hts _ k_638) rfl d_RC_next_104 ?_
            refine W.eq (g2 := F0 m 107 ls (.long (-1) :: [.long (cW T (fd + 1) tn), .long (cOf on (fd + 1))])) rfl ?_
            refine lv_lxor hx hb d_RC_next_107 ?_
            refine lv_land hx hb d_RC_next_108 ?_
            refine lv_lstore (lv' := [(6, .long ((cOf on (fd + 1)) &&& ((cW T (fd + 1) tn) ^^^ ((-1 : Int64))))), (8, .int (iI (((fd : Int)) + 1))), (0, .ref h0), (2, .int (iI ((d : Int)))), (3, .int (iI ((q : Int)))), (4, .ref (po cc)), (5, .int (iI ((tn : Int))))]) hx hb d_RC_next_109 hl (by decide) rfl (fun ls hl => ?_)
            refine lv_goto (tgt := 65) hx hb d_RC_next_111 (by decide) ?_
            exact ih65 (fd + 1) ((fd : Int) + 1) (nxW on T tn (fd + 1)) ls (by omega) (by omega) (by exact fun j hj => nxW_hi hj) (by rw [← hw, show 1460 - fd = (1460 - (fd + 1)) + 1 by omega]; exact (nxL_s (by assumption)).symm) (by omega) (lv_sub hl [2, 3, 4, 5, 6, 0, 1] rfl)
    exact L65 (_) (d) ((d : Int)) (cBeh on d q &&& (cW T d tn ^^^ (-1))) ls (by omega) (by omega) (by exact fun j hj => by rw [lb_and, cBeh_hi hj]; rfl) (by rfl) (Nat.lt_succ_self _) (lv_sub hl [4, 6, 7, 3, 2, 1, 0] rfl)
  · refine z_iconst hx hb d_RC_next_21 ?_
    exact ret _ 22 (iI (-1)) d_RC_next_22 (by rw [if_pos h18])
