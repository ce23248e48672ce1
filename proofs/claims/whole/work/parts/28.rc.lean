def q3 (a : Nat → Nat) : Nat → Option Nat := fun i => if i < 3 then some (a i) else none
theorem q3_at {a : Nat → Nat} {i : Nat} (h : i < 3) : q3 a i = some (a i) := if_pos h
theorem nar_c {z : Int} (h : 0 ≤ z ∧ z ≤ 65535) : vp_nar .char (iI z) = iI z := by
  obtain ⟨n, rfl⟩ : ∃ n : Nat, z = (n : Int) := ⟨z.toNat, by omega⟩
  rw [iI_nat]
  have := (pk_charN (q := n) (by omega)).1
  unfold vp_nar
  rw [this]
theorem cnGet_bd (a b c d : Int64) (j : Nat) : 0 ≤ cnGet a b c d j ∧ cnGet a b c d j ≤ 15 := by
  unfold cnGet bN
  cases lb a j <;> cases lb b j <;> cases lb c j <;> cases lb d j <;> decide
abbrev PN : Type := Nat → Nat → Int64
def gT (T : PN) (d q : Nat) : Int := cnGet (T 0 d) (T 1 d) (T 2 d) (T 3 d) q
def cW (T : PN) (d n : Nat) : Int64 := cnWith (T 0 d) (T 1 d) (T 2 d) (T 3 d) n
def lostZ (on : Bool) (d : Nat) (q : Int) : Bool := shf q && lose on d
def decL (on : Bool) (N : PN) (r : Nat) : Nat → Nat → Bool
  | 0, _ => false
  | k + 1, d => if cW N d r &&& cOf on d = 0 then decL on N r k (d + 1) else true
theorem decL_s {on : Bool} {N : PN} {r k d : Nat} (h : cW N d r &&& cOf on d = 0) : decL on N r (k + 1) d = decL on N r k (d + 1) := if_pos h
theorem decL_t {on : Bool} {N : PN} {r k d : Nat} (h : ¬ cW N d r &&& cOf on d = 0) : decL on N r (k + 1) d = true := if_neg h
def ddL (on : Bool) (N : PN) (i : Int) : Nat → Nat → Nat → Int
  | 0, _, _ => -1
  | k + 1, r, b => if decL on N r 1461 0 = true then ddL on N i k (r + 1) b else if (b : Int) = i then (r : Int) else ddL on N i k (r + 1) (b + 1)
theorem ddL_1 {on : Bool} {N : PN} {i : Int} {k r b : Nat} (h : decL on N r 1461 0 = true) : ddL on N i (k + 1) r b = ddL on N i k (r + 1) b := if_pos h
theorem ddL_2 {on : Bool} {N : PN} {i : Int} {k r b : Nat} (h : decL on N r 1461 0 = false) (h2 : (b : Int) = i) : ddL on N i (k + 1) r b = (r : Int) := (if_neg (Bool.eq_false_iff.mp h)).trans (if_pos h2)
theorem ddL_3 {on : Bool} {N : PN} {i : Int} {k r b : Nat} (h : decL on N r 1461 0 = false) (h2 : ¬ (b : Int) = i) : ddL on N i (k + 1) r b = ddL on N i k (r + 1) (b + 1) := (if_neg (Bool.eq_false_iff.mp h)).trans (if_neg h2)
def frL (on : Bool) (T : PN) (d : Nat) (i : Int) : Nat → Nat → Int → Nat → Int
  | 0, _, _, _ => -1
  | k + 1, q, t, b => if lostZ on d (q : Int) = true then frL on T d i k (q + 1) t b else if gT T d q ≤ 0 then frL on T d i k (q + 1) (gT T d q) b else if gT T d q = t then frL on T d i k (q + 1) (gT T d q) b else if (b : Int) = i then (q : Int) else frL on T d i k (q + 1) (gT T d q) (b + 1)
theorem frL_s (on : Bool) (T : PN) (d : Nat) (i : Int) (k q : Nat) (t : Int) (b : Nat) : frL on T d i (k + 1) q t b = if lostZ on d (q : Int) = true then frL on T d i k (q + 1) t b else if gT T d q ≤ 0 then frL on T d i k (q + 1) (gT T d q) b else if gT T d q = t then frL on T d i k (q + 1) (gT T d q) b else if (b : Int) = i then (q : Int) else frL on T d i k (q + 1) (gT T d q) (b + 1) := rfl
def lrL (on : Bool) (T : PN) (d : Nat) (t : Int) : Nat → Nat → Int → Int
  | 0, _, la => la
  | k + 1, q, la => if lostZ on d (q : Int) = true then lrL on T d t k (q + 1) la else if gT T d q = t then lrL on T d t k (q + 1) (q : Int) else la
theorem lrL_s (on : Bool) (T : PN) (d : Nat) (t : Int) (k q : Nat) (la : Int) : lrL on T d t (k + 1) q la = if lostZ on d (q : Int) = true then lrL on T d t k (q + 1) la else if gT T d q = t then lrL on T d t k (q + 1) (q : Int) else la := rfl
theorem frL_bd (on : Bool) (T : PN) (d : Nat) (i : Int) : ∀ (k q : Nat) (t : Int) (b : Nat), q + k ≤ 48 → -1 ≤ frL on T d i k q t b ∧ frL on T d i k q t b ≤ 47
  | 0, _, _, _, _ => ⟨by show -1 ≤ -1; omega, by show -1 ≤ 47; omega⟩
  | k + 1, q, t, b, h => by
    rw [frL_s]
    have r1 := fun t b => frL_bd on T d i k (q + 1) t b (by omega)
    split
    · exact r1 _ _
    · split
      · exact r1 _ _
      · split
        · exact r1 _ _
        · split
          · omega
          · exact r1 _ _
def uW (T N : PN) (d : Nat) : Int64 := cnAny (T 0 d ^^^ N 0 d) (T 1 d ^^^ N 1 d) (T 2 d ^^^ N 2 d) (T 3 d ^^^ N 3 d)
def aW (T : PN) (d : Nat) : Int64 := cnAny (T 0 d) (T 1 d) (T 2 d) (T 3 d)
def lowR (w : Int64) : Int32 := bcRaw ((w &&& -w) - 1)
def cmpL (on : Bool) (T N : PN) : Nat → Nat → Int32
  | 0, _ => iI (-1)
  | k + 1, d => if uW T N d &&& cOf on d = 0 then cmpL on T N k (d + 1) else iI (100 * (d : Int)) + lowR (uW T N d &&& cOf on d)
theorem cmpL_s {on : Bool} {T N : PN} {k d : Nat} (h : uW T N d &&& cOf on d = 0) : cmpL on T N (k + 1) d = cmpL on T N k (d + 1) := if_pos h
theorem cmpL_t {on : Bool} {T N : PN} {k d : Nat} (h : ¬ uW T N d &&& cOf on d = 0) : cmpL on T N (k + 1) d = iI (100 * (d : Int)) + lowR (uW T N d &&& cOf on d) := if_neg h
def insL (on : Bool) (T N : PN) : Nat → Nat → Bool
  | 0, _ => true
  | k + 1, d => if (aW T d &&& (aW N d ^^^ (-1))) &&& cOf on d = 0 then insL on T N k (d + 1) else false
theorem insL_s {on : Bool} {T N : PN} {k d : Nat} (h : (aW T d &&& (aW N d ^^^ (-1))) &&& cOf on d = 0) : insL on T N (k + 1) d = insL on T N k (d + 1) := if_pos h
theorem insL_t {on : Bool} {T N : PN} {k d : Nat} (h : ¬ (aW T d &&& (aW N d ^^^ (-1))) &&& cOf on d = 0) : insL on T N (k + 1) d = false := if_neg h
def totL (on : Bool) (T : PN) (t : Nat) : Nat → Nat → Int32 → Int32
  | 0, _, x => x
  | k + 1, d, x => totL on T t k (d + 1) (x + tmsRaw on d (cW T d t))
set_option maxHeartbeats 4000000 in
set_option maxRecDepth 100000 in
theorem c_RC_needCalendar (l : Launch) (D : va_G) (k : Nat → ClassId) (h0 t0 sh al rd pa sp : Nat) (ln : Int) (z : Int) (hz : 0 ≤ z ∧ z < 3) : Met l y_RC_needCalendar wd_RC_needCalendar rm_RC_needCalendar (va_Pc [.ref h0, .int (iI (z))] (PRO D k [(h0, .inr (0, [.ref t0, .int (iI (ln)), .ref sh, .ref al, .ref rd, .ref pa, .ref sp]))])) QRv 0 0 nA := by
  refine r_v (by decide) rfl (Nat.le_of_ble_eq_true rfl) ?_
  intro p e s m args below meth c Q ls hx hb hml hown hts hpre hl ret
  obtain ⟨hP, hK, hX⟩ := hpre
  have hS : va_S nA s.heap s.heap [] := va_S.rf
  have hl : lv_has ls 2 [(0, .ref h0), (1, .int (iI (z)))] := hl
  refine lv_iload_n hx hb d_RC_needCalendar_0 rfl (lv_at hl 1 rfl) ?_
  refine z_if_lt (tgt := 9) hx hb d_RC_needCalendar_1 (by decide) ⟨by omega, by omega⟩ (fun h1 => absurd h1 (by omega)) (fun h1 => ?_)
  refine lv_iload_n hx hb d_RC_needCalendar_4 rfl (lv_at hl 1 rfl) ?_
  refine z_iconst hx hb d_RC_needCalendar_5 ?_
  refine z_icmp_lt (tgt := 19) hx hb d_RC_needCalendar_6 (by decide) ⟨by omega, by omega⟩ ⟨by omega, by omega⟩ (fun h6 => ?_) (fun h6 => absurd h6 (by omega))
  exact ret _ 19 d_RC_needCalendar_19

set_option maxHeartbeats 4000000 in
set_option maxRecDepth 100000 in
theorem c_RC_needCell (l : Launch) (D : va_G) (k : Nat → ClassId) (h0 t0 sh al rd pa sp : Nat) (ln : Int) (z : Int) (q : Int) (hz : 0 ≤ z ∧ z < 1461) (hq : 0 ≤ q ∧ q < 48) : Met l y_RC_needCell wd_RC_needCell rm_RC_needCell (va_Pc [.ref h0, .int (iI (z)), .int (iI (q))] (PRO D k [(h0, .inr (0, [.ref t0, .int (iI (ln)), .ref sh, .ref al, .ref rd, .ref pa, .ref sp]))])) QRv 0 0 nA := by
  refine r_v (by decide) rfl (Nat.le_of_ble_eq_true rfl) ?_
  intro p e s m args below meth c Q ls hx hb hml hown hts hpre hl ret
  obtain ⟨hP, hK, hX⟩ := hpre
  have hS : va_S nA s.heap s.heap [] := va_S.rf
  have hl : lv_has ls 3 [(0, .ref h0), (1, .int (iI (z))), (2, .int (iI (q)))] := hl
  refine lv_iload_n hx hb d_RC_needCell_0 rfl (lv_at hl 1 rfl) ?_
  refine z_if_lt (tgt := 21) hx hb d_RC_needCell_1 (by decide) ⟨by omega, by omega⟩ (fun h1 => absurd h1 (by omega)) (fun h1 => ?_)
  refine lv_iload_n hx hb d_RC_needCell_4 rfl (lv_at hl 1 rfl) ?_
  refine z_sipush hx hb d_RC_needCell_5 (by decide) ?_
  refine z_icmp_ge (tgt := 21) hx hb d_RC_needCell_8 (by decide) ⟨by omega, by omega⟩ ⟨by omega, by omega⟩ (fun h8 => absurd h8 (by omega)) (fun h8 => ?_)
  refine lv_iload_n hx hb d_RC_needCell_11 rfl (lv_at hl 2 rfl) ?_
  refine z_if_lt (tgt := 21) hx hb d_RC_needCell_12 (by decide) ⟨by omega, by omega⟩ (fun h12 => absurd h12 (by omega)) (fun h12 => ?_)
  refine lv_iload_n hx hb d_RC_needCell_15 rfl (lv_at hl 2 rfl) ?_
  refine z_bipush hx hb d_RC_needCell_16 (by decide) ?_
  refine z_icmp_lt (tgt := 31) hx hb d_RC_needCell_18 (by decide) ⟨by omega, by omega⟩ ⟨by omega, by omega⟩ (fun h18 => ?_) (fun h18 => absurd h18 (by omega))
  exact ret _ 31 d_RC_needCell_31

set_option maxHeartbeats 4000000 in
set_option maxRecDepth 100000 in
theorem c_RC_compiledPlan (l : Launch) (D : va_G) (k : Nat → ClassId) (h0 t0 sh al rd pa sp u0 w0 : Nat) (ln : Int) (po : Nat → Nat) (cc : Nat) (rl : Nat) (hc : cc < 3) (hr : 0 < rl) (hr2 : rl < 1000) : Met l y_RC_compiledPlan wd_RC_compiledPlan rm_RC_compiledPlan (va_Pc [.ref h0, .int (iI ((cc : Int)))] (PRO D k [(h0, .inr (0, [.ref t0, .int (iI (ln)), .ref sh, .ref al, .ref rd, .ref pa, .ref sp])), (pa, .inl (k 6, 3, .inr (.inr (.inr (.inr (q3 po)))))), (po cc, .inr (5, [.ref u0, .ref w0, .int (iI ((rl : Int)))]))])) (QRr (fun r : Nat => r = (po cc))) 0 0 nA := by
  refine r_r (Or.inl ⟨_, rfl⟩) (by decide) rfl (Nat.le_of_ble_eq_true rfl) ?_
  intro p e s m args below meth c Q ls hx hb hml hown hts hpre hl ret
  obtain ⟨hP, hK, hX⟩ := hpre
  have hS : va_S nA s.heap s.heap [] := va_S.rf
  have hl : lv_has ls 2 [(0, .ref h0), (1, .int (iI ((cc : Int))))] := hl
  refine lv_aload_n hx hb d_RC_compiledPlan_0 rfl (lv_at hl 0 rfl) ?_
  refine va_get (D := D) (ci := 0) (v := .ref pa) (C := R_RC) (T := F_RC) (N := 7) hx hb hts in_RC hown hK hP 0 rfl rfl 5 (by decide) (hts _ k_242) (fun _ h9 => h9) rfl d_RC_compiledPlan_1 ?_
  refine lv_iload_n hx hb d_RC_compiledPlan_4 rfl (lv_at hl 1 rfl) ?_
  refine x_aald hx hb hK hP 1 6 rfl rfl rfl (cc) rfl hc (by decide) (v := po cc) (q3_at hc) d_RC_compiledPlan_5 ?_
  refine va_getN (D := D) (ci := 5) (v := .int (iI ((rl : Int)))) (C := R_PL) (T := F_PL) (N := 3) hx hb hts in_PL hown hK hP 2 rfl rfl 2 (by decide) (va_Nw.use rfl (hX.2 _ n_229)) (fun _ h9 => h9) rfl d_RC_compiledPlan_6 ?_
  refine z_if_ne (tgt := 22) hx hb d_RC_compiledPlan_9 (by decide) ⟨by omega, by omega⟩ (fun h9 => ?_) (fun h9 => absurd h9 (by omega))
  refine lv_aload_n hx hb d_RC_compiledPlan_22 rfl (lv_at hl 0 rfl) ?_
  refine va_get (D := D) (ci := 0) (v := .ref pa) (C := R_RC) (T := F_RC) (N := 7) hx hb hts in_RC hown hK hP 0 rfl rfl 5 (by decide) (hts _ k_242) (fun _ h9 => h9) rfl d_RC_compiledPlan_23 ?_
  refine lv_iload_n hx hb d_RC_compiledPlan_26 rfl (lv_at hl 1 rfl) ?_
  refine x_aald hx hb hK hP 1 6 rfl rfl rfl (cc) rfl hc (by decide) (v := po cc) (q3_at hc) d_RC_compiledPlan_27 ?_
  exact ret _ 28 (po cc) d_RC_compiledPlan_28 (rfl)

set_option maxHeartbeats 4000000 in
set_option maxRecDepth 100000 in
theorem c_RC_planWithCell (l : Launch) (D : va_G) (k : Nat → ClassId) (h0 t0 sh al rd pa sp u0 w0 : Nat) (ln : Int) (po : Nat → Nat) (cc : Nat) (rl : Nat) (d : Nat) (q : Int) (hc : cc < 3) (hr : 0 < rl) (hr2 : rl < 1000) (hd : d < 1461) (hq : 0 ≤ q ∧ q < 48) : Met l y_RC_planWithCell wd_RC_planWithCell rm_RC_planWithCell (va_Pc [.ref h0, .int (iI ((cc : Int))), .int (iI ((d : Int))), .int (iI (q))] (PRO D k [(h0, .inr (0, [.ref t0, .int (iI (ln)), .ref sh, .ref al, .ref rd, .ref pa, .ref sp])), (pa, .inl (k 6, 3, .inr (.inr (.inr (.inr (q3 po)))))), (po cc, .inr (5, [.ref u0, .ref w0, .int (iI ((rl : Int)))]))])) (QRr (fun r : Nat => r = (po cc))) 0 0 nA := by
  refine r_r (Or.inl ⟨_, rfl⟩) (by decide) rfl (Nat.le_of_ble_eq_true rfl) ?_
  intro p e s m args below meth c Q ls hx hb hml hown hts hpre hl ret
  obtain ⟨hP, hK, hX⟩ := hpre
  have hS : va_S nA s.heap s.heap [] := va_S.rf
  have hl : lv_has ls 4 [(0, .ref h0), (1, .int (iI ((cc : Int)))), (2, .int (iI ((d : Int)))), (3, .int (iI (q)))] := hl
  refine lv_aload_n hx hb d_RC_planWithCell_0 rfl (lv_at hl 0 rfl) ?_
  refine lv_iload_n hx hb d_RC_planWithCell_1 rfl (lv_at hl 1 rfl) ?_
  refine rc_v (va_runV (As := [.int (iI ((cc : Int)))]) (rest := []) (b := h0) ⟨hx, hb, hml, hown, hts⟩ (c_RC_needCalendar l D k (h0) (t0) (sh) (al) (rd) (pa) (sp) (ln) ((cc : Int)) ((by omega))) ⟨callB_of 1 hts (good_RC_needCalendar) rfl rfl rfl (hts _ k_59) (hts _ k_330) (by decide +kernel) ⟨Nat.le_of_ble_eq_true rfl, Nat.le_of_ble_eq_true rfl⟩, (hts _ k_332), (hts _ k_0)⟩ ⟨fun a U g mk q => ⟨q.1, q.2.1, va_K.moved (u := U) (U := U.calling g mk a) (Vm.Alike.refl U.vm) q.2.2.1, q.2.2.2.calling⟩, (va_recv (q0 := 0) hK hP rfl rfl), fun U hU hW => ⟨rfl, by rw [hU]; exact (hP.sub (ws' := [(h0, .inr (0, [.ref t0, .int (iI (ln)), .ref sh, .ref al, .ref rd, .ref pa, .ref sp]))]) [0] rfl), va_K.moved hW.alike hK, by rw [hU]; exact hX.warm hW⟩⟩ rfl rfl hl.1 rfl (lv_room (Nat.le_of_ble_eq_true rfl)) d_RC_planWithCell_2 ⟨Nat.le_of_ble_eq_true rfl, Nat.le_of_ble_eq_true rfl⟩) ?_
  refine lv_aload_n hx hb d_RC_planWithCell_5 rfl (lv_at hl 0 rfl) ?_
  refine lv_iload_n hx hb d_RC_planWithCell_6 rfl (lv_at hl 2 rfl) ?_
  refine lv_iload_n hx hb d_RC_planWithCell_7 rfl (lv_at hl 3 rfl) ?_
  refine rc_v (va_runV (As := [.int (iI ((d : Int))), .int (iI (q))]) (rest := []) (b := h0) ⟨hx, hb, hml, hown, hts⟩ (c_RC_needCell l D k (h0) (t0) (sh) (al) (rd) (pa) (sp) (ln) ((d : Int)) (q) ((by omega)) ((by omega))) ⟨callB_of 2 hts (good_RC_needCell) rfl rfl rfl (hts _ k_59) (hts _ k_573) (by decide +kernel) ⟨Nat.le_of_ble_eq_true rfl, Nat.le_of_ble_eq_true rfl⟩, (hts _ k_575), (hts _ k_23)⟩ ⟨fun a U g mk q => ⟨q.1, q.2.1, va_K.moved (u := U) (U := U.calling g mk a) (Vm.Alike.refl U.vm) q.2.2.1, q.2.2.2.calling⟩, (va_recv (q0 := 0) hK hP rfl rfl), fun U hU hW => ⟨rfl, by rw [hU]; exact (hP.sub (ws' := [(h0, .inr (0, [.ref t0, .int (iI (ln)), .ref sh, .ref al, .ref rd, .ref pa, .ref sp]))]) [0] rfl), va_K.moved hW.alike hK, by rw [hU]; exact hX.warm hW⟩⟩ rfl rfl hl.1 rfl (lv_room (Nat.le_of_ble_eq_true rfl)) d_RC_planWithCell_8 ⟨Nat.le_of_ble_eq_true rfl, Nat.le_of_ble_eq_true rfl⟩) ?_
  refine lv_aload_n hx hb d_RC_planWithCell_11 rfl (lv_at hl 0 rfl) ?_
  refine lv_iload_n hx hb d_RC_planWithCell_12 rfl (lv_at hl 1 rfl) ?_
  refine rc_r (va_runV (As := [.int (iI ((cc : Int)))]) (rest := []) (b := h0) ⟨hx, hb, hml, hown, hts⟩ (c_RC_compiledPlan l D k (h0) (t0) (sh) (al) (rd) (pa) (sp) (u0) (w0) (ln) (po) (cc) (rl) (hc) (hr) (hr2)) ⟨callB_of 1 hts (good_RC_compiledPlan) rfl rfl rfl (hts _ k_59) (hts _ k_578) (by decide +kernel) ⟨Nat.le_of_ble_eq_true rfl, Nat.le_of_ble_eq_true rfl⟩, (hts _ k_580), (hts _ k_24)⟩ ⟨fun a U g mk q => ⟨q.1, q.2.1, va_K.moved (u := U) (U := U.calling g mk a) (Vm.Alike.refl U.vm) q.2.2.1, q.2.2.2.calling⟩, (va_recv (q0 := 0) hK hP rfl rfl), fun U hU hW => ⟨rfl, by rw [hU]; exact hP, va_K.moved hW.alike hK, by rw [hU]; exact hX.warm hW⟩⟩ rfl rfl hl.1 rfl (lv_room (Nat.le_of_ble_eq_true rfl)) d_RC_planWithCell_13 ⟨Nat.le_of_ble_eq_true rfl, Nat.le_of_ble_eq_true rfl⟩) (fun xr_1 h_xr_1 => ?_)
  subst h_xr_1
  exact ret _ 16 (po cc) d_RC_planWithCell_16 (rfl)

set_option maxHeartbeats 4000000 in
set_option maxRecDepth 100000 in
theorem c_RC_at (l : Launch) (D : va_G) (k : Nat → ClassId) (h0 t0 sh al rd pa sp sa sb u0 u1 u2 u3 u4 u5 w0 : Nat) (ln : Int) (po : Nat → Nat) (on : Bool) (cc : Nat) (rl : Nat) (T : Nat → Nat → Int64) (d : Nat) (q : Nat) (hc : cc < 3) (hr : 0 < rl) (hr2 : rl < 1000) (hd : d < 1461) (hq : q < 48) : Met l y_RC_at wd_RC_at rm_RC_at (va_Pc [.ref h0, .int (iI ((cc : Int))), .int (iI ((d : Int))), .int (iI ((q : Int)))] (PRO D k [(h0, .inr (0, [.ref t0, .int (iI (ln)), .ref sh, .ref al, .ref rd, .ref pa, .ref sp])), (sh, .inr (7, [.ref sa, .ref sb, .int (bI (on))])), (sa, .inl (k 0, 4, .inl (aZ (losZ)))), (sb, .inl (k 0, 4, .inl (aZ (dblZ)))), (pa, .inl (k 6, 3, .inr (.inr (.inr (.inr (q3 po)))))), (po cc, .inr (5, [.ref u0, .ref w0, .int (iI ((rl : Int)))])), (u0, .inr (3, [.ref u1])), (u1, .inl (k 4, 4, .inr (.inr (.inr (.inr (rws u2 u3 u4 u5)))))), (u2, .inl (k 1, 1461, .inr (.inl (T 0)))), (u3, .inl (k 1, 1461, .inr (.inl (T 1)))), (u4, .inl (k 1, 1461, .inr (.inl (T 2)))), (u5, .inl (k 1, 1461, .inr (.inl (T 3))))])) (QRi (fun r : Int32 => r = (iI (if lostZ on d (q : Int) = true then -1 else gT T d q)))) 0 0 nA := by
  refine r_i (by decide) rfl (Nat.le_of_ble_eq_true rfl) ?_
  intro p e s m args below meth c Q ls hx hb hml hown hts hpre hl ret
  obtain ⟨hP, hK, hX⟩ := hpre
  have hS : va_S nA s.heap s.heap [] := va_S.rf
  have hl : lv_has ls 5 [(0, .ref h0), (1, .int (iI ((cc : Int)))), (2, .int (iI ((d : Int)))), (3, .int (iI ((q : Int))))] := hl
  refine lv_aload_n hx hb d_RC_at_0 rfl (lv_at hl 0 rfl) ?_
  refine lv_iload_n hx hb d_RC_at_1 rfl (lv_at hl 1 rfl) ?_
  refine lv_iload_n hx hb d_RC_at_2 rfl (lv_at hl 2 rfl) ?_
  refine lv_iload_n hx hb d_RC_at_3 rfl (lv_at hl 3 rfl) ?_
  refine rc_r (va_runV (As := [.int (iI ((cc : Int))), .int (iI ((d : Int))), .int (iI ((q : Int)))]) (rest := []) (b := h0) ⟨hx, hb, hml, hown, hts⟩ (c_RC_planWithCell l D k (h0) (t0) (sh) (al) (rd) (pa) (sp) (u0) (w0) (ln) (po) (cc) (rl) (d) ((q : Int)) (hc) (hr) (hr2) (hd) ((by omega))) ⟨callB_of 3 hts (good_RC_planWithCell) rfl rfl rfl (hts _ k_59) (hts _ k_569) (by decide +kernel) ⟨Nat.le_of_ble_eq_true rfl, Nat.le_of_ble_eq_true rfl⟩, (hts _ k_571), (hts _ k_22)⟩ ⟨fun a U g mk q => ⟨q.1, q.2.1, va_K.moved (u := U) (U := U.calling g mk a) (Vm.Alike.refl U.vm) q.2.2.1, q.2.2.2.calling⟩, (va_recv (q0 := 0) hK hP rfl rfl), fun U hU hW => ⟨rfl, by rw [hU]; exact (hP.sub (ws' := [(h0, .inr (0, [.ref t0, .int (iI (ln)), .ref sh, .ref al, .ref rd, .ref pa, .ref sp])), (pa, .inl (k 6, 3, .inr (.inr (.inr (.inr (q3 po)))))), (po cc, .inr (5, [.ref u0, .ref w0, .int (iI ((rl : Int)))]))]) [0, 4, 5] rfl), va_K.moved hW.alike hK, by rw [hU]; exact hX.warm hW⟩⟩ rfl rfl hl.1 rfl (lv_room (Nat.le_of_ble_eq_true rfl)) d_RC_at_4 ⟨Nat.le_of_ble_eq_true rfl, Nat.le_of_ble_eq_true rfl⟩) (fun xr_1 h_xr_1 => ?_)
  subst h_xr_1
  refine lv_astore (lv' := [(4, .ref (po cc)), (0, .ref h0), (1, .int (iI ((cc : Int)))), (2, .int (iI ((d : Int)))), (3, .int (iI ((q : Int))))]) hx hb d_RC_at_7 hl (by decide) rfl (fun ls hl => ?_)
  refine lv_aload_n hx hb d_RC_at_9 rfl (lv_at hl 1 rfl) ?_
  refine va_get (D := D) (ci := 0) (v := .ref sh) (C := R_RC) (T := F_RC) (N := 7) hx hb hts in_RC hown hK hP 0 rfl rfl 2 (by decide) (hts _ k_239) (fun _ h9 => h9) rfl d_RC_at_10 ?_
  refine lv_iload_n hx hb d_RC_at_13 rfl (lv_at hl 3 rfl) ?_
  refine lv_iload_n hx hb d_RC_at_14 rfl (lv_at hl 4 rfl) ?_
  refine rc_i (va_runV (As := [.int (iI ((d : Int))), .int (iI ((q : Int)))]) (rest := []) (b := sh) ⟨hx, hb, hml, hown, hts⟩ (c_SH_isLost l D k (sh) (sa) (sb) (on) (d) ((q : Int)) ((by omega)) (⟨by omega, by omega⟩)) ⟨callB_of 2 hts (good_SH_isLost) rfl rfl rfl (hts _ k_60) (hts _ k_598) (by decide +kernel) ⟨Nat.le_of_ble_eq_true rfl, Nat.le_of_ble_eq_true rfl⟩, (hts _ k_599), (hts _ k_600)⟩ ⟨fun a U g mk q => ⟨q.1, q.2.1, va_K.moved (u := U) (U := U.calling g mk a) (Vm.Alike.refl U.vm) q.2.2.1, q.2.2.2.calling⟩, (va_recv (q0 := 1) hK hP rfl rfl), fun U hU hW => ⟨rfl, by rw [hU]; exact (hP.sub (ws' := [(sh, .inr (7, [.ref sa, .ref sb, .int (bI (on))])), (sa, .inl (k 0, 4, .inl (aZ (losZ)))), (sb, .inl (k 0, 4, .inl (aZ (dblZ))))]) [1, 2, 3] rfl), va_K.moved hW.alike hK, by rw [hU]; exact hX.warm hW⟩⟩ rfl rfl hl.1 rfl (lv_room (Nat.le_of_ble_eq_true rfl)) d_RC_at_15 ⟨Nat.le_of_ble_eq_true rfl, Nat.le_of_ble_eq_true rfl⟩) (fun xr_2 h_xr_2 => ?_)
  subst h_xr_2
  refine z_top (show (bI (shf ((q : Int)) && lose on d)) = (bI (lostZ on d (q : Int))) from rfl) ?_
  refine b_if_eq (tgt := 25) hx hb d_RC_at_18 (by decide) (fun h18 => ?_) (fun h18 => ?_)
  · refine lv_aload hx hb d_RC_at_25 (lv_at hl 0 rfl) ?_
    refine va_getN (D := D) (ci := 5) (v := .ref u0) (C := R_PL) (T := F_PL) (N := 3) hx hb hts in_PL hown hK hP 5 rfl rfl 0 (by decide) (va_Nw.use rfl (hX.2 _ n_225)) (fun _ h9 => h9) rfl d_RC_at_27 ?_
    refine lv_iload_n hx hb d_RC_at_30 rfl (lv_at hl 3 rfl) ?_
    refine lv_iload_n hx hb d_RC_at_31 rfl (lv_at hl 4 rfl) ?_
    refine rc_i (va_runV (As := [.int (iI ((d : Int))), .int (iI ((q : Int)))]) (rest := []) (b := u0) ⟨hx, hb, hml, hown, hts⟩ (c_CN_get l D k (u0) (u1) (u2) (u3) (u4) (u5) (T 0) (T 1) (T 2) (T 3) (d) (q) ((by omega)) ((by omega))) ⟨callB_of 2 hts (good_CN_get) rfl rfl rfl (hts _ k_66) (hts _ k_602) (by decide +kernel) ⟨Nat.le_of_ble_eq_true rfl, Nat.le_of_ble_eq_true rfl⟩, (hts _ k_603), (hts _ k_604)⟩ ⟨fun a U g mk q => ⟨q.1, q.2.1, va_K.moved (u := U) (U := U.calling g mk a) (Vm.Alike.refl U.vm) q.2.2.1, q.2.2.2.calling⟩, (va_recv (q0 := 6) hK hP rfl rfl), fun U hU hW => ⟨rfl, by rw [hU]; exact (hP.sub (ws' := [(u0, .inr (3, [.ref u1])), (u1, .inl (k 4, 4, .inr (.inr (.inr (.inr (rws u2 u3 u4 u5)))))), (u2, .inl (k 1, 1461, .inr (.inl (T 0)))), (u3, .inl (k 1, 1461, .inr (.inl (T 1)))), (u4, .inl (k 1, 1461, .inr (.inl (T 2)))), (u5, .inl (k 1, 1461, .inr (.inl (T 3))))]) [6, 7, 8, 9, 10, 11] rfl), va_K.moved hW.alike hK, by rw [hU]; exact hX.warm hW⟩⟩ rfl rfl hl.1 rfl (lv_room (Nat.le_of_ble_eq_true rfl)) d_RC_at_32 ⟨Nat.le_of_ble_eq_true rfl, Nat.le_of_ble_eq_true rfl⟩) (fun xr_3 h_xr_3 => ?_)
    subst h_xr_3
    have hg9 := cnGet_bd (T 0 (d)) (T 1 (d)) (T 2 (d)) (T 3 (d)) (q)
    refine z_top (show (iI (cnGet ((T 0) d) ((T 1) d) ((T 2) d) ((T 3) d) q)) = (iI (gT T d q)) from rfl) ?_
    exact ret _ 35 (iI (gT T d q)) d_RC_at_35 (by rw [if_neg (Bool.eq_false_iff.mp h18)])
  · refine z_iconst hx hb d_RC_at_21 ?_
    refine lv_goto (tgt := 35) hx hb d_RC_at_22 (by decide) ?_
    exact ret _ 35 (iI (-1)) d_RC_at_35 (by rw [if_pos h18])

set_option maxHeartbeats 4000000 in
set_option maxRecDepth 100000 in
theorem c_RC_which (l : Launch) (D : va_G) (k : Nat → ClassId) (h0 t0 sh al rd pa sp sa sb u0 w0 w1 w2 w3 w4 w5 : Nat) (ln : Int) (po : Nat → Nat) (on : Bool) (cc : Nat) (rl : Nat) (N : Nat → Nat → Int64) (d : Nat) (q : Nat) (hc : cc < 3) (hr : 0 < rl) (hr2 : rl < 1000) (hd : d < 1461) (hq : q < 48) : Met l y_RC_which wd_RC_which rm_RC_which (va_Pc [.ref h0, .int (iI ((cc : Int))), .int (iI ((d : Int))), .int (iI ((q : Int)))] (PRO D k [(h0, .inr (0, [.ref t0, .int (iI (ln)), .ref sh, .ref al, .ref rd, .ref pa, .ref sp])), (sh, .inr (7, [.ref sa, .ref sb, .int (bI (on))])), (sa, .inl (k 0, 4, .inl (aZ (losZ)))), (sb, .inl (k 0, 4, .inl (aZ (dblZ)))), (pa, .inl (k 6, 3, .inr (.inr (.inr (.inr (q3 po)))))), (po cc, .inr (5, [.ref u0, .ref w0, .int (iI ((rl : Int)))])), (w0, .inr (3, [.ref w1])), (w1, .inl (k 4, 4, .inr (.inr (.inr (.inr (rws w2 w3 w4 w5)))))), (w2, .inl (k 1, 1461, .inr (.inl (N 0)))), (w3, .inl (k 1, 1461, .inr (.inl (N 1)))), (w4, .inl (k 1, 1461, .inr (.inl (N 2)))), (w5, .inl (k 1, 1461, .inr (.inl (N 3))))])) (QRi (fun r : Int32 => r = (iI (if lostZ on d (q : Int) = true then -1 else gT N d q)))) 0 0 nA := by
  refine r_i (by decide) rfl (Nat.le_of_ble_eq_true rfl) ?_
  intro p e s m args below meth c Q ls hx hb hml hown hts hpre hl ret
  obtain ⟨hP, hK, hX⟩ := hpre
  have hS : va_S nA s.heap s.heap [] := va_S.rf
  have hl : lv_has ls 5 [(0, .ref h0), (1, .int (iI ((cc : Int)))), (2, .int (iI ((d : Int)))), (3, .int (iI ((q : Int))))] := hl
  refine lv_aload_n hx hb d_RC_which_0 rfl (lv_at hl 0 rfl) ?_
  refine lv_iload_n hx hb d_RC_which_1 rfl (lv_at hl 1 rfl) ?_
  refine lv_iload_n hx hb d_RC_which_2 rfl (lv_at hl 2 rfl) ?_
  refine lv_iload_n hx hb d_RC_which_3 rfl (lv_at hl 3 rfl) ?_
  refine rc_r (va_runV (As := [.int (iI ((cc : Int))), .int (iI ((d : Int))), .int (iI ((q : Int)))]) (rest := []) (b := h0) ⟨hx, hb, hml, hown, hts⟩ (c_RC_planWithCell l D k (h0) (t0) (sh) (al) (rd) (pa) (sp) (u0) (w0) (ln) (po) (cc) (rl) (d) ((q : Int)) (hc) (hr) (hr2) (hd) ((by omega))) ⟨callB_of 3 hts (good_RC_planWithCell) rfl rfl rfl (hts _ k_59) (hts _ k_569) (by decide +kernel) ⟨Nat.le_of_ble_eq_true rfl, Nat.le_of_ble_eq_true rfl⟩, (hts _ k_571), (hts _ k_22)⟩ ⟨fun a U g mk q => ⟨q.1, q.2.1, va_K.moved (u := U) (U := U.calling g mk a) (Vm.Alike.refl U.vm) q.2.2.1, q.2.2.2.calling⟩, (va_recv (q0 := 0) hK hP rfl rfl), fun U hU hW => ⟨rfl, by rw [hU]; exact (hP.sub (ws' := [(h0, .inr (0, [.ref t0, .int (iI (ln)), .ref sh, .ref al, .ref rd, .ref pa, .ref sp])), (pa, .inl (k 6, 3, .inr (.inr (.inr (.inr (q3 po)))))), (po cc, .inr (5, [.ref u0, .ref w0, .int (iI ((rl : Int)))]))]) [0, 4, 5] rfl), va_K.moved hW.alike hK, by rw [hU]; exact hX.warm hW⟩⟩ rfl rfl hl.1 rfl (lv_room (Nat.le_of_ble_eq_true rfl)) d_RC_which_4 ⟨Nat.le_of_ble_eq_true rfl, Nat.le_of_ble_eq_true rfl⟩) (fun xr_1 h_xr_1 => ?_)
  subst h_xr_1
  refine lv_astore (lv' := [(4, .ref (po cc)), (0, .ref h0), (1, .int (iI ((cc : Int)))), (2, .int (iI ((d : Int)))), (3, .int (iI ((q : Int))))]) hx hb d_RC_which_7 hl (by decide) rfl (fun ls hl => ?_)
  refine lv_aload_n hx hb d_RC_which_9 rfl (lv_at hl 1 rfl) ?_
  refine va_get (D := D) (ci := 0) (v := .ref sh) (C := R_RC) (T := F_RC) (N := 7) hx hb hts in_RC hown hK hP 0 rfl rfl 2 (by decide) (hts _ k_239) (fun _ h9 => h9) rfl d_RC_which_10 ?_
  refine lv_iload_n hx hb d_RC_which_13 rfl (lv_at hl 3 rfl) ?_
  refine lv_iload_n hx hb d_RC_which_14 rfl (lv_at hl 4 rfl) ?_
  refine rc_i (va_runV (As := [.int (iI ((d : Int))), .int (iI ((q : Int)))]) (rest := []) (b := sh) ⟨hx, hb, hml, hown, hts⟩ (c_SH_isLost l D k (sh) (sa) (sb) (on) (d) ((q : Int)) ((by omega)) (⟨by omega, by omega⟩)) ⟨callB_of 2 hts (good_SH_isLost) rfl rfl rfl (hts _ k_60) (hts _ k_598) (by decide +kernel) ⟨Nat.le_of_ble_eq_true rfl, Nat.le_of_ble_eq_true rfl⟩, (hts _ k_599), (hts _ k_600)⟩ ⟨fun a U g mk q => ⟨q.1, q.2.1, va_K.moved (u := U) (U := U.calling g mk a) (Vm.Alike.refl U.vm) q.2.2.1, q.2.2.2.calling⟩, (va_recv (q0 := 1) hK hP rfl rfl), fun U hU hW => ⟨rfl, by rw [hU]; exact (hP.sub (ws' := [(sh, .inr (7, [.ref sa, .ref sb, .int (bI (on))])), (sa, .inl (k 0, 4, .inl (aZ (losZ)))), (sb, .inl (k 0, 4, .inl (aZ (dblZ))))]) [1, 2, 3] rfl), va_K.moved hW.alike hK, by rw [hU]; exact hX.warm hW⟩⟩ rfl rfl hl.1 rfl (lv_room (Nat.le_of_ble_eq_true rfl)) d_RC_which_15 ⟨Nat.le_of_ble_eq_true rfl, Nat.le_of_ble_eq_true rfl⟩) (fun xr_2 h_xr_2 => ?_)
  subst h_xr_2
  refine z_top (show (bI (shf ((q : Int)) && lose on d)) = (bI (lostZ on d (q : Int))) from rfl) ?_
  refine b_if_eq (tgt := 25) hx hb d_RC_which_18 (by decide) (fun h18 => ?_) (fun h18 => ?_)
  · refine lv_aload hx hb d_RC_which_25 (lv_at hl 0 rfl) ?_
    refine va_getN (D := D) (ci := 5) (v := .ref w0) (C := R_PL) (T := F_PL) (N := 3) hx hb hts in_PL hown hK hP 5 rfl rfl 1 (by decide) (va_Nw.use rfl (hX.2 _ n_227)) (fun _ h9 => h9) rfl d_RC_which_27 ?_
    refine lv_iload_n hx hb d_RC_which_30 rfl (lv_at hl 3 rfl) ?_
    refine lv_iload_n hx hb d_RC_which_31 rfl (lv_at hl 4 rfl) ?_
    refine rc_i (va_runV (As := [.int (iI ((d : Int))), .int (iI ((q : Int)))]) (rest := []) (b := w0) ⟨hx, hb, hml, hown, hts⟩ (c_CN_get l D k (w0) (w1) (w2) (w3) (w4) (w5) (N 0) (N 1) (N 2) (N 3) (d) (q) ((by omega)) ((by omega))) ⟨callB_of 2 hts (good_CN_get) rfl rfl rfl (hts _ k_66) (hts _ k_602) (by decide +kernel) ⟨Nat.le_of_ble_eq_true rfl, Nat.le_of_ble_eq_true rfl⟩, (hts _ k_603), (hts _ k_604)⟩ ⟨fun a U g mk q => ⟨q.1, q.2.1, va_K.moved (u := U) (U := U.calling g mk a) (Vm.Alike.refl U.vm) q.2.2.1, q.2.2.2.calling⟩, (va_recv (q0 := 6) hK hP rfl rfl), fun U hU hW => ⟨rfl, by rw [hU]; exact (hP.sub (ws' := [(w0, .inr (3, [.ref w1])), (w1, .inl (k 4, 4, .inr (.inr (.inr (.inr (rws w2 w3 w4 w5)))))), (w2, .inl (k 1, 1461, .inr (.inl (N 0)))), (w3, .inl (k 1, 1461, .inr (.inl (N 1)))), (w4, .inl (k 1, 1461, .inr (.inl (N 2)))), (w5, .inl (k 1, 1461, .inr (.inl (N 3))))]) [6, 7, 8, 9, 10, 11] rfl), va_K.moved hW.alike hK, by rw [hU]; exact hX.warm hW⟩⟩ rfl rfl hl.1 rfl (lv_room (Nat.le_of_ble_eq_true rfl)) d_RC_which_32 ⟨Nat.le_of_ble_eq_true rfl, Nat.le_of_ble_eq_true rfl⟩) (fun xr_3 h_xr_3 => ?_)
    subst h_xr_3
    have hg9 := cnGet_bd (N 0 (d)) (N 1 (d)) (N 2 (d)) (N 3 (d)) (q)
    refine z_top (show (iI (cnGet ((N 0) d) ((N 1) d) ((N 2) d) ((N 3) d) q)) = (iI (gT N d q)) from rfl) ?_
    exact ret _ 35 (iI (gT N d q)) d_RC_which_35 (by rw [if_neg (Bool.eq_false_iff.mp h18)])
  · refine z_iconst hx hb d_RC_which_21 ?_
    refine lv_goto (tgt := 35) hx hb d_RC_which_22 (by decide) ?_
    exact ret _ 35 (iI (-1)) d_RC_which_35 (by rw [if_pos h18])

set_option maxHeartbeats 4000000 in
set_option maxRecDepth 100000 in
theorem c_RC_dayOf (l : Launch) (D : va_G) (k : Nat → ClassId) (h0 t0 sh al rd pa sp : Nat) (ln : Int) (y : Int) (m1 : Int) (o : Int) (hy : rg y) (hm : rg m1) (ho : rg o) : Met l y_RC_dayOf wd_RC_dayOf rm_RC_dayOf (va_Pc [.ref h0, .int (iI (y)), .int (iI (m1)), .int (iI (o))] (PRO D k [(h0, .inr (0, [.ref t0, .int (iI (ln)), .ref sh, .ref al, .ref rd, .ref pa, .ref sp]))])) (QRi (fun r : Int32 => r = (iI (dNum y m1 o)))) 0 0 nA := by
  refine r_i (by decide) rfl (Nat.le_of_ble_eq_true rfl) ?_
  intro p e s m args below meth c Q ls hx hb hml hown hts hpre hl ret
  obtain ⟨hP, hK, hX⟩ := hpre
  have hS : va_S nA s.heap s.heap [] := va_S.rf
  have hl : lv_has ls 4 [(0, .ref h0), (1, .int (iI (y))), (2, .int (iI (m1))), (3, .int (iI (o)))] := hl
  refine lv_iload_n hx hb d_RC_dayOf_0 rfl (lv_at hl 1 rfl) ?_
  refine lv_iload_n hx hb d_RC_dayOf_1 rfl (lv_at hl 2 rfl) ?_
  refine lv_iload_n hx hb d_RC_dayOf_2 rfl (lv_at hl 3 rfl) ?_
  refine rc_i (va_runS (As := [.int (iI (y)), .int (iI (m1)), .int (iI (o))]) (rest := []) ⟨hx, hb, hml, hown, hts⟩ (c_AL_dayNumber l D k (y) (m1) (o) (hy) (hm) (ho)) ⟨callB_of 3 hts (good_AL_dayNumber) rfl rfl rfl (hts _ k_61) (hts _ k_275) (by decide +kernel) ⟨Nat.le_of_ble_eq_true rfl, Nat.le_of_ble_eq_true rfl⟩, (hts _ k_98)⟩ ⟨fun a U g mk q => ⟨q.1, q.2.1, va_K.moved (u := U) (U := U.calling g mk a) (Vm.Alike.refl U.vm) q.2.2.1, q.2.2.2.calling⟩, fun U hU hW => ⟨rfl, by rw [hU]; exact (hP.sub (ws' := []) [] rfl), va_K.moved hW.alike hK, by rw [hU]; exact hX.warm hW⟩⟩ rfl rfl hl.1 rfl (lv_room (Nat.le_of_ble_eq_true rfl)) d_RC_dayOf_3 ⟨Nat.le_of_ble_eq_true rfl, Nat.le_of_ble_eq_true rfl⟩) (fun xr_1 h_xr_1 => ?_)
  subst h_xr_1
  exact ret _ 6 (iI (dNum y m1 o)) d_RC_dayOf_6 (rfl)

set_option maxHeartbeats 4000000 in
set_option maxRecDepth 100000 in
theorem c_RC_feast (l : Launch) (D : va_G) (k : Nat → ClassId) (h0 t0 sh al rd pa sp : Nat) (ln : Int) (y : Int) (hy : rg y) : Met l y_RC_feast wd_RC_feast rm_RC_feast (va_Pc [.ref h0, .int (iI (y))] (PRO D k [(h0, .inr (0, [.ref t0, .int (iI (ln)), .ref sh, .ref al, .ref rd, .ref pa, .ref sp]))])) (QRi (fun r : Int32 => r = (iI (feastZ y)))) 0 0 nA := by
  refine r_i (by decide) rfl (Nat.le_of_ble_eq_true rfl) ?_
  intro p e s m args below meth c Q ls hx hb hml hown hts hpre hl ret
  obtain ⟨hP, hK, hX⟩ := hpre
  have hS : va_S nA s.heap s.heap [] := va_S.rf
  have hl : lv_has ls 2 [(0, .ref h0), (1, .int (iI (y)))] := hl
  refine lv_iload_n hx hb d_RC_feast_0 rfl (lv_at hl 1 rfl) ?_
  refine rc_i (va_runS (As := [.int (iI (y))]) (rest := []) ⟨hx, hb, hml, hown, hts⟩ (c_AL_feastDate l D k (y) (hy)) ⟨callB_of 1 hts (good_AL_feastDate) rfl rfl rfl (hts _ k_61) (hts _ k_295) (by decide +kernel) ⟨Nat.le_of_ble_eq_true rfl, Nat.le_of_ble_eq_true rfl⟩, (hts _ k_126)⟩ ⟨fun a U g mk q => ⟨q.1, q.2.1, va_K.moved (u := U) (U := U.calling g mk a) (Vm.Alike.refl U.vm) q.2.2.1, q.2.2.2.calling⟩, fun U hU hW => ⟨rfl, by rw [hU]; exact (hP.sub (ws' := []) [] rfl), va_K.moved hW.alike hK, by rw [hU]; exact hX.warm hW⟩⟩ rfl rfl hl.1 rfl (lv_room (Nat.le_of_ble_eq_true rfl)) d_RC_feast_1 ⟨Nat.le_of_ble_eq_true rfl, Nat.le_of_ble_eq_true rfl⟩) (fun xr_1 h_xr_1 => ?_)
  subst h_xr_1
  exact ret _ 4 (iI (feastZ y)) d_RC_feast_4 (rfl)

set_option maxHeartbeats 4000000 in
set_option maxRecDepth 100000 in
theorem c_RC_elapsed (l : Launch) (D : va_G) (k : Nat → ClassId) (h0 t0 sh al rd pa sp sa sb : Nat) (ln : Int) (on : Bool) (d : Nat) (q : Int) (sec : Bool) (hd : d < 1461) (hq : 0 ≤ q ∧ q < 48) : Met l y_RC_elapsed wd_RC_elapsed rm_RC_elapsed (va_Pc [.ref h0, .int (iI ((d : Int))), .int (iI (q)), .int (bI (sec))] (PRO D k [(h0, .inr (0, [.ref t0, .int (iI (ln)), .ref sh, .ref al, .ref rd, .ref pa, .ref sp])), (sh, .inr (7, [.ref sa, .ref sb, .int (bI (on))])), (sa, .inl (k 0, 4, .inl (aZ (losZ)))), (sb, .inl (k 0, 4, .inl (aZ (dblZ))))])) (QRi (fun r : Int32 => r = (iI (if lostZ on d q = true then -1 else tmZ on d q sec)))) 0 0 nA := by
  refine r_i (by decide) rfl (Nat.le_of_ble_eq_true rfl) ?_
  intro p e s m args below meth c Q ls hx hb hml hown hts hpre hl ret
  obtain ⟨hP, hK, hX⟩ := hpre
  have hS : va_S nA s.heap s.heap [] := va_S.rf
  have hl : lv_has ls 4 [(0, .ref h0), (1, .int (iI ((d : Int)))), (2, .int (iI (q))), (3, .int (bI (sec)))] := hl
  refine lv_aload_n hx hb d_RC_elapsed_0 rfl (lv_at hl 0 rfl) ?_
  refine lv_iload_n hx hb d_RC_elapsed_1 rfl (lv_at hl 1 rfl) ?_
  refine lv_iload_n hx hb d_RC_elapsed_2 rfl (lv_at hl 2 rfl) ?_
  refine rc_v (va_runV (As := [.int (iI ((d : Int))), .int (iI (q))]) (rest := []) (b := h0) ⟨hx, hb, hml, hown, hts⟩ (c_RC_needCell l D k (h0) (t0) (sh) (al) (rd) (pa) (sp) (ln) ((d : Int)) (q) ((by omega)) ((by omega))) ⟨callB_of 2 hts (good_RC_needCell) rfl rfl rfl (hts _ k_59) (hts _ k_573) (by decide +kernel) ⟨Nat.le_of_ble_eq_true rfl, Nat.le_of_ble_eq_true rfl⟩, (hts _ k_575), (hts _ k_23)⟩ ⟨fun a U g mk q => ⟨q.1, q.2.1, va_K.moved (u := U) (U := U.calling g mk a) (Vm.Alike.refl U.vm) q.2.2.1, q.2.2.2.calling⟩, (va_recv (q0 := 0) hK hP rfl rfl), fun U hU hW => ⟨rfl, by rw [hU]; exact (hP.sub (ws' := [(h0, .inr (0, [.ref t0, .int (iI (ln)), .ref sh, .ref al, .ref rd, .ref pa, .ref sp]))]) [0] rfl), va_K.moved hW.alike hK, by rw [hU]; exact hX.warm hW⟩⟩ rfl rfl hl.1 rfl (lv_room (Nat.le_of_ble_eq_true rfl)) d_RC_elapsed_3 ⟨Nat.le_of_ble_eq_true rfl, Nat.le_of_ble_eq_true rfl⟩) ?_
  refine lv_aload_n hx hb d_RC_elapsed_6 rfl (lv_at hl 0 rfl) ?_
  refine va_get (D := D) (ci := 0) (v := .ref sh) (C := R_RC) (T := F_RC) (N := 7) hx hb hts in_RC hown hK hP 0 rfl rfl 2 (by decide) (hts _ k_239) (fun _ h9 => h9) rfl d_RC_elapsed_7 ?_
  refine lv_iload_n hx hb d_RC_elapsed_10 rfl (lv_at hl 1 rfl) ?_
  refine lv_iload_n hx hb d_RC_elapsed_11 rfl (lv_at hl 2 rfl) ?_
  refine rc_i (va_runV (As := [.int (iI ((d : Int))), .int (iI (q))]) (rest := []) (b := sh) ⟨hx, hb, hml, hown, hts⟩ (c_SH_isLost l D k (sh) (sa) (sb) (on) (d) (q) ((by omega)) (⟨by omega, by omega⟩)) ⟨callB_of 2 hts (good_SH_isLost) rfl rfl rfl (hts _ k_60) (hts _ k_598) (by decide +kernel) ⟨Nat.le_of_ble_eq_true rfl, Nat.le_of_ble_eq_true rfl⟩, (hts _ k_599), (hts _ k_600)⟩ ⟨fun a U g mk q => ⟨q.1, q.2.1, va_K.moved (u := U) (U := U.calling g mk a) (Vm.Alike.refl U.vm) q.2.2.1, q.2.2.2.calling⟩, (va_recv (q0 := 1) hK hP rfl rfl), fun U hU hW => ⟨rfl, by rw [hU]; exact (hP.sub (ws' := [(sh, .inr (7, [.ref sa, .ref sb, .int (bI (on))])), (sa, .inl (k 0, 4, .inl (aZ (losZ)))), (sb, .inl (k 0, 4, .inl (aZ (dblZ))))]) [1, 2, 3] rfl), va_K.moved hW.alike hK, by rw [hU]; exact hX.warm hW⟩⟩ rfl rfl hl.1 rfl (lv_room (Nat.le_of_ble_eq_true rfl)) d_RC_elapsed_12 ⟨Nat.le_of_ble_eq_true rfl, Nat.le_of_ble_eq_true rfl⟩) (fun xr_1 h_xr_1 => ?_)
  subst h_xr_1
  refine z_top (show (bI (shf q && lose on d)) = (bI (lostZ on d (q))) from rfl) ?_
  refine b_if_eq (tgt := 22) hx hb d_RC_elapsed_15 (by decide) (fun h15 => ?_) (fun h15 => ?_)
  · refine lv_aload_n hx hb d_RC_elapsed_22 rfl (lv_at hl 0 rfl) ?_
    refine va_get (D := D) (ci := 0) (v := .ref sh) (C := R_RC) (T := F_RC) (N := 7) hx hb hts in_RC hown hK hP 0 rfl rfl 2 (by decide) (hts _ k_239) (fun _ h9 => h9) rfl d_RC_elapsed_23 ?_
    refine lv_iload_n hx hb d_RC_elapsed_26 rfl (lv_at hl 1 rfl) ?_
    refine lv_iload_n hx hb d_RC_elapsed_27 rfl (lv_at hl 2 rfl) ?_
    refine lv_iload_n hx hb d_RC_elapsed_28 rfl (lv_at hl 3 rfl) ?_
    refine rc_i (va_runV (As := [.int (iI ((d : Int))), .int (iI (q)), .int (bI (sec))]) (rest := []) (b := sh) ⟨hx, hb, hml, hown, hts⟩ (c_SH_timeOf l D k (sh) (sa) (sb) (on) (d) (q) (sec) (hd) ((by omega))) ⟨callB_of 3 hts (good_SH_timeOf) rfl rfl rfl (hts _ k_60) (hts _ k_649) (by decide +kernel) ⟨Nat.le_of_ble_eq_true rfl, Nat.le_of_ble_eq_true rfl⟩, (hts _ k_650), (hts _ k_651)⟩ ⟨fun a U g mk q => ⟨q.1, q.2.1, va_K.moved (u := U) (U := U.calling g mk a) (Vm.Alike.refl U.vm) q.2.2.1, q.2.2.2.calling⟩, (va_recv (q0 := 1) hK hP rfl rfl), fun U hU hW => ⟨rfl, by rw [hU]; exact (hP.sub (ws' := [(sh, .inr (7, [.ref sa, .ref sb, .int (bI (on))])), (sa, .inl (k 0, 4, .inl (aZ (losZ)))), (sb, .inl (k 0, 4, .inl (aZ (dblZ))))]) [1, 2, 3] rfl), va_K.moved hW.alike hK, by rw [hU]; exact hX.warm hW⟩⟩ rfl rfl hl.1 rfl (lv_room (Nat.le_of_ble_eq_true rfl)) d_RC_elapsed_29 ⟨Nat.le_of_ble_eq_true rfl, Nat.le_of_ble_eq_true rfl⟩) (fun xr_2 h_xr_2 => ?_)
    subst h_xr_2
    exact ret _ 32 (iI (tmZ on d q sec)) d_RC_elapsed_32 (by rw [if_neg (Bool.eq_false_iff.mp h15)])
  · refine z_iconst hx hb d_RC_elapsed_18 ?_
    refine lv_goto (tgt := 32) hx hb d_RC_elapsed_19 (by decide) ?_
    exact ret _ 32 (iI (-1)) d_RC_elapsed_32 (by rw [if_pos h15])

set_option maxHeartbeats 4000000 in
set_option maxRecDepth 100000 in
theorem c_RC_clock (l : Launch) (D : va_G) (k : Nat → ClassId) (h0 t0 sh al rd pa sp sa sb : Nat) (ln : Int) (on : Bool) (z : Int) (hz : rg z) : Met l y_RC_clock wd_RC_clock rm_RC_clock (va_Pc [.ref h0, .int (iI (z))] (PRO D k [(h0, .inr (0, [.ref t0, .int (iI (ln)), .ref sh, .ref al, .ref rd, .ref pa, .ref sp])), (sh, .inr (7, [.ref sa, .ref sb, .int (bI (on))])), (sa, .inl (k 0, 4, .inl (aZ (losZ)))), (sb, .inl (k 0, 4, .inl (aZ (dblZ))))])) (QRi (fun r : Int32 => r = (iI (if z < 0 ∨ 70128 ≤ z then -1 else tellQ on (tellD on z) (z - stZ on (tellD on z)))))) 0 0 nA := by
  refine r_i (by decide) rfl (Nat.le_of_ble_eq_true rfl) ?_
  intro p e s m args below meth c Q ls hx hb hml hown hts hpre hl ret
  obtain ⟨hP, hK, hX⟩ := hpre
  have hS : va_S nA s.heap s.heap [] := va_S.rf
  have hl : lv_has ls 2 [(0, .ref h0), (1, .int (iI (z)))] := hl
  obtain ⟨z1, z2⟩ := hz
  refine lv_iload_n hx hb d_RC_clock_0 rfl (lv_at hl 1 rfl) ?_
  refine z_if_lt (tgt := 10) hx hb d_RC_clock_1 (by decide) ⟨by omega, by omega⟩ (fun h1 => ?_) (fun h1 => ?_)
  · refine z_iconst hx hb d_RC_clock_10 ?_
    refine lv_goto (tgt := 22) hx hb d_RC_clock_11 (by decide) ?_
    exact ret _ 22 (iI (-1)) d_RC_clock_22 (by rw [if_pos (by omega)])
  · refine lv_iload_n hx hb d_RC_clock_4 rfl (lv_at hl 1 rfl) ?_
    refine W.ldc (v := iI (70128)) hx hb hown (hts _ k_300) rfl d_RC_clock_5 ?_
    refine W.eq (g2 := F0 m 7 ls (.int (iI (70128)) :: [.int (iI (z))])) rfl ?_
    refine z_icmp_lt (tgt := 14) hx hb d_RC_clock_7 (by decide) ⟨by omega, by omega⟩ ⟨by omega, by omega⟩ (fun h7 => ?_) (fun h7 => ?_)
    · refine lv_aload_n hx hb d_RC_clock_14 rfl (lv_at hl 0 rfl) ?_
      refine va_get (D := D) (ci := 0) (v := .ref sh) (C := R_RC) (T := F_RC) (N := 7) hx hb hts in_RC hown hK hP 0 rfl rfl 2 (by decide) (hts _ k_239) (fun _ h9 => h9) rfl d_RC_clock_15 ?_
      refine lv_iload_n hx hb d_RC_clock_18 rfl (lv_at hl 1 rfl) ?_
      refine rc_i (va_runV (As := [.int (iI (z))]) (rest := []) (b := sh) ⟨hx, hb, hml, hown, hts⟩ (c_SH_tell l D k (sh) (sa) (sb) (on) (z) ((by omega))) ⟨callB_of 1 hts (good_SH_tell) rfl rfl rfl (hts _ k_60) (hts _ k_301) (by decide +kernel) ⟨Nat.le_of_ble_eq_true rfl, Nat.le_of_ble_eq_true rfl⟩, (hts _ k_302), (hts _ k_303)⟩ ⟨fun a U g mk q => ⟨q.1, q.2.1, va_K.moved (u := U) (U := U.calling g mk a) (Vm.Alike.refl U.vm) q.2.2.1, q.2.2.2.calling⟩, (va_recv (q0 := 1) hK hP rfl rfl), fun U hU hW => ⟨rfl, by rw [hU]; exact (hP.sub (ws' := [(sh, .inr (7, [.ref sa, .ref sb, .int (bI (on))])), (sa, .inl (k 0, 4, .inl (aZ (losZ)))), (sb, .inl (k 0, 4, .inl (aZ (dblZ))))]) [1, 2, 3] rfl), va_K.moved hW.alike hK, by rw [hU]; exact hX.warm hW⟩⟩ rfl rfl hl.1 rfl (lv_room (Nat.le_of_ble_eq_true rfl)) d_RC_clock_19 ⟨Nat.le_of_ble_eq_true rfl, Nat.le_of_ble_eq_true rfl⟩) (fun xr_1 h_xr_1 => ?_)
      subst h_xr_1
      exact ret _ 22 (iI (tellQ on (tellD on z) (z - stZ on (tellD on z)))) d_RC_clock_22 (by rw [if_neg (by omega)])
    · refine z_iconst hx hb d_RC_clock_10 ?_
      refine lv_goto (tgt := 22) hx hb d_RC_clock_11 (by decide) ?_
      exact ret _ 22 (iI (-1)) d_RC_clock_22 (by rw [if_pos (by omega)])

set_option maxHeartbeats 4000000 in
set_option maxRecDepth 100000 in
theorem c_RC_dateOf (l : Launch) (D : va_G) (k : Nat → ClassId) (h0 t0 sh al rd pa sp l1 l2 : Nat) (ln : Int) (z : Int) (wh : Int) (hz : rg z) (hw : rg wh) : Met l y_RC_dateOf wd_RC_dateOf rm_RC_dateOf (va_Pc [.ref h0, .int (iI (z)), .int (iI (wh))] (PRO D k [(h0, .inr (0, [.ref t0, .int (iI (ln)), .ref sh, .ref al, .ref rd, .ref pa, .ref sp])), (al, .inr (1, [.ref l1, .ref l2])), (l1, .inl (k 0, 1461, .inl (aZ (dateZ))))])) (QRi (fun r : Int32 => r = (iI (if z < 0 ∨ 1461 ≤ z then -1 else if wh = 0 then dateZ z.toNat else if wh = 1 then wDay z else if wh = 2 then weekZ z else -1)))) 0 0 nA := by
  refine r_i (by decide) rfl (Nat.le_of_ble_eq_true rfl) ?_
  intro p e s m args below meth c Q ls hx hb hml hown hts hpre hl ret
  obtain ⟨hP, hK, hX⟩ := hpre
  have hS : va_S nA s.heap s.heap [] := va_S.rf
  have hl : lv_has ls 3 [(0, .ref h0), (1, .int (iI (z))), (2, .int (iI (wh)))] := hl
  obtain ⟨z1, z2⟩ := hz
  obtain ⟨w1, w2⟩ := hw
  refine lv_iload_n hx hb d_RC_dateOf_0 rfl (lv_at hl 1 rfl) ?_
  refine z_if_lt (tgt := 11) hx hb d_RC_dateOf_1 (by decide) ⟨by omega, by omega⟩ (fun h1 => ?_) (fun h1 => ?_)
  · refine z_iconst hx hb d_RC_dateOf_11 ?_
    exact ret _ 12 (iI (-1)) d_RC_dateOf_12 (by rw [if_pos (by omega)])
  · refine lv_iload_n hx hb d_RC_dateOf_4 rfl (lv_at hl 1 rfl) ?_
    refine z_sipush hx hb d_RC_dateOf_5 (by decide) ?_
    refine z_icmp_lt (tgt := 13) hx hb d_RC_dateOf_8 (by decide) ⟨by omega, by omega⟩ ⟨by omega, by omega⟩ (fun h8 => ?_) (fun h8 => ?_)
    · refine lv_iload_n hx hb d_RC_dateOf_13 rfl (lv_at hl 2 rfl) ?_
      have hz14 : (iI (wh)).toInt = wh := iI_toInt ⟨by omega, by omega⟩
      by_cases hk14_0 : wh = 0
      · refine lv_tableIn (tgt := 40) (off := 26) hx hb d_RC_dateOf_14 (by rw [hz14, hk14_0]; decide) (by rw [hz14, hk14_0]; decide) (by rw [hz14, hk14_0]; rfl) (by decide) ?_
        refine lv_aload_n hx hb d_RC_dateOf_40 rfl (lv_at hl 0 rfl) ?_
        refine va_get (D := D) (ci := 0) (v := .ref al) (C := R_RC) (T := F_RC) (N := 7) hx hb hts in_RC hown hK hP 0 rfl rfl 3 (by decide) (hts _ k_240) (fun _ h9 => h9) rfl d_RC_dateOf_41 ?_
        refine lv_iload_n hx hb d_RC_dateOf_44 rfl (lv_at hl 1 rfl) ?_
        obtain ⟨d, hd⟩ : ∃ d : Nat, (d : Int) = z := ⟨z.toNat, by omega⟩
        refine z_top (show (iI (z)) = (iI ((d : Int))) from congrArg iI hd.symm) ?_
        refine rc_i (va_runV (As := [.int (iI ((d : Int)))]) (rest := []) (b := al) ⟨hx, hb, hml, hown, hts⟩ (c_AL_date l D k (al) (l1) (l2) (d) ((by omega))) ⟨callB_of 1 hts (good_AL_date) rfl rfl rfl (hts _ k_61) (hts _ k_280) (by decide +kernel) ⟨Nat.le_of_ble_eq_true rfl, Nat.le_of_ble_eq_true rfl⟩, (hts _ k_281), (hts _ k_282)⟩ ⟨fun a U g mk q => ⟨q.1, q.2.1, va_K.moved (u := U) (U := U.calling g mk a) (Vm.Alike.refl U.vm) q.2.2.1, q.2.2.2.calling⟩, (va_recv (q0 := 1) hK hP rfl rfl), fun U hU hW => ⟨rfl, by rw [hU]; exact (hP.sub (ws' := [(al, .inr (1, [.ref l1, .ref l2])), (l1, .inl (k 0, 1461, .inl (aZ (dateZ))))]) [1, 2] rfl), va_K.moved hW.alike hK, by rw [hU]; exact hX.warm hW⟩⟩ rfl rfl hl.1 rfl (lv_room (Nat.le_of_ble_eq_true rfl)) d_RC_dateOf_45 ⟨Nat.le_of_ble_eq_true rfl, Nat.le_of_ble_eq_true rfl⟩) (fun xr_1 h_xr_1 => ?_)
        subst h_xr_1
        exact ret _ 48 (iI (dateZ d)) d_RC_dateOf_48 (by rw [if_neg (by omega), if_pos hk14_0, show z.toNat = d by omega])
      by_cases hk14_1 : wh = 1
      · refine lv_tableIn (tgt := 49) (off := 35) hx hb d_RC_dateOf_14 (by rw [hz14, hk14_1]; decide) (by rw [hz14, hk14_1]; decide) (by rw [hz14, hk14_1]; rfl) (by decide) ?_
        refine lv_iload_n hx hb d_RC_dateOf_49 rfl (lv_at hl 1 rfl) ?_
        refine rc_i (va_runS (As := [.int (iI (z))]) (rest := []) ⟨hx, hb, hml, hown, hts⟩ (c_AL_weekday l D k (z) ((by omega))) ⟨callB_of 1 hts (good_AL_weekday) rfl rfl rfl (hts _ k_61) (hts _ k_284) (by decide +kernel) ⟨Nat.le_of_ble_eq_true rfl, Nat.le_of_ble_eq_true rfl⟩, (hts _ k_104)⟩ ⟨fun a U g mk q => ⟨q.1, q.2.1, va_K.moved (u := U) (U := U.calling g mk a) (Vm.Alike.refl U.vm) q.2.2.1, q.2.2.2.calling⟩, fun U hU hW => ⟨rfl, by rw [hU]; exact (hP.sub (ws' := []) [] rfl), va_K.moved hW.alike hK, by rw [hU]; exact hX.warm hW⟩⟩ rfl rfl hl.1 rfl (lv_room (Nat.le_of_ble_eq_true rfl)) d_RC_dateOf_50 ⟨Nat.le_of_ble_eq_true rfl, Nat.le_of_ble_eq_true rfl⟩) (fun xr_2 h_xr_2 => ?_)
        subst h_xr_2
        exact ret _ 53 (iI (wDay z)) d_RC_dateOf_53 (by rw [if_neg (by omega), if_neg (by omega), if_pos hk14_1])
      by_cases hk14_2 : wh = 2
      · refine lv_tableIn (tgt := 54) (off := 40) hx hb d_RC_dateOf_14 (by rw [hz14, hk14_2]; decide) (by rw [hz14, hk14_2]; decide) (by rw [hz14, hk14_2]; rfl) (by decide) ?_
        refine lv_iload_n hx hb d_RC_dateOf_54 rfl (lv_at hl 1 rfl) ?_
        refine rc_i (va_runS (As := [.int (iI (z))]) (rest := []) ⟨hx, hb, hml, hown, hts⟩ (c_AL_week l D k (z) ((by omega))) ⟨callB_of 1 hts (good_AL_week) rfl rfl rfl (hts _ k_61) (hts _ k_285) (by decide +kernel) ⟨Nat.le_of_ble_eq_true rfl, Nat.le_of_ble_eq_true rfl⟩, (hts _ k_286)⟩ ⟨fun a U g mk q => ⟨q.1, q.2.1, va_K.moved (u := U) (U := U.calling g mk a) (Vm.Alike.refl U.vm) q.2.2.1, q.2.2.2.calling⟩, fun U hU hW => ⟨rfl, by rw [hU]; exact (hP.sub (ws' := []) [] rfl), va_K.moved hW.alike hK, by rw [hU]; exact hX.warm hW⟩⟩ rfl rfl hl.1 rfl (lv_room (Nat.le_of_ble_eq_true rfl)) d_RC_dateOf_55 ⟨Nat.le_of_ble_eq_true rfl, Nat.le_of_ble_eq_true rfl⟩) (fun xr_3 h_xr_3 => ?_)
        subst h_xr_3
        exact ret _ 58 (iI (weekZ z)) d_RC_dateOf_58 (by rw [if_neg (by omega), if_neg (by omega), if_neg (by omega), if_pos hk14_2])
      refine lv_tableOut (tgt := 59) hx hb d_RC_dateOf_14 (by rw [hz14]; omega) (by decide) ?_
      refine z_iconst hx hb d_RC_dateOf_59 ?_
      exact ret _ 60 (iI (-1)) d_RC_dateOf_60 (by rw [if_neg (by omega), if_neg (by omega), if_neg (by omega), if_neg (by omega)])
    · refine z_iconst hx hb d_RC_dateOf_11 ?_
      exact ret _ 12 (iI (-1)) d_RC_dateOf_12 (by rw [if_pos (by omega)])

def wpF (ln : Int) : Int × Int := (ln, 0)
set_option maxHeartbeats 4000000 in
set_option maxRecDepth 100000 in
theorem c_RC_wipe (l : Launch) (D : va_G) (k : Nat → ClassId) (sz : Nat) (h0 t0 sh al rd pa sp : Nat) (ln : Int) : Met l y_RC_wipe wd_RC_wipe rm_RC_wipe (va_Pc [.ref h0] (PRW D k [(h0, .inr (0, [.ref t0, .int (iI (ln)), .ref sh, .ref al, .ref rd, .ref pa, .ref sp]))] sz)) (va_Qi (fun (r : Int32) (u : Unit) => r = (iI ((wpF ln).1))) (fun _ t => BRW D [(h0, .inr (0, [.ref t0, .int (iI (ln)), .ref sh, .ref al, .ref rd, .ref pa, .ref sp]))] sz [(h0, .inr (0, [.ref t0, .int (iI ((wpF ln).2)), .ref sh, .ref al, .ref rd, .ref pa, .ref sp]))] t) (va_A [(h0, .inr (0, [.ref t0, .int (iI (ln)), .ref sh, .ref al, .ref rd, .ref pa, .ref sp]))] sz)) 0 0 (va_A [(h0, .inr (0, [.ref t0, .int (iI (ln)), .ref sh, .ref al, .ref rd, .ref pa, .ref sp]))] sz) := by
  refine e_i (by decide) rfl (Nat.le_of_ble_eq_true rfl) ?_
  intro p e s m args below meth c Q ls hx hb hml hown hts hpre hl ret
  obtain ⟨hsz, hP, hK, hD0, hX⟩ := hpre
  subst hsz
  have hD := hD0.self (sz := s.heap.size)
  have hA : ∀ q : Nat, s.heap.size ≤ q → (va_A [(h0, .inr (0, [.ref t0, .int (iI (ln)), .ref sh, .ref al, .ref rd, .ref pa, .ref sp]))] s.heap.size) q := fun q h => Or.inr h
  have hS : va_S (va_A [(h0, .inr (0, [.ref t0, .int (iI (ln)), .ref sh, .ref al, .ref rd, .ref pa, .ref sp]))] s.heap.size) s.heap s.heap [] := va_S.rf
  have hl : lv_has ls 2 [(0, .ref h0)] := hl
  refine lv_aload_n hx hb d_RC_wipe_0 rfl (lv_at hl 0 rfl) ?_
  refine va_get (D := D) (ci := 0) (v := .int (iI (ln))) (C := R_RC) (T := F_RC) (N := 7) hx hb hts in_RC hown hK hP 0 rfl rfl 1 (by decide) (hts _ k_238) (fun _ h9 => h9) rfl d_RC_wipe_1 ?_
  refine lv_istore_n (lv' := [(1, .int (iI (ln))), (0, .ref h0)]) hx hb d_RC_wipe_4 rfl hl (by decide) rfl (fun ls hl => ?_)
  refine lv_aload_n hx hb d_RC_wipe_5 rfl (lv_at hl 1 rfl) ?_
  refine z_iconst hx hb d_RC_wipe_6 ?_
  refine va_put (D := D) (ci := 0) (v := .int (iI (0))) (ty := .int) (C := R_RC) (T := F_RC) (N := 7) hx hb hts in_RC t_RC t_RC_ok n_RC hown hK hP hD hS 0 rfl rfl 1 (by decide) (hts _ k_238) (fun _ h9 => h9) rfl (by decide +kernel) rfl rfl (Nat.le_of_ble_eq_true rfl) d_RC_wipe_7 (fun H locs hP hD hS => ?_)
  have hP : va_P D classes [(h0, .inr (0, [.ref t0, .int (iI (0)), .ref sh, .ref al, .ref rd, .ref pa, .ref sp]))] H := hP
  have hD : va_D (va_A [(h0, .inr (0, [.ref t0, .int (iI (ln)), .ref sh, .ref al, .ref rd, .ref pa, .ref sp]))] s.heap.size) [(h0, .inr (0, [.ref t0, .int (iI (0)), .ref sh, .ref al, .ref rd, .ref pa, .ref sp]))] := hD
  refine lv_iload_n hx hb d_RC_wipe_10 rfl (lv_at hl 0 rfl) ?_
  have e9 : wpF ln = (ln, 0) := rfl
  exact ret _ _ _ 11 (iI (ln)) () d_RC_wipe_11 hS ((congrArg (fun q9 => iI q9.1) e9).symm) (fun t ht _ => ⟨by rw [e9, ht]; exact hP, by rw [e9]; exact hD⟩)

def tyF (tx : Nat → Int) (ln : Int) (ch : Int) : Bool × Int × (Nat → Int) := (if ch < 32 then (false, ln, tx) else (if 126 < ch then (false, ln, tx) else (if ln < 100 then (true, ln + 1, updZ (tx) ((ln).toNat) (ch)) else (false, ln, tx))))
set_option maxHeartbeats 4000000 in
set_option maxRecDepth 100000 in
theorem c_RC_type (l : Launch) (D : va_G) (k : Nat → ClassId) (sz : Nat) (h0 t0 sh al rd pa sp : Nat) (tx : Nat → Int) (ln : Int) (ch : Int) (hl : 0 ≤ ln ∧ ln ≤ 100) (hch : 0 ≤ ch ∧ ch ≤ 65535) : Met l y_RC_type wd_RC_type rm_RC_type (va_Pc [.ref h0, .int (iI (ch))] (PRW D k [(h0, .inr (0, [.ref t0, .int (iI (ln)), .ref sh, .ref al, .ref rd, .ref pa, .ref sp])), (t0, .inl (k 2, 100, .inl (aZ (tx))))] sz)) (va_Qi (fun (r : Int32) (u : Unit) => r = (bI ((tyF tx ln ch).1))) (fun _ t => BRW D [(h0, .inr (0, [.ref t0, .int (iI (ln)), .ref sh, .ref al, .ref rd, .ref pa, .ref sp])), (t0, .inl (k 2, 100, .inl (aZ (tx))))] sz [(h0, .inr (0, [.ref t0, .int (iI ((tyF tx ln ch).2.1)), .ref sh, .ref al, .ref rd, .ref pa, .ref sp])), (t0, .inl (k 2, 100, .inl (aZ ((tyF tx ln ch).2.2))))] t) (va_A [(h0, .inr (0, [.ref t0, .int (iI (ln)), .ref sh, .ref al, .ref rd, .ref pa, .ref sp])), (t0, .inl (k 2, 100, .inl (aZ (tx))))] sz)) 0 0 (va_A [(h0, .inr (0, [.ref t0, .int (iI (ln)), .ref sh, .ref al, .ref rd, .ref pa, .ref sp])), (t0, .inl (k 2, 100, .inl (aZ (tx))))] sz) := by
  refine e_z (by decide) rfl (Nat.le_of_ble_eq_true rfl) ?_
  intro p e s m args below meth c Q ls hx hb hml hown hts hpre hl ret
  obtain ⟨hsz, hP, hK, hD0, hX⟩ := hpre
  subst hsz
  have hD := hD0.self (sz := s.heap.size)
  have hA : ∀ q : Nat, s.heap.size ≤ q → (va_A [(h0, .inr (0, [.ref t0, .int (iI (ln)), .ref sh, .ref al, .ref rd, .ref pa, .ref sp])), (t0, .inl (k 2, 100, .inl (aZ (tx))))] s.heap.size) q := fun q h => Or.inr h
  have hS : va_S (va_A [(h0, .inr (0, [.ref t0, .int (iI (ln)), .ref sh, .ref al, .ref rd, .ref pa, .ref sp])), (t0, .inl (k 2, 100, .inl (aZ (tx))))] s.heap.size) s.heap s.heap [] := va_S.rf
  have hl : lv_has ls 2 [(0, .ref h0), (1, .int (iI (ch)))] := hl
  refine lv_iload_n hx hb d_RC_type_0 rfl (lv_at hl 1 rfl) ?_
  refine z_bipush hx hb d_RC_type_1 (by decide) ?_
  refine z_icmp_lt (tgt := 21) hx hb d_RC_type_3 (by decide) ⟨by omega, by omega⟩ ⟨by omega, by omega⟩ (fun h3 => ?_) (fun h3 => ?_)
  · refine z_iconst hx hb d_RC_type_21 ?_
    have e9 : tyF tx ln ch = (false, ln, tx) := by unfold tyF; rw [if_pos h3]
    exact ret _ _ _ 22 false () d_RC_type_22 hS ((congrArg (fun q9 => bI q9.1) e9).symm) (fun t ht _ => ⟨by rw [e9, ht]; exact hP, by rw [e9]; exact hD⟩)
  · refine lv_iload_n hx hb d_RC_type_6 rfl (lv_at hl 1 rfl) ?_
    refine z_bipush hx hb d_RC_type_7 (by decide) ?_
    refine z_icmp_gt (tgt := 21) hx hb d_RC_type_9 (by decide) ⟨by omega, by omega⟩ ⟨by omega, by omega⟩ (fun h9 => ?_) (fun h9 => ?_)
    · refine z_iconst hx hb d_RC_type_21 ?_
      have e9 : tyF tx ln ch = (false, ln, tx) := by unfold tyF; rw [if_neg h3, if_pos h9]
      exact ret _ _ _ 22 false () d_RC_type_22 hS ((congrArg (fun q9 => bI q9.1) e9).symm) (fun t ht _ => ⟨by rw [e9, ht]; exact hP, by rw [e9]; exact hD⟩)
    · refine lv_aload_n hx hb d_RC_type_12 rfl (lv_at hl 0 rfl) ?_
      refine va_get (D := D) (ci := 0) (v := .int (iI (ln))) (C := R_RC) (T := F_RC) (N := 7) hx hb hts in_RC hown hK hP 0 rfl rfl 1 (by decide) (hts _ k_238) (fun _ h9 => h9) rfl d_RC_type_13 ?_
      refine z_bipush hx hb d_RC_type_16 (by decide) ?_
      refine z_icmp_lt (tgt := 23) hx hb d_RC_type_18 (by decide) ⟨by omega, by omega⟩ ⟨by omega, by omega⟩ (fun h18 => ?_) (fun h18 => ?_)
      · refine lv_aload_n hx hb d_RC_type_23 rfl (lv_at hl 0 rfl) ?_
        refine va_get (D := D) (ci := 0) (v := .ref t0) (C := R_RC) (T := F_RC) (N := 7) hx hb hts in_RC hown hK hP 0 rfl rfl 0 (by decide) (hts _ k_237) (fun _ h9 => h9) rfl d_RC_type_24 ?_
        refine lv_aload_n hx hb d_RC_type_27 rfl (lv_at hl 0 rfl) ?_
        refine va_get (D := D) (ci := 0) (v := .int (iI (ln))) (C := R_RC) (T := F_RC) (N := 7) hx hb hts in_RC hown hK hP 0 rfl rfl 1 (by decide) (hts _ k_238) (fun _ h9 => h9) rfl d_RC_type_28 ?_
        refine lv_iload_n hx hb d_RC_type_31 rfl (lv_at hl 1 rfl) ?_
        refine x_cast hx hb hK hP hD hS 1 2 rfl rfl ((ln).toNat) (by omega) (by omega) (by omega) d_RC_type_32 (fun H locs hP hD hS => ?_)
        rw [nar_c (z := ch) (by omega), aZ_upd] at hP hD
        have hP : va_P D classes [(h0, .inr (0, [.ref t0, .int (iI (ln)), .ref sh, .ref al, .ref rd, .ref pa, .ref sp])), (t0, .inl (k 2, 100, .inl (aZ (updZ (tx) ((ln).toNat) (ch)))))] H := hP
        have hD : va_D (va_A [(h0, .inr (0, [.ref t0, .int (iI (ln)), .ref sh, .ref al, .ref rd, .ref pa, .ref sp])), (t0, .inl (k 2, 100, .inl (aZ (tx))))] s.heap.size) [(h0, .inr (0, [.ref t0, .int (iI (ln)), .ref sh, .ref al, .ref rd, .ref pa, .ref sp])), (t0, .inl (k 2, 100, .inl (aZ (updZ (tx) ((ln).toNat) (ch)))))] := hD
        refine lv_aload_n hx hb d_RC_type_33 rfl (lv_at hl 0 rfl) ?_
        refine lv_dup hx hb d_RC_type_34 rfl ?_
        refine va_get (D := D) (ci := 0) (v := .int (iI (ln))) (C := R_RC) (T := F_RC) (N := 7) hx hb hts in_RC hown hK hP 0 rfl rfl 1 (by decide) (hts _ k_238) (fun _ h9 => h9) rfl d_RC_type_35 ?_
        refine z_iconst hx hb d_RC_type_38 ?_
        refine z_iadd hx hb d_RC_type_39 ?_
        refine va_put (D := D) (ci := 0) (v := .int (iI (ln + 1))) (ty := .int) (C := R_RC) (T := F_RC) (N := 7) hx hb hts in_RC t_RC t_RC_ok n_RC hown hK hP hD hS 0 rfl rfl 1 (by decide) (hts _ k_238) (fun _ h9 => h9) rfl (by decide +kernel) rfl rfl (Nat.le_of_ble_eq_true rfl) d_RC_type_40 (fun H locs hP hD hS => ?_)
        have hP : va_P D classes [(h0, .inr (0, [.ref t0, .int (iI (ln + 1)), .ref sh, .ref al, .ref rd, .ref pa, .ref sp])), (t0, .inl (k 2, 100, .inl (aZ (updZ (tx) ((ln).toNat) (ch)))))] H := hP
        have hD : va_D (va_A [(h0, .inr (0, [.ref t0, .int (iI (ln)), .ref sh, .ref al, .ref rd, .ref pa, .ref sp])), (t0, .inl (k 2, 100, .inl (aZ (tx))))] s.heap.size) [(h0, .inr (0, [.ref t0, .int (iI (ln + 1)), .ref sh, .ref al, .ref rd, .ref pa, .ref sp])), (t0, .inl (k 2, 100, .inl (aZ (updZ (tx) ((ln).toNat) (ch)))))] := hD
        refine z_iconst hx hb d_RC_type_43 ?_
        have e9 : tyF tx ln ch = (true, ln + 1, updZ (tx) ((ln).toNat) (ch)) := by unfold tyF; rw [if_neg h3, if_neg h9, if_pos h18]
        exact ret _ _ _ 44 true () d_RC_type_44 hS ((congrArg (fun q9 => bI q9.1) e9).symm) (fun t ht _ => ⟨by rw [e9, ht]; exact hP, by rw [e9]; exact hD⟩)
      · refine z_iconst hx hb d_RC_type_21 ?_
        have e9 : tyF tx ln ch = (false, ln, tx) := by unfold tyF; rw [if_neg h3, if_neg h9, if_neg h18]
        exact ret _ _ _ 22 false () d_RC_type_22 hS ((congrArg (fun q9 => bI q9.1) e9).symm) (fun t ht _ => ⟨by rw [e9, ht]; exact hP, by rw [e9]; exact hD⟩)

set_option maxHeartbeats 4000000 in
set_option maxRecDepth 100000 in
theorem c_RC_shifts (l : Launch) (D : va_G) (k : Nat → ClassId) (sz : Nat) (h0 t0 sh al rd pa sp sa sb : Nat) (ln : Int) (on : Bool) (b1 : Bool) : Met l y_RC_shifts wd_RC_shifts rm_RC_shifts (va_Pc [.ref h0, .int (bI (b1))] (PRW D k [(h0, .inr (0, [.ref t0, .int (iI (ln)), .ref sh, .ref al, .ref rd, .ref pa, .ref sp])), (sh, .inr (7, [.ref sa, .ref sb, .int (bI (on))])), (sa, .inl (k 0, 4, .inl (aZ (losZ)))), (sb, .inl (k 0, 4, .inl (aZ (dblZ))))] sz)) (va_Qv (fun u : Unit => True) (fun _ t => BRW D [(h0, .inr (0, [.ref t0, .int (iI (ln)), .ref sh, .ref al, .ref rd, .ref pa, .ref sp])), (sh, .inr (7, [.ref sa, .ref sb, .int (bI (on))])), (sa, .inl (k 0, 4, .inl (aZ (losZ)))), (sb, .inl (k 0, 4, .inl (aZ (dblZ))))] sz [(h0, .inr (0, [.ref t0, .int (iI (ln)), .ref sh, .ref al, .ref rd, .ref pa, .ref sp])), (sh, .inr (7, [.ref sa, .ref sb, .int (bI (b1))])), (sa, .inl (k 0, 4, .inl (aZ (losZ)))), (sb, .inl (k 0, 4, .inl (aZ (dblZ))))] t) (va_A [(h0, .inr (0, [.ref t0, .int (iI (ln)), .ref sh, .ref al, .ref rd, .ref pa, .ref sp])), (sh, .inr (7, [.ref sa, .ref sb, .int (bI (on))])), (sa, .inl (k 0, 4, .inl (aZ (losZ)))), (sb, .inl (k 0, 4, .inl (aZ (dblZ))))] sz)) 0 0 (va_A [(h0, .inr (0, [.ref t0, .int (iI (ln)), .ref sh, .ref al, .ref rd, .ref pa, .ref sp])), (sh, .inr (7, [.ref sa, .ref sb, .int (bI (on))])), (sa, .inl (k 0, 4, .inl (aZ (losZ)))), (sb, .inl (k 0, 4, .inl (aZ (dblZ))))] sz) := by
  refine e_v (by decide) rfl (Nat.le_of_ble_eq_true rfl) ?_
  intro p e s m args below meth c Q ls hx hb hml hown hts hpre hl hin ret
  obtain ⟨hsz, hP, hK, hD0, hX⟩ := hpre
  subst hsz
  have hD := hD0.self (sz := s.heap.size)
  have hA : ∀ q : Nat, s.heap.size ≤ q → (va_A [(h0, .inr (0, [.ref t0, .int (iI (ln)), .ref sh, .ref al, .ref rd, .ref pa, .ref sp])), (sh, .inr (7, [.ref sa, .ref sb, .int (bI (on))])), (sa, .inl (k 0, 4, .inl (aZ (losZ)))), (sb, .inl (k 0, 4, .inl (aZ (dblZ))))] s.heap.size) q := fun q h => Or.inr h
  have hS : va_S (va_A [(h0, .inr (0, [.ref t0, .int (iI (ln)), .ref sh, .ref al, .ref rd, .ref pa, .ref sp])), (sh, .inr (7, [.ref sa, .ref sb, .int (bI (on))])), (sa, .inl (k 0, 4, .inl (aZ (losZ)))), (sb, .inl (k 0, 4, .inl (aZ (dblZ))))] s.heap.size) s.heap s.heap [] := va_S.rf
  have hl : lv_has ls 2 [(0, .ref h0), (1, .int (bI (b1)))] := hl
  refine lv_aload_n hx hb d_RC_shifts_0 rfl (lv_at hl 0 rfl) ?_
  refine va_get (D := D) (ci := 0) (v := .ref sh) (C := R_RC) (T := F_RC) (N := 7) hx hb hts in_RC hown hK hP 0 rfl rfl 2 (by decide) (hts _ k_239) (fun _ h9 => h9) rfl d_RC_shifts_1 ?_
  refine lv_iload_n hx hb d_RC_shifts_4 rfl (lv_at hl 1 rfl) ?_
  refine va_putN (D := D) (ci := 7) (v := .int (bI (b1))) (ty := .boolean) (C := R_SH) (T := F_SH) (N := 3) hx hb hts in_SH t_SH t_SH_ok n_SH hown hK hP hD hS 1 rfl rfl 2 (by decide) (va_Nw.use rfl (hX.2 _ n_109)) (fun _ h9 => h9) rfl (by decide +kernel) (by cases b1 <;> rfl) (by cases b1 <;> rfl) (Nat.le_of_ble_eq_true rfl) d_RC_shifts_5 (fun H locs hP hD hS => ?_)
  have hP : va_P D classes [(h0, .inr (0, [.ref t0, .int (iI (ln)), .ref sh, .ref al, .ref rd, .ref pa, .ref sp])), (sh, .inr (7, [.ref sa, .ref sb, .int (bI (b1))])), (sa, .inl (k 0, 4, .inl (aZ (losZ)))), (sb, .inl (k 0, 4, .inl (aZ (dblZ))))] H := hP
  have hD : va_D (va_A [(h0, .inr (0, [.ref t0, .int (iI (ln)), .ref sh, .ref al, .ref rd, .ref pa, .ref sp])), (sh, .inr (7, [.ref sa, .ref sb, .int (bI (on))])), (sa, .inl (k 0, 4, .inl (aZ (losZ)))), (sb, .inl (k 0, 4, .inl (aZ (dblZ))))] s.heap.size) [(h0, .inr (0, [.ref t0, .int (iI (ln)), .ref sh, .ref al, .ref rd, .ref pa, .ref sp])), (sh, .inr (7, [.ref sa, .ref sb, .int (bI (b1))])), (sa, .inl (k 0, 4, .inl (aZ (losZ)))), (sb, .inl (k 0, 4, .inl (aZ (dblZ))))] := hD
  exact ret _ _ _ 8 () d_RC_shifts_8 hS (trivial) (fun t ht _ => ⟨by rw [ht]; exact hP, hD⟩)

set_option maxHeartbeats 4000000 in
set_option maxRecDepth 100000 in
theorem c_RC_decidesSome (l : Launch) (D : va_G) (k : Nat → ClassId) (h0 t0 sh al rd pa sp sa sb v0 u0 w0 w1 w2 w3 w4 w5 : Nat) (ln : Int) (on : Bool) (rl : Nat) (N : Nat → Nat → Int64) (rk : Nat) (hr : rk < 16) : Met l y_RC_decidesSome wd_RC_decidesSome rm_RC_decidesSome (va_Pc [.ref h0, .ref v0, .int (iI ((rk : Int)))] (PRO D k [(h0, .inr (0, [.ref t0, .int (iI (ln)), .ref sh, .ref al, .ref rd, .ref pa, .ref sp])), (sh, .inr (7, [.ref sa, .ref sb, .int (bI (on))])), (sa, .inl (k 0, 4, .inl (aZ (losZ)))), (sb, .inl (k 0, 4, .inl (aZ (dblZ)))), (v0, .inr (5, [.ref u0, .ref w0, .int (iI ((rl : Int)))])), (w0, .inr (3, [.ref w1])), (w1, .inl (k 4, 4, .inr (.inr (.inr (.inr (rws w2 w3 w4 w5)))))), (w2, .inl (k 1, 1461, .inr (.inl (N 0)))), (w3, .inl (k 1, 1461, .inr (.inl (N 1)))), (w4, .inl (k 1, 1461, .inr (.inl (N 2)))), (w5, .inl (k 1, 1461, .inr (.inl (N 3))))])) (QRi (fun r : Int32 => r = (bI (decL on N rk 1461 0)))) 0 0 nA := by
  refine r_z (by decide) rfl (Nat.le_of_ble_eq_true rfl) ?_
  intro p e s m args below meth c Q ls hx hb hml hown hts hpre hl ret
  obtain ⟨hP, hK, hX⟩ := hpre
  have hS : va_S nA s.heap s.heap [] := va_S.rf
  have hl : lv_has ls 4 [(0, .ref h0), (1, .ref v0), (2, .int (iI ((rk : Int))))] := hl
  refine z_iconst hx hb d_RC_decidesSome_0 ?_
  refine lv_istore_n (lv' := [(3, .int (iI (0))), (0, .ref h0), (1, .ref v0), (2, .int (iI ((rk : Int))))]) hx hb d_RC_decidesSome_1 rfl hl (by decide) rfl (fun ls hl => ?_)
  have L2 : ∀ (fu : Nat) (i : Nat) (z : Int) (ls : Array Slot), z = (i : Int) → i ≤ 1461 → decL on N rk (1461 - i) i = decL on N rk 1461 0 → 1461 - i < fu → lv_has ls 4 [(0, .ref h0), (1, .ref v0), (2, .int (iI ((rk : Int)))), (3, .int (iI (z)))] → W p l e rm_RC_decidesSome s m args below meth c s.heap [] 0 0 Q (F0 m 2 ls []) := by
    intro fu
    induction fu with
    | zero => intro i z ls hz hi hw hmu; exact absurd hmu (Nat.not_lt_zero _)
    | succ fu ih2 =>
      intro i z ls hz hi hw hmu hl
      subst hz
      refine lv_iload_n hx hb d_RC_decidesSome_2 rfl (lv_at hl 3 rfl) ?_
      refine z_sipush hx hb d_RC_decidesSome_3 (by decide) ?_
      refine z_icmp_ge (tgt := 40) hx hb d_RC_decidesSome_6 (by decide) ⟨by omega, by omega⟩ ⟨by omega, by omega⟩ (fun h6 => ?_) (fun h6 => ?_)
      · refine z_iconst hx hb d_RC_decidesSome_40 ?_
        exact ret _ 41 false d_RC_decidesSome_41 (congrArg bI (by rw [← hw, show 1461 - i = 0 by omega]; rfl))
      · refine lv_aload_n hx hb d_RC_decidesSome_9 rfl (lv_at hl 1 rfl) ?_
        refine va_getN (D := D) (ci := 5) (v := .ref w0) (C := R_PL) (T := F_PL) (N := 3) hx hb hts in_PL hown hK hP 4 rfl rfl 1 (by decide) (va_Nw.use rfl (hX.2 _ n_227)) (fun _ h9 => h9) rfl d_RC_decidesSome_10 ?_
        refine lv_iload_n hx hb d_RC_decidesSome_13 rfl (lv_at hl 3 rfl) ?_
        refine lv_iload_n hx hb d_RC_decidesSome_14 rfl (lv_at hl 2 rfl) ?_
        refine rc_l (va_runV (As := [.int (iI ((i : Int))), .int (iI ((rk : Int)))]) (rest := []) (b := w0) ⟨hx, hb, hml, hown, hts⟩ (c_CN_cellsWith l D k (w0) (w1) (w2) (w3) (w4) (w5) (N 0) (N 1) (N 2) (N 3) (i) (rk) ((by omega)) (hr)) ⟨callB_of 2 hts (good_CN_cellsWith) rfl rfl rfl (hts _ k_66) (hts _ k_633) (by decide +kernel) ⟨Nat.le_of_ble_eq_true rfl, Nat.le_of_ble_eq_true rfl⟩, (hts _ k_634), (hts _ k_635)⟩ ⟨fun a U g mk q => ⟨q.1, q.2.1, va_K.moved (u := U) (U := U.calling g mk a) (Vm.Alike.refl U.vm) q.2.2.1, q.2.2.2.calling⟩, (va_recv (q0 := 5) hK hP rfl rfl), fun U hU hW => ⟨rfl, by rw [hU]; exact (hP.sub (ws' := [(w0, .inr (3, [.ref w1])), (w1, .inl (k 4, 4, .inr (.inr (.inr (.inr (rws w2 w3 w4 w5)))))), (w2, .inl (k 1, 1461, .inr (.inl (N 0)))), (w3, .inl (k 1, 1461, .inr (.inl (N 1)))), (w4, .inl (k 1, 1461, .inr (.inl (N 2)))), (w5, .inl (k 1, 1461, .inr (.inl (N 3))))]) [5, 6, 7, 8, 9, 10] rfl), va_K.moved hW.alike hK, by rw [hU]; exact hX.warm hW⟩⟩ rfl rfl hl.1 rfl (lv_room (Nat.le_of_ble_eq_true rfl)) d_RC_decidesSome_15 ⟨Nat.le_of_ble_eq_true rfl, Nat.le_of_ble_eq_true rfl⟩) (fun xr_1 h_xr_1 => ?_)
        subst h_xr_1
        refine z_topl (show cnWith ((N 0) i) ((N 1) i) ((N 2) i) ((N 3) i) rk = cW N i rk from rfl) ?_
        refine lv_aload_n hx hb d_RC_decidesSome_18 rfl (lv_at hl 0 rfl) ?_
        refine va_get (D := D) (ci := 0) (v := .ref sh) (C := R_RC) (T := F_RC) (N := 7) hx hb hts in_RC hown hK hP 0 rfl rfl 2 (by decide) (hts _ k_239) (fun _ h9 => h9) rfl d_RC_decidesSome_19 ?_
        refine lv_iload_n hx hb d_RC_decidesSome_22 rfl (lv_at hl 3 rfl) ?_
        refine rc_l (va_runV (As := [.int (iI ((i : Int)))]) (rest := [.long (cW N i rk)]) (b := sh) ⟨hx, hb, hml, hown, hts⟩ (c_SH_cellsOf l D k (sh) (sa) (sb) (on) (i) ((by omega))) ⟨callB_of 1 hts (good_SH_cellsOf) rfl rfl rfl (hts _ k_60) (hts _ k_639) (by decide +kernel) ⟨Nat.le_of_ble_eq_true rfl, Nat.le_of_ble_eq_true rfl⟩, (hts _ k_625), (hts _ k_626)⟩ ⟨fun a U g mk q => ⟨q.1, q.2.1, va_K.moved (u := U) (U := U.calling g mk a) (Vm.Alike.refl U.vm) q.2.2.1, q.2.2.2.calling⟩, (va_recv (q0 := 1) hK hP rfl rfl), fun U hU hW => ⟨rfl, by rw [hU]; exact (hP.sub (ws' := [(sh, .inr (7, [.ref sa, .ref sb, .int (bI (on))])), (sa, .inl (k 0, 4, .inl (aZ (losZ)))), (sb, .inl (k 0, 4, .inl (aZ (dblZ))))]) [1, 2, 3] rfl), va_K.moved hW.alike hK, by rw [hU]; exact hX.warm hW⟩⟩ rfl rfl hl.1 rfl (lv_room (Nat.le_of_ble_eq_true rfl)) d_RC_decidesSome_23 ⟨Nat.le_of_ble_eq_true rfl, Nat.le_of_ble_eq_true rfl⟩) (fun xr_2 h_xr_2 => ?_)
        subst h_xr_2
        refine lv_land hx hb d_RC_decidesSome_26 ?_
        refine lv_lconst (v := 0) hx hb d_RC_decidesSome_27 (by decide) ?_
        refine l_eq (tgt := 34) hx hb d_RC_decidesSome_28 d_RC_decidesSome_29 (by decide) (fun h28 => ?_) (fun h28 => ?_)
        · refine z_iinc (k := 3) (a := (i : Int)) (lv' := [(3, .int (iI (((i : Int)) + 1))), (0, .ref h0), (1, .ref v0), (2, .int (iI ((rk : Int))))]) hx hb d_RC_decidesSome_34 hl rfl (by decide) rfl (fun ls hl => ?_)
          refine lv_goto (tgt := 2) hx hb d_RC_decidesSome_37 (by decide) ?_
          exact ih2 (i + 1) ((i : Int) + 1) ls (by omega) (by omega) (by rw [← hw, show 1461 - i = (1461 - (i + 1)) + 1 by omega]; exact (decL_s h28).symm) (by omega) (lv_sub hl [1, 2, 3, 0] rfl)
        · refine z_iconst hx hb d_RC_decidesSome_32 ?_
          exact ret _ 33 true d_RC_decidesSome_33 (congrArg bI (by rw [← hw, show 1461 - i = (1460 - i) + 1 by omega]; exact (decL_t h28).symm))
  exact L2 (_) (0) (0) ls (by omega) (by omega) (by rfl) (Nat.lt_succ_self _) (lv_sub hl [1, 2, 3, 0] rfl)

set_option maxHeartbeats 4000000 in
set_option maxRecDepth 100000 in
theorem c_RC_dead (l : Launch) (D : va_G) (k : Nat → ClassId) (h0 t0 sh al rd pa sp sa sb u0 w0 w1 w2 w3 w4 w5 : Nat) (ln : Int) (po : Nat → Nat) (on : Bool) (cc : Nat) (rl : Nat) (N : Nat → Nat → Int64) (i0 : Int) (hc : cc < 3) (hr : 0 < rl) (hr2 : rl < 1000) (hr3 : rl < 13) (hi0 : rg i0) : Met l y_RC_dead wd_RC_dead rm_RC_dead (va_Pc [.ref h0, .int (iI ((cc : Int))), .int (iI (i0))] (PRO D k [(h0, .inr (0, [.ref t0, .int (iI (ln)), .ref sh, .ref al, .ref rd, .ref pa, .ref sp])), (sh, .inr (7, [.ref sa, .ref sb, .int (bI (on))])), (sa, .inl (k 0, 4, .inl (aZ (losZ)))), (sb, .inl (k 0, 4, .inl (aZ (dblZ)))), (pa, .inl (k 6, 3, .inr (.inr (.inr (.inr (q3 po)))))), (po cc, .inr (5, [.ref u0, .ref w0, .int (iI ((rl : Int)))])), (w0, .inr (3, [.ref w1])), (w1, .inl (k 4, 4, .inr (.inr (.inr (.inr (rws w2 w3 w4 w5)))))), (w2, .inl (k 1, 1461, .inr (.inl (N 0)))), (w3, .inl (k 1, 1461, .inr (.inl (N 1)))), (w4, .inl (k 1, 1461, .inr (.inl (N 2)))), (w5, .inl (k 1, 1461, .inr (.inl (N 3))))])) (QRi (fun r : Int32 => r = (iI (ddL on N i0 rl 1 0)))) 0 0 nA := by
  refine r_i (by decide) rfl (Nat.le_of_ble_eq_true rfl) ?_
  intro p e s m args below meth c Q ls hx hb hml hown hts hpre hl ret
  obtain ⟨hP, hK, hX⟩ := hpre
  have hS : va_S nA s.heap s.heap [] := va_S.rf
  have hl : lv_has ls 6 [(0, .ref h0), (1, .int (iI ((cc : Int)))), (2, .int (iI (i0)))] := hl
  obtain ⟨i1, i2⟩ := hi0
  refine lv_aload_n hx hb d_RC_dead_0 rfl (lv_at hl 0 rfl) ?_
  refine lv_iload_n hx hb d_RC_dead_1 rfl (lv_at hl 1 rfl) ?_
  refine rc_v (va_runV (As := [.int (iI ((cc : Int)))]) (rest := []) (b := h0) ⟨hx, hb, hml, hown, hts⟩ (c_RC_needCalendar l D k (h0) (t0) (sh) (al) (rd) (pa) (sp) (ln) ((cc : Int)) ((by omega))) ⟨callB_of 1 hts (good_RC_needCalendar) rfl rfl rfl (hts _ k_59) (hts _ k_330) (by decide +kernel) ⟨Nat.le_of_ble_eq_true rfl, Nat.le_of_ble_eq_true rfl⟩, (hts _ k_332), (hts _ k_0)⟩ ⟨fun a U g mk q => ⟨q.1, q.2.1, va_K.moved (u := U) (U := U.calling g mk a) (Vm.Alike.refl U.vm) q.2.2.1, q.2.2.2.calling⟩, (va_recv (q0 := 0) hK hP rfl rfl), fun U hU hW => ⟨rfl, by rw [hU]; exact (hP.sub (ws' := [(h0, .inr (0, [.ref t0, .int (iI (ln)), .ref sh, .ref al, .ref rd, .ref pa, .ref sp]))]) [0] rfl), va_K.moved hW.alike hK, by rw [hU]; exact hX.warm hW⟩⟩ rfl rfl hl.1 rfl (lv_room (Nat.le_of_ble_eq_true rfl)) d_RC_dead_2 ⟨Nat.le_of_ble_eq_true rfl, Nat.le_of_ble_eq_true rfl⟩) ?_
  refine lv_aload_n hx hb d_RC_dead_5 rfl (lv_at hl 0 rfl) ?_
  refine lv_iload_n hx hb d_RC_dead_6 rfl (lv_at hl 1 rfl) ?_
  refine rc_r (va_runV (As := [.int (iI ((cc : Int)))]) (rest := []) (b := h0) ⟨hx, hb, hml, hown, hts⟩ (c_RC_compiledPlan l D k (h0) (t0) (sh) (al) (rd) (pa) (sp) (u0) (w0) (ln) (po) (cc) (rl) (hc) (hr) (hr2)) ⟨callB_of 1 hts (good_RC_compiledPlan) rfl rfl rfl (hts _ k_59) (hts _ k_578) (by decide +kernel) ⟨Nat.le_of_ble_eq_true rfl, Nat.le_of_ble_eq_true rfl⟩, (hts _ k_580), (hts _ k_24)⟩ ⟨fun a U g mk q => ⟨q.1, q.2.1, va_K.moved (u := U) (U := U.calling g mk a) (Vm.Alike.refl U.vm) q.2.2.1, q.2.2.2.calling⟩, (va_recv (q0 := 0) hK hP rfl rfl), fun U hU hW => ⟨rfl, by rw [hU]; exact (hP.sub (ws' := [(h0, .inr (0, [.ref t0, .int (iI (ln)), .ref sh, .ref al, .ref rd, .ref pa, .ref sp])), (pa, .inl (k 6, 3, .inr (.inr (.inr (.inr (q3 po)))))), (po cc, .inr (5, [.ref u0, .ref w0, .int (iI ((rl : Int)))]))]) [0, 4, 5] rfl), va_K.moved hW.alike hK, by rw [hU]; exact hX.warm hW⟩⟩ rfl rfl hl.1 rfl (lv_room (Nat.le_of_ble_eq_true rfl)) d_RC_dead_7 ⟨Nat.le_of_ble_eq_true rfl, Nat.le_of_ble_eq_true rfl⟩) (fun xr_1 h_xr_1 => ?_)
  subst h_xr_1
  refine lv_astore_n (lv' := [(3, .ref (po cc)), (0, .ref h0), (1, .int (iI ((cc : Int)))), (2, .int (iI (i0)))]) hx hb d_RC_dead_10 rfl hl (by decide) rfl (fun ls hl => ?_)
  refine z_iconst hx hb d_RC_dead_11 ?_
  refine lv_istore (lv' := [(4, .int (iI (0))), (3, .ref (po cc)), (0, .ref h0), (1, .int (iI ((cc : Int)))), (2, .int (iI (i0)))]) hx hb d_RC_dead_12 hl (by decide) rfl (fun ls hl => ?_)
  refine z_iconst hx hb d_RC_dead_14 ?_
  refine lv_istore (lv' := [(5, .int (iI (1))), (4, .int (iI (0))), (3, .ref (po cc)), (0, .ref h0), (1, .int (iI ((cc : Int)))), (2, .int (iI (i0)))]) hx hb d_RC_dead_15 hl (by decide) rfl (fun ls hl => ?_)
  have L17 : ∀ (fu : Nat) (r : Nat) (z : Int) (b : Nat) (zb : Int) (ls : Array Slot), z = (r : Int) → zb = (b : Int) → 1 ≤ r ∧ r ≤ rl + 1 → b ≤ r → ddL on N i0 (rl + 1 - r) r b = ddL on N i0 rl 1 0 → rl + 1 - r < fu → lv_has ls 6 [(0, .ref h0), (2, .int (iI (i0))), (3, .ref (po cc)), (4, .int (iI (zb))), (5, .int (iI (z)))] → W p l e rm_RC_dead s m args below meth c s.heap [] 0 0 Q (F0 m 17 ls []) := by
    intro fu
    induction fu with
    | zero => intro r z b zb ls hz hzb h1 hb2 hw hmu; exact absurd hmu (Nat.not_lt_zero _)
    | succ fu ih17 =>
      intro r z b zb ls hz hzb h1 hb2 hw hmu hl
      subst hz
      subst hzb
      refine lv_iload hx hb d_RC_dead_17 (lv_at hl 4 rfl) ?_
      refine lv_aload_n hx hb d_RC_dead_19 rfl (lv_at hl 2 rfl) ?_
      refine va_getN (D := D) (ci := 5) (v := .int (iI ((rl : Int)))) (C := R_PL) (T := F_PL) (N := 3) hx hb hts in_PL hown hK hP 5 rfl rfl 2 (by decide) (va_Nw.use rfl (hX.2 _ n_229)) (fun _ h9 => h9) rfl d_RC_dead_20 ?_
      refine z_icmp_gt (tgt := 54) hx hb d_RC_dead_23 (by decide) ⟨by omega, by omega⟩ ⟨by omega, by omega⟩ (fun h23 => ?_) (fun h23 => ?_)
      · refine z_iconst hx hb d_RC_dead_54 ?_
        exact ret _ 55 (iI (-1)) d_RC_dead_55 (congrArg iI (by rw [← hw, show rl + 1 - r = 0 by omega]; rfl))
      · refine lv_aload_n hx hb d_RC_dead_26 rfl (lv_at hl 0 rfl) ?_
        refine lv_aload_n hx hb d_RC_dead_27 rfl (lv_at hl 2 rfl) ?_
        refine lv_iload hx hb d_RC_dead_28 (lv_at hl 4 rfl) ?_
        refine rc_i (va_runV (As := [.ref (po cc), .int (iI ((r : Int)))]) (rest := []) (b := h0) ⟨hx, hb, hml, hown, hts⟩ (c_RC_decidesSome l D k (h0) (t0) (sh) (al) (rd) (pa) (sp) (sa) (sb) (po cc) (u0) (w0) (w1) (w2) (w3) (w4) (w5) (ln) (on) (rl) (N) (r) ((by omega))) ⟨callB_of 2 hts (good_RC_decidesSome) rfl rfl rfl (hts _ k_59) (hts _ k_702) (by decide +kernel) ⟨Nat.le_of_ble_eq_true rfl, Nat.le_of_ble_eq_true rfl⟩, (hts _ k_704), (hts _ k_25)⟩ ⟨fun a U g mk q => ⟨q.1, q.2.1, va_K.moved (u := U) (U := U.calling g mk a) (Vm.Alike.refl U.vm) q.2.2.1, q.2.2.2.calling⟩, (va_recv (q0 := 0) hK hP rfl rfl), fun U hU hW => ⟨rfl, by rw [hU]; exact (hP.sub (ws' := [(h0, .inr (0, [.ref t0, .int (iI (ln)), .ref sh, .ref al, .ref rd, .ref pa, .ref sp])), (sh, .inr (7, [.ref sa, .ref sb, .int (bI (on))])), (sa, .inl (k 0, 4, .inl (aZ (losZ)))), (sb, .inl (k 0, 4, .inl (aZ (dblZ)))), (po cc, .inr (5, [.ref u0, .ref w0, .int (iI ((rl : Int)))])), (w0, .inr (3, [.ref w1])), (w1, .inl (k 4, 4, .inr (.inr (.inr (.inr (rws w2 w3 w4 w5)))))), (w2, .inl (k 1, 1461, .inr (.inl (N 0)))), (w3, .inl (k 1, 1461, .inr (.inl (N 1)))), (w4, .inl (k 1, 1461, .inr (.inl (N 2)))), (w5, .inl (k 1, 1461, .inr (.inl (N 3))))]) [0, 1, 2, 3, 5, 6, 7, 8, 9, 10, 11] rfl), va_K.moved hW.alike hK, by rw [hU]; exact hX.warm hW⟩⟩ rfl rfl hl.1 rfl (lv_room (Nat.le_of_ble_eq_true rfl)) d_RC_dead_30 ⟨Nat.le_of_ble_eq_true rfl, Nat.le_of_ble_eq_true rfl⟩) (fun xr_2 h_xr_2 => ?_)
        subst h_xr_2
        refine b_if_ne (tgt := 48) hx hb d_RC_dead_33 (by decide) (fun h33 => ?_) (fun h33 => ?_)
        · refine z_iinc (k := 4) (a := (r : Int)) (lv' := [(5, .int (iI (((r : Int)) + 1))), (0, .ref h0), (2, .int (iI (i0))), (3, .ref (po cc)), (4, .int (iI ((b : Int))))]) hx hb d_RC_dead_48 hl rfl (by decide) rfl (fun ls hl => ?_)
          refine lv_goto (tgt := 17) hx hb d_RC_dead_51 (by decide) ?_
          exact ih17 (r + 1) ((r : Int) + 1) (b) ((b : Int)) ls (by omega) (by omega) (by omega) (by omega) (by rw [← hw, show rl + 1 - r = (rl + 1 - (r + 1)) + 1 by omega]; exact (ddL_1 h33).symm) (by omega) (lv_sub hl [1, 2, 3, 4, 0] rfl)
        · refine lv_iload hx hb d_RC_dead_36 (lv_at hl 3 rfl) ?_
          refine lv_iload_n hx hb d_RC_dead_38 rfl (lv_at hl 1 rfl) ?_
          refine z_icmp_ne (tgt := 45) hx hb d_RC_dead_39 (by decide) ⟨by omega, by omega⟩ ⟨by omega, by omega⟩ (fun h39 => ?_) (fun h39 => ?_)
          · refine z_iinc (k := 3) (a := (b : Int)) (lv' := [(4, .int (iI (((b : Int)) + 1))), (0, .ref h0), (2, .int (iI (i0))), (3, .ref (po cc)), (5, .int (iI ((r : Int))))]) hx hb d_RC_dead_45 hl rfl (by decide) rfl (fun ls hl => ?_)
            refine z_iinc (k := 4) (a := (r : Int)) (lv' := [(5, .int (iI (((r : Int)) + 1))), (4, .int (iI (((b : Int)) + 1))), (0, .ref h0), (2, .int (iI (i0))), (3, .ref (po cc))]) hx hb d_RC_dead_48 hl rfl (by decide) rfl (fun ls hl => ?_)
            refine lv_goto (tgt := 17) hx hb d_RC_dead_51 (by decide) ?_
            exact ih17 (r + 1) ((r : Int) + 1) (b + 1) ((b : Int) + 1) ls (by omega) (by omega) (by omega) (by omega) (by rw [← hw, show rl + 1 - r = (rl + 1 - (r + 1)) + 1 by omega]; exact (ddL_3 h33 h39).symm) (by omega) (lv_sub hl [2, 3, 4, 1, 0] rfl)
          · refine lv_iload hx hb d_RC_dead_42 (lv_at hl 4 rfl) ?_
            exact ret _ 44 (iI ((r : Int))) d_RC_dead_44 (congrArg iI (by rw [← hw, show rl + 1 - r = (rl - r) + 1 by omega]; exact (ddL_2 h33 h39).symm))
  exact L17 (_) (1) (1) (0) (0) ls (by omega) (by omega) (by omega) (by omega) (by rfl) (Nat.lt_succ_self _) (lv_sub hl [3, 5, 2, 1, 0] rfl)

set_option maxHeartbeats 4000000 in
set_option maxRecDepth 100000 in
theorem c_RC_firstOfRun (l : Launch) (D : va_G) (k : Nat → ClassId) (h0 t0 sh al rd pa sp sa sb v0 u0 u1 u2 u3 u4 u5 w0 : Nat) (ln : Int) (on : Bool) (rl : Nat) (T : Nat → Nat → Int64) (d : Nat) (i0 : Int) (hd : d < 1461) (hi0 : rg i0) : Met l y_RC_firstOfRun wd_RC_firstOfRun rm_RC_firstOfRun (va_Pc [.ref h0, .ref v0, .int (iI ((d : Int))), .int (iI (i0))] (PRO D k [(h0, .inr (0, [.ref t0, .int (iI (ln)), .ref sh, .ref al, .ref rd, .ref pa, .ref sp])), (sh, .inr (7, [.ref sa, .ref sb, .int (bI (on))])), (sa, .inl (k 0, 4, .inl (aZ (losZ)))), (sb, .inl (k 0, 4, .inl (aZ (dblZ)))), (v0, .inr (5, [.ref u0, .ref w0, .int (iI ((rl : Int)))])), (u0, .inr (3, [.ref u1])), (u1, .inl (k 4, 4, .inr (.inr (.inr (.inr (rws u2 u3 u4 u5)))))), (u2, .inl (k 1, 1461, .inr (.inl (T 0)))), (u3, .inl (k 1, 1461, .inr (.inl (T 1)))), (u4, .inl (k 1, 1461, .inr (.inl (T 2)))), (u5, .inl (k 1, 1461, .inr (.inl (T 3))))])) (QRi (fun r : Int32 => r = (iI (frL on T d i0 48 0 0 0)))) 0 0 nA := by
  refine r_i (by decide) rfl (Nat.le_of_ble_eq_true rfl) ?_
  intro p e s m args below meth c Q ls hx hb hml hown hts hpre hl ret
  obtain ⟨hP, hK, hX⟩ := hpre
  have hS : va_S nA s.heap s.heap [] := va_S.rf
  have hl : lv_has ls 8 [(0, .ref h0), (1, .ref v0), (2, .int (iI ((d : Int)))), (3, .int (iI (i0)))] := hl
  obtain ⟨i1, i2⟩ := hi0
  refine z_iconst hx hb d_RC_firstOfRun_0 ?_
  refine lv_istore (lv' := [(4, .int (iI (0))), (0, .ref h0), (1, .ref v0), (2, .int (iI ((d : Int)))), (3, .int (iI (i0)))]) hx hb d_RC_firstOfRun_1 hl (by decide) rfl (fun ls hl => ?_)
  refine z_iconst hx hb d_RC_firstOfRun_3 ?_
  refine lv_istore (lv' := [(5, .int (iI (0))), (4, .int (iI (0))), (0, .ref h0), (1, .ref v0), (2, .int (iI ((d : Int)))), (3, .int (iI (i0)))]) hx hb d_RC_firstOfRun_4 hl (by decide) rfl (fun ls hl => ?_)
  refine z_iconst hx hb d_RC_firstOfRun_6 ?_
  refine lv_istore (lv' := [(6, .int (iI (0))), (5, .int (iI (0))), (4, .int (iI (0))), (0, .ref h0), (1, .ref v0), (2, .int (iI ((d : Int)))), (3, .int (iI (i0)))]) hx hb d_RC_firstOfRun_7 hl (by decide) rfl (fun ls hl => ?_)
  have L9 : ∀ (fu : Nat) (q : Nat) (z : Int) (t : Int) (b : Nat) (zb : Int) (ls : Array Slot), z = (q : Int) → zb = (b : Int) → q ≤ 48 → b ≤ q → 0 ≤ t ∧ t ≤ 15 → frL on T d i0 (48 - q) q t b = frL on T d i0 48 0 0 0 → 48 - q < fu → lv_has ls 8 [(0, .ref h0), (1, .ref v0), (2, .int (iI ((d : Int)))), (3, .int (iI (i0))), (4, .int (iI (zb))), (5, .int (iI (t))), (6, .int (iI (z)))] → W p l e rm_RC_firstOfRun s m args below meth c s.heap [] 0 0 Q (F0 m 9 ls []) := by
    intro fu
    induction fu with
    | zero => intro q z t b zb ls hz hzb hq hb2 ht hw hmu; exact absurd hmu (Nat.not_lt_zero _)
    | succ fu ih9 =>
      intro q z t b zb ls hz hzb hq hb2 ht hw hmu hl
      subst hz
      subst hzb
      refine lv_iload hx hb d_RC_firstOfRun_9 (lv_at hl 6 rfl) ?_
      refine z_bipush hx hb d_RC_firstOfRun_11 (by decide) ?_
      refine z_icmp_ge (tgt := 78) hx hb d_RC_firstOfRun_13 (by decide) ⟨by omega, by omega⟩ ⟨by omega, by omega⟩ (fun h13 => ?_) (fun h13 => ?_)
      · refine z_iconst hx hb d_RC_firstOfRun_78 ?_
        exact ret _ 79 (iI (-1)) d_RC_firstOfRun_79 (congrArg iI (by rw [← hw, show 48 - q = 0 by omega]; rfl))
      · refine lv_aload_n hx hb d_RC_firstOfRun_16 rfl (lv_at hl 0 rfl) ?_
        refine va_get (D := D) (ci := 0) (v := .ref sh) (C := R_RC) (T := F_RC) (N := 7) hx hb hts in_RC hown hK hP 0 rfl rfl 2 (by decide) (hts _ k_239) (fun _ h9 => h9) rfl d_RC_firstOfRun_17 ?_
        refine lv_iload_n hx hb d_RC_firstOfRun_20 rfl (lv_at hl 2 rfl) ?_
        refine lv_iload hx hb d_RC_firstOfRun_21 (lv_at hl 6 rfl) ?_
        refine rc_i (va_runV (As := [.int (iI ((d : Int))), .int (iI ((q : Int)))]) (rest := []) (b := sh) ⟨hx, hb, hml, hown, hts⟩ (c_SH_isLost l D k (sh) (sa) (sb) (on) (d) ((q : Int)) ((by omega)) (⟨by omega, by omega⟩)) ⟨callB_of 2 hts (good_SH_isLost) rfl rfl rfl (hts _ k_60) (hts _ k_598) (by decide +kernel) ⟨Nat.le_of_ble_eq_true rfl, Nat.le_of_ble_eq_true rfl⟩, (hts _ k_599), (hts _ k_600)⟩ ⟨fun a U g mk q => ⟨q.1, q.2.1, va_K.moved (u := U) (U := U.calling g mk a) (Vm.Alike.refl U.vm) q.2.2.1, q.2.2.2.calling⟩, (va_recv (q0 := 1) hK hP rfl rfl), fun U hU hW => ⟨rfl, by rw [hU]; exact (hP.sub (ws' := [(sh, .inr (7, [.ref sa, .ref sb, .int (bI (on))])), (sa, .inl (k 0, 4, .inl (aZ (losZ)))), (sb, .inl (k 0, 4, .inl (aZ (dblZ))))]) [1, 2, 3] rfl), va_K.moved hW.alike hK, by rw [hU]; exact hX.warm hW⟩⟩ rfl rfl hl.1 rfl (lv_room (Nat.le_of_ble_eq_true rfl)) d_RC_firstOfRun_23 ⟨Nat.le_of_ble_eq_true rfl, Nat.le_of_ble_eq_true rfl⟩) (fun xr_1 h_xr_1 => ?_)
        subst h_xr_1
        refine z_top (show (bI (shf ((q : Int)) && lose on d)) = (bI (lostZ on d (q : Int))) from rfl) ?_
        refine b_if_eq (tgt := 32) hx hb d_RC_firstOfRun_26 (by decide) (fun h26 => ?_) (fun h26 => ?_)
        · refine lv_iload hx hb d_RC_firstOfRun_32 (lv_at hl 5 rfl) ?_
          refine lv_istore (lv' := [(7, .int (iI (t))), (0, .ref h0), (1, .ref v0), (2, .int (iI ((d : Int)))), (3, .int (iI (i0))), (4, .int (iI ((b : Int)))), (5, .int (iI (t))), (6, .int (iI ((q : Int))))]) hx hb d_RC_firstOfRun_34 hl (by decide) rfl (fun ls hl => ?_)
          refine lv_aload_n hx hb d_RC_firstOfRun_36 rfl (lv_at hl 2 rfl) ?_
          refine va_getN (D := D) (ci := 5) (v := .ref u0) (C := R_PL) (T := F_PL) (N := 3) hx hb hts in_PL hown hK hP 4 rfl rfl 0 (by decide) (va_Nw.use rfl (hX.2 _ n_225)) (fun _ h9 => h9) rfl d_RC_firstOfRun_37 ?_
          refine lv_iload_n hx hb d_RC_firstOfRun_40 rfl (lv_at hl 3 rfl) ?_
          refine lv_iload hx hb d_RC_firstOfRun_41 (lv_at hl 7 rfl) ?_
          refine rc_i (va_runV (As := [.int (iI ((d : Int))), .int (iI ((q : Int)))]) (rest := []) (b := u0) ⟨hx, hb, hml, hown, hts⟩ (c_CN_get l D k (u0) (u1) (u2) (u3) (u4) (u5) (T 0) (T 1) (T 2) (T 3) (d) (q) ((by omega)) ((by omega))) ⟨callB_of 2 hts (good_CN_get) rfl rfl rfl (hts _ k_66) (hts _ k_602) (by decide +kernel) ⟨Nat.le_of_ble_eq_true rfl, Nat.le_of_ble_eq_true rfl⟩, (hts _ k_603), (hts _ k_604)⟩ ⟨fun a U g mk q => ⟨q.1, q.2.1, va_K.moved (u := U) (U := U.calling g mk a) (Vm.Alike.refl U.vm) q.2.2.1, q.2.2.2.calling⟩, (va_recv (q0 := 5) hK hP rfl rfl), fun U hU hW => ⟨rfl, by rw [hU]; exact (hP.sub (ws' := [(u0, .inr (3, [.ref u1])), (u1, .inl (k 4, 4, .inr (.inr (.inr (.inr (rws u2 u3 u4 u5)))))), (u2, .inl (k 1, 1461, .inr (.inl (T 0)))), (u3, .inl (k 1, 1461, .inr (.inl (T 1)))), (u4, .inl (k 1, 1461, .inr (.inl (T 2)))), (u5, .inl (k 1, 1461, .inr (.inl (T 3))))]) [5, 6, 7, 8, 9, 10] rfl), va_K.moved hW.alike hK, by rw [hU]; exact hX.warm hW⟩⟩ rfl rfl hl.1 rfl (lv_room (Nat.le_of_ble_eq_true rfl)) d_RC_firstOfRun_43 ⟨Nat.le_of_ble_eq_true rfl, Nat.le_of_ble_eq_true rfl⟩) (fun xr_2 h_xr_2 => ?_)
          subst h_xr_2
          have hg9 := cnGet_bd (T 0 (d)) (T 1 (d)) (T 2 (d)) (T 3 (d)) (q)
          refine z_top (show (iI (cnGet ((T 0) d) ((T 1) d) ((T 2) d) ((T 3) d) q)) = (iI (gT T d q)) from rfl) ?_
          refine lv_istore (lv' := [(5, .int (iI (gT T d q))), (7, .int (iI (t))), (0, .ref h0), (1, .ref v0), (2, .int (iI ((d : Int)))), (3, .int (iI (i0))), (4, .int (iI ((b : Int)))), (6, .int (iI ((q : Int))))]) hx hb d_RC_firstOfRun_46 hl (by decide) rfl (fun ls hl => ?_)
          refine lv_iload hx hb d_RC_firstOfRun_48 (lv_at hl 0 rfl) ?_
          refine z_if_le (tgt := 72) hx hb d_RC_firstOfRun_50 (by decide) (by unfold gT; exact ⟨by omega, by omega⟩) (fun h50 => ?_) (fun h50 => ?_)
          · refine z_iinc (k := 7) (a := (q : Int)) (lv' := [(6, .int (iI (((q : Int)) + 1))), (5, .int (iI (gT T d q))), (7, .int (iI (t))), (0, .ref h0), (1, .ref v0), (2, .int (iI ((d : Int)))), (3, .int (iI (i0))), (4, .int (iI ((b : Int))))]) hx hb d_RC_firstOfRun_72 hl rfl (by decide) rfl (fun ls hl => ?_)
            refine lv_goto (tgt := 9) hx hb d_RC_firstOfRun_75 (by decide) ?_
            exact ih9 (q + 1) ((q : Int) + 1) (gT T d q) (b) ((b : Int)) ls (by first | omega | (unfold gT; omega)) (by first | omega | (unfold gT; omega)) (by first | omega | (unfold gT; omega)) (by first | omega | (unfold gT; omega)) (by first | omega | (unfold gT; omega)) (by first | (rw [← hw, show 48 - q = (48 - (q + 1)) + 1 by omega, frL_s, if_neg (Bool.eq_false_iff.mp h26), if_neg h50, if_neg h57, if_neg h63]) | (rw [← hw, show 48 - q = (48 - (q + 1)) + 1 by omega, frL_s, if_neg (Bool.eq_false_iff.mp h26), if_pos h50]) | (rw [← hw, show 48 - q = (48 - (q + 1)) + 1 by omega, frL_s, if_neg (Bool.eq_false_iff.mp h26), if_neg h50, if_pos h57])) (by omega) (lv_sub hl [3, 4, 5, 6, 7, 1, 0] rfl)
          · refine lv_iload hx hb d_RC_firstOfRun_53 (lv_at hl 0 rfl) ?_
            refine lv_iload hx hb d_RC_firstOfRun_55 (lv_at hl 1 rfl) ?_
            refine z_icmp_eq (tgt := 72) hx hb d_RC_firstOfRun_57 (by decide) (by unfold gT; exact ⟨by omega, by omega⟩) ⟨by omega, by omega⟩ (fun h57 => ?_) (fun h57 => ?_)
            · refine z_iinc (k := 7) (a := (q : Int)) (lv' := [(6, .int (iI (((q : Int)) + 1))), (5, .int (iI (gT T d q))), (7, .int (iI (t))), (0, .ref h0), (1, .ref v0), (2, .int (iI ((d : Int)))), (3, .int (iI (i0))), (4, .int (iI ((b : Int))))]) hx hb d_RC_firstOfRun_72 hl rfl (by decide) rfl (fun ls hl => ?_)
              refine lv_goto (tgt := 9) hx hb d_RC_firstOfRun_75 (by decide) ?_
              exact ih9 (q + 1) ((q : Int) + 1) (gT T d q) (b) ((b : Int)) ls (by first | omega | (unfold gT; omega)) (by first | omega | (unfold gT; omega)) (by first | omega | (unfold gT; omega)) (by first | omega | (unfold gT; omega)) (by first | omega | (unfold gT; omega)) (by first | (rw [← hw, show 48 - q = (48 - (q + 1)) + 1 by omega, frL_s, if_neg (Bool.eq_false_iff.mp h26), if_neg h50, if_neg h57, if_neg h63]) | (rw [← hw, show 48 - q = (48 - (q + 1)) + 1 by omega, frL_s, if_neg (Bool.eq_false_iff.mp h26), if_pos h50]) | (rw [← hw, show 48 - q = (48 - (q + 1)) + 1 by omega, frL_s, if_neg (Bool.eq_false_iff.mp h26), if_neg h50, if_pos h57])) (by omega) (lv_sub hl [3, 4, 5, 6, 7, 1, 0] rfl)
            · refine lv_iload hx hb d_RC_firstOfRun_60 (lv_at hl 6 rfl) ?_
              refine lv_iload_n hx hb d_RC_firstOfRun_62 rfl (lv_at hl 5 rfl) ?_
              refine z_icmp_ne (tgt := 69) hx hb d_RC_firstOfRun_63 (by decide) ⟨by omega, by omega⟩ ⟨by omega, by omega⟩ (fun h63 => ?_) (fun h63 => ?_)
              · refine z_iinc (k := 6) (a := (b : Int)) (lv' := [(4, .int (iI (((b : Int)) + 1))), (5, .int (iI (gT T d q))), (7, .int (iI (t))), (0, .ref h0), (1, .ref v0), (2, .int (iI ((d : Int)))), (3, .int (iI (i0))), (6, .int (iI ((q : Int))))]) hx hb d_RC_firstOfRun_69 hl rfl (by decide) rfl (fun ls hl => ?_)
                refine z_iinc (k := 7) (a := (q : Int)) (lv' := [(6, .int (iI (((q : Int)) + 1))), (4, .int (iI (((b : Int)) + 1))), (5, .int (iI (gT T d q))), (7, .int (iI (t))), (0, .ref h0), (1, .ref v0), (2, .int (iI ((d : Int)))), (3, .int (iI (i0)))]) hx hb d_RC_firstOfRun_72 hl rfl (by decide) rfl (fun ls hl => ?_)
                refine lv_goto (tgt := 9) hx hb d_RC_firstOfRun_75 (by decide) ?_
                exact ih9 (q + 1) ((q : Int) + 1) (gT T d q) (b + 1) ((b : Int) + 1) ls (by first | omega | (unfold gT; omega)) (by first | omega | (unfold gT; omega)) (by first | omega | (unfold gT; omega)) (by first | omega | (unfold gT; omega)) (by first | omega | (unfold gT; omega)) (by first | (rw [← hw, show 48 - q = (48 - (q + 1)) + 1 by omega, frL_s, if_neg (Bool.eq_false_iff.mp h26), if_neg h50, if_neg h57, if_neg h63]) | (rw [← hw, show 48 - q = (48 - (q + 1)) + 1 by omega, frL_s, if_neg (Bool.eq_false_iff.mp h26), if_pos h50]) | (rw [← hw, show 48 - q = (48 - (q + 1)) + 1 by omega, frL_s, if_neg (Bool.eq_false_iff.mp h26), if_neg h50, if_pos h57])) (by omega) (lv_sub hl [4, 5, 6, 7, 1, 2, 0] rfl)
              · refine lv_iload hx hb d_RC_firstOfRun_66 (lv_at hl 7 rfl) ?_
                exact ret _ 68 (iI ((q : Int))) d_RC_firstOfRun_68 (congrArg iI (by rw [← hw, show 48 - q = (47 - q) + 1 by omega, frL_s, if_neg (Bool.eq_false_iff.mp h26), if_neg h50, if_neg h57, if_pos h63]))
        · refine lv_goto (tgt := 72) hx hb d_RC_firstOfRun_29 (by decide) ?_
          refine z_iinc (k := 6) (a := (q : Int)) (lv' := [(6, .int (iI (((q : Int)) + 1))), (0, .ref h0), (1, .ref v0), (2, .int (iI ((d : Int)))), (3, .int (iI (i0))), (4, .int (iI ((b : Int)))), (5, .int (iI (t)))]) hx hb d_RC_firstOfRun_72 hl rfl (by decide) rfl (fun ls hl => ?_)
          refine lv_goto (tgt := 9) hx hb d_RC_firstOfRun_75 (by decide) ?_
          exact ih9 (q + 1) ((q : Int) + 1) (t) (b) ((b : Int)) ls (by first | omega | (unfold gT; omega)) (by first | omega | (unfold gT; omega)) (by first | omega | (unfold gT; omega)) (by first | omega | (unfold gT; omega)) (by first | omega | (unfold gT; omega)) (by rw [← hw, show 48 - q = (48 - (q + 1)) + 1 by omega, frL_s, if_pos h26]) (by omega) (lv_sub hl [1, 2, 3, 4, 5, 6, 0] rfl)
  exact L9 (_) (0) (0) (0) (0) (0) ls (by first | omega | (unfold gT; omega)) (by first | omega | (unfold gT; omega)) (by first | omega | (unfold gT; omega)) (by first | omega | (unfold gT; omega)) (by first | omega | (unfold gT; omega)) (by rfl) (Nat.lt_succ_self _) (lv_sub hl [3, 4, 5, 6, 2, 1, 0] rfl)
