def R_law : String := "RuleCalendarLaw"
def lw_P (b : Addr) (xs : List Int32) (args : Array Value) (s : State) : Prop := args = #[.ref b] ∧ s.IntsAt b xs ∧ xs.length ≤ 2560 ∧ (Jvm.Cond.and given_1 narrow_1).before args s = true
def lw_Q (_ : Array Value) (s : State) (o : Outcome) (t : State) : Prop := o = .returned (some (.int 1)) ∧ Framed s o t [] 601024 7293034
def lw_Z (below : List Frame) (a : Array Value) (s : State) : State → Prop := fun t => ∃ o, t.status = .running ∧ Ended t below o ∧ lw_Q a s o t
/-- the law's own end, with 1 on the stack, nothing written that was there before, its room as the claim has it -/
theorem lw_ret {p : Program} {l : Launch} {e : Env} {s : State} {m : MethodId} {below : List Frame} {meth : Method} {c : Code} {b : Nat} (hx : p.tables.exec = Jvm.exec) (hb : c.code = code) (hr : meth.sig.returnType = ret) (hlocks : meth.locks = false) {pc : Nat} {H : Heap} {ls : Array Slot} (hdg : decode code pc = .ok (.ireturn, 1)) : W p l e room_1 s m #[Value.ref b] below meth c H [] 601024 7293034 (lw_Z below #[Value.ref b] s) (F0 m pc ls [.int 1]) := by
  intro T hT X
  obtain ⟨fs, hret, hrun, hended, hW, hframe⟩ := X.leave (v := some (.int 1)) (hlocks := hlocks) (fun h => by rw [hr] at h; cases h)
  have hmeth' : T.vm.method? m = some meth := X.method'
  refine ⟨T.setFrames fs, ?_, .returned (some (.int 1)), hrun, hended, rfl, ⟨_, rfl⟩, hW, hframe⟩
  jvm_step X.here [X.here.top, hx, hb, hdg, hmeth', hr, ret, narrow_b1]
  (try refine ⟨rfl, ?_⟩); (try refine ⟨rfl, ?_⟩)
  first | (intro acts; rw [hret _ acts rfl rfl rfl]) | rw [hret _ _ rfl rfl rfl]
  exact Steps.refl _
/-- what holds at the law's entry: the machine, the code, the tables' words (any of lw_tbl by 'hts w (by decide +kernel)'), the script of L ints xs at the cell b, what the Statement gives of the start (any of its parts by flat_of_before) -/
def lw_At (p : Program) (s : State) (m : MethodId) (meth : Method) (c : Code) (b L : Nat) (xs : Nat → Int32) : Prop :=
  p.tables.exec = Jvm.exec ∧ c.code = code ∧ meth.sig.returnType = ret ∧ c.maxLocals = 7 ∧ s.vm.findClass R_law = some m.cls ∧ (∀ w ∈ lw_tbl, w.before #[Value.ref b] s = true) ∧ va_X b L xs s s.heap ∧ b < s.heap.size ∧ meth.locks = false ∧ (Jvm.Cond.and given_1 narrow_1).before #[Value.ref b] s = true
set_option maxHeartbeats 8000000 in
set_option maxRecDepth 40000 in
/-- what the law finds at its start -/
theorem law_facts {p : Program} {s : State} {m : MethodId} {meth : Method} {c : Code} {b L : Nat} {xs : Nat → Int32} (hL : L ≤ 2560) (C0 : lw_At p s m meth c b L xs) : ∃ (D : va_G) (k : Nat → ClassId), LC p s m c b L xs D k ∧ AOX s := by
  obtain ⟨hx, hb, hr, hml, hown, hts0, hXs, hbl, hlk, hgv⟩ := C0
  have hs := flat_of_before _ hgv
  have hts : ∀ w ∈ ALLW, w.before #[Value.ref b] s = true := fun w h => hts0 w (List.mem_filter.mp h).1
  have hA : ∀ a : Nat, a < s.heap.size → ¬ va_A [] s.heap.size a := fun a h => nA0 h
  obtain ⟨c0, i0, u0⟩ := u_known hts in_RC (hts _ k_76)
  obtain ⟨c1, i1, u1⟩ := u_known hts in_AL (hts _ k_120)
  obtain ⟨c2, i2, u2⟩ := u_known hts in_AT (hts _ k_154)
  obtain ⟨c3, i3, u3⟩ := u_known hts in_CN (hts _ k_213)
  obtain ⟨c4, i4, u4⟩ := u_known hts in_DS (hts _ k_142)
  obtain ⟨c5, i5, u5⟩ := u_known hts in_PL (hts _ k_207)
  obtain ⟨c6, i6, u6⟩ := u_known hts in_RR (hts _ k_136)
  obtain ⟨c7, i7, u7⟩ := u_known hts in_SH (hts _ k_84)
  obtain ⟨c8, i8, u8⟩ := u_known hts in_MD (hts _ k_722)
  obtain ⟨a0, k0, m0, f0, g0, e0⟩ := Cond.arrayClass_spec (hts _ k_118)
  obtain ⟨a1, k1, m1, f1, g1, e1⟩ := Cond.arrayClass_spec (hts _ k_151)
  obtain ⟨a2, k2, m2, f2, g2, e2⟩ := Cond.arrayClass_spec (hts _ k_117)
  obtain ⟨a3, k3, m3, f3, g3, e3⟩ := Cond.arrayClass_spec (hts _ k_172)
  have w4 : (Cond.arrayOver (.array .long)).before #[Value.ref b] s = true := hts0 _ (List.mem_of_getElem? (i := 219) (by decide +kernel))
  have w5 : (Cond.arrayOver (.object R_DS)).before #[Value.ref b] s = true := hts0 _ (List.mem_of_getElem? (i := 152) (by decide +kernel))
  have w6 : (Cond.arrayOver (.object R_PL)).before #[Value.ref b] s = true := hts0 _ (List.mem_of_getElem? (i := 206) (by decide +kernel))
  obtain ⟨m4, a4, k4, f4, h4, g4, q4, r4⟩ := arrayOverA_spec w4
  obtain ⟨m5, a5, k5, f5, h5, g5, q5, r5⟩ := Cond.arrayOver_spec w5
  obtain ⟨m6, a6, k6, f6, h6, g6, q6, r6⟩ := Cond.arrayOver_spec w6
  refine ⟨(fun q => [c0, c1, c2, c3, c4, c5, c6, c7, c8].getD q 0, fun q => [i0, i1, i2, i3, i4, i5, i6, i7, i8].getD q (fun _ => 0)), fun q => [a0, a1, a2, a3, a4, a5, a6].getD q 0, ⟨hx, hb, hml, hown, hts, hXs, hbl, hL, ⟨fun q r hq => ?_, fun q r hq => ?_⟩, ?_, ?_⟩, w5, w6, w4⟩
  · have hlt : q < 9 := (List.getElem?_eq_some_iff.mp hq).1
    rcases (show q = 0 ∨ q = 1 ∨ q = 2 ∨ q = 3 ∨ q = 4 ∨ q = 5 ∨ q = 6 ∨ q = 7 ∨ q = 8 by omega) with rfl | rfl | rfl | rfl | rfl | rfl | rfl | rfl | rfl
    · cases hq; exact u0
    · cases hq; exact u1
    · cases hq; exact u2
    · cases hq; exact u3
    · cases hq; exact u4
    · cases hq; exact u5
    · cases hq; exact u6
    · cases hq; exact u7
    · cases hq; exact u8
  · have hlt : q < 7 := (List.getElem?_eq_some_iff.mp hq).1
    rcases (show q = 0 ∨ q = 1 ∨ q = 2 ∨ q = 3 ∨ q = 4 ∨ q = 5 ∨ q = 6 by omega) with rfl | rfl | rfl | rfl | rfl | rfl | rfl
    · cases hq; exact ⟨fun n z => ⟨fun k h => (by cases h), k0, g0, m0, e0⟩, f0⟩
    · cases hq; exact ⟨fun n z => ⟨fun k h => (by cases h), k1, g1, m1, e1⟩, f1⟩
    · cases hq; exact ⟨fun n z => ⟨fun k h => (by cases h), k2, g2, m2, e2⟩, f2⟩
    · cases hq; exact ⟨fun n z => ⟨fun k h => (by cases h), k3, g3, m3, e3⟩, f3⟩
    · cases hq; exact ⟨fun n z => ⟨fun k h => (by cases h), k4, g4, m4, q4⟩, r4⟩
    · cases hq; exact ⟨fun n z => ⟨fun k h => (by cases h), k5, g5, m5, q5⟩, k5, m5, g5, q5, f5, r5⟩
    · cases hq; exact ⟨fun n z => ⟨fun k h => (by cases h), k6, g6, m6, q6⟩, k6, m6, g6, q6, f6, r6⟩
  · have hel : ∀ j : Nat, j < 13 → (Term.elem (Term.static R_AL "LONGEST" "[I") (.int (Int32.ofNat j))).eval #[Value.ref b] s none [] s = some (Value.int (iI (lonG j))) := by
      intro j hj
      rcases (show j = 0 ∨ j = 1 ∨ j = 2 ∨ j = 3 ∨ j = 4 ∨ j = 5 ∨ j = 6 ∨ j = 7 ∨ j = 8 ∨ j = 9 ∨ j = 10 ∨ j = 11 ∨ j = 12 by omega) with rfl | rfl | rfl | rfl | rfl | rfl | rfl | rfl | rfl | rfl | rfl | rfl | rfl
      · have e9 : iI (lonG 0) = 0 := by decide +kernel
        rw [e9]
        exact va_eqt (hs (.eq (.elem (Term.static R_AL "LONGEST" "[I") (.int 0)) (.int 0)) (by decide +kernel))
      · have e9 : iI (lonG 1) = 31 := by decide +kernel
        rw [e9]
        exact va_eqt (hs (.eq (.elem (Term.static R_AL "LONGEST" "[I") (.int 1)) (.int 31)) (by decide +kernel))
      · have e9 : iI (lonG 2) = 29 := by decide +kernel
        rw [e9]
        exact va_eqt (hs (.eq (.elem (Term.static R_AL "LONGEST" "[I") (.int 2)) (.int 29)) (by decide +kernel))
      · have e9 : iI (lonG 3) = 31 := by decide +kernel
        rw [e9]
        exact va_eqt (hs (.eq (.elem (Term.static R_AL "LONGEST" "[I") (.int 3)) (.int 31)) (by decide +kernel))
      · have e9 : iI (lonG 4) = 30 := by decide +kernel
        rw [e9]
        exact va_eqt (hs (.eq (.elem (Term.static R_AL "LONGEST" "[I") (.int 4)) (.int 30)) (by decide +kernel))
      · have e9 : iI (lonG 5) = 31 := by decide +kernel
        rw [e9]
        exact va_eqt (hs (.eq (.elem (Term.static R_AL "LONGEST" "[I") (.int 5)) (.int 31)) (by decide +kernel))
      · have e9 : iI (lonG 6) = 30 := by decide +kernel
        rw [e9]
        exact va_eqt (hs (.eq (.elem (Term.static R_AL "LONGEST" "[I") (.int 6)) (.int 30)) (by decide +kernel))
      · have e9 : iI (lonG 7) = 31 := by decide +kernel
        rw [e9]
        exact va_eqt (hs (.eq (.elem (Term.static R_AL "LONGEST" "[I") (.int 7)) (.int 31)) (by decide +kernel))
      · have e9 : iI (lonG 8) = 31 := by decide +kernel
        rw [e9]
        exact va_eqt (hs (.eq (.elem (Term.static R_AL "LONGEST" "[I") (.int 8)) (.int 31)) (by decide +kernel))
      · have e9 : iI (lonG 9) = 30 := by decide +kernel
        rw [e9]
        exact va_eqt (hs (.eq (.elem (Term.static R_AL "LONGEST" "[I") (.int 9)) (.int 30)) (by decide +kernel))
      · have e9 : iI (lonG 10) = 31 := by decide +kernel
        rw [e9]
        exact va_eqt (hs (.eq (.elem (Term.static R_AL "LONGEST" "[I") (.int 10)) (.int 31)) (by decide +kernel))
      · have e9 : iI (lonG 11) = 30 := by decide +kernel
        rw [e9]
        exact va_eqt (hs (.eq (.elem (Term.static R_AL "LONGEST" "[I") (.int 11)) (.int 30)) (by decide +kernel))
      · have e9 : iI (lonG 12) = 31 := by decide +kernel
        rw [e9]
        exact va_eqt (hs (.eq (.elem (Term.static R_AL "LONGEST" "[I") (.int 12)) (.int 31)) (by decide +kernel))
    obtain ⟨t9, h7, h8⟩ := va_Tof (N := 13) (f := fun j => .int (iI (lonG j))) (ty := .int) (tm := (Term.static R_AL "LONGEST" "[I")) (A := va_A [] s.heap.size) (by decide) (hs (.arrayOf (Term.static R_AL "LONGEST" "[I") .int) (by decide +kernel)) (va_eqt (hs (.eq (.length (Term.static R_AL "LONGEST" "[I")) (.int 13)) (by decide +kernel))) hel hA
    refine ⟨⟨t9, va_Zref (hts0 (.laysStatic R_AL "LONGEST" "[I") (List.mem_of_getElem? (i := 96) (by decide +kernel))) (hts _ k_61) h7 hA, h8⟩, fun w hw => ?_⟩
    obtain ⟨h1, h2⟩ := List.mem_filter.mp hw
    exact va_Nw.of (by cases w <;> first | rfl | cases h2) (hts0 w h1)
  · have z1 : TZ Bundle.tN "UNASSIGNED_STACK" Bundle.steD (va_A [] s.heap.size) s s.heap := TZ.of (hts0 (.laysStatic Bundle.tN "UNASSIGNED_STACK" Bundle.steD) (List.mem_of_getElem? (i := 361) (by decide +kernel))) (hs (.isRef (.static Bundle.tN "UNASSIGNED_STACK" Bundle.steD)) (by decide +kernel)) hA
    have z2 : TZ Bundle.tN "SUPPRESSED_SENTINEL" Bundle.listD (va_A [] s.heap.size) s s.heap := TZ.of (hts0 (.laysStatic Bundle.tN "SUPPRESSED_SENTINEL" Bundle.listD) (List.mem_of_getElem? (i := 363) (by decide +kernel))) (hs (.isRef (.static Bundle.tN "SUPPRESSED_SENTINEL" Bundle.listD)) (by decide +kernel)) hA
    obtain ⟨y169, _, _, _, x169, _⟩ := Cond.exactly_spec (hs (.exactly (.string R_RC 169) "java/lang/String") (by decide +kernel))
    have j169 : vk_R R_RC 169 "no such calendar" y169 s := vk_R.of (hts0 (.stringRef R_RC 169 "no such calendar") (List.mem_of_getElem? (i := 374) (by decide +kernel))) x169
    obtain ⟨y171, _, _, _, x171, _⟩ := Cond.exactly_spec (hs (.exactly (.string R_RC 171) "java/lang/String") (by decide +kernel))
    have j171 : vk_R R_RC 171 "no such day or cell" y171 s := vk_R.of (hts0 (.stringRef R_RC 171 "no such day or cell") (List.mem_of_getElem? (i := 577) (by decide +kernel))) x171
    obtain ⟨y175, _, _, _, x175, _⟩ := Cond.exactly_spec (hs (.exactly (.string R_RC 175) "java/lang/String") (by decide +kernel))
    have j175 : vk_R R_RC 175 "the calendar is not compiled" y175 s := vk_R.of (hts0 (.stringRef R_RC 175 "the calendar is not compiled") (List.mem_of_getElem? (i := 591) (by decide +kernel))) x175
    obtain ⟨y113, _, _, _, x113, _⟩ := Cond.exactly_spec (hs (.exactly (.string R_RC 113) "java/lang/String") (by decide +kernel))
    have j113 : vk_R R_RC 113 "no such days" y113 s := vk_R.of (hts0 (.stringRef R_RC 113 "no such days") (List.mem_of_getElem? (i := 660) (by decide +kernel))) x113
    refine ⟨z1, z2, ⟨_, j169⟩, ⟨_, j171⟩, ⟨_, j175⟩, ⟨_, j113⟩, fun w hw => ?_, fun d1 d2 h1 h2 => ?_⟩
    · have h9 := hw
      simp only [TXW, List.mem_cons, List.not_mem_nil, or_false] at hw
      rcases hw with rfl | rfl | rfl | rfl | rfl
      · exact va_Nw.of (txw_on h9) (hts0 _ (List.mem_of_getElem? (i := 338) (by decide +kernel)))
      · exact va_Nw.of (txw_on h9) (hts0 _ (List.mem_of_getElem? (i := 340) (by decide +kernel)))
      · exact va_Nw.of (txw_on h9) (hts0 _ (List.mem_of_getElem? (i := 342) (by decide +kernel)))
      · exact va_Nw.of (txw_on h9) (hts0 _ (List.mem_of_getElem? (i := 336) (by decide +kernel)))
      · exact va_Nw.of (txw_on h9) (hts0 _ (List.mem_of_getElem? (i := 584) (by decide +kernel)))
    · cases hq : s.vm.assignable d1 d2 with
      | false => rfl
      | true =>
        exfalso
        have h := hs (.not (.castable xIS xIO)) (by decide +kernel)
        simp [Cond.before, Cond.holds, Cond.value, h1, h2, hq] at h
def pb0 (u : Nat → Nat) : Nat → Nat → Nat := fun c j => if c = 3 then u (32 + j) else u (45 + 13 * c + j)
def rs0 : RS := (0, 0, 0, fun _ _ => 0, fun _ _ => 0, fun _ => false, 0, 0, 0, fun _ => 0, fun _ _ => 0, fun _ _ => 0, 0)
def ms0 : MS := (0, fun _ => 0, fun _ => 0, fun _ => 0, 0, fun _ => 0, fun _ => 0, fun _ => 0, fun _ => 0, fun _ => 0, 0, 0, fun _ => 0, fun _ => 0, fun _ => 0)
theorem nbo0 : NBO ms0.2.2.2.2 := ⟨fun _ => ⟨show (-5000 : Int) ≤ 0 by decide, show (0 : Int) ≤ 5000 by decide⟩, fun _ => ⟨show (-5000 : Int) ≤ 0 by decide, show (0 : Int) ≤ 5000 by decide⟩⟩
theorem rel0 : REL 0 (fun _ => 0) (fun _ _ _ => 0) (fun _ _ _ => 0) (fun _ => 0) (fun _ => 0) (fun _ => 0) (fun _ => 0) (fun _ => 0) (fun _ => 0) := ⟨by decide, fun _ => ⟨Int.le_refl 0, by show (0 : Int) ≤ 126; decide⟩, fun _ => ⟨Int.le_refl 0, by show (0 : Int) ≤ 12; decide⟩, fun _ => ⟨Int.le_refl 0, by show (0 : Int) ≤ 9; decide⟩, fun _ => ⟨Int.le_refl 0, by show (0 : Int) ≤ 48; decide⟩, fun _ => ⟨Int.le_refl 0, by show (0 : Int) ≤ 48; decide⟩, fun _ => ⟨Int.le_refl 0, by show (0 : Int) < 4096; decide⟩, fun _ _ => rfl, fun _ _ h => absurd h (Nat.lt_irrefl 0)⟩
set_option maxHeartbeats 8000000 in
set_option maxRecDepth 40000 in
theorem law_begin {p : Program} {e : Env} {s : State} {m : MethodId} {below : List Frame} {meth : Method} {c : Code} (l : Launch) (hlt : l.stackTraces = false) {b L : Nat} {xs : Nat → Int32} (hL : L ≤ 2560) (C0 : lw_At p s m meth c b L xs) : W p l e room_1 s m #[Value.ref b] below meth c s.heap [] 0 0 (lw_Z below #[Value.ref b] s) (entryFrame m ([Value.ref b] : List Value).toArray 7) := by
  obtain ⟨D, k, hLC, hAO⟩ := law_facts hL C0
  obtain ⟨-, -, hr, -, -, -, -, -, hlk, -⟩ := C0
  obtain ⟨hx, hb, hml, hown, hts, hXs, hbl, -, hK, hX, hTX⟩ := id hLC
  rw [lg_entry_eq]
  have hl := lv_entry (n := 7) ([Value.ref b] : List Value) (Nat.le_of_ble_eq_true rfl)
  have hA : ∀ q : Nat, s.heap.size ≤ q → (va_A [] s.heap.size) q := fun q h => Or.inr h
  have hS : va_S (va_A [] s.heap.size) s.heap s.heap [] := va_S.rf
  have hP : va_P D classes [] s.heap := fun i q h => by simp at h
  have hD : va_D (va_A [] s.heap.size) [] := ⟨fun i j x y h => by simp at h, fun i q h => by simp at h⟩
  suffices hg : ∀ ls : Array Slot, lv_has ls 7 [(0, .ref b)] → W p l e room_1 s m #[Value.ref b] below meth c s.heap [] 0 0 (lw_Z below #[Value.ref b] s) (F0 m 0 ls []) from hg _ hl
  clear hl
  intro ls hl
  refine va_new (own := R_LW) (C := R_RC) (T := F_RC) (N := 7) (ci := 0) (index := 8) (fs := [.null, .int (iI 0), .null, .null, .null, .null, .null]) hx hb hts in_RC t_RC t_RC_ok hown (hts _ k_75) (hts _ k_76) (hts _ k_59) hK hP hD hS hA rfl (by decide) (Nat.le_of_ble_eq_true rfl) (Nat.le_of_ble_eq_true rfl) d_law_0 (fun h0 H hP hD hS => ?_)
  have hP : va_P D classes [(h0, .inr (0, [.null, .int (iI 0), .null, .null, .null, .null, .null]))] H := hP
  have hD : va_D (va_A [] s.heap.size) [(h0, .inr (0, [.null, .int (iI 0), .null, .null, .null, .null, .null]))] := hD
  refine lv_dup hx hb d_law_3 rfl ?_
  have hFc := fr hD hS hA
  refine va_callv (va_runI (As := []) (rest := [.ref h0]) (b := h0) ⟨hx, hb, hml, hown, hts⟩ (k_RC l D k H.size h0) ⟨callB_of 0 hts good_RC_init rfl rfl rfl (hts _ k_59) (hts _ k_77) (by decide +kernel) ⟨(Nat.le_of_ble_eq_true rfl), (Nat.le_of_ble_eq_true rfl)⟩, rfl, (hts _ k_78)⟩ ⟨fun a U g mk q => ⟨q.1, ⟨q.2.1.1, q.2.1.2.1, va_K.moved (u := U) (U := U.calling g mk a) (Vm.Alike.refl U.vm) q.2.1.2.2.1, q.2.1.2.2.2.1, q.2.1.2.2.2.2.calling⟩, AOX.moved (u := U) (U := U.calling g mk a) (Vm.Alike.refl U.vm) q.2.2⟩, fun U hU hW => ⟨rfl, ⟨by rw [hU], by rw [hU]; exact hP, va_K.moved hW.alike hK, hD.weaken (fun _ _ _ _ => trivial), by rw [hU]; exact (hX.mono hS hFc).warm hW⟩, hAO.moved hW.alike⟩⟩ rfl rfl hl.1 rfl (lv_room (Nat.le_of_ble_eq_true rfl)) d_law_4 ⟨(Nat.le_of_ble_eq_true rfl), (Nat.le_of_ble_eq_true rfl)⟩) hS (fun q _ h => hFc q h) hFc (fun u1 t H1 locs ht hvm _ hB hz1 hk1 hS => ?_)
  obtain ⟨hP1, hD1⟩ := hB
  rw [ht] at hP1
  have hD2 := hD1.weaken (fun k q _ h => hFc q.1 h)
  clear hP hD hk1 hz1 hFc hD1
  have hP : va_P D classes (RCX k h0 u1 (fn4 (u1 14) (u1 15) (u1 16) (u1 17)) (fn4 (u1 18) (u1 19) (u1 20) (u1 21)) (fn4 (u1 22) (u1 23) (u1 24) (u1 25)) (fn4 (u1 26) (u1 27) (u1 28) (u1 29)) (fn4 (u1 44) (u1 57) (u1 70) 0) (u1 31) (pb0 u1) (fun _ => 0) ((0 : Nat) : Int) false rs0 .null 0 (fun _ _ _ => 0) (fun _ _ _ => 0) (fun _ => 0)) H1 := hP1
  have hD : va_D (va_A [] s.heap.size) (RCX k h0 u1 (fn4 (u1 14) (u1 15) (u1 16) (u1 17)) (fn4 (u1 18) (u1 19) (u1 20) (u1 21)) (fn4 (u1 22) (u1 23) (u1 24) (u1 25)) (fn4 (u1 26) (u1 27) (u1 28) (u1 29)) (fn4 (u1 44) (u1 57) (u1 70) 0) (u1 31) (pb0 u1) (fun _ => 0) ((0 : Nat) : Int) false rs0 .null 0 (fun _ _ _ => 0) (fun _ _ _ => 0) (fun _ => 0)) := hD2
  clear hP1 hD2
  obtain ⟨R0, hR0⟩ : ∃ R0, R0 = (RCX k h0 u1 (fn4 (u1 14) (u1 15) (u1 16) (u1 17)) (fn4 (u1 18) (u1 19) (u1 20) (u1 21)) (fn4 (u1 22) (u1 23) (u1 24) (u1 25)) (fn4 (u1 26) (u1 27) (u1 28) (u1 29)) (fn4 (u1 44) (u1 57) (u1 70) 0) (u1 31) (pb0 u1) (fun _ => 0) ((0 : Nat) : Int) false rs0 .null 0 (fun _ _ _ => 0) (fun _ _ _ => 0) (fun _ => 0)) := ⟨_, rfl⟩
  rw [← hR0] at hP hD
  clear ht
  generalize H1 = H at hP hS ⊢
  refine lv_astore_n (lv' := [(1, .ref h0), (0, .ref b)]) hx hb d_law_7 rfl hl (by decide) rfl (fun ls hl => ?_)
  refine va_new (own := R_LW) (C := R_MD) (T := F_MD) (N := 26) (ci := 8) (index := 50) (fs := [.int (iI (0)), .int (iI (0)), .null, .int (bI (false)), .null, .null, .null, .null, .null, .null, .null, .int (iI (0)), .null, .null, .null, .int (iI (0)), .null, .null, .null, .null, .null, .int (iI (0)), .int (iI (0)), .null, .null, .null]) hx hb hts in_MD t_MD t_MD_ok hown (hts _ k_721) (hts _ k_722) (hts _ k_67) hK hP hD hS hA rfl (by decide) (Nat.le_of_ble_eq_true rfl) (Nat.le_of_ble_eq_true rfl) d_law_8 (fun hm H hP hD hS => ?_)
  refine lv_dup hx hb d_law_11 rfl ?_
  have hPm := pR hP
  have hDm := dR hD
  have hFc := fr hDm hS hA
  refine va_callv (va_runI (As := []) (rest := [.ref hm]) (b := hm) ⟨hx, hb, hml, hown, hts⟩ (k_MD l D k H.size hm) ⟨callB_of 0 hts good_MD_init rfl rfl rfl (hts _ k_67) (hts _ k_723) (by decide +kernel) ⟨(Nat.le_of_ble_eq_true rfl), (Nat.le_of_ble_eq_true rfl)⟩, rfl, (hts _ k_724)⟩ ⟨fun a U g mk q => ⟨q.1, ⟨q.2.1.1, q.2.1.2.1, va_K.moved (u := U) (U := U.calling g mk a) (Vm.Alike.refl U.vm) q.2.1.2.2.1, q.2.1.2.2.2.1, q.2.1.2.2.2.2.calling⟩, AOX.moved (u := U) (U := U.calling g mk a) (Vm.Alike.refl U.vm) q.2.2⟩, fun U hU hW => ⟨rfl, ⟨by rw [hU], by rw [hU]; exact hPm, va_K.moved hW.alike hK, hDm.weaken (fun _ _ _ _ => trivial), by rw [hU]; exact (hX.mono hS hFc).warm hW⟩, hAO.moved hW.alike⟩⟩ rfl rfl hl.1 rfl (lv_room (Nat.le_of_ble_eq_true rfl)) d_law_12 ⟨(Nat.le_of_ble_eq_true rfl), (Nat.le_of_ble_eq_true rfl)⟩) hS (fun q _ h => hFc q h) hFc (fun u2 t H1 locs ht hvm _ hB hz1 hk1 hS => ?_)
  obtain ⟨hP1, hD1⟩ := hB
  rw [ht] at hP1
  obtain ⟨hP, hD⟩ := jR hP hD hk1 hFc hP1 hD1
  clear hk1 hz1 hFc hD1 hP1 hPm hDm ht
  have hP : va_P D classes (R0 ++ (MDX k hm u2 0 ((0 : Nat) : Int) false ms0 (fun _ => 0) (fun _ => 0) (fun _ => 0) (fun _ => 0) (fun _ => 0) (fun _ => 0))) H1 := hP
  have hD : va_D (va_A [] s.heap.size) (R0 ++ (MDX k hm u2 0 ((0 : Nat) : Int) false ms0 (fun _ => 0) (fun _ => 0) (fun _ => 0) (fun _ => 0) (fun _ => 0) (fun _ => 0))) := hD
  obtain ⟨M0, hM0⟩ : ∃ M0, M0 = (MDX k hm u2 0 ((0 : Nat) : Int) false ms0 (fun _ => 0) (fun _ => 0) (fun _ => 0) (fun _ => 0) (fun _ => 0) (fun _ => 0)) := ⟨_, rfl⟩
  rw [← hM0] at hP hD
  generalize H1 = H at hP hS ⊢
  refine lv_astore_n (lv' := [(2, .ref hm), (1, .ref h0), (0, .ref b)]) hx hb d_law_15 rfl hl (by decide) rfl (fun ls hl => ?_)
  refine z_iconst hx hb d_law_16 ?_
  refine x_newa (atype := .long) (ty := .long) (kc := k 1) (tys := TY k) (a0 := (1, .inr (.inl (fun _ => (0 : Int64))))) (n := iI 1) (N' := 1) hx hb (hts _ k_151) rfl hK 1 rfl hP hD hS hA (fun _ => rfl) (by decide) (by decide) (by decide) (Nat.le_of_ble_eq_true rfl) (Nat.le_of_ble_eq_true rfl) d_law_17 (fun ao H hP hD hS => ?_)
  have hP : va_P D classes (OUT k ao (fun _ => 0) :: (R0 ++ M0)) H := rotP hP
  have hD : va_D (va_A [] s.heap.size) (OUT k ao (fun _ => 0) :: (R0 ++ M0)) := rotD hD
  refine lv_astore_n (lv' := [(3, .ref ao), (2, .ref hm), (1, .ref h0), (0, .ref b)]) hx hb d_law_19 rfl hl (by decide) rfl (fun ls hl => ?_)
  refine z_iconst hx hb d_law_20 ?_
  refine lv_istore (lv' := [(4, .int (iI 0)), (3, .ref ao), (2, .ref hm), (1, .ref h0), (0, .ref b)]) hx hb d_law_21 hl (by decide) rfl (fun ls hl => ?_)
  have hI : IV k h0 u1 (fn4 (u1 14) (u1 15) (u1 16) (u1 17)) (fn4 (u1 18) (u1 19) (u1 20) (u1 21)) (fn4 (u1 22) (u1 23) (u1 24) (u1 25)) (fn4 (u1 26) (u1 27) (u1 28) (u1 29)) hm u2 R0 M0 := ⟨_, _, _, _, 0, _, _, _, _, _, _, _, _, _, _, _, _, _, _, hR0, hM0, rel0, nbo0⟩
  refine law_loop hLC (INV := IV k h0 u1 (fn4 (u1 14) (u1 15) (u1 16) (u1 17)) (fn4 (u1 18) (u1 19) (u1 20) (u1 21)) (fn4 (u1 22) (u1 23) (u1 24) (u1 25)) (fn4 (u1 26) (u1 27) (u1 28) (u1 29)) hm u2) (ao := ao) iv_0 (fun R M v1 hI => sy_type l hlt D ao R M v1 hI) (fun R M  hI => sy_wipe l hlt D ao R M  hI) (fun R M v1 hI => sy_compile l hlt D ao R M v1 hI) (fun R M v1 hI => sy_shifts l hlt D ao R M v1 hI) (fun R M v1 v2 v3 hI => sy_at l hlt D ao R M v1 v2 v3 hI) (fun R M v1 v2 v3 hI => sy_which l hlt D ao R M v1 v2 v3 hI) (fun R M v1 v2 v3 hI => sy_next l hlt D ao R M v1 v2 v3 hI) (fun R M v1 v2 v3 v4 hI => sy_total l hlt D ao R M v1 v2 v3 v4 hI) (fun R M v1 v2 v3 hI => sy_dayOf l hlt D ao R M v1 v2 v3 hI) (fun R M v1 v2 hI => sy_dateOf l hlt D ao R M v1 v2 hI) (fun R M v1 hI => sy_feast l hlt D ao R M v1 hI) (fun R M v1 v2 v3 hI => sy_elapsed l hlt D ao R M v1 v2 v3 hI) (fun R M v1 hI => sy_clock l hlt D ao R M v1 hI) (fun R M v1 v2 hI => sy_compare l hlt D ao R M v1 v2 hI) (fun R M v1 v2 hI => sy_inside l hlt D ao R M v1 v2 hI) (fun R M v1 v2 hI => sy_dead l hlt D ao R M v1 v2 hI) (fun R M v1 v2 v3 v4 hI => sy_run l hlt D ao R M v1 v2 v3 v4 hI) (fun ls H => lw_ret hx hb hr hlk d_law_1129) (L + 1) 0 R0 M0 _ ls H _ _ _ hI (by omega) (Nat.zero_le _) (by decide) (by decide) ?_ hP hD hS
  exact lv_sub hl [4, 3, 2, 1, 0] rfl
