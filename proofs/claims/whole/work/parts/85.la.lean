/-- the table of handlers, out of its word -/
theorem ex_eq {es : List ExceptionTableEntry} {hh : List (Nat × Nat × Nat × Nat)} (h : es.map (fun h => (h.startPc, h.endPc, h.handlerPc, h.catchType)) = hh) : es = hh.map (fun q => ⟨q.1, q.2.1, q.2.2.1, q.2.2.2⟩) := by
  subst h
  rw [List.map_map]
  show es = es.map (fun x => x)
  simp
section ENW
variable {l : Launch} {y : MethodName} {ws ws' : List Cond} {rm : Room} {av : List Value} {S : Type} {B0 : State → Prop} {A : Nat → Prop} {mc ms nL : Nat} {cc : ByteArray} {hh : List (Nat × Nat × Nat × Nat)}
/-- a method with handlers, that answers an int -/
theorem e_iW {post : Int32 → S → Prop} {B : S → State → Prop} (hy : plainName y.cls = true) (hw : ws = Cond.codeWith y cc nL (some .int) hh :: ws') (hlen : (lg_sl av).length ≤ nL)
  (body : ∀ (p : Program) (e : Env) (s : State) (m : MethodId) (args : Array Value) (below : List Frame) (meth : Method) (c : Code) (Q : State → Prop) (ls : Array Slot),
     p.tables.exec = Jvm.exec → c.code = cc → c.maxLocals = nL → s.vm.findClass y.cls = some m.cls → (∀ w ∈ ws', w.before args s = true) → B0 s → lv_has ls nL (lv_args 0 av) → c.exceptionTable.toList = hh.map (fun q => ⟨q.1, q.2.1, q.2.2.1, q.2.2.2⟩) →
     (∀ (H : Heap) (locs : List Loc) (ls : Array Slot) (pc : Nat) (v : Int32) (u : S), decode cc pc = .ok (.ireturn, 1) → va_S A s.heap H locs → post (v) u → (∀ t : State, t.heap = H → s.vm.Alike t.vm → B u t) → W p l e rm s m args below meth c H locs mc ms Q (F0 m pc ls [.int v])) →
     W p l e rm s m args below meth c s.heap [] 0 0 Q (F0 m 0 ls [])) :
  Met l y ws rm (va_Pc av B0) (va_Qi post B A) mc ms A := by
  refine va_MetW (hh := hh) hy hw ?_
  intro p e s m args below meth c s₁ B hml hv
  obtain ⟨rfl, hB0⟩ := hv
  have hX := Stand.of_body B
  obtain ⟨m9, meth9, c9, k0, k1, k2, -, -, k3, -, -, -⟩ := Cond.codeWith_spec (atoms_spec (ws := ws) B.pre _ (by rw [hw]; exact List.mem_cons_self))
  cases B.named.symm.trans k0
  cases B.method.symm.trans k1
  cases hX.code.symm.trans k2
  rw [lg_entry_eq]
  exact body p e s m _ below meth c _ _ B.exec B.bytes hml (findClass_of_methodNamed B.named) (fun w h => atoms_spec B.pre w (by rw [hw]; exact List.mem_cons_of_mem _ h)) hB0 (lv_entry av hlen) (ex_eq k3) (fun H locs ls pc v u hd hS hp hB => W.iret B.exec B.bytes B.returns (fun t ht hW => ⟨⟨v, u, rfl, hp, hB t ht hW.alike⟩, hS.F ht⟩) hS.2.2 hd)
end ENW
theorem good_allW {y : MethodName} {b : ByteArray} {n : Nat} {r : Option FieldType} {hh : List (Nat × Nat × Nat × Nat)} (h : Cond.codeWith y b n r hh ∈ ALLW) : GoodIn ALLW (Cond.codeWith y b n r hh :: ALLW) := fun w hw => by
  rcases List.mem_cons.mp hw with rfl | hw
  · exact ⟨h, allw_good h⟩
  · exact ⟨hw, allw_good hw⟩
section RSW
variable {p : Program} {l : Launch} {e : Env} {R : Room} {s : State} {m : MethodId} {args : Array Value} {below : List Frame} {meth : Method} {c : Code} {H : Heap} {locs : List Loc} {cells slots : Nat} {Q : State → Prop}
variable {y : MethodName} {bytes cc : ByteArray} {maxL nL mc ms n index : Nat} {ret : Option FieldType} {hh : List (Nat × Nat × Nat × Nat)} {ws ws' : List Cond} {rm : Room} {Pc : Array Value → State → Prop} {Qc : Array Value → State → Outcome → State → Prop} {free : Addr → Prop} {Ts : List Cond} {own C : String} {b : Addr} {As rest : List Value} {g : JFrame}
/-- a static call of a method with handlers -/
theorem runSW (S : CallFix p m c cc nL s args Ts own) (hM : Met l y ws rm Pc Qc mc ms free) (hG : GoodIn Ts ws) (hw : ws = Cond.codeWith y bytes maxL ret hh :: ws') (hini : (Cond.initialized y.cls).before args s = true) (hlk : (Cond.methodLink own index y).before args s = true) (hst : (Cond.static y).before args s = true)
    (hd : y.cls ≠ "java/lang/invoke/MethodHandle" ∧ y.cls ≠ "java/lang/invoke/VarHandle" ∧ (parseMethodDescriptor y.desc).map (fun d => d.parameters.length) = some n) (hR : rm.cells = mc ∧ rm.slots = ms ∧ rm.frames + 1 ≤ R.frames ∧ 8 + (maxL + 11) + rm.locals ≤ R.locals) (hp : PreS s H Pc As)
    (hg : g.method = m) (hn : As.length = n) (hsize : g.locals.size = nL) (hstack : g.stack = As.reverse ++ rest) (hW : 2 * g.monitorRoom + (rest.map fun v => v.category).sum ≤ 8) (hdg : decode cc g.pc = .ok (.invokestatic index, 3)) (hf : cells + mc ≤ R.cells ∧ slots + ms ≤ R.slots) :
    va_Run p l e R s m args below meth c H locs cells slots mc ms g rest (Qc As.toArray) (free) := by
  obtain ⟨hx, hb, hml, ho, ht⟩ := S
  have hc : Cond.codeWith y bytes maxL ret hh ∈ ws := by rw [hw]; exact List.mem_cons_self
  have hcode := ht _ (hG _ hc).1
  have hK : Back l R p e below s args y 3 8 (PreOf R mc ms Pc) (PostOf Qc mc ms free) := va_backW (hh := hh) (bytes := bytes) (maxL := maxL) (ret := ret) hM hp.1 hR.1 hR.2.1 hR.2.2.1 hR.2.2.2 (pay_in ht hG) hc (fun a' U hW => word_at hW (Or.inl (by first | rfl | simp [Cond.onTables, Cond.keeps, Cond.steady])) hini)
  intro T hT X
  obtain ⟨mk, methM, cM, hnamed, hmethM, -, -, -, -, -, -, hsigM⟩ := Cond.codeWith_spec hcode
  have hstatic : methM.isStatic = true := Cond.static_spec hnamed hmethM hst
  obtain ⟨kP, hkP, -⟩ := className_of_methodNamed hnamed
  have hinitP : kP.init = .initialized := Cond.initialized_spec (findClass_of_methodNamed hnamed) hkP hini
  have hlen : n = methM.sig.parameters.length := by
    have h2 := hd.2.2
    rw [hsigM] at h2
    exact (Option.some.inj h2).symm
  obtain ⟨vm₁, X₁, hstep₁⟩ := X.invokestatic hx ho hlk hnamed hmethM hstatic hkP hinitP ⟨hd.1, hd.2.1⟩ (g := g) hg (argsL := As) (rest := rest) (hn.trans hlen) hstack (by rw [hb]; exact hdg)
  obtain ⟨v, ⟨U', l2, c2, s2⟩, X', ⟨g', mk', t, L, e1, e2, hq, h1, hL, h2, h3⟩, st⟩ := hK m meth c ⟨T.setVm vm₁, locs, cells, slots⟩ { g with stack := rest } (.invokestatic index) mk As.toArray X₁ hg (hsize.trans hml.symm) (by rw [hb]; exact hdg) hW (X₁.named hnamed) ⟨hf.1, hf.2, hp.2 (T.setVm vm₁) hT X₁.warmed⟩
  dsimp only [Pt.U, Pt.locs, Pt.cells, Pt.slots] at X' e1 e2 h1 h2 h3 st
  subst h1; subst h2; subst h3
  exact ⟨v, (T.setVm vm₁).calling g' mk' As.toArray, t, U', L, hT, X', hL, e1, e2, hq, fun target h => hstep₁ _ fun acts => by rw [doInvoke_state]; exact st.trans h⟩
/-- the script's ints -/
theorem s_ld {A : Nat → Prop} {H0 : Heap} {pc : Nat} {ls : Array Slot} (hx : p.tables.exec = Jvm.exec) (hb : c.code = cc) {b L : Nat} {xs : Nat → Int32} (hX : va_X b L xs s H0) (hbl : b < H0.size) (hbA : ¬ A b) (hS : va_S A H0 H locs) {z : Int} (j : Nat) (hz : z = j) (hj : j < L) (hL : L ≤ 2147483647) (hd : decode cc pc = .ok (.iaload, 1)) (k : W p l e R s m args below meth c H locs cells slots Q (F0 m (pc + 1) ls (.int (xs j) :: rest))) : W p l e R s m args below meth c H locs cells slots Q (F0 m pc ls (.int (iI z) :: .ref b :: rest)) :=
  va_sld hx hb hX hbl hbA hS (iI_in hz hj hL) hd (by rw [iI_clamp hz (by omega)]; exact k)
end RSW
section JN
variable {A0 : Nat → Prop} {D : va_G} {cl : List vw_C} {a r c w1 : va_W} {H H1 H0 : Heap} {locs : List Loc}
theorem at_l {i : Nat} {q : Nat × va_E} (h : a[i]? = some q) : (a ++ c)[i]? = some q := by
  have hi : i < a.length := (List.getElem?_eq_some_iff.mp h).1
  rw [List.getElem?_append_left hi]; exact h
theorem at_r {i : Nat} {q : Nat × va_E} (h : c[i]? = some q) : (a ++ c)[a.length + i]? = some q := by
  rw [List.getElem?_append_right (Nat.le_add_right _ _), Nat.add_sub_cancel_left]; exact h
theorem pL (h : va_P D cl (a ++ c) H) : va_P D cl a H := fun i q hq => h i q (at_l hq)
theorem pR (h : va_P D cl (a ++ c) H) : va_P D cl c H := fun i q hq => h _ q (at_r hq)
theorem dL (h : va_D A0 (a ++ c)) : va_D A0 a := ⟨fun i j x y hx hy he => h.1 i j x y (at_l hx) (at_l hy) he, fun i q hq => h.2 i q (at_l hq)⟩
theorem dR (h : va_D A0 (a ++ c)) : va_D A0 c := ⟨fun i j x y hx hy he => by have := h.1 _ _ x y (at_r (a := a) hx) (at_r (a := a) hy) he; omega, fun i q hq => h.2 _ q (at_r (a := a) hq)⟩
theorem dX (h : va_D A0 (a ++ c)) {i j : Nat} {x y : Nat × va_E} (hx : a[i]? = some x) (hy : c[j]? = some y) : x.1 ≠ y.1 := fun he => by
  have h1 := h.1 _ _ x y (at_l hx) (at_r (a := a) hy) he
  have hi : i < a.length := (List.getElem?_eq_some_iff.mp hx).1
  omega
theorem fr (hD : va_D A0 r) (hS : va_S A0 H0 H locs) (hA : ∀ q, H0.size ≤ q → A0 q) : ∀ q, va_A r H.size q → A0 q := by
  intro q h
  rcases h with ⟨k, e, h⟩ | h
  · exact hD.2 k (q, e) h
  · exact hA q (Nat.le_trans hS.1 h)
theorem keepP (hP : va_P D cl a H) (hk : ∀ q : Nat, q < H.size → ¬ va_A r H.size q → H1[q]? = H[q]?) (hx : ∀ (i j : Nat) (x y : Nat × va_E), a[i]? = some x → r[j]? = some y → x.1 ≠ y.1) : va_P D cl a H1 := fun i q hq => by
  have h1 := hP i q hq
  refine h1.kept (hk _ h1.lt ?_)
  rintro (⟨k, e, h⟩ | h)
  · exact hx i k q (q.1, e) hq h rfl
  · have := h1.lt; omega
theorem sepD (hP : va_P D cl a H) (hx : ∀ (i j : Nat) (x y : Nat × va_E), a[i]? = some x → r[j]? = some y → x.1 ≠ y.1) (hD1 : va_D (va_A r H.size) w1) {i j : Nat} {x y : Nat × va_E} (h1 : a[i]? = some x) (h2 : w1[j]? = some y) : x.1 ≠ y.1 := fun he => by
  have h3 := hD1.2 j y h2
  have h4 := (hP i x h1).lt
  rcases h3 with ⟨k, e, h⟩ | h
  · exact hx i k x (y.1, e) h1 h he
  · omega
/-- behind a call on the left part -/
theorem jL (hP : va_P D cl (r ++ c) H) (hD : va_D A0 (r ++ c)) (hk : ∀ q : Nat, q < H.size → ¬ va_A r H.size q → H1[q]? = H[q]?) (hF : ∀ q, va_A r H.size q → A0 q) (hP1 : va_P D cl w1 H1) (hD1 : va_D (va_A r H.size) w1) : va_P D cl (w1 ++ c) H1 ∧ va_D A0 (w1 ++ c) := by
  have hx : ∀ (i j : Nat) (x y : Nat × va_E), c[i]? = some x → r[j]? = some y → x.1 ≠ y.1 := fun i j x y h1 h2 he => dX hD h2 h1 he.symm
  exact ⟨va_P.app hP1 (keepP (pR hP) hk hx), va_D.app (hD1.weaken (fun k q _ h => hF q.1 h)) (dR hD) (fun i j x y h1 h2 he => sepD (pR hP) hx hD1 h2 h1 he.symm)⟩
/-- behind a call on the right part -/
theorem jR (hP : va_P D cl (a ++ r) H) (hD : va_D A0 (a ++ r)) (hk : ∀ q : Nat, q < H.size → ¬ va_A r H.size q → H1[q]? = H[q]?) (hF : ∀ q, va_A r H.size q → A0 q) (hP1 : va_P D cl w1 H1) (hD1 : va_D (va_A r H.size) w1) : va_P D cl (a ++ w1) H1 ∧ va_D A0 (a ++ w1) := by
  have hx : ∀ (i j : Nat) (x y : Nat × va_E), a[i]? = some x → r[j]? = some y → x.1 ≠ y.1 := fun i j x y h1 h2 => dX hD h1 h2
  exact ⟨va_P.app (keepP (pL hP) hk hx) hP1, va_D.app (dL hD) (hD1.weaken (fun k q _ h => hF q.1 h)) (fun i j x y h1 h2 => sepD (pL hP) hx hD1 h1 h2)⟩
/-- behind a call on the middle -/
theorem jM (hP : va_P D cl (a ++ (r ++ c)) H) (hD : va_D A0 (a ++ (r ++ c))) (hk : ∀ q : Nat, q < H.size → ¬ va_A r H.size q → H1[q]? = H[q]?) (hF : ∀ q, va_A r H.size q → A0 q) (hP1 : va_P D cl w1 H1) (hD1 : va_D (va_A r H.size) w1) : va_P D cl (a ++ (w1 ++ c)) H1 ∧ va_D A0 (a ++ (w1 ++ c)) := by
  obtain ⟨k1, k2⟩ := jL (pR hP) (dR hD) hk hF hP1 hD1
  have hx : ∀ (i j : Nat) (x y : Nat × va_E), a[i]? = some x → r[j]? = some y → x.1 ≠ y.1 := fun i j x y h1 h2 => dX hD h1 (at_l h2)
  refine ⟨va_P.app (keepP (pL hP) hk hx) k1, va_D.app (dL hD) k2 (fun i j x y h1 h2 => ?_)⟩
  rcases Nat.lt_or_ge j w1.length with hj | hj
  · rw [List.getElem?_append_left hj] at h2
    exact sepD (pL hP) hx hD1 h1 h2
  · rw [List.getElem?_append_right hj] at h2
    exact dX hD h1 (at_r (a := r) h2)
/-- the last cell to the front -/
theorem rotP {o : Nat × va_E} (hP : va_P D cl (a ++ [o]) H) : va_P D cl (o :: a) H := va_P.app (w1 := [o]) (pR hP) (pL hP)
theorem rotD {o : Nat × va_E} (hD : va_D A0 (a ++ [o])) : va_D A0 (o :: a) := va_D.app (w1 := [o]) (dR hD) (dL hD) (fun i j x y h1 h2 he => dX hD h2 h1 he.symm)
end JN
section MS
variable {l : Launch} {y : MethodName} {ws : List Cond} {rm : Room} {Pc Pc' : Array Value → State → Prop} {Qc Qc' : Array Value → State → Outcome → State → Prop} {mc ms : Nat} {free free' : Addr → Prop} {D : va_G} {k : Nat → ClassId} {wc wb : va_W} {av : List Value}
theorem Met.weak (h : Met l y ws rm Pc Qc mc ms free) (hp : ∀ a s, Pc' a s → Pc a s) (hq : ∀ a s o t, Pc' a s → Qc a s o t → Qc' a s o t) (hf : ∀ q, free q → free' q) : Met l y ws rm Pc' Qc' mc ms free' := by
  intro p e h1 h2 h3 s m args below h4 h5 h6 h7
  obtain ⟨n, o, k1, k2, k3, k4, L, k5, k6⟩ := h p e h1 h2 h3 s m args below h4 h5 (hp _ _ h6) h7
  exact ⟨n, o, k1, k2, k3, hq _ _ _ _ h6 k4, L, k5, fun q hq => hf _ (k6 q hq)⟩
theorem MetT.weak {X : String} (h : MetT l y ws rm Pc X) (hp : ∀ a s, Pc' a s → Pc a s) : MetT l y ws rm Pc' X := by
  intro p e h1 h2 h3 s m args below h4 h5 h6 h7
  exact h p e h1 h2 h3 s m args below h4 h5 (hp _ _ h6) h7
theorem va_P.subl {H : Heap} (hP : va_P D classes wb H) (isC : List Nat) (hC : isC.map (fun i => wb[i]?) = wc.map some) : va_P D classes wc H := fun j q hq => by
  have h1 : (isC.map (fun i => wb[i]?))[j]? = some (some q) := by rw [hC, List.getElem?_map, hq]; rfl
  rw [List.getElem?_map] at h1
  cases hi : isC[j]? with
  | none => rw [hi] at h1; cases h1
  | some i => rw [hi] at h1; exact hP i q (Option.some.inj h1)
/-- a reader's contract, over a larger world -/
theorem sub_r (h : Met l y ws rm (va_Pc av (PRO D k wc)) Qc mc ms free) (isC : List Nat) (hC : isC.map (fun i => wb[i]?) = wc.map some) : Met l y ws rm (va_Pc av (PRO D k wb)) Qc mc ms free :=
  h.weak (fun _ _ q => ⟨q.1, q.2.1.subl isC hC, q.2.2⟩) (fun _ _ _ _ _ q => q) (fun _ q => q)
theorem sub_t {X : String} (h : MetT l y ws rm (va_Pc av (PTX D k wc)) X) (isC : List Nat) (hC : isC.map (fun i => wb[i]?) = wc.map some) : MetT l y ws rm (va_Pc av (PTX D k wb)) X :=
  h.weak (fun _ _ q => ⟨q.1, ⟨q.2.1.1.subl isC hC, q.2.1.2⟩, q.2.2⟩)
/-- places changed -/
def updW (wb : va_W) (is : List Nat) (w : va_W) : va_W := (is.zip w).foldl (fun a p => a.set p.1 p.2) wb
theorem updW_0 (wb w : va_W) : updW wb [] w = wb := by simp [updW]
theorem updW_1 (wb w : va_W) (is : List Nat) (i : Nat) (q : Nat × va_E) : updW wb (i :: is) (q :: w) = updW (wb.set i q) is w := rfl
end MS
section LF
variable {A0 : Nat → Prop} {D : va_G} {cl : List vw_C} {H H1 : Heap}
/-- what stands where -/
theorem updW_at : ∀ (is : List Nat) (w wb : va_W), is.length = w.length → va_nd is = true → ∀ (i : Nat) (q : Nat × va_E), (updW wb is w)[i]? = some q → (i ∉ is ∧ wb[i]? = some q) ∨ ∃ j : Nat, is[j]? = some i ∧ w[j]? = some q
  | [], w, wb, _, _, i, q, h => Or.inl ⟨by simp, by rw [updW_0] at h; exact h⟩
  | i0 :: is, [], _, hl, _, _, _, _ => by cases hl
  | i0 :: is, q0 :: w, wb, hl, hn, i, q, h => by
    have hn2 : va_nd is = true ∧ i0 ∉ is := by
      simp only [va_nd, Bool.and_eq_true] at hn
      simp_all
    rw [updW_1] at h
    rcases updW_at is w (wb.set i0 q0) (by simpa using hl) hn2.1 i q h with ⟨h1, h2⟩ | ⟨j, h1, h2⟩
    · by_cases he : i0 = i
      · subst he
        refine Or.inr ⟨0, rfl, ?_⟩
        have hlt : i0 < (wb.set i0 q0).length := (List.getElem?_eq_some_iff.mp h2).1
        rw [List.length_set] at hlt
        rw [List.getElem?_set_self hlt] at h2
        exact h2
      · rw [List.getElem?_set_ne he] at h2
        exact Or.inl ⟨by simp only [List.mem_cons, not_or]; exact ⟨fun q => he q.symm, h1⟩, h2⟩
    · exact Or.inr ⟨j + 1, h1, h2⟩
end LF
section LG
variable {A0 : Nat → Prop} {D : va_G} {cl : List vw_C} {wb wc w1 : va_W} {H H1 : Heap}
theorem is_at {is : List Nat} (hC : is.map (fun i => wb[i]?) = wc.map some) {j : Nat} {q : Nat × va_E} (h : wc[j]? = some q) : ∃ i, is[j]? = some i ∧ wb[i]? = some q := by
  have h1 : (is.map (fun i => wb[i]?))[j]? = some (some q) := by rw [hC, List.getElem?_map, h]; rfl
  rw [List.getElem?_map] at h1
  cases hi : is[j]? with
  | none => rw [hi] at h1; cases h1
  | some i => rw [hi] at h1; exact ⟨i, rfl, Option.some.inj h1⟩
theorem joinU (hP : va_P D cl wb H) (hD : va_D A0 wb) (is : List Nat) (hC : is.map (fun i => wb[i]?) = wc.map some) (hn : va_nd is = true) (hl : is.length = w1.length)
    (hk : ∀ q : Nat, q < H.size → ¬ va_A wc H.size q → H1[q]? = H[q]?) (hF : ∀ q, va_A wc H.size q → A0 q) (hP1 : va_P D cl w1 H1) (hD1 : va_D (va_A wc H.size) w1) : va_P D cl (updW wb is w1) H1 ∧ va_D A0 (updW wb is w1) := by
  have hat := updW_at is w1 wb hl hn
  have old : ∀ (i : Nat) (q : Nat × va_E), i ∉ is → wb[i]? = some q → q.1 < H.size ∧ ¬ va_A wc H.size q.1 := by
    intro i q hi hq
    have hlt := (hP i q hq).lt
    refine ⟨hlt, ?_⟩
    rintro (⟨k2, e, h⟩ | h)
    · obtain ⟨j, h3, h4⟩ := is_at hC h
      have hij := hD.1 i j q (q.1, e) hq h4 rfl
      subst hij
      exact hi (List.mem_of_getElem? h3)
    · omega
  refine ⟨fun i q h => ?_, fun i j x y hx hy he => ?_, fun i q h => ?_⟩
  · rcases hat i q h with ⟨h1, h2⟩ | ⟨j, h1, h2⟩
    · obtain ⟨g1, g2⟩ := old i q h1 h2
      exact (hP i q h2).kept (hk q.1 g1 g2)
    · exact hP1 j q h2
  · rcases hat i x hx with ⟨h1, h2⟩ | ⟨a, h1, h2⟩ <;> rcases hat j y hy with ⟨h3, h4⟩ | ⟨b, h3, h4⟩
    · exact hD.1 i j x y h2 h4 he
    · exact absurd (by rw [he]; exact hD1.2 b y h4) (old i x h1 h2).2
    · exact absurd (by rw [← he]; exact hD1.2 a x h2) (old j y h3 h4).2
    · have hab := hD1.1 a b x y h2 h4 he
      subst hab
      rw [h1] at h3
      exact Option.some.inj h3
  · rcases hat i q h with ⟨h1, h2⟩ | ⟨j, h1, h2⟩
    · exact hD.2 i q h2
    · exact hF q.1 (hD1.2 j q h2)
theorem va_A.up {sz : Nat} {is : List Nat} (hC : is.map (fun i => wb[i]?) = wc.map some) : ∀ q, va_A wc sz q → va_A wb sz q := by
  rintro q (⟨k2, e, h⟩ | h)
  · obtain ⟨j, _, h4⟩ := is_at hC h
    exact Or.inl ⟨j, e, h4⟩
  · exact Or.inr h
end LG
section LH
variable {l : Launch} {y : MethodName} {ws : List Cond} {rm : Room} {mc ms sz : Nat} {D : va_G} {k : Nat → ClassId} {wc wb : va_W} {av : List Value} {S : Type}
theorem prw_up {U : State} {is : List Nat} (hC : is.map (fun i => wb[i]?) = wc.map some) (hn : va_nd is = true) (h : PRW D k wb sz U) : PRW D k wc sz U :=
  ⟨h.1, h.2.1.subl is hC, h.2.2.1, h.2.2.2.1.sub is hn hC, h.2.2.2.2.mono va_S.rf (va_A.up hC)⟩
theorem brw_up {U t : State} {w1 : va_W} {is : List Nat} (hC : is.map (fun i => wb[i]?) = wc.map some) (hn : va_nd is = true) (hl : is.length = w1.length) (h : PRW D k wb sz U) (hF : va_F (va_A wc sz) U t) (hB : BRW D wc sz w1 t) : BRW D wb sz (updW wb is w1) t := by
  obtain ⟨hs, hP, hK, hD, hX⟩ := h
  subst hs
  exact joinU hP hD.self is hC hn hl (fun q h1 h2 => hF.2 q h1 h2) (va_A.up hC) hB.1 hB.2
theorem vf_up {U t : State} {is : List Nat} (hC : is.map (fun i => wb[i]?) = wc.map some) (hF : va_F (va_A wc sz) U t) : va_F (va_A wb sz) U t := ⟨hF.1, fun q h1 h2 => hF.2 q h1 (fun z => h2 (va_A.up hC q z))⟩
/-- a writer's contract, over a larger world -/
theorem lift_i {post : Int32 → S → Prop} {w1 : S → va_W} (h : Met l y ws rm (va_Pc av (PRW D k wc sz)) (va_Qi post (fun u t => BRW D wc sz (w1 u) t) (va_A wc sz)) mc ms (va_A wc sz)) (is : List Nat) (hC : is.map (fun i => wb[i]?) = wc.map some) (hn : va_nd is = true) (hl : ∀ u, is.length = (w1 u).length) :
    Met l y ws rm (va_Pc av (PRW D k wb sz)) (va_Qi post (fun u t => BRW D wb sz (updW wb is (w1 u)) t) (va_A wb sz)) mc ms (va_A wb sz) :=
  h.weak (fun _ _ q => ⟨q.1, prw_up hC hn q.2⟩) (fun a s o t q hq => by
    obtain ⟨⟨r, u, h1, h2, h3⟩, h4⟩ := hq
    exact ⟨⟨r, u, h1, h2, brw_up hC hn (hl u) q.2 h4 h3⟩, vf_up hC h4⟩) (va_A.up hC)
theorem lift_v {post : S → Prop} {w1 : S → va_W} (h : Met l y ws rm (va_Pc av (PRW D k wc sz)) (va_Qv post (fun u t => BRW D wc sz (w1 u) t) (va_A wc sz)) mc ms (va_A wc sz)) (is : List Nat) (hC : is.map (fun i => wb[i]?) = wc.map some) (hn : va_nd is = true) (hl : ∀ u, is.length = (w1 u).length) :
    Met l y ws rm (va_Pc av (PRW D k wb sz)) (va_Qv post (fun u t => BRW D wb sz (updW wb is (w1 u)) t) (va_A wb sz)) mc ms (va_A wb sz) :=
  h.weak (fun _ _ q => ⟨q.1, prw_up hC hn q.2⟩) (fun a s o t q hq => by
    obtain ⟨⟨u, h1, h2, h3⟩, h4⟩ := hq
    exact ⟨⟨u, h1, h2, brw_up hC hn (hl u) q.2 h4 h3⟩, vf_up hC h4⟩) (va_A.up hC)
end LH
/-- the law's cell for answers -/
abbrev OUT (k : Nat → ClassId) (ao : Nat) (f : Nat → Int64) : Nat × va_E := (ao, .inl (k 1, 1, .inr (.inl f)))
/-- where a helper of the law begins -/
abbrev PTW (D : va_G) (k : Nat → ClassId) (ws : va_W) (sz : Nat) : State → Prop := fun U => PRW D k ws sz U ∧ TX (va_A ws sz) U U.heap
theorem ctIO {A : Nat → Prop} {H : Heap} {args : Array Value} {s : State} {a b c : Nat} {es : List ExceptionTableEntry} (hl : (Cond.classLink R_LW 13 xIO).before args s = true) (hT : TX A s H) {cls : ClassId} (hc : s.vm.findClass xIO = some cls) {pc : Nat} (hpc : covers ⟨a, b, c, 13⟩ pc = true) : CT R_LW args s cls pc c (⟨a, b, c, 13⟩ :: es) := by
  obtain ⟨c1, c2, e1, e2, e3⟩ := Cond.castable_spec (hT.2.2.2.2.2.2.1 (.castable xIO xIO) (by simp [TXW]))
  cases hc.symm.trans e1
  exact ⟨hpc, by show (13 : Nat) ≠ 0; decide, xIO, c2, hl, e2, Or.inl ⟨e3, rfl⟩⟩
theorem ctIS {A : Nat → Prop} {H : Heap} {args : Array Value} {s : State} {a b c c2 : Nat} {es : List ExceptionTableEntry} (hl : (Cond.classLink R_LW 13 xIO).before args s = true) (hl2 : (Cond.classLink R_LW 19 xIS).before args s = true) (hT : TX A s H) {cls : ClassId} (hc : s.vm.findClass xIS = some cls) {pc : Nat} (hpc : covers ⟨a, b, c, 13⟩ pc = true) (hpc2 : covers ⟨a, b, c2, 19⟩ pc = true) : CT R_LW args s cls pc c2 (⟨a, b, c, 13⟩ :: ⟨a, b, c2, 19⟩ :: es) := by
  obtain ⟨d1, d2, e1, e2, e3⟩ := Cond.castable_spec (hT.2.2.2.2.2.2.1 (.castable xIO xIO) (by simp [TXW]))
  obtain ⟨f1, f2, g1, g2, g3⟩ := Cond.castable_spec (hT.2.2.2.2.2.2.1 (.castable xIS xIS) (by simp [TXW]))
  cases hc.symm.trans g1
  exact ⟨hpc, by show (13 : Nat) ≠ 0; decide, xIO, d1, hl, e1, Or.inr ⟨hT.2.2.2.2.2.2.2 _ _ hc e1, hpc2, by show (19 : Nat) ≠ 0; decide, xIS, f2, hl2, g2, Or.inl ⟨g3, rfl⟩⟩⟩
theorem keepA {D : va_G} {cl : List vw_C} {a : va_W} {H H1 : Heap} (hP : va_P D cl a H) (hk : ∀ q : Nat, q < H.size → H1[q]? = H[q]?) : va_P D cl a H1 := fun i q hq => (hP i q hq).kept (hk _ (hP i q hq).lt)
abbrev hh_LW_compile : List (Nat × Nat × Nat × Nat) := [(0, 9, 12, 13)]
set_option maxRecDepth 20000 in
theorem kc_LW_compile : Cond.codeWith y_LW_compile b_LW_compile 4 (some .int) hh_LW_compile ∈ ALLW := kw 324 (by rfl) rfl
abbrev wd_LW_compile : List Cond := .codeWith y_LW_compile b_LW_compile 4 (some .int) hh_LW_compile :: ALLW
theorem good_LW_compile : GoodIn ALLW wd_LW_compile := good_allW kc_LW_compile
abbrev rl_LW_compile : Room := { frames := 9, cells := 0, slots := 0, locals := 195 }
abbrev rx_LW_compile : Room := { frames := 9, cells := 1, slots := 6, locals := 195 }
abbrev hh_LW_at : List (Nat × Nat × Nat × Nat) := [(0, 12, 15, 13), (0, 12, 19, 19)]
set_option maxRecDepth 20000 in
theorem kc_LW_at : Cond.codeWith y_LW_at b_LW_at 6 (some .int) hh_LW_at ∈ ALLW := kw 563 (by rfl) rfl
abbrev wd_LW_at : List Cond := .codeWith y_LW_at b_LW_at 6 (some .int) hh_LW_at :: ALLW
theorem good_LW_at : GoodIn ALLW wd_LW_at := good_allW kc_LW_at
abbrev rl_LW_at : Room := { frames := 10, cells := 0, slots := 0, locals := 220 }
abbrev rx_LW_at : Room := { frames := 10, cells := 1, slots := 6, locals := 220 }
abbrev hh_LW_which : List (Nat × Nat × Nat × Nat) := [(0, 12, 15, 13), (0, 12, 19, 19)]
set_option maxRecDepth 20000 in
theorem kc_LW_which : Cond.codeWith y_LW_which b_LW_which 6 (some .int) hh_LW_which ∈ ALLW := kw 608 (by rfl) rfl
abbrev wd_LW_which : List Cond := .codeWith y_LW_which b_LW_which 6 (some .int) hh_LW_which :: ALLW
theorem good_LW_which : GoodIn ALLW wd_LW_which := good_allW kc_LW_which
abbrev rl_LW_which : Room := { frames := 10, cells := 0, slots := 0, locals := 220 }
abbrev rx_LW_which : Room := { frames := 10, cells := 1, slots := 6, locals := 220 }
abbrev hh_LW_next : List (Nat × Nat × Nat × Nat) := [(0, 12, 15, 13), (0, 12, 19, 19)]
set_option maxRecDepth 20000 in
theorem kc_LW_next : Cond.codeWith y_LW_next b_LW_next 6 (some .int) hh_LW_next ∈ ALLW := kw 615 (by rfl) rfl
abbrev wd_LW_next : List Cond := .codeWith y_LW_next b_LW_next 6 (some .int) hh_LW_next :: ALLW
theorem good_LW_next : GoodIn ALLW wd_LW_next := good_allW kc_LW_next
abbrev rl_LW_next : Room := { frames := 10, cells := 0, slots := 0, locals := 226 }
abbrev rx_LW_next : Room := { frames := 10, cells := 1, slots := 6, locals := 226 }
abbrev hh_LW_total : List (Nat × Nat × Nat × Nat) := [(0, 14, 17, 13), (0, 14, 21, 19)]
set_option maxRecDepth 20000 in
theorem kc_LW_total : Cond.codeWith y_LW_total b_LW_total 7 (some .int) hh_LW_total ∈ ALLW := kw 655 (by rfl) rfl
abbrev wd_LW_total : List Cond := .codeWith y_LW_total b_LW_total 7 (some .int) hh_LW_total :: ALLW
theorem good_LW_total : GoodIn ALLW wd_LW_total := good_allW kc_LW_total
abbrev rl_LW_total : Room := { frames := 9, cells := 0, slots := 0, locals := 199 }
abbrev rx_LW_total : Room := { frames := 9, cells := 1, slots := 6, locals := 199 }
abbrev hh_LW_elapsed : List (Nat × Nat × Nat × Nat) := [(0, 12, 15, 13)]
set_option maxRecDepth 20000 in
theorem kc_LW_elapsed : Cond.codeWith y_LW_elapsed b_LW_elapsed 6 (some .int) hh_LW_elapsed ∈ ALLW := kw 668 (by rfl) rfl
abbrev wd_LW_elapsed : List Cond := .codeWith y_LW_elapsed b_LW_elapsed 6 (some .int) hh_LW_elapsed :: ALLW
theorem good_LW_elapsed : GoodIn ALLW wd_LW_elapsed := good_allW kc_LW_elapsed
abbrev rl_LW_elapsed : Room := { frames := 9, cells := 0, slots := 0, locals := 196 }
abbrev rx_LW_elapsed : Room := { frames := 9, cells := 1, slots := 6, locals := 196 }
abbrev hh_LW_compare : List (Nat × Nat × Nat × Nat) := [(0, 10, 13, 13), (0, 10, 17, 19)]
set_option maxRecDepth 20000 in
theorem kc_LW_compare : Cond.codeWith y_LW_compare b_LW_compare 5 (some .int) hh_LW_compare ∈ ALLW := kw 675 (by rfl) rfl
abbrev wd_LW_compare : List Cond := .codeWith y_LW_compare b_LW_compare 5 (some .int) hh_LW_compare :: ALLW
theorem good_LW_compare : GoodIn ALLW wd_LW_compare := good_allW kc_LW_compare
abbrev rl_LW_compare : Room := { frames := 9, cells := 0, slots := 0, locals := 199 }
abbrev rx_LW_compare : Room := { frames := 9, cells := 1, slots := 6, locals := 199 }
abbrev hh_LW_inside : List (Nat × Nat × Nat × Nat) := [(0, 17, 20, 13), (0, 17, 24, 19)]
set_option maxRecDepth 20000 in
theorem kc_LW_inside : Cond.codeWith y_LW_inside b_LW_inside 5 (some .int) hh_LW_inside ∈ ALLW := kw 686 (by rfl) rfl
abbrev wd_LW_inside : List Cond := .codeWith y_LW_inside b_LW_inside 5 (some .int) hh_LW_inside :: ALLW
theorem good_LW_inside : GoodIn ALLW wd_LW_inside := good_allW kc_LW_inside
abbrev rl_LW_inside : Room := { frames := 9, cells := 0, slots := 0, locals := 199 }
abbrev rx_LW_inside : Room := { frames := 9, cells := 1, slots := 6, locals := 199 }
abbrev hh_LW_dead : List (Nat × Nat × Nat × Nat) := [(0, 10, 13, 13), (0, 10, 17, 19)]
set_option maxRecDepth 20000 in
theorem kc_LW_dead : Cond.codeWith y_LW_dead b_LW_dead 5 (some .int) hh_LW_dead ∈ ALLW := kw 697 (by rfl) rfl
abbrev wd_LW_dead : List Cond := .codeWith y_LW_dead b_LW_dead 5 (some .int) hh_LW_dead :: ALLW
theorem good_LW_dead : GoodIn ALLW wd_LW_dead := good_allW kc_LW_dead
abbrev rl_LW_dead : Room := { frames := 9, cells := 0, slots := 0, locals := 197 }
abbrev rx_LW_dead : Room := { frames := 9, cells := 1, slots := 6, locals := 197 }
abbrev hh_LW_run : List (Nat × Nat × Nat × Nat) := [(0, 14, 17, 13), (0, 14, 21, 19)]
set_option maxRecDepth 20000 in
theorem kc_LW_run : Cond.codeWith y_LW_run b_LW_run 7 (some .int) hh_LW_run ∈ ALLW := kw 708 (by rfl) rfl
abbrev wd_LW_run : List Cond := .codeWith y_LW_run b_LW_run 7 (some .int) hh_LW_run :: ALLW
theorem good_LW_run : GoodIn ALLW wd_LW_run := good_allW kc_LW_run
abbrev rl_LW_run : Room := { frames := 10, cells := 0, slots := 0, locals := 222 }
abbrev rx_LW_run : Room := { frames := 10, cells := 1, slots := 6, locals := 222 }
theorem k13 : Cond.classLink R_LW 13 xIO ∈ ALLW := kw 325 (by decide +kernel) rfl
theorem k19 : Cond.classLink R_LW 19 xIS ∈ ALLW := kw 564 (by decide +kernel) rfl
