def upX : List String := ["java/lang/RuntimeException", "java/lang/Exception"]
def isR1 : Cond := .isRef (.static Bundle.tN "UNASSIGNED_STACK" Bundle.steD)
def isR2 : Cond := .isRef (.static Bundle.tN "SUPPRESSED_SENTINEL" Bundle.listD)
def lsR1 : Cond := .laysStatic Bundle.tN "UNASSIGNED_STACK" Bundle.steD
def lsR2 : Cond := .laysStatic Bundle.tN "SUPPRESSED_SENTINEL" Bundle.listD
def xIO : String := "java/lang/IndexOutOfBoundsException"
def xIS : String := "java/lang/IllegalStateException"
/-- words of the tables that the kit's list of good ones leaves out -/
def TXW : List Cond := [.declares (Bundle.initS "java/lang/RuntimeException"), .declares (Bundle.initS "java/lang/Exception"), .declares (Bundle.initS Bundle.tN), .castable xIO xIO, .castable xIS xIS]
def STW : List Cond := [isR1, isR2, lsR1, lsR2]
def th_chk : List Cond → List Nat → Bool
  | [], _ => true
  | _ :: _, [] => false
  | w :: ws, i :: is => ((decide (lw_tbl[i]? = some w) && goodWord w) || decide (w ∈ TXW) || decide (w ∈ STW)) && th_chk ws is
theorem th_chk_in : ∀ {ws : List Cond} {is : List Nat}, th_chk ws is = true → ∀ w ∈ ws, w ∈ ALLW ∨ w ∈ TXW ∨ w ∈ STW
  | [], _, _, _, hw => by cases hw
  | _ :: _, [], h, _, _ => by cases h
  | w0 :: ws, i :: is, h, w, hw => by
    have h1 : (((decide (lw_tbl[i]? = some w0) && goodWord w0) || decide (w0 ∈ TXW) || decide (w0 ∈ STW)) && th_chk ws is) = true := h
    simp only [Bool.and_eq_true, Bool.or_eq_true, decide_eq_true_eq] at h1
    rcases List.mem_cons.mp hw with rfl | hw
    · rcases h1.1 with (⟨a, b⟩ | q) | q
      · exact Or.inl (kw i a b)
      · exact Or.inr (Or.inl q)
      · exact Or.inr (Or.inr q)
    · exact th_chk_in h1.2 w hw
/-- a static field that holds a reference or null, its cell not among A -/
def TZ (C n d : String) (A : Nat → Prop) (U : State) (H : Heap) : Prop := ∃ (c : ClassId) (k : Class) (i : Nat) (f : Field) (a : Nat) (cell : Cell) (v : Value), U.vm.findClass C = some c ∧ U.fieldFound? C n d = some (c, k, i, f) ∧ f.isStatic = true ∧ k.statics = some a ∧ H[a]? = some cell ∧ cell.vm.isStatics = true ∧ cell.cls = c ∧ f.slot < cell.slots.size ∧ k.staticTypes[f.slot]? = some f.type ∧ cell.slots[f.slot]? = some v ∧ v.isRef = true ∧ ¬ A a
theorem TZ.moved {C n d : String} {A : Nat → Prop} {u U : State} {H : Heap} (hvm : u.vm.Alike U.vm) (h : TZ C n d A u H) : TZ C n d A U H := by
  obtain ⟨c, k, i, f, a, cell, v, h0, h1, h2, h3, h4, h5, h6, h7, h8, h9⟩ := h
  obtain ⟨k', hi', he⟩ := State.fieldFound?_setVm hvm h1
  exact ⟨c, k', i, f, a, cell, v, by rw [hvm.findClass]; exact h0, hi', h2, by rw [he]; exact h3, h4, h5, h6, h7, by rw [he]; exact h8, h9⟩
theorem TZ.kept {C n d : String} {A B : Nat → Prop} {U : State} {H H1 : Heap} (h : TZ C n d A U H) (hq : ∀ a : Nat, a < H.size → ¬ A a → H1[a]? = H[a]?) (hBA : ∀ q, B q → A q) : TZ C n d B U H1 := by
  obtain ⟨c, k, i, f, a, cell, v, h0, h1, h2, h3, h4, h5, h6, h7, h8, h9, h10, h11⟩ := h
  exact ⟨c, k, i, f, a, cell, v, h0, h1, h2, h3, by rw [hq a (Array.getElem?_eq_some_iff.mp h4).1 h11]; exact h4, h5, h6, h7, h8, h9, h10, fun z => h11 (hBA a z)⟩
theorem TZ.isRef {args : Array Value} {s : State} {A : Nat → Prop} {C n d : String} (h : TZ C n d A s s.heap) : (Cond.isRef (.static C n d)).before args s = true := by
  obtain ⟨c, k, i, f, a, cell, v, h0, h1, h2, h3, h4, h5, h6, h7, h8, h9, h10, h11⟩ := h
  have he : (Term.static C n d).eval args s none [] s = some v := Term.static_eval h1 h2 h3 h4 h5 h9
  simp only [Cond.before, Cond.holds, Cond.value, he]
  cases v <;> simp_all [Value.isRef]
theorem TZ.lays {args : Array Value} {s : State} {A : Nat → Prop} {C n d : String} (h : TZ C n d A s s.heap) : (Cond.laysStatic C n d).before args s = true := by
  obtain ⟨c, k, i, f, a, cell, v, h0, h1, h2, h3, h4, h5, h6, h7, h8, h9, h10, h11⟩ := h
  simp [Cond.before, Cond.holds, Cond.value, h0, h1, h2, h3, h4, h5, h6, h7, h8]
theorem TZ.of {args : Array Value} {s : State} {A : Nat → Prop} {C n d : String} (hl : (Cond.laysStatic C n d).before args s = true) (hr : (Cond.isRef (.static C n d)).before args s = true) (hA : ∀ a : Nat, a < s.heap.size → ¬ A a) : TZ C n d A s s.heap := by
  obtain ⟨c, k, i, f, a, cell, h0, h1, h2, h3, h4, h5, h6, h7, h8⟩ := Cond.laysStatic_spec hl
  have hv : cell.slots[f.slot]? = some cell.slots[f.slot] := Array.getElem?_eq_getElem h7
  have he : (Term.static C n d).eval args s none [] s = some cell.slots[f.slot] := Term.static_eval h1 h2 h3 h4 h5 hv
  refine ⟨c, k, i, f, a, cell, _, h0, h1, h2, h3, h4, h5, h6, h7, h8, hv, ?_, hA a (Array.getElem?_eq_some_iff.mp h4).1⟩
  simp only [Cond.before, Cond.holds, Cond.value, he] at hr
  generalize cell.slots[f.slot] = v at hr
  cases v <;> simp_all [Value.isRef]
theorem txw_warm {s U : State} (hW : s.WarmedH U.vm) (h : ∀ w ∈ TXW, va_Nw w s) : ∀ w ∈ TXW, va_Nw w U := by
  intro w hw
  have h1 := h w hw
  simp only [TXW, List.mem_cons, List.not_mem_nil, or_false] at hw
  rcases hw with rfl | rfl | rfl | rfl | rfl
  · exact h1.warmD hW
  · exact h1.warmD hW
  · exact h1.warmD hW
  · exact h1.warmC hW
  · exact h1.warmC hW
theorem txw_on {w : Cond} (hw : w ∈ TXW) : w.onTables = true := by
  simp only [TXW, List.mem_cons, List.not_mem_nil, or_false] at hw
  rcases hw with rfl | rfl | rfl | rfl | rfl <;> rfl
/-- a method's end that throws an X: one cell is new, nothing else has changed -/
def QT (X : String) (st : State) (o : Outcome) (t : State) : Prop := ∃ (x : Nat) (ce : Cell), o = .threw x ∧ st.heap.size ≤ x ∧ t.heap[x]? = some ce ∧ ce.vm.isStatics = false ∧ st.vm.findClass X = some ce.cls ∧ st.WarmedH t.vm ∧ st.sameButNew ({ t with vm := st.vm } : State) [] 1 6
def TQ (below : List Frame) (X : String) (s : State) : State → Prop := fun t => ∃ o, t.status = .running ∧ Ended t below o ∧ QT X s o t
/-- a contract of a method that throws -/
def MetT (l : Launch) (y : MethodName) (ws : List Cond) (rm : Room) (Pc : Array Value → State → Prop) (X : String) : Prop := MetFree l y (headSpec ws rm) Pc (fun _ _ _ _ _ => True) (fun _ st o t => QT X st o t)
section TH0
variable {l : Launch} {y : MethodName} {ws ws' : List Cond} {rm : Room} {cc : ByteArray} {nL : Nat} {rt : Option FieldType} {X : String} {av : List Value} {B0 : State → Prop}
theorem r_t (hl : l.stackTraces = false) (hy : plainName y.cls = true) (hw : ws = Cond.code y cc nL rt :: ws') (hlen : (lg_sl av).length ≤ nL)
  (body : ∀ (p : Program) (e : Env) (s : State) (m : MethodId) (args : Array Value) (below : List Frame) (meth : Method) (c : Code) (ls : Array Slot),
     p.tables.exec = Jvm.exec → c.code = cc → c.maxLocals = nL → s.vm.findClass y.cls = some m.cls → (∀ w ∈ ws', w.before args s = true) → B0 s → lv_has ls nL (lv_args 0 av) → e.platform.stackTraces = false → (∀ pc, ∀ x ∈ c.exceptionTable.toList, covers x pc = false) → meth.locks = false →
     W p l e rm s m args below meth c s.heap [] 0 0 (TQ below X s) (F0 m 0 ls [])) : MetT l y ws rm (va_Pc av B0) X := by
  refine MetFree.of_bodyS (code := cc) (maxLocals := nL) (ret := rt) hy ?_ ?_
  · intro args s m h hn
    obtain ⟨meth, c, h1, h2, h3, h4, h5, h6, -, -⟩ := Cond.code_spec hn (atoms_spec (ws := ws) h _ (by rw [hw]; exact List.mem_cons_self))
    exact ⟨meth, c, h1, h2, h3, h4, h5, h6⟩
  · intro p e s m args below meth c s₁ B hml hP _
    obtain ⟨rfl, hB0⟩ := hP
    have hh0 : s₁.heap = s.heap := by rw [B.state]; rfl
    have X0 := Stand.of_body B
    have htr : e.platform.stackTraces = false := by rw [show e.platform.stackTraces = l.stackTraces by rw [X0.admits.platform]]; exact hl
    have hts : ∀ w ∈ ws, w.before av.toArray s = true := atoms_spec (ws := ws) B.pre
    have hcode : (Cond.code y cc nL rt).before av.toArray s = true := hts _ (by rw [hw]; exact List.mem_cons_self)
    have K := body p e s m _ below meth c _ B.exec B.bytes hml (findClass_of_methodNamed B.named) (fun w h => hts w (by rw [hw]; exact List.mem_cons_of_mem _ h)) hB0 (lv_entry av hlen) htr (fun pc => covers_of_empty (B.noHandlers hcode) pc) B.notSynchronized
    rw [← lg_entry_eq] at K
    obtain ⟨t, a1, o, b1, b2, b3⟩ := K s₁ hh0 X0
    exact ⟨t, o, a1, b1, b2, b3⟩
end TH0
section TH
variable {p : Program} {l : Launch} {e : Env} {R : Room} {s : State} {m : MethodId} {args : Array Value} {below : List Frame} {meth : Method} {c : Code} {H : Heap} {locs : List Loc} {cells slots : Nat} {Q : State → Prop}
/-- new X(message), thrown at once -/
theorem th_new {cc : ByteArray} {own X tx : String} {names : List String} {iN iC iS pc q : Nat} {ls : Array Slot} (hx : p.tables.exec = Jvm.exec) (hb : c.code = cc) (htr : e.platform.stackTraces = false) (hown : s.vm.findClass own = some m.cls)
    (hfit : Bundle.fit X = true) (hfits : ∀ n ∈ names, Bundle.fit n = true) (hat : ∀ a ∈ Bundle.ownAtoms own iC X names, a.before args s = true) (hlink : (Cond.classLink own iN X).before args s = true) (hins : (Cond.instantiable X 6).before args s = true) (hini : (Cond.initialized X).before args s = true) (hstr : vk_R own iS tx q s)
    (hlocks : meth.locks = false) (hsize : ls.size = c.maxLocals) (hout : ∀ pc, ∀ x ∈ c.exceptionTable.toList, covers x pc = false) (hfr : names.length + 3 < R.frames) (hlo : 1 + (13 * (names.length + 1) + 42) ≤ R.locals) (hc : 1 ≤ R.cells) (hs : 6 ≤ R.slots)
    (d0 : decode cc pc = .ok (.new iN, 3)) (d1 : decode cc (pc + 3) = .ok (.dup, 1)) (d2 : decode cc (pc + 4) = .ok (.ldc iS, 2)) (d3 : decode cc (pc + 6) = .ok (.invokespecial iC, 3)) (d4 : decode cc (pc + 9) = .ok (.athrow, 1)) :
    W p l e R s m args below meth c s.heap [] 0 0 (TQ below X s) (F0 m pc ls []) := by
  intro T hT X0
  obtain ⟨vm1, cX, kX, hfX, hkX, -, -, X1, st1⟩ := X0.newCold hx (own := own) (C := X) (index := iN) (n := 6) hown hlink hins hini (g := F0 m pc ls []) rfl (by rw [hb]; exact d0) (by omega) (by omega)
  generalize hT1 : (T.setVm vm1).pushCell { cls := cX, slots := kX.instanceTypes.map defaultValue, vm := .none } = T1 at X1 st1
  have hcell : T1.heap[T.heap.size]? = some (freshCell cX kX) := by rw [← hT1]; exact State.heap_pushCell_size _ _
  have W1 : W p l e R s m args below meth c T1.heap [] (0 + 1) (0 + 6) (TQ below X s) (F0 m (pc + 3) ls [.ref T.heap.size]) := by
    refine lv_dup hx hb d1 rfl ?_
    refine va_ldcS hx hb hown hstr d2 ?_
    intro T2 hT2 X2
    obtain ⟨U, hsteps, hrun, hend, hW, hsame, ce, hce, K⟩ := X2.ctorThrowS hx htr (own := own) (cls := X) (names := names) (ic := iC) hown hfit hfits hat (fun y hy => by cases hy) hfX hkX (by rw [hT2]; exact hcell) (by rw [hT]; exact Nat.le_refl _) (msg := .ref q) rfl
      (g := F0 m (pc + 6) ls [.ref q, .ref T.heap.size, .ref T.heap.size]) rfl hsize rfl rfl (rest := []) rfl (by rw [hb]; exact d3) (by rw [hb]; exact d4) (hout _) hfr (by simpa [JFrame.monitorRoom, Value.category] using hlo) hlocks
    exact ⟨U, hsteps, .threw T.heap.size, hrun, hend, T.heap.size, ce, rfl, by rw [hT]; exact Nat.le_refl _, hce, by rw [K.vm]; rfl, K.cls, hW, hsame⟩
  obtain ⟨t, a1, a2⟩ := W1 T1 rfl X1
  exact ⟨t, st1 _ a1, a2⟩
/-- a call that throws: the note lies over the caller's frame -/
def TRun (p : Program) (l : Launch) (e : Env) (R : Room) (s : State) (m : MethodId) (args : Array Value) (below : List Frame) (meth : Method) (c : Code) (H : Heap) (locs : List Loc) (cells slots : Nat) (g : JFrame) (rest : List Value) (X : String) : Prop :=
  ∀ T : State, T.heap = H → Stand p l e R s m args below meth c T locs cells slots → ∃ (x : Nat) (ce : Cell) (T' : State), Stand p l e R s m args below meth c T' locs (cells + 1) (slots + 6) ∧ H.size ≤ x ∧ T'.heap[x]? = some ce ∧ ce.vm.isStatics = false ∧ s.vm.findClass X = some ce.cls ∧ H.size ≤ T'.heap.size ∧ (∀ q : Nat, q < H.size → T'.heap[q]? = H[q]?) ∧
    ∀ target, Steps p.tables e below ((T'.setTop { g with stack := rest }).pushFrame (.throwing x)) target → Steps p.tables e below (T.setTop g) target
theorem th_back {y : MethodName} {ws : List Cond} {rm : Room} {Pc : Array Value → State → Prop} {X : String} {bytes : ByteArray} {maxL : Nat} {ret : Option FieldType} (hM : MetT l y ws rm Pc X) (hblind : FrameBlind Pc) (hrc : rm.cells = 1) (hrs : rm.slots = 6)
    (hframes : rm.frames + 1 ≤ R.frames) (hlocals : 8 + (maxL + 11) + rm.locals ≤ R.locals) (hws : ∀ w ∈ ws, ∀ a' U, s.WarmedH U.vm → w.before a' U = true) (hcode : Cond.code y bytes maxL ret ∈ ws) (hinit : ∀ a' U, s.WarmedH U.vm → (Cond.initialized y.cls).before a' U = true)
    {U : State} (S : Stand p l e R s m args below meth c U locs cells slots) {g : JFrame} {ig : Instr} {len : Nat} {mk : MethodId} {a : Array Value} (hg : g.method = m) (hsize : g.locals.size = c.maxLocals) (hdg : decode c.code g.pc = .ok (ig, len)) (hW : 2 * g.monitorRoom + (g.stack.map fun v => v.category).sum ≤ 8) (hn : U.methodNamed? y = some mk) (hc : cells + 1 ≤ R.cells) (hs : slots + 6 ≤ R.slots) (hp : Pc a U) :
    ∃ (x : Nat) (ce : Cell) (T' : State), Stand p l e R s m args below meth c T' locs (cells + 1) (slots + 6) ∧ U.heap.size ≤ x ∧ T'.heap[x]? = some ce ∧ ce.vm.isStatics = false ∧ s.vm.findClass X = some ce.cls ∧ U.heap.size ≤ T'.heap.size ∧ (∀ q : Nat, q < U.heap.size → T'.heap[q]? = U.heap[q]?) ∧ Steps p.tables e below (doInvoke e (U.setTop g) [] mk a).1 ((T'.setTop g).pushFrame (.throwing x)) := by
  have h2 : (Cond.code y bytes maxL ret).before a U = true := hws _ hcode _ _ S.warmed
  obtain ⟨methY, cY, hmY, hcY, -, hlY, -, -, -, -⟩ := Cond.code_spec hn h2
  obtain ⟨kY, hkY, -⟩ := className_of_methodNamed hn
  have hiY : kY.init = .initialized := Cond.initialized_spec (findClass_of_methodNamed hn) hkY (hinit a _ S.warmed)
  have hat : At U g.method c below := by rw [hg]; exact S.here
  have happ : (headSpec ws rm).appliesLoose y e.platform (U.calling g mk a) = true :=
    Spec.appliesLoose_calling (g := g) hat hdg hn hkY hiY (S.room_calling (g := g) (R' := (headSpec ws rm).room) hsize hmY hcY hframes (by rw [hlY]; show _ + rm.locals ≤ _; omega) (by show cells + rm.cells ≤ _; omega) (by show slots + rm.slots ≤ _; omega)) (atoms_intro fun w hw => hws w hw _ _ S.warmed)
  obtain ⟨mid, hmid⟩ := hat.above
  have hfr : (U.setTop g).frames = (.java g :: mid) ++ below := by rw [State.frames_setTop' g hat.top, hmid]; rfl
  obtain ⟨o, t, hsteps, -, hend, hq⟩ := Steps.callFree hM p S.admits S.cas S.clock (acts := []) hfr happ (hblind _ _ _ _ hp) trivial
  rw [State.frames_setTop' g hat.top] at hend
  obtain ⟨x, ce, rfl, hxs, hce, hst, hcl, hWt, hsame⟩ := hq
  have hW2 : U.WarmedH t.vm := hWt
  have e3 : t = ({ (U.calling g mk a).setFrames t.frames with heap := t.heap, slotsUsed := t.slotsUsed } : State).setVm t.vm := by
    have e2 : t = ({ t with vm := (U.calling g mk a).vm } : State).setVm t.vm := rfl
    have hs1 : (U.calling g mk a).sameButNew ({ t with vm := (U.calling g mk a).vm } : State) [] 1 6 := hsame
    rw [hs1.1] at e2
    exact e2
  have hft : t.frames = .throwing x :: .java g :: U.frames.tail := hend
  obtain ⟨g0, hg0⟩ := Option.isSome_iff_exists.mp hat.top
  obtain ⟨r, hr⟩ := State.topJava?_eq_some.mp hg0
  have ht : t = ((({ U with heap := t.heap, slotsUsed := t.slotsUsed } : State).setVm t.vm).setTop g).pushFrame (.throwing x) := by
    have hr' : (({ U with heap := t.heap, slotsUsed := t.slotsUsed } : State).setVm t.vm).frames = .java g0 :: r := hr
    refine e3.trans ?_
    rw [hft, State.calling_eq hat.top, State.setFrames_setFrames, State.pushFrame, State.frames_setTop _ hr', State.setTop_of_frames _ hr', State.setFrames_setFrames, hr]
    rfl
  have hsm : U.sameButNew ({ U with heap := t.heap, slotsUsed := t.slotsUsed } : State) [] 1 6 := by
    refine ⟨?_, hsame.2⟩
    obtain ⟨t9, ht9, -⟩ := State.frames_cons hr
    show ({ U with heap := t.heap, slotsUsed := t.slotsUsed } : State) = { U.setFrames U.frames with heap := t.heap, slotsUsed := t.slotsUsed }
    rw [State.setFrames_self ht9]
  subst hg
  have hS2 := S.same.trans (hsm.setVm s.vm)
  rw [List.append_nil] at hS2
  have hvm : s.vm.findClass X = some ce.cls := by rw [← S.warmed.alike.findClass]; exact hcl
  refine ⟨x, ce, (({ U with heap := t.heap, slotsUsed := t.slotsUsed } : State).setVm t.vm), ⟨S.admits, S.cas, S.clock, S.frames, S.room, S.hears, S.method, S.code, (S.here.setHeapUsed t.heap t.slotsUsed).setVm hW2.alike, S.tail, State.WarmedH.trans S.warmed hW2, S.limits, S.bytes, hS2⟩, hxs, hce, hst, hvm, hsm.2.1, fun q hq => ?_, ?_⟩
  · have h1 : U.heap[q]? = some U.heap[q] := Array.getElem?_eq_getElem hq
    rw [h1]
    exact hsm.old_cell h1
  · rw [← ht]
    exact hsteps
theorem th_runV {y : MethodName} {bytes cc : ByteArray} {maxL nL n index : Nat} {ret : Option FieldType} {ws : List Cond} {rm : Room} {Pc : Array Value → State → Prop} {Ts : List Cond} {own C X : String} {b : Addr} {As rest : List Value} {g : JFrame}
    (S : CallFix p m c cc nL s args Ts own) (hM : MetT l y ws rm Pc X) (cw : CallW R s args own C index y bytes maxL ret ws rm 1 6 n) (hp : PreV s H C b Pc As)
    (hg : g.method = m) (hn : As.length = n) (hsize : g.locals.size = nL) (hstack : g.stack = As.reverse ++ .ref b :: rest) (hW : 2 * g.monitorRoom + (rest.map fun v => v.category).sum ≤ 8) (hdg : decode cc g.pc = .ok (.invokevirtual index, 3)) (hf : cells + 1 ≤ R.cells ∧ slots + 6 ≤ R.slots) :
    TRun p l e R s m args below meth c H locs cells slots g rest X := by
  obtain ⟨⟨hrc, hrs, hfr, hlo, hws, hcw, hcode, hini, hy, hlen, hlink⟩, hin, hse⟩ := cw
  obtain ⟨hx, hb, hml, ho, -⟩ := S
  obtain ⟨hbl, ⟨cellB, hcB, hoB, hclB⟩, hPc⟩ := hp
  intro T hT X0
  obtain ⟨mk, methM, hnamed, hmethM, hstM, habM⟩ := Cond.instanceMethod_spec hin
  obtain ⟨methM', cM, hmethM', -, -, -, -, -, -, hsigM⟩ := Cond.code_spec hnamed hcode
  cases hmethM.symm.trans hmethM'
  obtain ⟨c2, r2, m2, q1, q2, q3, q4, kP, hkP, hkPi⟩ := Cond.selects_spec hse
  cases hclB.symm.trans q1
  cases (State.methodFound?_of_named hnamed hy).symm.trans q2
  cases hnamed.symm.trans q3
  have hselP : selectMethod e.platform s.vm cellB.cls mk = .method mk := by rw [Launch.admits_selectMethod X0.admits]; exact q4
  obtain ⟨vm1, X1, hstep1⟩ := X0.invokevirtual hx ho hlink hnamed hmethM hstM hkP hkPi hy (a := b) (cell := cellB) (by rw [hT]; exact hcB) (fun z h => by rw [h] at hoB; cases hoB) hselP hmethM habM hkP hkPi (g := g) hg (argsL := As) (rest := rest) (hn.trans (hlen _ hsigM)) hstack (by rw [hb]; exact hdg)
  obtain ⟨x, ce, T', X', k1, k2, k3, k4, k5, k6, st⟩ := th_back (bytes := bytes) (maxL := maxL) (ret := ret) hM hbl hrc hrs hfr hlo hws hcw (fun a' U hW => word_at hW (Or.inl (by first | rfl | simp [Cond.onTables, Cond.keeps, Cond.steady])) hini) X1 (g := { g with stack := rest }) (ig := .invokevirtual index) (len := 3) (mk := mk) (a := (Value.ref b :: As).toArray) hg (hsize.trans hml.symm) (by rw [hb]; exact hdg) hW (X1.named hnamed) hf.1 hf.2 (hPc (T.setVm vm1) hT X1.warmed)
  have hh : (T.setVm vm1).heap = H := hT
  rw [hh] at k1 k5 k6
  exact ⟨x, ce, T', X', k1, k2, k3, k4, k5, k6, fun target h => hstep1 _ fun acts => by rw [doInvoke_state]; exact st.trans h⟩
/-- out of the caller as well -/
theorem th_leave {g : JFrame} {rest : List Value} {X : String} (hr : TRun p l e R s m args below meth c s.heap [] 0 0 g rest X) (hg : g.method = m) (hlk : g.locked = none) (hen : g.entered = []) (hlocks : meth.locks = false) (hout : ∀ pc, ∀ x ∈ c.exceptionTable.toList, covers x pc = false) :
    W p l e R s m args below meth c s.heap [] 0 0 (TQ below X s) g := by
  intro T hT X0
  obtain ⟨x, ce, T', X', k1, k2, k3, k4, k5, k6, st⟩ := hr T hT X0
  obtain ⟨w1, w2, w3, w4, w5⟩ := X'.leaveThrown x (g := { g with stack := rest }) hg hlk hen (hout _) hlocks
  exact ⟨_, st _ w1, .threw x, w2, w3, x, ce, rfl, k1, k2, k3, k4, w4, w5⟩
end TH

theorem own_IO : ∀ w ∈ Bundle.ownAtoms R_RC 115 xIO upX, w ∈ ALLW ∨ w ∈ TXW ∨ w ∈ STW := th_chk_in (is := [68, 356, 365, 368, 371, 373, 357, 358, 81, 82, 359, 364, 369, 389, 346, 390, 348, 391, 350, 360, 361, 362, 363, 352, 385, 386, 388, 352, 376, 377, 378, 379, 338, 379, 380, 381, 382, 340, 382, 383, 384, 385, 342, 375, 335, 336, 343, 344, 345, 347, 349, 351, 0, 0, 355, 354, 353]) (by decide +kernel)
theorem kn_IO : Cond.classLink R_RC 111 xIO ∈ ALLW := kw 334 (by decide +kernel) rfl
theorem ki_IO : Cond.initialized xIO ∈ ALLW := kw 71 (by decide +kernel) rfl
theorem km_IO : Cond.instantiable xIO 6 ∈ ALLW := kw 335 (by decide +kernel) rfl
theorem own_IS : ∀ w ∈ Bundle.ownAtoms R_RC 177 xIS upX, w ∈ ALLW ∨ w ∈ TXW ∨ w ∈ STW := th_chk_in (is := [68, 356, 365, 368, 371, 373, 357, 358, 81, 82, 359, 364, 369, 389, 346, 390, 348, 391, 350, 360, 361, 362, 363, 352, 385, 386, 388, 352, 593, 594, 595, 379, 338, 379, 380, 381, 382, 340, 382, 383, 384, 385, 342, 592, 583, 584, 585, 367, 586, 587, 588, 589, 0, 0, 355, 354, 590]) (by decide +kernel)
theorem kn_IS : Cond.classLink R_RC 173 xIS ∈ ALLW := kw 582 (by decide +kernel) rfl
theorem ki_IS : Cond.initialized xIS ∈ ALLW := kw 73 (by decide +kernel) rfl
theorem km_IS : Cond.instantiable xIS 6 ∈ ALLW := kw 583 (by decide +kernel) rfl
/-- what a throw reads: Throwable's two statics, the messages -/
def TX (A : Nat → Prop) (U : State) (H : Heap) : Prop := TZ Bundle.tN "UNASSIGNED_STACK" Bundle.steD A U H ∧ TZ Bundle.tN "SUPPRESSED_SENTINEL" Bundle.listD A U H ∧ (∃ a, vk_R R_RC 169 "no such calendar" a U) ∧ (∃ a, vk_R R_RC 171 "no such day or cell" a U) ∧ (∃ a, vk_R R_RC 175 "the calendar is not compiled" a U) ∧ (∃ a, vk_R R_RC 113 "no such days" a U) ∧ (∀ w ∈ TXW, va_Nw w U) ∧ ∀ c1 c2, U.vm.findClass xIS = some c1 → U.vm.findClass xIO = some c2 → U.vm.assignable c1 c2 = false
theorem TX.warm {A : Nat → Prop} {s U : State} {H : Heap} (h : TX A s H) (hW : s.WarmedH U.vm) : TX A U H := by
  obtain ⟨z1, z2, ⟨a0, s0⟩, ⟨a1, s1⟩, ⟨a2, s2⟩, ⟨a3, s3⟩, tw, nc⟩ := h
  exact ⟨z1.moved hW.alike, z2.moved hW.alike, ⟨a0, s0.warm hW⟩, ⟨a1, s1.warm hW⟩, ⟨a2, s2.warm hW⟩, ⟨a3, s3.warm hW⟩, txw_warm hW tw, fun c1 c2 h1 h2 => by rw [hW.alike.assignable]; exact nc c1 c2 (by rw [← hW.alike.findClass]; exact h1) (by rw [← hW.alike.findClass]; exact h2)⟩
theorem TX.calling {A : Nat → Prop} {U : State} {g : JFrame} {mk : MethodId} {a : Array Value} (h : TX A U U.heap) : TX A (U.calling g mk a) (U.calling g mk a).heap := by
  obtain ⟨z1, z2, ⟨a0, s0⟩, ⟨a1, s1⟩, ⟨a2, s2⟩, ⟨a3, s3⟩, tw, nc⟩ := h
  exact ⟨z1.moved (Vm.Alike.refl U.vm), z2.moved (Vm.Alike.refl U.vm), ⟨a0, s0.same rfl⟩, ⟨a1, s1.same rfl⟩, ⟨a2, s2.same rfl⟩, ⟨a3, s3.same rfl⟩, fun w hw => va_Nw.same (u := U) (txw_on hw) rfl (tw w hw), nc⟩
theorem TX.mono {A B : Nat → Prop} {s : State} {H0 H : Heap} {locs : List Loc} (h : TX A s H0) (hS : va_S A H0 H locs) (hBA : ∀ q, B q → A q) : TX B s H := by
  obtain ⟨z1, z2, ⟨a0, s0⟩, ⟨a1, s1⟩, ⟨a2, s2⟩, ⟨a3, s3⟩, tw, nc⟩ := h
  exact ⟨z1.kept hS.2.1 hBA, z2.kept hS.2.1 hBA, ⟨a0, s0⟩, ⟨a1, s1⟩, ⟨a2, s2⟩, ⟨a3, s3⟩, tw, nc⟩
theorem TX.s169 {A : Nat → Prop} {U : State} {H : Heap} (h : TX A U H) : ∃ a, vk_R R_RC 169 "no such calendar" a U := h.2.2.1
theorem TX.s171 {A : Nat → Prop} {U : State} {H : Heap} (h : TX A U H) : ∃ a, vk_R R_RC 171 "no such day or cell" a U := h.2.2.2.1
theorem TX.s175 {A : Nat → Prop} {U : State} {H : Heap} (h : TX A U H) : ∃ a, vk_R R_RC 175 "the calendar is not compiled" a U := h.2.2.2.2.1
theorem TX.s113 {A : Nat → Prop} {U : State} {H : Heap} (h : TX A U H) : ∃ a, vk_R R_RC 113 "no such days" a U := h.2.2.2.2.2.1
theorem own_IO_at {A : Nat → Prop} {args : Array Value} {s : State} (hts : ∀ w ∈ ALLW, w.before args s = true) (h : TX A s s.heap) : ∀ w ∈ Bundle.ownAtoms R_RC 115 xIO upX, w.before args s = true := by
  obtain ⟨z1, z2, ⟨a0, s0⟩, ⟨a1, s1⟩, ⟨a2, s2⟩, ⟨a3, s3⟩, tw, nc⟩ := h
  intro w hw
  rcases own_IO w hw with q | q | q
  · exact hts w q
  · exact va_Nw.use (txw_on q) (tw w q)
  · simp only [STW, List.mem_cons, List.not_mem_nil, or_false] at q
    rcases q with rfl | rfl | rfl | rfl
    · exact z1.isRef
    · exact z2.isRef
    · exact z1.lays
    · exact z2.lays
theorem own_IS_at {A : Nat → Prop} {args : Array Value} {s : State} (hts : ∀ w ∈ ALLW, w.before args s = true) (h : TX A s s.heap) : ∀ w ∈ Bundle.ownAtoms R_RC 177 xIS upX, w.before args s = true := by
  obtain ⟨z1, z2, ⟨a0, s0⟩, ⟨a1, s1⟩, ⟨a2, s2⟩, ⟨a3, s3⟩, tw, nc⟩ := h
  intro w hw
  rcases own_IS w hw with q | q | q
  · exact hts w q
  · exact va_Nw.use (txw_on q) (tw w q)
  · simp only [STW, List.mem_cons, List.not_mem_nil, or_false] at q
    rcases q with rfl | rfl | rfl | rfl
    · exact z1.isRef
    · exact z2.isRef
    · exact z1.lays
    · exact z2.lays
/-- where a method that throws begins -/
abbrev PTX (D : va_G) (k : Nat → ClassId) (ws : va_W) : State → Prop := fun U => PRO D k ws U ∧ TX nA U U.heap
abbrev rt_RC_yearIndex : Room := { frames := 0, cells := 1, slots := 6, locals := 0 }
abbrev rt_RC_cellsBelow : Room := { frames := 0, cells := 1, slots := 6, locals := 0 }
abbrev rt_RC_init : Room := { frames := 4, cells := 1, slots := 6, locals := 88 }
abbrev rt_RC_type : Room := { frames := 0, cells := 1, slots := 6, locals := 0 }
abbrev rt_RC_wipe : Room := { frames := 0, cells := 1, slots := 6, locals := 0 }
abbrev rt_RC_compile : Room := { frames := 8, cells := 1, slots := 6, locals := 172 }
abbrev rt_RC_needCalendar : Room := { frames := 7, cells := 1, slots := 6, locals := 151 }
abbrev rt_RC_shifts : Room := { frames := 0, cells := 1, slots := 6, locals := 0 }
abbrev rt_RC_at : Room := { frames := 9, cells := 1, slots := 6, locals := 196 }
abbrev rt_RC_planWithCell : Room := { frames := 8, cells := 1, slots := 6, locals := 173 }
abbrev rt_RC_needCell : Room := { frames := 7, cells := 1, slots := 6, locals := 151 }
abbrev rt_RC_compiledPlan : Room := { frames := 7, cells := 1, slots := 6, locals := 151 }
abbrev rt_RC_which : Room := { frames := 9, cells := 1, slots := 6, locals := 196 }
abbrev rt_RC_next : Room := { frames := 9, cells := 1, slots := 6, locals := 196 }
abbrev rt_RC_lowestCell : Room := { frames := 1, cells := 1, slots := 6, locals := 21 }
abbrev rt_RC_total : Room := { frames := 8, cells := 1, slots := 6, locals := 172 }
abbrev rt_RC_dayOf : Room := { frames := 2, cells := 1, slots := 6, locals := 45 }
abbrev rt_RC_dateOf : Room := { frames := 2, cells := 1, slots := 6, locals := 42 }
abbrev rt_RC_feast : Room := { frames := 1, cells := 1, slots := 6, locals := 33 }
abbrev rt_RC_elapsed : Room := { frames := 8, cells := 1, slots := 6, locals := 173 }
abbrev rt_RC_clock : Room := { frames := 3, cells := 1, slots := 6, locals := 66 }
abbrev rt_RC_compare : Room := { frames := 8, cells := 1, slots := 6, locals := 172 }
abbrev rt_RC_inside : Room := { frames := 8, cells := 1, slots := 6, locals := 172 }
abbrev rt_RC_dead : Room := { frames := 8, cells := 1, slots := 6, locals := 172 }
abbrev rt_RC_decidesSome : Room := { frames := 3, cells := 1, slots := 6, locals := 62 }
abbrev rt_RC_run : Room := { frames := 9, cells := 1, slots := 6, locals := 196 }
abbrev rt_RC_firstOfRun : Room := { frames := 3, cells := 1, slots := 6, locals := 63 }
abbrev rt_RC_lastOfRun : Room := { frames := 3, cells := 1, slots := 6, locals := 63 }
