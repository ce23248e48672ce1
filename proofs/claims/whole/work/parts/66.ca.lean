/-- what a search for a handler comes to -/
def CT (own : String) (args : Array Value) (s : State) (cls : ClassId) (pc hp : Nat) : List ExceptionTableEntry → Prop
  | [] => False
  | x :: t => covers x pc = true ∧ x.catchType ≠ 0 ∧ ∃ (name : String) (cT : ClassId), (Cond.classLink own x.catchType name).before args s = true ∧ s.vm.findClass name = some cT ∧ ((s.vm.assignable cls cT = true ∧ x.handlerPc = hp) ∨ (s.vm.assignable cls cT = false ∧ CT own args s cls pc hp t))
section FH
variable {e : Env} {f : JFrame} {a : Addr} {s : State} {args : Array Value} {own : String} {cell : Cell} {hp : Nat}
/-- one entry of the table, its class linked or not yet: it fits (b), or the search goes on -/
theorem fh_go {Q : Handler → Pre} {E : CtlPost} {d : Bool} {acts : List Action} {S : State} {x : ExceptionTableEntry} {t : List ExceptionTableEntry} {cT : ClassId} {b : Bool} (hx : covers x f.pc = true) (h0 : x.catchType ≠ 0)
    (hl : S.vm.ClassLinks e.platform f.method.cls x.catchType cT) (hcell : S.heap[a]? = some cell) (hobj : ∀ k, cell.vm ≠ .statics k) (hk : ∃ k, S.vm.classes[cell.cls]? = some k) (hc : ∃ k, S.vm.classes[cT]? = some k) (hfit : S.vm.assignable cell.cls cT = b) :
    wp (findHandler.go f a (x :: t)) Q E e d acts S ↔ if b = true then Q (.found x.handlerPc) d acts (S.setVm (S.vm.noted f.method.cls x.catchType (.cls cT))) else wp (findHandler.go f a t) Q E e d acts (S.setVm (S.vm.noted f.method.cls x.catchType (.cls cT))) := by
  simp only [covers] at hx
  obtain ⟨ha, ht⟩ := (resolveClass_links e.toSetting hl).op (op := VmOp.resolveClass f.method.cls x.catchType) rfl
  have hal : S.vm.Alike (S.vm.noted f.method.cls x.catchType (.cls cT)) := (Vm.Alike.refl S.vm).noted _ _ _
  obtain ⟨k1, hk1⟩ := hk
  obtain ⟨k2, hk2⟩ := hc
  obtain ⟨k1', hk1', -⟩ := hal.2.2 _ _ hk1
  obtain ⟨k2', hk2', -⟩ := hal.2.2 _ _ hk2
  have hfit' : (S.vm.noted f.method.cls x.catchType (.cls cT)).assignable cell.cls cT = b := by rw [hal.assignable]; exact hfit
  cases b <;> simp [findHandler.go, hx, h0, ha, ht, hcell, hobj, hk1', hk2', hfit', VmOp.dirties, VmOp.acts]
theorem fh_all (hpl : e.platform.magicAccessors = ({} : Platform).magicAccessors) (hown : s.vm.findClass own = some f.method.cls) (hobj : ∀ k, cell.vm ≠ .statics k) (hk : ∃ k, s.vm.classes[cell.cls]? = some k) :
    ∀ (es : List ExceptionTableEntry) (S : State), s.WarmedH S.vm → S.heap[a]? = some cell → CT own args s cell.cls f.pc hp es → ∃ vm', s.WarmedH vm' ∧ ∀ (Q : Handler → Pre) (E : CtlPost) (d : Bool) (acts : List Action), wp (findHandler.go f a es) Q E e d acts S ↔ Q (.found hp) d acts (S.setVm vm')
  | [], _, _, _, h => absurd h id
  | x :: t, S, hW, hcell, h => by
    obtain ⟨h1, h2, name, cT, hlink, hcT, hor⟩ := h
    obtain ⟨c', hc', hcl⟩ := Cond.classLink_spec hown hlink e.platform hpl
    cases hcT.symm.trans hc'
    obtain ⟨dk, _, _, kt, hd, _, _, _, _, hkt, _, hopen⟩ := hcl.here
    have hcl0 := hW.classLinks hcl
    have hW' : s.WarmedH (S.vm.noted f.method.cls x.catchType (.cls cT)) := hW.noted hd hopen (State.rightAt_cls hcl)
    obtain ⟨kt', hkt', -⟩ := hW.alike.2.2 _ _ hkt
    obtain ⟨k0, hk0⟩ := hk
    obtain ⟨k0', hk0', -⟩ := hW.alike.2.2 _ _ hk0
    rcases hor with ⟨hfit, rfl⟩ | ⟨hno, hrest⟩
    · refine ⟨_, hW', fun Q E d acts => ?_⟩
      rw [fh_go (b := true) h1 h2 hcl0 hcell hobj ⟨k0', hk0'⟩ ⟨kt', hkt'⟩ (by rw [hW.alike.assignable]; exact hfit), if_pos rfl]
    · obtain ⟨vm', hv, hq⟩ := fh_all hpl hown hobj ⟨k0, hk0⟩ t (S.setVm (S.vm.noted f.method.cls x.catchType (.cls cT))) hW' hcell hrest
      refine ⟨vm', hv, fun Q E d acts => ?_⟩
      rw [fh_go (b := false) h1 h2 hcl0 hcell hobj ⟨k0', hk0'⟩ ⟨kt', hkt'⟩ (by rw [hW.alike.assignable]; exact hno), if_neg (by decide), hq]
      exact Iff.rfl
end FH
section TCH
variable {p : Program} {l : Launch} {e : Env} {R : Room} {s : State} {m : MethodId} {args : Array Value} {below : List Frame} {meth : Method} {c : Code} {H : Heap} {locs : List Loc} {cells slots : Nat} {Q : State → Prop}
/-- the frame's own handler takes it -/
theorem th_catch {g : JFrame} {rest : List Value} {X own : String} {hp : Nat} (hr : TRun p l e R s m args below meth c H locs cells slots g rest X) (hg : g.method = m) (hown : s.vm.findClass own = some m.cls) (hct : ∀ cls, s.vm.findClass X = some cls → CT own args s cls g.pc hp c.exceptionTable.toList)
    (kk : ∀ (x : Nat) (H1 : Heap), H.size ≤ H1.size → (∀ q : Nat, q < H.size → H1[q]? = H[q]?) → W p l e R s m args below meth c H1 locs (cells + 1) (slots + 6) Q { g with pc := hp, stack := [.ref x] }) : W p l e R s m args below meth c H locs cells slots Q g := by
  intro T hT X0
  obtain ⟨x, ce, T', X', k1, k2, k3, k4, k5, k6, st⟩ := hr T hT X0
  have hpl : e.platform.magicAccessors = ({} : Platform).magicAccessors := by rw [X'.admits.platform]
  subst hg
  obtain ⟨kc, hkc⟩ : ∃ k, s.vm.classes[ce.cls]? = some k := Vm.classAt_of_findClass k4
  obtain ⟨vm', hv, hq⟩ := fh_all (f := { g with stack := rest }) (a := x) (hp := hp) hpl hown (VmData.ne_statics_of k3) ⟨kc, hkc⟩ c.exceptionTable.toList ((T'.setTop { g with stack := rest }).pushFrame (.throwing x)) X'.warmed k2 (hct _ k4)
  have X2 := X'.noted hv
  obtain ⟨t, a1, b1⟩ := kk x T'.heap k5 k6 (T'.setVm vm') rfl X2
  refine ⟨t, st t ?_, b1⟩
  obtain ⟨hgo, hw⟩ := X'.here.throwing x (g := { g with stack := rest })
  refine Steps.head hgo hw ?_
  have hfd : ∀ (Q : Handler → Pre) (E : CtlPost) (d : Bool) (acts : List Action), wp (findHandler { g with stack := rest } x) Q E e d acts ((T'.setTop { g with stack := rest }).pushFrame (.throwing x)) ↔ Q (.found hp) d acts (((T'.setTop { g with stack := rest }).pushFrame (.throwing x)).setVm vm') := fun Q E d acts => by
    have hm9 : ((T'.setTop { g with stack := rest }).pushFrame (.throwing x)).vm.method? ({ g with stack := rest } : JFrame).method = some meth := X'.method'
    rw [W.findHandler_eq hm9 X'.code]
    exact hq Q E d acts
  have hfind : (stepThrowing e ((T'.setTop { g with stack := rest }).pushFrame (.throwing x)) x (.java { g with stack := rest } :: T'.frames.tail)).Is ((((T'.setTop { g with stack := rest }).pushFrame (.throwing x)).setVm vm').setFrames (.java { g with pc := hp, stack := [.ref x] } :: T'.frames.tail)) [] := by
    simp only [stepThrowing, searchFrame, vmDo]
    generalize hr9 : Sem.go _ e false [] ((T'.setTop { g with stack := rest }).pushFrame (.throwing x)) = res
    obtain ⟨as, rfl, ha⟩ := Sem.eq_ok_of hr9 (a := Handler.found hp) (s' := ((T'.setTop { g with stack := rest }).pushFrame (.throwing x)).setVm vm') (acts' := []) (by simp [hfd _ _ _ _])
    exact ⟨rfl, ha⟩
  rw [stepThread_throwing (frames_entered X'.here.top _), hfind.1]
  obtain ⟨g0, hg0⟩ := Option.isSome_iff_exists.mp X'.here.top
  obtain ⟨r, hr0⟩ := State.topJava?_eq_some.mp hg0
  have hr1 : (T'.setVm vm').frames = .java g0 :: r := hr0
  have hsv : ∀ (u : State) (F G : List Frame), ((u.setFrames F).setVm vm').setFrames G = (u.setVm vm').setFrames G := fun u F G => by
    have h1 : (u.setFrames F).setVm vm' = (u.setVm vm').setFrames F := rfl
    rw [h1, State.setFrames_setFrames]
  rw [State.setTop_of_frames _ hr1] at a1
  rw [hr0, List.tail_cons, State.pushFrame, hsv, State.setTop_of_frames _ hr0, hsv]
  exact a1
end TCH
