theorem ra_inj {U : State} {a b : ClassId} {ty : FieldType} (h1 : va_RA U a ty) (h2 : va_RA U b ty) : a = b := by
  cases ty with
  | object C =>
    obtain ⟨_, _, _, _, _, q1⟩ := h1
    obtain ⟨_, _, _, _, _, q2⟩ := h2
    exact Option.some.inj (q1.symm.trans q2)
  | _ => exact Option.some.inj (Eq.trans (Eq.symm h1) h2)
/-- arrays of references can be made -/
def AOX (U : State) : Prop := va_AO R_DS U ∧ va_AO R_PL U ∧ (Cond.arrayOver (.array .long)).before #[] U = true
theorem aoa_moved {ty : FieldType} {u U : State} (hvm : u.vm.Alike U.vm) (h : (Cond.arrayOver (.array ty)).before #[] u = true) : (Cond.arrayOver (.array ty)).before #[] U = true := by
  obtain ⟨comp, c, k, h1, h2, h3, h4, h5⟩ := arrayOverA_spec h
  obtain ⟨k', hk', he⟩ := hvm.2.2 _ _ h3
  have hi : (U.vm.classes.findIdx? fun (x : Class) => match x.kind with | .array component _ => component == comp | _ => false) = some c := by
    have e1 := va_idx_bare U.vm comp
    have e2 := va_idx_bare u.vm comp
    have e3 : u.vm.bare = U.vm.bare := by first | exact hvm.bare_eq | exact hvm.bare_eq.symm
    rw [e3] at e2
    exact e1.symm.trans (e2.symm.symm.trans h2)
  have hkind : k'.kind = .array comp (.array ty) := by rw [he]; exact h4
  have f1 : U.vm.findClass (FieldType.array ty).toString = some comp := by rw [hvm.findClass]; exact h1
  have f2 : U.vm.findClass ("[" ++ (FieldType.array ty).toString) = some c := by rw [hvm.findClass]; exact h5
  unfold Cond.before Cond.holds
  simp only [Cond.value]
  rw [f1, Option.bind_some]
  refine (congrArg (fun o : Option Nat => (o.bind (fun c => (U.vm.classes[c]?).map fun (k : Class) => match k.kind with | .array _ t9 => decide (t9 = FieldType.array ty) && decide (U.vm.findClass ("[" ++ (FieldType.array ty).toString) = some c) | _ => false) == some true)) hi).trans ?_
  simp [hk', hkind, f2]
theorem AOX.moved {u U : State} (hvm : u.vm.Alike U.vm) (h : AOX u) : AOX U := ⟨h.1.moved hvm, h.2.1.moved hvm, aoa_moved hvm h.2.2⟩
abbrev PRK (D : va_G) (k : Nat → ClassId) (ws : va_W) (sz : Nat) : State → Prop := fun U => PRW D k ws sz U ∧ AOX U
theorem outerN (c : ClassId) (N h0 : Nat) : ∀ i : Nat, Jvm.Free.Multi.outerC c N h0 i = arrV c N (fun j => va_rf (if j < i then some (h0 + 1 + j) else none))
  | 0 => by
    show ({ cls := c, slots := Array.replicate N .null, vm := .none } : Cell) = _
    rw [arrV_new]
    exact congrArg (arrV c N) (funext fun j => by simp [va_rf])
  | i + 1 => by
    show (Jvm.Free.Multi.outerC c N h0 i).setSlot i (.ref (h0 + 1 + i)) = _
    rw [outerN c N h0 i, arrV_store]
    refine congrArg (arrV c N) (funext fun j => ?_)
    by_cases e : j = i
    · subst e
      simp [updV, va_rf]
    · by_cases h : j < i
      · simp [updV, e, h, Nat.lt_succ_of_lt h]
      · simp [updV, e, h, show ¬ j < i + 1 by omega]
section CTR
variable {p : Program} {l : Launch} {e : Env} {R : Room} {s : State} {m : MethodId} {args : Array Value} {below : List Frame} {meth : Method} {c : Code} {H : Heap} {locs : List Loc} {cells slots : Nat} {Q : State → Prop}
variable {cc : ByteArray} {pc : Nat} {ls : Array Slot} {rest : List Value} {D : va_G} {cl : List vw_C} {A : Nat → Prop} {tys : List (ClassId × FieldType)} {ws : va_W} {H0 : Heap}
theorem x_newa (hx : p.tables.exec = Jvm.exec) (hb : c.code = cc) {atype : ArrayType} {ty : FieldType} {kc : ClassId} (harr : (Cond.arrayClass (newarray.typeOf atype)).before args s = true) (hty : newarray.typeOf atype = ty) (hK : va_K D cl tys s) (i0 : Nat) (hi : tys[i0]? = some (kc, ty)) (hP : va_P D cl ws H) (hD : va_D A ws) (hS : va_S A H0 H locs) (hA : ∀ q, H0.size ≤ q → A q)
    {n : Int32} {N' : Nat} {a0 : vp_A} (ha : ∀ cA : ClassId, vp_cell cA a0 = arrV cA N' (fun _ => defaultValue ty)) (hn : ¬ n < 0) (hN : n.toNatClampNeg = N') (hbytes : N' * componentBytes ty ≤ 536870912) (hcells : cells + 1 ≤ R.cells) (hslots : slots + N' ≤ R.slots) (hdg : decode cc pc = .ok (.newarray atype, 2))
    (kk : ∀ (q : Nat) (H1 : Heap), va_P D cl (ws ++ [(q, .inl (kc, a0))]) H1 → va_D A (ws ++ [(q, .inl (kc, a0))]) → va_S A H0 H1 locs → W p l e R s m args below meth c H1 locs (cells + 1) (slots + N') Q (F0 m (pc + 2) ls (.ref q :: rest))) : W p l e R s m args below meth c H locs cells slots Q (F0 m pc ls (.int n :: rest)) := by
  refine va_newa hx hb harr hty hK hP hD hS hA ha hn hN hbytes hcells hslots hdg fun q cA H1 hK1 hP1 hD1 hS1 => ?_
  have e : cA = kc := ra_inj (hK1.2 tys.length (cA, ty) (by rw [List.getElem?_append_right (Nat.le_refl _), Nat.sub_self]; rfl)).2 (hK.2 i0 _ hi).2
  subst e
  exact kk q H1 hP1 hD1 hS1
theorem x_newq (hx : p.tables.exec = Jvm.exec) (hb : c.code = cc) {own C : String} {index : Nat} {kc : ClassId} (hown : s.vm.findClass own = some m.cls) (hclink : (Cond.classLink own index C).before args s = true) (hover : va_AO C s) (hK : va_K D cl tys s) (i0 : Nat) (hi : tys[i0]? = some (kc, .object C)) (hP : va_P D cl ws H) (hD : va_D A ws) (hS : va_S A H0 H locs) (hA : ∀ q, H0.size ≤ q → A q)
    {n : Int32} {N' : Nat} (hn : ¬ n < 0) (hN : n.toNatClampNeg = N') (hbytes : N' * 4 ≤ 536870912) (hcells : cells + 1 ≤ R.cells) (hslots : slots + N' ≤ R.slots) (hdg : decode cc pc = .ok (.anewarray index, 3))
    (kk : ∀ (q : Nat) (H1 : Heap), va_P D cl (ws ++ [(q, .inl (kc, N', .inr (.inr (.inr (.inr (fun _ => none))))))]) H1 → va_D A (ws ++ [(q, .inl (kc, N', .inr (.inr (.inr (.inr (fun _ => none))))))]) → va_S A H0 H1 locs →
      W p l e R s m args below meth c H1 locs (cells + 1) (slots + N') Q (F0 m (pc + 3) ls (.ref q :: rest))) : W p l e R s m args below meth c H locs cells slots Q (F0 m pc ls (.int n :: rest)) := by
  refine va_newq hx hb hown hclink hover hK hP hD hS hA hn hN hbytes hcells hslots hdg fun q cA H1 hK1 hP1 hD1 hS1 => ?_
  have e : cA = kc := ra_inj (hK1.2 tys.length (cA, .object C) (by rw [List.getElem?_append_right (Nat.le_refl _), Nat.sub_self]; rfl)).2 (hK.2 i0 _ hi).2
  subst e
  exact kk q H1 hP1 hD1 hS1
/-- new long[4][K] -/
theorem x_mna (hx : p.tables.exec = Jvm.exec) (hb : c.code = cc) {own : String} {index : Nat} {k4 k1 : ClassId} (hown : s.vm.findClass own = some m.cls) (hclink : (Cond.classLink own index "[[J").before args s = true) (hover : (Cond.arrayOver (.array .long)).before args s = true) (harr : (Cond.arrayClass .long).before args s = true) (hK : va_K D cl tys s) (i4 i1 : Nat) (hi4 : tys[i4]? = some (k4, .array .long)) (hi1 : tys[i1]? = some (k1, .long)) (hP : va_P D cl ws H) (hD : va_D A ws) (hS : va_S A H0 H locs) (hA : ∀ q, H0.size ≤ q → A q)
    (hcells : cells + 5 ≤ R.cells) (hslots : slots + 5848 ≤ R.slots) (hdg : decode cc pc = .ok (.multianewarray index 2, 4))
    (kk : ∀ (q r0 r1 r2 r3 : Nat) (H1 : Heap), va_P D cl (ws ++ [(q, .inl (k4, 4, .inr (.inr (.inr (.inr (rws r0 r1 r2 r3)))))), (r0, .inl (k1, 1461, .inr (.inl (fun _ => 0)))), (r1, .inl (k1, 1461, .inr (.inl (fun _ => 0)))), (r2, .inl (k1, 1461, .inr (.inl (fun _ => 0)))), (r3, .inl (k1, 1461, .inr (.inl (fun _ => 0))))]) H1 →
      va_D A (ws ++ [(q, .inl (k4, 4, .inr (.inr (.inr (.inr (rws r0 r1 r2 r3)))))), (r0, .inl (k1, 1461, .inr (.inl (fun _ => 0)))), (r1, .inl (k1, 1461, .inr (.inl (fun _ => 0)))), (r2, .inl (k1, 1461, .inr (.inl (fun _ => 0)))), (r3, .inl (k1, 1461, .inr (.inl (fun _ => 0))))]) → va_S A H0 H1 locs →
      W p l e R s m args below meth c H1 locs (cells + 5) (slots + 5848) Q (F0 m (pc + 4) ls (.ref q :: rest))) : W p l e R s m args below meth c H locs cells slots Q (F0 m pc ls (.int (iI 1461) :: .int (iI 4) :: rest)) := by
  intro T hT Xs
  have n4 : (iI 4).toNatClampNeg = 4 := by decide
  have n1 : (iI 1461).toNatClampNeg = 1461 := by decide
  obtain ⟨vm1, cA, comp, -, fA, fC, -, -, X', step⟩ := Xs.multianewarray2F hx (own := own) (index := index) (ty := .long) hown hclink hover harr (g := F0 m pc ls (.int (iI 1461) :: .int (iI 4) :: rest)) rfl (by rw [hb]; exact hdg) (n := iI 4) (k := iI 1461) (rest := rest) rfl (by decide) (by decide) (by rw [n4]; decide) (by rw [n1]; decide) (by rw [n1]; decide) rfl rfl (by rw [n4]; omega) (by rw [n4, n1]; omega)
  have e4 : cA = k4 := Option.some.inj (fA.symm.trans (hK.2 i4 _ hi4).2)
  have e1 : comp = k1 := Option.some.inj (fC.symm.trans (hK.2 i1 _ hi1).2)
  subst e4 e1
  rw [n4, n1] at X' step
  generalize hF : Jvm.Free.Multi.fill (T.setVm vm1) cA comp 4 1461 (defaultValue .long) 4 = F at X' step
  have hTh : (T.setVm vm1).heap = H := hT
  obtain ⟨f1, f2, -, -⟩ := Jvm.Free.Multi.fill_facts (T.setVm vm1) cA comp 4 1461 (defaultValue .long) 4
  rw [hF, hTh] at f1 f2
  have hold : ∀ x : Nat, x < H.size → F.heap[x]? = H[x]? := fun x hx9 => by
    have := Jvm.Free.Multi.fill_old (T.setVm vm1) cA comp 4 1461 (defaultValue .long) (a := x) (by rw [hTh]; exact hx9) 4
    rw [hF, hTh] at this
    exact this
  have hrow : ∀ j : Nat, j < 4 → F.heap[H.size + 1 + j]? = some (vp_cell comp (1461, .inr (.inl (fun _ => 0)))) := fun j hj => by
    have := Jvm.Free.Multi.fill_inner (T.setVm vm1) cA comp 4 1461 (defaultValue .long) 4 j hj
    rw [hF, hTh] at this
    rw [this, vp_cell_l]
    refine congrArg some ?_
    show ({ cls := comp, slots := Array.replicate 1461 (.long 0), vm := .none } : Cell) = _
    rw [arrV_new]
  have hout : F.heap[H.size]? = some (vp_cell cA (4, .inr (.inr (.inr (.inr (rws (H.size + 1 + 0) (H.size + 1 + 1) (H.size + 1 + 2) (H.size + 1 + 3))))))) := by
    rw [f2, outerN, vp_cell_q]
    refine congrArg some ?_
    unfold arrV
    congr 1
    all_goals
      apply Array.ext
      · simp
      · intro i h1 h2
        simp at h1
        match i, h1 with
        | 0, _ => simp [rws, va_rf]
        | 1, _ => simp [rws, va_rf]
        | 2, _ => simp [rws, va_rf]
        | 3, _ => simp [rws, va_rf]
  have hk : ∀ (k : Nat) (x : Nat × va_E), ws[k]? = some x → F.heap[x.1]? = H[x.1]? := fun k x hx9 => hold x.1 ((hP k x hx9).lt)
  have hlt : ∀ (k : Nat) (x : Nat × va_E), ws[k]? = some x → x.1 < H.size := fun k x hx9 => (hP k x hx9).lt
  have hN : ∀ (k : Nat) (x : Nat × va_E), ([(H.size, .inl (cA, 4, .inr (.inr (.inr (.inr (rws (H.size + 1 + 0) (H.size + 1 + 1) (H.size + 1 + 2) (H.size + 1 + 3))))))), (H.size + 1 + 0, .inl (comp, 1461, .inr (.inl (fun _ => 0)))), (H.size + 1 + 1, .inl (comp, 1461, .inr (.inl (fun _ => 0)))), (H.size + 1 + 2, .inl (comp, 1461, .inr (.inl (fun _ => 0)))), (H.size + 1 + 3, .inl (comp, 1461, .inr (.inl (fun _ => 0))))] : va_W)[k]? = some x → x.1 = H.size + k ∧ k < 5 := fun k x hx9 => by
    match k, hx9 with
    | 0, hx9 => cases hx9; exact ⟨rfl, by decide⟩
    | 1, hx9 => cases hx9; exact ⟨rfl, by decide⟩
    | 2, hx9 => cases hx9; exact ⟨rfl, by decide⟩
    | 3, hx9 => cases hx9; exact ⟨rfl, by decide⟩
    | 4, hx9 => cases hx9; exact ⟨rfl, by decide⟩
    | k + 5, hx9 => cases hx9
  have hPn : va_P D cl ([(H.size, .inl (cA, 4, .inr (.inr (.inr (.inr (rws (H.size + 1 + 0) (H.size + 1 + 1) (H.size + 1 + 2) (H.size + 1 + 3))))))), (H.size + 1 + 0, .inl (comp, 1461, .inr (.inl (fun _ => 0)))), (H.size + 1 + 1, .inl (comp, 1461, .inr (.inl (fun _ => 0)))), (H.size + 1 + 2, .inl (comp, 1461, .inr (.inl (fun _ => 0)))), (H.size + 1 + 3, .inl (comp, 1461, .inr (.inl (fun _ => 0))))] : va_W) F.heap := fun k x hx9 => by
    match k, hx9 with
    | 0, hx9 => cases hx9; exact hout
    | 1, hx9 => cases hx9; exact hrow 0 (by decide)
    | 2, hx9 => cases hx9; exact hrow 1 (by decide)
    | 3, hx9 => cases hx9; exact hrow 2 (by decide)
    | 4, hx9 => cases hx9; exact hrow 3 (by decide)
    | k + 5, hx9 => cases hx9
  have hDn : va_D A ([(H.size, .inl (cA, 4, .inr (.inr (.inr (.inr (rws (H.size + 1 + 0) (H.size + 1 + 1) (H.size + 1 + 2) (H.size + 1 + 3))))))), (H.size + 1 + 0, .inl (comp, 1461, .inr (.inl (fun _ => 0)))), (H.size + 1 + 1, .inl (comp, 1461, .inr (.inl (fun _ => 0)))), (H.size + 1 + 2, .inl (comp, 1461, .inr (.inl (fun _ => 0)))), (H.size + 1 + 3, .inl (comp, 1461, .inr (.inl (fun _ => 0))))] : va_W) := by
    refine ⟨fun i j x y hi hj hxy => ?_, fun k x hx9 => ?_⟩
    · have q1 := (hN i x hi).1
      have q2 := (hN j y hj).1
      omega
    · have q1 := (hN k x hx9).1
      exact hA _ (Nat.le_trans hS.1 (by omega))
  have hS1 : va_S A H0 F.heap locs := ⟨Nat.le_trans hS.1 (by omega), fun x h1 h2 => (hold x (Nat.lt_of_lt_of_le h1 hS.1)).trans (hS.2.1 x h1 h2), hS.2.2⟩
  have X2 : Stand p l e R s m args below meth c F locs (cells + 5) (slots + 5848) := by
    have q : cells + 1 + 4 = cells + 5 := rfl
    have q2 : slots + 4 + 4 * 1461 = slots + 5848 := by omega
    rw [q, q2] at X'
    exact X'
  obtain ⟨t, a1, b1⟩ := kk H.size (H.size + 1 + 0) (H.size + 1 + 1) (H.size + 1 + 2) (H.size + 1 + 3) F.heap ((hP.kept hk).app hPn) (hD.app hDn (fun i j x y hi hj hxy => by
    have h1 := hlt i x hi
    have q2 := (hN j y hj).1
    omega)) hS1 F rfl X2
  rw [hT] at step
  exact ⟨t, step t a1, b1⟩
end CTR
def ad (l : List Nat) (i : Nat) : Nat := l.getD i 0
def fn4 (a b c d : Nat) (i : Nat) : Nat := match i with
  | 0 => a
  | 1 => b
  | 2 => c
  | _ => d
theorem up4 (a b c d : Nat) : va_up (va_up (va_up (va_up (fun _ => none) 0 (some a)) 1 (some b)) 2 (some c)) 3 (some d) = qs (fn4 a b c d) := by
  funext i
  match i with
  | 0 => rfl
  | 1 => rfl
  | 2 => rfl
  | 3 => rfl
  | i + 4 => simp [va_up, qs]
theorem up3 (a b c : Nat) : va_up (va_up (va_up (fun _ => none) 0 (some a)) 1 (some b)) 2 (some c) = q3 (fn4 a b c 0) := by
  funext i
  match i with
  | 0 => rfl
  | 1 => rfl
  | 2 => rfl
  | i + 3 => simp [va_up, q3]
theorem cellZ {cA : ClassId} {n : Nat} {f g : Nat → Int} (h : ∀ j, j < n → f j = g j) : vp_cell cA (n, .inl (aZ f)) = vp_cell cA (n, .inl (aZ g)) := by
  rw [vp_cell_i, vp_cell_i]
  unfold arrV
  congr 1
  apply Array.ext
  · simp
  · intro i h1 h2
    simp at h1
    simp [aZ, h i h1]
theorem P_cell {D : va_G} {cl : List vw_C} {ws : va_W} {H : Heap} (i : Nat) {a : Nat} {cA : ClassId} {x y : vp_A} (hi : ws[i]? = some (a, .inl (cA, x))) (hc : vp_cell cA x = vp_cell cA y) (h : va_P D cl ws H) : va_P D cl (ws.set i (a, .inl (cA, y))) H := by
  intro k q hq
  by_cases hk : i = k
  · subst hk
    have hl : i < ws.length := (List.getElem?_eq_some_iff.mp hi).1
    rw [List.getElem?_set_self hl] at hq
    cases hq
    show H[a]? = some (vp_cell cA y)
    rw [← hc]
    exact h i _ hi
  · rw [List.getElem?_set_ne hk] at hq
    exact h k q hq
theorem D_cell {A : Nat → Prop} {ws : va_W} (i : Nat) {a : Nat} {x y : va_E} (hi : ws[i]? = some (a, x)) (h : va_D A ws) : va_D A (ws.set i (a, y)) := by
  have key : ∀ (k : Nat) (q : Nat × va_E), (ws.set i (a, y))[k]? = some q → ∃ q', ws[k]? = some q' ∧ q'.1 = q.1 := by
    intro k q hq
    by_cases hk : i = k
    · subst hk
      have hl : i < ws.length := (List.getElem?_eq_some_iff.mp hi).1
      rw [List.getElem?_set_self hl] at hq
      cases hq
      exact ⟨_, hi, rfl⟩
    · rw [List.getElem?_set_ne hk] at hq
      exact ⟨q, hq, rfl⟩
  refine ⟨fun j k x y hx hy hxy => ?_, fun k q hq => ?_⟩
  · obtain ⟨x', h1, h2⟩ := key j x hx
    obtain ⟨y', h3, h4⟩ := key k y hy
    exact h.1 j k x' y' h1 h3 (by rw [h2, h4]; exact hxy)
  · obtain ⟨q', h1, h2⟩ := key k q hq
    rw [← h2]
    exact h.2 k q' h1
/-- the dates of n days -/
def dtU (n : Nat) (j : Nat) : Int := if j < n then dateZ j else 0
theorem dtU_0 : (fun _ => 0) = dtU 0 := by
  funext j
  unfold dtU
  rw [if_neg (by omega)]
theorem dtU_s {n : Nat} {v : Int} (h : v = dateZ n) : updZ (dtU n) n v = dtU (n + 1) := by
  funext j
  unfold updZ dtU
  by_cases q : j = n
  · subst q
    rw [if_pos rfl, if_pos (by omega), h]
  · rw [if_neg q]
    by_cases q2 : j < n
    · rw [if_pos q2, if_pos (by omega)]
    · rw [if_neg q2, if_neg (by omega)]
def ftU (n : Nat) (j : Nat) : Int := if j < n then feaZ j else 0
theorem ftU_0 : (fun _ => 0) = ftU 0 := by
  funext j
  unfold ftU
  rw [if_neg (by omega)]
theorem ftU_s {n : Nat} {v : Int} (h : v = feaZ n) : updZ (ftU n) n v = ftU (n + 1) := by
  funext j
  unfold updZ ftU
  by_cases q : j = n
  · subst q
    rw [if_pos rfl, if_pos (by omega), h]
  · rw [if_neg q]
    by_cases q2 : j < n
    · rw [if_pos q2, if_pos (by omega)]
    · rw [if_neg q2, if_neg (by omega)]
def almN (y m o : Nat) : Int := fDay (2000 + (y : Int)) + mSum (2000 + (y : Int)) m + (o : Int)
def almOK (y m o : Nat) : Bool := decide (dateZ (almN y m o).toNat = 10000 * (2000 + (y : Int)) + 100 * ((m : Int) + 1) + ((o : Int) + 1)) && decide (0 ≤ almN y m o) && decide (almN y m o < 1461) && decide ((fE (2000 + (y : Int)) = 100 * ((m : Int) + 1) + ((o : Int) + 1)) ↔ feaZ y = almN y m o) && (List.range 4).all (fun j => decide (feaZ j = almN y m o → j = y))
set_option maxRecDepth 100000 in
theorem alm_all : (List.range 4).all (fun y => (List.range 12).all (fun m => (List.range (mLen (2000 + (y : Int)) ((m : Int) + 1)).toNat).all (fun o => almOK y m o))) = true := by decide +kernel
theorem alm_at {y m o n : Nat} (hy : y < 4) (hm : m < 12) (ho : (o : Int) < mLen (2000 + (y : Int)) ((m : Int) + 1)) (hn : (n : Int) = fDay (2000 + (y : Int)) + mSum (2000 + (y : Int)) m + (o : Int)) : n < 1461 ∧ dateZ n = 10000 * (2000 + (y : Int)) + 100 * ((m : Int) + 1) + ((o : Int) + 1) ∧ (fE (2000 + (y : Int)) = 100 * ((m : Int) + 1) + ((o : Int) + 1) ↔ feaZ y = (n : Int)) ∧ ∀ j, j < 4 → feaZ j = (n : Int) → j = y := by
  have h1 := List.all_eq_true.mp alm_all y (List.mem_range.mpr hy)
  have h2 := List.all_eq_true.mp h1 m (List.mem_range.mpr hm)
  have h3 := List.all_eq_true.mp h2 o (List.mem_range.mpr (by omega))
  have e : almN y m o = (n : Int) := by unfold almN; omega
  unfold almOK at h3
  rw [e, Int.toNat_natCast] at h3
  simp only [Bool.and_eq_true, decide_eq_true_eq] at h3
  obtain ⟨⟨⟨⟨a1, a2⟩, a3⟩, a4⟩, a5⟩ := h3
  refine ⟨by omega, a1, a4, fun j hj hf => ?_⟩
  have := List.all_eq_true.mp a5 j (List.mem_range.mpr hj)
  exact (of_decide_eq_true this) hf
theorem yr_all : (List.range 4).all (fun y => decide (fDay (2000 + (y : Int)) + mSum (2000 + (y : Int)) 12 = fDay (2000 + (y : Int) + 1)) && decide (feastZ (2000 + (y : Int)) = fE (2000 + (y : Int))) && decide (300 ≤ fE (2000 + (y : Int))) && decide (fE (2000 + (y : Int)) ≤ 500) && (List.range 12).all (fun m => decide (mML (2000 + (y : Int)) ((m : Int) + 1) = mLen (2000 + (y : Int)) ((m : Int) + 1)))) = true := by decide +kernel
theorem yr_at {y : Nat} (hy : y < 4) : fDay (2000 + (y : Int)) + mSum (2000 + (y : Int)) 12 = fDay (2000 + (y : Int) + 1) ∧ feastZ (2000 + (y : Int)) = fE (2000 + (y : Int)) ∧ 300 ≤ fE (2000 + (y : Int)) ∧ fE (2000 + (y : Int)) ≤ 500 ∧ ∀ m : Nat, m < 12 → mML (2000 + (y : Int)) ((m : Int) + 1) = mLen (2000 + (y : Int)) ((m : Int) + 1) := by
  have h1 := List.all_eq_true.mp yr_all y (List.mem_range.mpr hy)
  simp only [Bool.and_eq_true, decide_eq_true_eq] at h1
  obtain ⟨⟨⟨⟨a1, a2⟩, a3⟩, a4⟩, a5⟩ := h1
  exact ⟨a1, a2, a3, a4, fun m hm => of_decide_eq_true (List.all_eq_true.mp a5 m (List.mem_range.mpr hm))⟩
/-- the feasts' days among n days -/
def ftM (n : Nat) (j : Nat) : Int := if j < 4 ∧ feaZ j < (n : Int) then feaZ j else 0
theorem ftM_0 : (fun _ => 0) = ftM 0 := by
  funext j
  unfold ftM
  rw [if_neg]
  intro h
  have := ld_bd h.1
  omega
theorem ftM_1 {n y : Nat} (hy : y < 4) (h : feaZ y = (n : Int)) (h2 : ∀ j, j < 4 → feaZ j = (n : Int) → j = y) : updZ (ftM n) y (n : Int) = ftM (n + 1) := by
  funext j
  unfold updZ ftM
  by_cases q : j = y
  · subst q
    rw [if_pos rfl, if_pos ⟨hy, by omega⟩, h]
  · rw [if_neg q]
    by_cases q2 : j < 4 ∧ feaZ j < (n : Int)
    · rw [if_pos q2, if_pos (by omega)]
    · rw [if_neg q2, if_neg]
      intro q3
      by_cases q4 : feaZ j = (n : Int)
      · exact q (h2 j q3.1 q4)
      · omega
theorem ftM_s {n y : Nat} (h : ¬ feaZ y = (n : Int)) (h2 : ∀ j, j < 4 → feaZ j = (n : Int) → j = y) : ftM n = ftM (n + 1) := by
  funext j
  unfold ftM
  by_cases q2 : j < 4 ∧ feaZ j < (n : Int)
  · rw [if_pos q2, if_pos (by omega)]
  · rw [if_neg q2, if_neg]
    intro q3
    by_cases q4 : feaZ j = (n : Int)
    · have := h2 j q3.1 q4
      subst this
      exact h q4
    · omega
theorem los_4 : (List.range 4).all (fun j => decide (updZ (updZ (updZ (updZ (fun _ => 0) 0 (lSun 2000 3)) 1 (lSun 2001 3)) 2 (lSun 2002 3)) 3 (lSun 2003 3) j = losZ j) && decide (updZ (updZ (updZ (updZ (fun _ => 0) 0 (lSun 2000 10)) 1 (lSun 2001 10)) 2 (lSun 2002 10)) 3 (lSun 2003 10) j = dblZ j)) = true := by decide +kernel
theorem los_at {j : Nat} (hj : j < 4) : updZ (updZ (updZ (updZ (fun _ => 0) 0 (lSun 2000 3)) 1 (lSun 2001 3)) 2 (lSun 2002 3)) 3 (lSun 2003 3) j = losZ j ∧ updZ (updZ (updZ (updZ (fun _ => 0) 0 (lSun 2000 10)) 1 (lSun 2001 10)) 2 (lSun 2002 10)) 3 (lSun 2003 10) j = dblZ j := by
  have h1 := List.all_eq_true.mp los_4 j (List.mem_range.mpr hj)
  simpa using h1
abbrev rk_DS : Room := { frames := 1, cells := 1, slots := 23, locals := 20 }
abbrev rk_CN : Room := { frames := 1, cells := 5, slots := 5848, locals := 20 }
abbrev rk_PL : Room := { frames := 2, cells := 12, slots := 11698, locals := 40 }
abbrev rk_AT : Room := { frames := 1, cells := 0, slots := 0, locals := 20 }
abbrev rk_SH : Room := { frames := 3, cells := 2, slots := 8, locals := 67 }
abbrev rk_AL : Room := { frames := 2, cells := 2, slots := 1465, locals := 45 }
abbrev rk_RR : Room := { frames := 2, cells := 22, slots := 232, locals := 41 }
abbrev rk_RC : Room := { frames := 4, cells := 83, slots := 48627, locals := 88 }
abbrev rk_MD : Room := { frames := 1, cells := 19, slots := 7298, locals := 33 }
