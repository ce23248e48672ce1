set_option maxHeartbeats 4000000 in
set_option maxRecDepth 20000 in
theorem lc_dateOf {p : Program} {l : Launch} {e : Env} {s : State} {m : MethodId} {below : List Frame} {meth : Method} {c : Code} {b L : Nat} {xs : Nat → Int32} {D : va_G} {k : Nat → ClassId} {Q : State → Prop} (C0 : LC p s m c b L xs D k) {h0 hm ao i cells slots : Nat} {INV : va_W → va_W → Prop} {R M : va_W} (hinv : ∀ R M, INV R M → ∃ q1 q2 : List Value, R[0]? = some (h0, .inr (0, q1)) ∧ M[0]? = some (hm, .inr (8, q2))) (hRM : INV R M) (hi : i + 5 ≤ L) (hcs : cells + 1 ≤ room_1.cells ∧ slots + 6 ≤ room_1.slots) (hst : ST_dateOf l D k h0 hm ao INV R M (xs (i + 1)) (xs (i + 2)))
    (kt : ∀ (R' M' : va_W) (f1 : Nat → Int64) (ls : Array Slot) (H : Heap) (locs : List Loc), INV R' M' → lv_has ls 7 [(0, .ref b), (1, .ref h0), (2, .ref hm), (3, .ref ao), (4, .int (iI (i : Int)))] → va_P D classes (OUT k ao f1 :: (R' ++ M')) H → va_D (va_A [] s.heap.size) (OUT k ao f1 :: (R' ++ M')) → va_S (va_A [] s.heap.size) s.heap H locs → W p l e room_1 s m #[Value.ref b] below meth c H locs (cells + 1) (slots + 6) Q (F0 m 1122 ls []))
    {f0 : Nat → Int64} {ls : Array Slot} {H : Heap} {locs : List Loc} (hl : lv_has ls 7 [(0, .ref b), (1, .ref h0), (2, .ref hm), (3, .ref ao), (4, .int (iI (i : Int)))]) (hP : va_P D classes (OUT k ao f0 :: (R ++ M)) H) (hD : va_D (va_A [] s.heap.size) (OUT k ao f0 :: (R ++ M))) (hS : va_S (va_A [] s.heap.size) s.heap H locs) : W p l e room_1 s m #[Value.ref b] below meth c H locs cells slots Q (F0 m 636 ls []) := by
  obtain ⟨hx, hb, hml, hown, hts, hXs, hbl, hL, hK, hX, hTX⟩ := C0
  obtain ⟨q1, q2, hR0, hM0⟩ := hinv _ _ hRM
  have hA : ∀ q : Nat, s.heap.size ≤ q → (va_A [] s.heap.size) q := fun q h => Or.inr h
  obtain ⟨M', w, hI', hC, hB⟩ := hst
  refine lv_aload_n hx hb d_law_636 rfl (lv_at hl 1 rfl) ?_
  refine lv_aload_n hx hb d_law_637 rfl (lv_at hl 0 rfl) ?_
  refine lv_iload hx hb d_law_638 (lv_at hl 4 rfl) ?_
  refine z_iconst hx hb d_law_640 ?_
  refine z_iadd hx hb d_law_641 ?_
  refine s_ld hx hb hXs hbl (nA0 hbl) hS (i + 1) (by omega) (by omega) (by omega) d_law_642 ?_
  refine lv_aload_n hx hb d_law_643 rfl (lv_at hl 0 rfl) ?_
  refine lv_iload hx hb d_law_644 (lv_at hl 4 rfl) ?_
  refine z_iconst hx hb d_law_646 ?_
  refine z_iadd hx hb d_law_647 ?_
  refine s_ld hx hb hXs hbl (nA0 hbl) hS (i + 2) (by omega) (by omega) (by omega) d_law_648 ?_
  have hPc := pL (a := R) (c := M) (pR (a := [OUT k ao f0]) hP)
  have hDc := dL (a := R) (c := M) (dR (a := [OUT k ao f0]) hD)
  refine rc_i (va_runV (As := [.int (xs (i + 1)), .int (xs (i + 2))]) (rest := []) (b := h0) ⟨hx, hb, hml, hown, hts⟩ hC ⟨callB_of 2 hts (good_RC_dateOf) rfl rfl rfl (hts _ k_59) (hts _ k_276) (by decide +kernel) ⟨(Nat.le_of_ble_eq_true rfl), (Nat.le_of_ble_eq_true rfl)⟩, (hts _ k_277), (hts _ k_278)⟩ ⟨fun a U g mk q => ⟨q.1, q.2.1, va_K.moved (u := U) (U := U.calling g mk a) (Vm.Alike.refl U.vm) q.2.2.1, q.2.2.2.calling⟩, (va_recv (q0 := 0) hK hPc rfl hR0), fun U hU hW => ⟨rfl, by rw [hU]; exact hPc, va_K.moved hW.alike hK, by rw [hU]; exact (hX.mono (B := nA) hS (fun _ h => absurd h id)).warm hW⟩⟩ rfl rfl hl.1 rfl (lv_room (Nat.le_of_ble_eq_true rfl)) d_law_649 ⟨by omega, by omega⟩) (fun r9 h9 => ?_)
  refine z_top h9 ?_
  clear hPc hDc
  refine lv_aload_n hx hb d_law_652 rfl (lv_at hl 2 rfl) ?_
  refine lv_aload_n hx hb d_law_653 rfl (lv_at hl 0 rfl) ?_
  refine lv_iload hx hb d_law_654 (lv_at hl 4 rfl) ?_
  refine z_iconst hx hb d_law_656 ?_
  refine z_iadd hx hb d_law_657 ?_
  refine s_ld hx hb hXs hbl (nA0 hbl) hS (i + 1) (by omega) (by omega) (by omega) d_law_658 ?_
  refine lv_aload_n hx hb d_law_659 rfl (lv_at hl 0 rfl) ?_
  refine lv_iload hx hb d_law_660 (lv_at hl 4 rfl) ?_
  refine z_iconst hx hb d_law_662 ?_
  refine z_iadd hx hb d_law_663 ?_
  refine s_ld hx hb hXs hbl (nA0 hbl) hS (i + 2) (by omega) (by omega) (by omega) d_law_664 ?_
  have hPc := pR (a := OUT k ao f0 :: R) (c := M) hP
  have hDc := dR (a := OUT k ao f0 :: R) (c := M) hD
  have hFc := fr hDc hS hA
  refine va_calli (va_runV (As := [.int (xs (i + 1)), .int (xs (i + 2))]) (rest := [.int w]) (b := hm) ⟨hx, hb, hml, hown, hts⟩ (hB H.size) ⟨callB_of 2 hts (good_MD_dateOf) rfl rfl rfl (hts _ k_67) (hts _ k_966) (by decide +kernel) ⟨(Nat.le_of_ble_eq_true rfl), (Nat.le_of_ble_eq_true rfl)⟩, (hts _ k_967), (hts _ k_968)⟩ ⟨fun a U g mk q => ⟨q.1, q.2.1, q.2.2.1, va_K.moved (u := U) (U := U.calling g mk a) (Vm.Alike.refl U.vm) q.2.2.2.1, q.2.2.2.2.1, q.2.2.2.2.2.calling⟩, (va_recv (q0 := 0) hK hPc rfl hM0), fun U hU hW => ⟨rfl, by rw [hU], by rw [hU]; exact hPc, va_K.moved hW.alike hK, hDc.weaken (fun _ _ _ _ => trivial), by rw [hU]; exact (hX.mono hS hFc).warm hW⟩⟩ rfl rfl hl.1 rfl (lv_room (Nat.le_of_ble_eq_true rfl)) d_law_665 ⟨by omega, by omega⟩) hS (fun q _ h => hFc q h) hFc (fun r9 u9 t H1 locs ht hvm h9 hB1 hz1 hk1 hS => ?_)
  obtain ⟨hP1, hD1⟩ := hB1
  rw [ht] at hP1
  obtain ⟨hP, hD⟩ := jR (a := OUT k ao f0 :: R) hP hD hk1 hFc hP1 hD1
  refine z_top h9 ?_
  clear hk1 hz1 hPc hDc hFc
  have hP : va_P D classes (OUT k ao f0 :: (R ++ M')) H1 := hP
  have hD : va_D (va_A [] s.heap.size) (OUT k ao f0 :: (R ++ M')) := hD
  clear ht
  generalize H1 = H at hP hS ⊢
  obtain ⟨q3, q4, hR1, hM1⟩ := hinv _ _ hI'
  refine lv_icmp_eq (tgt := 1122) hx hb d_law_668 (by decide) (fun h9 => ?_) (fun h9 => absurd rfl h9)
  exact W.widen (by omega) (by omega) (kt _ _ _ _ _ _ hI' (lv_sub hl [0, 1, 2, 3, 4] rfl) hP hD hS)

set_option maxHeartbeats 4000000 in
set_option maxRecDepth 20000 in
theorem lc_feast {p : Program} {l : Launch} {e : Env} {s : State} {m : MethodId} {below : List Frame} {meth : Method} {c : Code} {b L : Nat} {xs : Nat → Int32} {D : va_G} {k : Nat → ClassId} {Q : State → Prop} (C0 : LC p s m c b L xs D k) {h0 hm ao i cells slots : Nat} {INV : va_W → va_W → Prop} {R M : va_W} (hinv : ∀ R M, INV R M → ∃ q1 q2 : List Value, R[0]? = some (h0, .inr (0, q1)) ∧ M[0]? = some (hm, .inr (8, q2))) (hRM : INV R M) (hi : i + 5 ≤ L) (hcs : cells + 1 ≤ room_1.cells ∧ slots + 6 ≤ room_1.slots) (hst : ST_feast l D k h0 hm ao INV R M (xs (i + 1)))
    (kt : ∀ (R' M' : va_W) (f1 : Nat → Int64) (ls : Array Slot) (H : Heap) (locs : List Loc), INV R' M' → lv_has ls 7 [(0, .ref b), (1, .ref h0), (2, .ref hm), (3, .ref ao), (4, .int (iI (i : Int)))] → va_P D classes (OUT k ao f1 :: (R' ++ M')) H → va_D (va_A [] s.heap.size) (OUT k ao f1 :: (R' ++ M')) → va_S (va_A [] s.heap.size) s.heap H locs → W p l e room_1 s m #[Value.ref b] below meth c H locs (cells + 1) (slots + 6) Q (F0 m 1122 ls []))
    {f0 : Nat → Int64} {ls : Array Slot} {H : Heap} {locs : List Loc} (hl : lv_has ls 7 [(0, .ref b), (1, .ref h0), (2, .ref hm), (3, .ref ao), (4, .int (iI (i : Int)))]) (hP : va_P D classes (OUT k ao f0 :: (R ++ M)) H) (hD : va_D (va_A [] s.heap.size) (OUT k ao f0 :: (R ++ M))) (hS : va_S (va_A [] s.heap.size) s.heap H locs) : W p l e room_1 s m #[Value.ref b] below meth c H locs cells slots Q (F0 m 673 ls []) := by
  obtain ⟨hx, hb, hml, hown, hts, hXs, hbl, hL, hK, hX, hTX⟩ := C0
  obtain ⟨q1, q2, hR0, hM0⟩ := hinv _ _ hRM
  have hA : ∀ q : Nat, s.heap.size ≤ q → (va_A [] s.heap.size) q := fun q h => Or.inr h
  obtain ⟨M', w, hI', hC, hB⟩ := hst
  refine lv_aload_n hx hb d_law_673 rfl (lv_at hl 1 rfl) ?_
  refine lv_aload_n hx hb d_law_674 rfl (lv_at hl 0 rfl) ?_
  refine lv_iload hx hb d_law_675 (lv_at hl 4 rfl) ?_
  refine z_iconst hx hb d_law_677 ?_
  refine z_iadd hx hb d_law_678 ?_
  refine s_ld hx hb hXs hbl (nA0 hbl) hS (i + 1) (by omega) (by omega) (by omega) d_law_679 ?_
  have hPc := pL (a := R) (c := M) (pR (a := [OUT k ao f0]) hP)
  have hDc := dL (a := R) (c := M) (dR (a := [OUT k ao f0]) hD)
  refine rc_i (va_runV (As := [.int (xs (i + 1))]) (rest := []) (b := h0) ⟨hx, hb, hml, hown, hts⟩ hC ⟨callB_of 1 hts (good_RC_feast) rfl rfl rfl (hts _ k_59) (hts _ k_291) (by decide +kernel) ⟨(Nat.le_of_ble_eq_true rfl), (Nat.le_of_ble_eq_true rfl)⟩, (hts _ k_292), (hts _ k_293)⟩ ⟨fun a U g mk q => ⟨q.1, q.2.1, va_K.moved (u := U) (U := U.calling g mk a) (Vm.Alike.refl U.vm) q.2.2.1, q.2.2.2.calling⟩, (va_recv (q0 := 0) hK hPc rfl hR0), fun U hU hW => ⟨rfl, by rw [hU]; exact hPc, va_K.moved hW.alike hK, by rw [hU]; exact (hX.mono (B := nA) hS (fun _ h => absurd h id)).warm hW⟩⟩ rfl rfl hl.1 rfl (lv_room (Nat.le_of_ble_eq_true rfl)) d_law_680 ⟨by omega, by omega⟩) (fun r9 h9 => ?_)
  refine z_top h9 ?_
  clear hPc hDc
  refine lv_aload_n hx hb d_law_683 rfl (lv_at hl 2 rfl) ?_
  refine lv_aload_n hx hb d_law_684 rfl (lv_at hl 0 rfl) ?_
  refine lv_iload hx hb d_law_685 (lv_at hl 4 rfl) ?_
  refine z_iconst hx hb d_law_687 ?_
  refine z_iadd hx hb d_law_688 ?_
  refine s_ld hx hb hXs hbl (nA0 hbl) hS (i + 1) (by omega) (by omega) (by omega) d_law_689 ?_
  have hPc := pR (a := OUT k ao f0 :: R) (c := M) hP
  have hDc := dR (a := OUT k ao f0 :: R) (c := M) hD
  have hFc := fr hDc hS hA
  refine va_calli (va_runV (As := [.int (xs (i + 1))]) (rest := [.int w]) (b := hm) ⟨hx, hb, hml, hown, hts⟩ (hB H.size) ⟨callB_of 1 hts (good_MD_feast) rfl rfl rfl (hts _ k_67) (hts _ k_970) (by decide +kernel) ⟨(Nat.le_of_ble_eq_true rfl), (Nat.le_of_ble_eq_true rfl)⟩, (hts _ k_971), (hts _ k_972)⟩ ⟨fun a U g mk q => ⟨q.1, q.2.1, q.2.2.1, va_K.moved (u := U) (U := U.calling g mk a) (Vm.Alike.refl U.vm) q.2.2.2.1, q.2.2.2.2.1, q.2.2.2.2.2.calling⟩, (va_recv (q0 := 0) hK hPc rfl hM0), fun U hU hW => ⟨rfl, by rw [hU], by rw [hU]; exact hPc, va_K.moved hW.alike hK, hDc.weaken (fun _ _ _ _ => trivial), by rw [hU]; exact (hX.mono hS hFc).warm hW⟩⟩ rfl rfl hl.1 rfl (lv_room (Nat.le_of_ble_eq_true rfl)) d_law_690 ⟨by omega, by omega⟩) hS (fun q _ h => hFc q h) hFc (fun r9 u9 t H1 locs ht hvm h9 hB1 hz1 hk1 hS => ?_)
  obtain ⟨hP1, hD1⟩ := hB1
  rw [ht] at hP1
  obtain ⟨hP, hD⟩ := jR (a := OUT k ao f0 :: R) hP hD hk1 hFc hP1 hD1
  refine z_top h9 ?_
  clear hk1 hz1 hPc hDc hFc
  have hP : va_P D classes (OUT k ao f0 :: (R ++ M')) H1 := hP
  have hD : va_D (va_A [] s.heap.size) (OUT k ao f0 :: (R ++ M')) := hD
  clear ht
  generalize H1 = H at hP hS ⊢
  obtain ⟨q3, q4, hR1, hM1⟩ := hinv _ _ hI'
  refine lv_icmp_eq (tgt := 1122) hx hb d_law_693 (by decide) (fun h9 => ?_) (fun h9 => absurd rfl h9)
  exact W.widen (by omega) (by omega) (kt _ _ _ _ _ _ hI' (lv_sub hl [0, 1, 2, 3, 4] rfl) hP hD hS)

set_option maxHeartbeats 4000000 in
set_option maxRecDepth 20000 in
theorem lc_elapsed {p : Program} {l : Launch} {e : Env} {s : State} {m : MethodId} {below : List Frame} {meth : Method} {c : Code} {b L : Nat} {xs : Nat → Int32} {D : va_G} {k : Nat → ClassId} {Q : State → Prop} (C0 : LC p s m c b L xs D k) {h0 hm ao i cells slots : Nat} {INV : va_W → va_W → Prop} {R M : va_W} (hinv : ∀ R M, INV R M → ∃ q1 q2 : List Value, R[0]? = some (h0, .inr (0, q1)) ∧ M[0]? = some (hm, .inr (8, q2))) (hRM : INV R M) (hi : i + 5 ≤ L) (hcs : cells + 1 ≤ room_1.cells ∧ slots + 6 ≤ room_1.slots) (hst : ST_elapsed l D k h0 hm ao INV R M (xs (i + 1)) (xs (i + 2)) (xs (i + 3)))
    (kt : ∀ (R' M' : va_W) (f1 : Nat → Int64) (ls : Array Slot) (H : Heap) (locs : List Loc), INV R' M' → lv_has ls 7 [(0, .ref b), (1, .ref h0), (2, .ref hm), (3, .ref ao), (4, .int (iI (i : Int)))] → va_P D classes (OUT k ao f1 :: (R' ++ M')) H → va_D (va_A [] s.heap.size) (OUT k ao f1 :: (R' ++ M')) → va_S (va_A [] s.heap.size) s.heap H locs → W p l e room_1 s m #[Value.ref b] below meth c H locs (cells + 1) (slots + 6) Q (F0 m 1122 ls []))
    {f0 : Nat → Int64} {ls : Array Slot} {H : Heap} {locs : List Loc} (hl : lv_has ls 7 [(0, .ref b), (1, .ref h0), (2, .ref hm), (3, .ref ao), (4, .int (iI (i : Int)))]) (hP : va_P D classes (OUT k ao f0 :: (R ++ M)) H) (hD : va_D (va_A [] s.heap.size) (OUT k ao f0 :: (R ++ M))) (hS : va_S (va_A [] s.heap.size) s.heap H locs) : W p l e room_1 s m #[Value.ref b] below meth c H locs cells slots Q (F0 m 698 ls []) := by
  obtain ⟨hx, hb, hml, hown, hts, hXs, hbl, hL, hK, hX, hTX⟩ := C0
  obtain ⟨q1, q2, hR0, hM0⟩ := hinv _ _ hRM
  have hA : ∀ q : Nat, s.heap.size ≤ q → (va_A [] s.heap.size) q := fun q h => Or.inr h
  obtain ⟨R', M', kk, bb, rm, mc, ms, hI', hrm, hmc, hC, hB, hT⟩ := hst
  obtain ⟨f1, hf1, hC⟩ := hC H.size f0
  refine lv_aload_n hx hb d_law_698 rfl (lv_at hl 1 rfl) ?_
  refine lv_aload_n hx hb d_law_699 rfl (lv_at hl 0 rfl) ?_
  refine lv_iload hx hb d_law_700 (lv_at hl 4 rfl) ?_
  refine z_iconst hx hb d_law_702 ?_
  refine z_iadd hx hb d_law_703 ?_
  refine s_ld hx hb hXs hbl (nA0 hbl) hS (i + 1) (by omega) (by omega) (by omega) d_law_704 ?_
  refine lv_aload_n hx hb d_law_705 rfl (lv_at hl 0 rfl) ?_
  refine lv_iload hx hb d_law_706 (lv_at hl 4 rfl) ?_
  refine z_iconst hx hb d_law_708 ?_
  refine z_iadd hx hb d_law_709 ?_
  refine s_ld hx hb hXs hbl (nA0 hbl) hS (i + 2) (by omega) (by omega) (by omega) d_law_710 ?_
  refine lv_aload_n hx hb d_law_711 rfl (lv_at hl 0 rfl) ?_
  refine lv_iload hx hb d_law_712 (lv_at hl 4 rfl) ?_
  refine z_iconst hx hb d_law_714 ?_
  refine z_iadd hx hb d_law_715 ?_
  refine s_ld hx hb hXs hbl (nA0 hbl) hS (i + 3) (by omega) (by omega) (by omega) d_law_716 ?_
  by_cases hz3 : xs (i + 3) = 0
  · refine lv_if_eq (tgt := 724) hx hb d_law_717 (by decide) (fun h9 => ?_) (fun h9 => absurd hz3 h9)
    refine z_iconst hx hb d_law_724 ?_
    refine z_top (nz_0 hz3) ?_
    refine lv_aload_n hx hb d_law_725 rfl (lv_at hl 3 rfl) ?_
    have hPa := pL (a := OUT k ao f0 :: R) (c := M) hP
    have hDa := dL (a := OUT k ao f0 :: R) (c := M) hD
    have hFa := fr hDa hS hA
    refine va_calli (runSW (n := 5) (As := [.ref h0, .int (xs (i + 1)), .int (xs (i + 2)), .int (bI (nz (xs (i + 3)))), .ref ao]) (rest := []) ⟨hx, hb, hml, hown, hts⟩ hC good_LW_elapsed rfl (hts _ k_58) (hts _ k_666) (hts _ k_667) (by decide +kernel) hrm ⟨fun a U g mk q => ⟨q.1, ⟨q.2.1.1, q.2.1.2.1, va_K.moved (u := U) (U := U.calling g mk a) (Vm.Alike.refl U.vm) q.2.1.2.2.1, q.2.1.2.2.2.1, q.2.1.2.2.2.2.calling⟩, q.2.2.calling⟩, fun U hU hW => ⟨rfl, ⟨by rw [hU], by rw [hU]; exact hPa, va_K.moved hW.alike hK, hDa.weaken (fun _ _ _ _ => trivial), by rw [hU]; exact (hX.mono hS hFa).warm hW⟩, by rw [hU]; exact (hTX.mono hS hFa).warm hW⟩⟩ rfl rfl hl.1 rfl (lv_room (Nat.le_of_ble_eq_true rfl)) d_law_726 ⟨by omega, by omega⟩) hS (fun q _ h => hFa q h) hFa (fun r9 u9 t H1 locs ht hvm h9 hB1 hz1 hk1 hS => ?_)
    obtain ⟨hP1, hD1⟩ := hB1
    rw [ht] at hP1
    obtain ⟨hP, hD⟩ := jL (c := M) hP hD hk1 hFa hP1 hD1
    refine z_top h9 ?_
    clear hk1 hz1 hPa hDa hFa hC
    have hP : va_P D classes (OUT k ao f1 :: (R' ++ M)) H1 := hP
    have hD : va_D (va_A [] s.heap.size) (OUT k ao f1 :: (R' ++ M)) := hD
    clear ht
    generalize H1 = H at hP hS ⊢
    refine lv_istore (lv' := [(5, .int kk), (0, .ref b), (1, .ref h0), (2, .ref hm), (3, .ref ao), (4, .int (iI (i : Int)))]) hx hb d_law_729 hl (by decide) rfl (fun ls hl => ?_)
    refine lv_aload_n hx hb d_law_731 rfl (lv_at hl 3 rfl) ?_
    refine lv_aload_n hx hb d_law_732 rfl (lv_at hl 1 rfl) ?_
    refine lv_iload hx hb d_law_733 (lv_at hl 5 rfl) ?_
    refine z_iconst hx hb d_law_735 ?_
    refine z_iadd hx hb d_law_736 ?_
    refine s_ld hx hb hXs hbl (nA0 hbl) hS (i + 1) (by omega) (by omega) (by omega) d_law_737 ?_
    refine lv_aload_n hx hb d_law_738 rfl (lv_at hl 1 rfl) ?_
    refine lv_iload hx hb d_law_739 (lv_at hl 5 rfl) ?_
    refine z_iconst hx hb d_law_741 ?_
    refine z_iadd hx hb d_law_742 ?_
    refine s_ld hx hb hXs hbl (nA0 hbl) hS (i + 2) (by omega) (by omega) (by omega) d_law_743 ?_
    refine lv_aload_n hx hb d_law_744 rfl (lv_at hl 1 rfl) ?_
    refine lv_iload hx hb d_law_745 (lv_at hl 5 rfl) ?_
    refine z_iconst hx hb d_law_747 ?_
    refine z_iadd hx hb d_law_748 ?_
    refine s_ld hx hb hXs hbl (nA0 hbl) hS (i + 3) (by omega) (by omega) (by omega) d_law_749 ?_
    refine lv_if_eq (tgt := 757) hx hb d_law_750 (by decide) (fun h9 => ?_) (fun h9 => absurd hz3 h9)
    refine z_iconst hx hb d_law_757 ?_
    refine z_top (nz_0 hz3) ?_
    have hPc := pR (a := OUT k ao f1 :: R') (c := M) hP
    have hDc := dR (a := OUT k ao f1 :: R') (c := M) hD
    have hFc := fr hDc hS hA
    refine va_calli (va_runV (As := [.int (xs (i + 1)), .int (xs (i + 2)), .int (bI (nz (xs (i + 3))))]) (rest := []) (b := hm) ⟨hx, hb, hml, hown, hts⟩ (hB H.size) ⟨callB_of 3 hts (good_MD_elapsed) rfl rfl rfl (hts _ k_67) (hts _ k_974) (by decide +kernel) ⟨(Nat.le_of_ble_eq_true rfl), (Nat.le_of_ble_eq_true rfl)⟩, (hts _ k_975), (hts _ k_976)⟩ ⟨fun a U g mk q => ⟨q.1, q.2.1, q.2.2.1, va_K.moved (u := U) (U := U.calling g mk a) (Vm.Alike.refl U.vm) q.2.2.2.1, q.2.2.2.2.1, q.2.2.2.2.2.calling⟩, (va_recv (q0 := 0) hK hPc rfl hM0), fun U hU hW => ⟨rfl, by rw [hU], by rw [hU]; exact hPc, va_K.moved hW.alike hK, hDc.weaken (fun _ _ _ _ => trivial), by rw [hU]; exact (hX.mono hS hFc).warm hW⟩⟩ rfl rfl hl.1 rfl (lv_room (Nat.le_of_ble_eq_true rfl)) d_law_758 ⟨by omega, by omega⟩) hS (fun q _ h => hFc q h) hFc (fun r9 u9 t H1 locs ht hvm h9 hB1 hz1 hk1 hS => ?_)
    obtain ⟨hP1, hD1⟩ := hB1
    rw [ht] at hP1
    obtain ⟨hP, hD⟩ := jR (a := OUT k ao f1 :: R') hP hD hk1 hFc hP1 hD1
    refine z_top h9 ?_
    clear hk1 hz1 hPc hDc hFc
    have hP : va_P D classes (OUT k ao f1 :: (R' ++ M')) H1 := hP
    have hD : va_D (va_A [] s.heap.size) (OUT k ao f1 :: (R' ++ M')) := hD
    clear ht
    generalize H1 = H at hP hS ⊢
    obtain ⟨q3, q4, hR1, hM1⟩ := hinv _ _ hI'
    refine lv_istore (lv' := [(6, .int bb), (5, .int kk), (0, .ref b), (1, .ref h0), (2, .ref hm), (3, .ref ao), (4, .int (iI (i : Int)))]) hx hb d_law_761 hl (by decide) rfl (fun ls hl => ?_)
    refine lv_aload_n hx hb d_law_763 rfl (lv_at hl 4 rfl) ?_
    have hPc := pR (a := OUT k ao f1 :: R') (c := M') hP
    have hDc := dR (a := OUT k ao f1 :: R') (c := M') hD
    refine rc_i (va_runV (As := []) (rest := []) (b := hm) ⟨hx, hb, hml, hown, hts⟩ hT ⟨callB_of 0 hts (good_MD_thrown) rfl rfl rfl (hts _ k_67) (hts _ k_812) (by decide +kernel) ⟨(Nat.le_of_ble_eq_true rfl), (Nat.le_of_ble_eq_true rfl)⟩, (hts _ k_813), (hts _ k_814)⟩ ⟨fun a U g mk q => ⟨q.1, q.2.1, va_K.moved (u := U) (U := U.calling g mk a) (Vm.Alike.refl U.vm) q.2.2.1, q.2.2.2.calling⟩, (va_recv (q0 := 0) hK hPc rfl hM1), fun U hU hW => ⟨rfl, by rw [hU]; exact hPc, va_K.moved hW.alike hK, by rw [hU]; exact (hX.mono (B := nA) hS (fun _ h => absurd h id)).warm hW⟩⟩ rfl rfl hl.1 rfl (lv_room (Nat.le_of_ble_eq_true rfl)) d_law_764 ⟨by omega, by omega⟩) (fun r9 h9 => ?_)
    refine z_top h9 ?_
    clear hPc hDc
    refine lv_iload hx hb d_law_767 (lv_at hl 1 rfl) ?_
    refine lv_icmp_eq (tgt := 774) hx hb d_law_769 (by decide) (fun h9 => ?_) (fun h9 => absurd rfl h9)
    refine lv_iload hx hb d_law_774 (lv_at hl 1 rfl) ?_
    refine lv_if_ne (tgt := 791) hx hb d_law_776 (by decide) (fun h9 => ?_) (fun h9 => ?_)
    · refine lv_goto (tgt := 1122) hx hb d_law_791 (by decide) ?_
      exact W.widen (by omega) (by omega) (kt _ _ _ _ _ _ hI' (lv_sub hl [2, 3, 4, 5, 6] rfl) hP hD hS)
    · refine lv_aload_n hx hb d_law_779 rfl (lv_at hl 5 rfl) ?_
      refine z_iconst hx hb d_law_780 ?_
      refine x_lald hx hb hK hP 0 1 rfl rfl (0) rfl (by decide) (by omega) d_law_781 ?_
      refine lv_iload hx hb d_law_782 (lv_at hl 0 rfl) ?_
      refine lv_i2l hx hb d_law_784 rfl ?_
      refine l_eq (tgt := 791) hx hb d_law_785 d_law_786 (by decide) (fun h7 => ?_) (fun h7 => absurd (hf1 h9) h7)
      refine lv_goto (tgt := 1122) hx hb d_law_791 (by decide) ?_
      exact W.widen (by omega) (by omega) (kt _ _ _ _ _ _ hI' (lv_sub hl [2, 3, 4, 5, 6] rfl) hP hD hS)
  · refine lv_if_eq (tgt := 724) hx hb d_law_717 (by decide) (fun h9 => absurd h9 hz3) (fun h9 => ?_)
    refine z_iconst hx hb d_law_720 ?_
    refine z_top (nz_1 hz3) ?_
    refine lv_goto (tgt := 725) hx hb d_law_721 (by decide) ?_
    refine lv_aload_n hx hb d_law_725 rfl (lv_at hl 3 rfl) ?_
    have hPa := pL (a := OUT k ao f0 :: R) (c := M) hP
    have hDa := dL (a := OUT k ao f0 :: R) (c := M) hD
    have hFa := fr hDa hS hA
    refine va_calli (runSW (n := 5) (As := [.ref h0, .int (xs (i + 1)), .int (xs (i + 2)), .int (bI (nz (xs (i + 3)))), .ref ao]) (rest := []) ⟨hx, hb, hml, hown, hts⟩ hC good_LW_elapsed rfl (hts _ k_58) (hts _ k_666) (hts _ k_667) (by decide +kernel) hrm ⟨fun a U g mk q => ⟨q.1, ⟨q.2.1.1, q.2.1.2.1, va_K.moved (u := U) (U := U.calling g mk a) (Vm.Alike.refl U.vm) q.2.1.2.2.1, q.2.1.2.2.2.1, q.2.1.2.2.2.2.calling⟩, q.2.2.calling⟩, fun U hU hW => ⟨rfl, ⟨by rw [hU], by rw [hU]; exact hPa, va_K.moved hW.alike hK, hDa.weaken (fun _ _ _ _ => trivial), by rw [hU]; exact (hX.mono hS hFa).warm hW⟩, by rw [hU]; exact (hTX.mono hS hFa).warm hW⟩⟩ rfl rfl hl.1 rfl (lv_room (Nat.le_of_ble_eq_true rfl)) d_law_726 ⟨by omega, by omega⟩) hS (fun q _ h => hFa q h) hFa (fun r9 u9 t H1 locs ht hvm h9 hB1 hz1 hk1 hS => ?_)
    obtain ⟨hP1, hD1⟩ := hB1
    rw [ht] at hP1
    obtain ⟨hP, hD⟩ := jL (c := M) hP hD hk1 hFa hP1 hD1
    refine z_top h9 ?_
    clear hk1 hz1 hPa hDa hFa hC
    have hP : va_P D classes (OUT k ao f1 :: (R' ++ M)) H1 := hP
    have hD : va_D (va_A [] s.heap.size) (OUT k ao f1 :: (R' ++ M)) := hD
    clear ht
    generalize H1 = H at hP hS ⊢
    refine lv_istore (lv' := [(5, .int kk), (0, .ref b), (1, .ref h0), (2, .ref hm), (3, .ref ao), (4, .int (iI (i : Int)))]) hx hb d_law_729 hl (by decide) rfl (fun ls hl => ?_)
    refine lv_aload_n hx hb d_law_731 rfl (lv_at hl 3 rfl) ?_
    refine lv_aload_n hx hb d_law_732 rfl (lv_at hl 1 rfl) ?_
    refine lv_iload hx hb d_law_733 (lv_at hl 5 rfl) ?_
    refine z_iconst hx hb d_law_735 ?_
    refine z_iadd hx hb d_law_736 ?_
    refine s_ld hx hb hXs hbl (nA0 hbl) hS (i + 1) (by omega) (by omega) (by omega) d_law_737 ?_
    refine lv_aload_n hx hb d_law_738 rfl (lv_at hl 1 rfl) ?_
    refine lv_iload hx hb d_law_739 (lv_at hl 5 rfl) ?_
    refine z_iconst hx hb d_law_741 ?_
    refine z_iadd hx hb d_law_742 ?_
    refine s_ld hx hb hXs hbl (nA0 hbl) hS (i + 2) (by omega) (by omega) (by omega) d_law_743 ?_
    refine lv_aload_n hx hb d_law_744 rfl (lv_at hl 1 rfl) ?_
    refine lv_iload hx hb d_law_745 (lv_at hl 5 rfl) ?_
    refine z_iconst hx hb d_law_747 ?_
    refine z_iadd hx hb d_law_748 ?_
    refine s_ld hx hb hXs hbl (nA0 hbl) hS (i + 3) (by omega) (by omega) (by omega) d_law_749 ?_
    refine lv_if_eq (tgt := 757) hx hb d_law_750 (by decide) (fun h9 => absurd h9 hz3) (fun h9 => ?_)
    refine z_iconst hx hb d_law_753 ?_
    refine z_top (nz_1 hz3) ?_
    refine lv_goto (tgt := 758) hx hb d_law_754 (by decide) ?_
    have hPc := pR (a := OUT k ao f1 :: R') (c := M) hP
    have hDc := dR (a := OUT k ao f1 :: R') (c := M) hD
    have hFc := fr hDc hS hA
    refine va_calli (va_runV (As := [.int (xs (i + 1)), .int (xs (i + 2)), .int (bI (nz (xs (i + 3))))]) (rest := []) (b := hm) ⟨hx, hb, hml, hown, hts⟩ (hB H.size) ⟨callB_of 3 hts (good_MD_elapsed) rfl rfl rfl (hts _ k_67) (hts _ k_974) (by decide +kernel) ⟨(Nat.le_of_ble_eq_true rfl), (Nat.le_of_ble_eq_true rfl)⟩, (hts _ k_975), (hts _ k_976)⟩ ⟨fun a U g mk q => ⟨q.1, q.2.1, q.2.2.1, va_K.moved (u := U) (U := U.calling g mk a) (Vm.Alike.refl U.vm) q.2.2.2.1, q.2.2.2.2.1, q.2.2.2.2.2.calling⟩, (va_recv (q0 := 0) hK hPc rfl hM0), fun U hU hW => ⟨rfl, by rw [hU], by rw [hU]; exact hPc, va_K.moved hW.alike hK, hDc.weaken (fun _ _ _ _ => trivial), by rw [hU]; exact (hX.mono hS hFc).warm hW⟩⟩ rfl rfl hl.1 rfl (lv_room (Nat.le_of_ble_eq_true rfl)) d_law_758 ⟨by omega, by omega⟩) hS (fun q _ h => hFc q h) hFc (fun r9 u9 t H1 locs ht hvm h9 hB1 hz1 hk1 hS => ?_)
    obtain ⟨hP1, hD1⟩ := hB1
    rw [ht] at hP1
    obtain ⟨hP, hD⟩ := jR (a := OUT k ao f1 :: R') hP hD hk1 hFc hP1 hD1
    refine z_top h9 ?_
    clear hk1 hz1 hPc hDc hFc
    have hP : va_P D classes (OUT k ao f1 :: (R' ++ M')) H1 := hP
    have hD : va_D (va_A [] s.heap.size) (OUT k ao f1 :: (R' ++ M')) := hD
    clear ht
    generalize H1 = H at hP hS ⊢
    obtain ⟨q3, q4, hR1, hM1⟩ := hinv _ _ hI'
    refine lv_istore (lv' := [(6, .int bb), (5, .int kk), (0, .ref b), (1, .ref h0), (2, .ref hm), (3, .ref ao), (4, .int (iI (i : Int)))]) hx hb d_law_761 hl (by decide) rfl (fun ls hl => ?_)
    refine lv_aload_n hx hb d_law_763 rfl (lv_at hl 4 rfl) ?_
    have hPc := pR (a := OUT k ao f1 :: R') (c := M') hP
    have hDc := dR (a := OUT k ao f1 :: R') (c := M') hD
    refine rc_i (va_runV (As := []) (rest := []) (b := hm) ⟨hx, hb, hml, hown, hts⟩ hT ⟨callB_of 0 hts (good_MD_thrown) rfl rfl rfl (hts _ k_67) (hts _ k_812) (by decide +kernel) ⟨(Nat.le_of_ble_eq_true rfl), (Nat.le_of_ble_eq_true rfl)⟩, (hts _ k_813), (hts _ k_814)⟩ ⟨fun a U g mk q => ⟨q.1, q.2.1, va_K.moved (u := U) (U := U.calling g mk a) (Vm.Alike.refl U.vm) q.2.2.1, q.2.2.2.calling⟩, (va_recv (q0 := 0) hK hPc rfl hM1), fun U hU hW => ⟨rfl, by rw [hU]; exact hPc, va_K.moved hW.alike hK, by rw [hU]; exact (hX.mono (B := nA) hS (fun _ h => absurd h id)).warm hW⟩⟩ rfl rfl hl.1 rfl (lv_room (Nat.le_of_ble_eq_true rfl)) d_law_764 ⟨by omega, by omega⟩) (fun r9 h9 => ?_)
    refine z_top h9 ?_
    clear hPc hDc
    refine lv_iload hx hb d_law_767 (lv_at hl 1 rfl) ?_
    refine lv_icmp_eq (tgt := 774) hx hb d_law_769 (by decide) (fun h9 => ?_) (fun h9 => absurd rfl h9)
    refine lv_iload hx hb d_law_774 (lv_at hl 1 rfl) ?_
    refine lv_if_ne (tgt := 791) hx hb d_law_776 (by decide) (fun h9 => ?_) (fun h9 => ?_)
    · refine lv_goto (tgt := 1122) hx hb d_law_791 (by decide) ?_
      exact W.widen (by omega) (by omega) (kt _ _ _ _ _ _ hI' (lv_sub hl [2, 3, 4, 5, 6] rfl) hP hD hS)
    · refine lv_aload_n hx hb d_law_779 rfl (lv_at hl 5 rfl) ?_
      refine z_iconst hx hb d_law_780 ?_
      refine x_lald hx hb hK hP 0 1 rfl rfl (0) rfl (by decide) (by omega) d_law_781 ?_
      refine lv_iload hx hb d_law_782 (lv_at hl 0 rfl) ?_
      refine lv_i2l hx hb d_law_784 rfl ?_
      refine l_eq (tgt := 791) hx hb d_law_785 d_law_786 (by decide) (fun h7 => ?_) (fun h7 => absurd (hf1 h9) h7)
      refine lv_goto (tgt := 1122) hx hb d_law_791 (by decide) ?_
      exact W.widen (by omega) (by omega) (kt _ _ _ _ _ _ hI' (lv_sub hl [2, 3, 4, 5, 6] rfl) hP hD hS)

set_option maxHeartbeats 4000000 in
set_option maxRecDepth 20000 in
theorem lc_clock {p : Program} {l : Launch} {e : Env} {s : State} {m : MethodId} {below : List Frame} {meth : Method} {c : Code} {b L : Nat} {xs : Nat → Int32} {D : va_G} {k : Nat → ClassId} {Q : State → Prop} (C0 : LC p s m c b L xs D k) {h0 hm ao i cells slots : Nat} {INV : va_W → va_W → Prop} {R M : va_W} (hinv : ∀ R M, INV R M → ∃ q1 q2 : List Value, R[0]? = some (h0, .inr (0, q1)) ∧ M[0]? = some (hm, .inr (8, q2))) (hRM : INV R M) (hi : i + 5 ≤ L) (hcs : cells + 1 ≤ room_1.cells ∧ slots + 6 ≤ room_1.slots) (hst : ST_clock l D k h0 hm ao INV R M (xs (i + 1)))
    (kt : ∀ (R' M' : va_W) (f1 : Nat → Int64) (ls : Array Slot) (H : Heap) (locs : List Loc), INV R' M' → lv_has ls 7 [(0, .ref b), (1, .ref h0), (2, .ref hm), (3, .ref ao), (4, .int (iI (i : Int)))] → va_P D classes (OUT k ao f1 :: (R' ++ M')) H → va_D (va_A [] s.heap.size) (OUT k ao f1 :: (R' ++ M')) → va_S (va_A [] s.heap.size) s.heap H locs → W p l e room_1 s m #[Value.ref b] below meth c H locs (cells + 1) (slots + 6) Q (F0 m 1122 ls []))
    {f0 : Nat → Int64} {ls : Array Slot} {H : Heap} {locs : List Loc} (hl : lv_has ls 7 [(0, .ref b), (1, .ref h0), (2, .ref hm), (3, .ref ao), (4, .int (iI (i : Int)))]) (hP : va_P D classes (OUT k ao f0 :: (R ++ M)) H) (hD : va_D (va_A [] s.heap.size) (OUT k ao f0 :: (R ++ M))) (hS : va_S (va_A [] s.heap.size) s.heap H locs) : W p l e room_1 s m #[Value.ref b] below meth c H locs cells slots Q (F0 m 794 ls []) := by
  obtain ⟨hx, hb, hml, hown, hts, hXs, hbl, hL, hK, hX, hTX⟩ := C0
  obtain ⟨q1, q2, hR0, hM0⟩ := hinv _ _ hRM
  have hA : ∀ q : Nat, s.heap.size ≤ q → (va_A [] s.heap.size) q := fun q h => Or.inr h
  obtain ⟨M', w, hI', hC, hB⟩ := hst
  refine lv_aload_n hx hb d_law_794 rfl (lv_at hl 1 rfl) ?_
  refine lv_aload_n hx hb d_law_795 rfl (lv_at hl 0 rfl) ?_
  refine lv_iload hx hb d_law_796 (lv_at hl 4 rfl) ?_
  refine z_iconst hx hb d_law_798 ?_
  refine z_iadd hx hb d_law_799 ?_
  refine s_ld hx hb hXs hbl (nA0 hbl) hS (i + 1) (by omega) (by omega) (by omega) d_law_800 ?_
  have hPc := pL (a := R) (c := M) (pR (a := [OUT k ao f0]) hP)
  have hDc := dL (a := R) (c := M) (dR (a := [OUT k ao f0]) hD)
  refine rc_i (va_runV (As := [.int (xs (i + 1))]) (rest := []) (b := h0) ⟨hx, hb, hml, hown, hts⟩ hC ⟨callB_of 1 hts (good_RC_clock) rfl rfl rfl (hts _ k_59) (hts _ k_296) (by decide +kernel) ⟨(Nat.le_of_ble_eq_true rfl), (Nat.le_of_ble_eq_true rfl)⟩, (hts _ k_297), (hts _ k_298)⟩ ⟨fun a U g mk q => ⟨q.1, q.2.1, va_K.moved (u := U) (U := U.calling g mk a) (Vm.Alike.refl U.vm) q.2.2.1, q.2.2.2.calling⟩, (va_recv (q0 := 0) hK hPc rfl hR0), fun U hU hW => ⟨rfl, by rw [hU]; exact hPc, va_K.moved hW.alike hK, by rw [hU]; exact (hX.mono (B := nA) hS (fun _ h => absurd h id)).warm hW⟩⟩ rfl rfl hl.1 rfl (lv_room (Nat.le_of_ble_eq_true rfl)) d_law_801 ⟨by omega, by omega⟩) (fun r9 h9 => ?_)
  refine z_top h9 ?_
  clear hPc hDc
  refine lv_aload_n hx hb d_law_804 rfl (lv_at hl 2 rfl) ?_
  refine lv_aload_n hx hb d_law_805 rfl (lv_at hl 0 rfl) ?_
  refine lv_iload hx hb d_law_806 (lv_at hl 4 rfl) ?_
  refine z_iconst hx hb d_law_808 ?_
  refine z_iadd hx hb d_law_809 ?_
  refine s_ld hx hb hXs hbl (nA0 hbl) hS (i + 1) (by omega) (by omega) (by omega) d_law_810 ?_
  have hPc := pR (a := OUT k ao f0 :: R) (c := M) hP
  have hDc := dR (a := OUT k ao f0 :: R) (c := M) hD
  have hFc := fr hDc hS hA
  refine va_calli (va_runV (As := [.int (xs (i + 1))]) (rest := [.int w]) (b := hm) ⟨hx, hb, hml, hown, hts⟩ (hB H.size) ⟨callB_of 1 hts (good_MD_clock) rfl rfl rfl (hts _ k_67) (hts _ k_982) (by decide +kernel) ⟨(Nat.le_of_ble_eq_true rfl), (Nat.le_of_ble_eq_true rfl)⟩, (hts _ k_983), (hts _ k_984)⟩ ⟨fun a U g mk q => ⟨q.1, q.2.1, q.2.2.1, va_K.moved (u := U) (U := U.calling g mk a) (Vm.Alike.refl U.vm) q.2.2.2.1, q.2.2.2.2.1, q.2.2.2.2.2.calling⟩, (va_recv (q0 := 0) hK hPc rfl hM0), fun U hU hW => ⟨rfl, by rw [hU], by rw [hU]; exact hPc, va_K.moved hW.alike hK, hDc.weaken (fun _ _ _ _ => trivial), by rw [hU]; exact (hX.mono hS hFc).warm hW⟩⟩ rfl rfl hl.1 rfl (lv_room (Nat.le_of_ble_eq_true rfl)) d_law_811 ⟨by omega, by omega⟩) hS (fun q _ h => hFc q h) hFc (fun r9 u9 t H1 locs ht hvm h9 hB1 hz1 hk1 hS => ?_)
  obtain ⟨hP1, hD1⟩ := hB1
  rw [ht] at hP1
  obtain ⟨hP, hD⟩ := jR (a := OUT k ao f0 :: R) hP hD hk1 hFc hP1 hD1
  refine z_top h9 ?_
  clear hk1 hz1 hPc hDc hFc
  have hP : va_P D classes (OUT k ao f0 :: (R ++ M')) H1 := hP
  have hD : va_D (va_A [] s.heap.size) (OUT k ao f0 :: (R ++ M')) := hD
  clear ht
  generalize H1 = H at hP hS ⊢
  obtain ⟨q3, q4, hR1, hM1⟩ := hinv _ _ hI'
  refine lv_icmp_eq (tgt := 1122) hx hb d_law_814 (by decide) (fun h9 => ?_) (fun h9 => absurd rfl h9)
  exact W.widen (by omega) (by omega) (kt _ _ _ _ _ _ hI' (lv_sub hl [0, 1, 2, 3, 4] rfl) hP hD hS)

set_option maxHeartbeats 4000000 in
set_option maxRecDepth 20000 in
theorem lc_compare {p : Program} {l : Launch} {e : Env} {s : State} {m : MethodId} {below : List Frame} {meth : Method} {c : Code} {b L : Nat} {xs : Nat → Int32} {D : va_G} {k : Nat → ClassId} {Q : State → Prop} (C0 : LC p s m c b L xs D k) {h0 hm ao i cells slots : Nat} {INV : va_W → va_W → Prop} {R M : va_W} (hinv : ∀ R M, INV R M → ∃ q1 q2 : List Value, R[0]? = some (h0, .inr (0, q1)) ∧ M[0]? = some (hm, .inr (8, q2))) (hRM : INV R M) (hi : i + 5 ≤ L) (hcs : cells + 1 ≤ room_1.cells ∧ slots + 6 ≤ room_1.slots) (hst : ST_compare l D k h0 hm ao INV R M (xs (i + 1)) (xs (i + 2)))
    (kt : ∀ (R' M' : va_W) (f1 : Nat → Int64) (ls : Array Slot) (H : Heap) (locs : List Loc), INV R' M' → lv_has ls 7 [(0, .ref b), (1, .ref h0), (2, .ref hm), (3, .ref ao), (4, .int (iI (i : Int)))] → va_P D classes (OUT k ao f1 :: (R' ++ M')) H → va_D (va_A [] s.heap.size) (OUT k ao f1 :: (R' ++ M')) → va_S (va_A [] s.heap.size) s.heap H locs → W p l e room_1 s m #[Value.ref b] below meth c H locs (cells + 1) (slots + 6) Q (F0 m 1122 ls []))
    {f0 : Nat → Int64} {ls : Array Slot} {H : Heap} {locs : List Loc} (hl : lv_has ls 7 [(0, .ref b), (1, .ref h0), (2, .ref hm), (3, .ref ao), (4, .int (iI (i : Int)))]) (hP : va_P D classes (OUT k ao f0 :: (R ++ M)) H) (hD : va_D (va_A [] s.heap.size) (OUT k ao f0 :: (R ++ M))) (hS : va_S (va_A [] s.heap.size) s.heap H locs) : W p l e room_1 s m #[Value.ref b] below meth c H locs cells slots Q (F0 m 819 ls []) := by
  obtain ⟨hx, hb, hml, hown, hts, hXs, hbl, hL, hK, hX, hTX⟩ := C0
  obtain ⟨q1, q2, hR0, hM0⟩ := hinv _ _ hRM
  have hA : ∀ q : Nat, s.heap.size ≤ q → (va_A [] s.heap.size) q := fun q h => Or.inr h
  obtain ⟨R', M', kk, bb, rm, mc, ms, hI', hrm, hmc, hC, hB, hT⟩ := hst
  obtain ⟨f1, hf1, hC⟩ := hC H.size f0
  refine lv_aload_n hx hb d_law_819 rfl (lv_at hl 1 rfl) ?_
  refine lv_aload_n hx hb d_law_820 rfl (lv_at hl 0 rfl) ?_
  refine lv_iload hx hb d_law_821 (lv_at hl 4 rfl) ?_
  refine z_iconst hx hb d_law_823 ?_
  refine z_iadd hx hb d_law_824 ?_
  refine s_ld hx hb hXs hbl (nA0 hbl) hS (i + 1) (by omega) (by omega) (by omega) d_law_825 ?_
  refine lv_aload_n hx hb d_law_826 rfl (lv_at hl 0 rfl) ?_
  refine lv_iload hx hb d_law_827 (lv_at hl 4 rfl) ?_
  refine z_iconst hx hb d_law_829 ?_
  refine z_iadd hx hb d_law_830 ?_
  refine s_ld hx hb hXs hbl (nA0 hbl) hS (i + 2) (by omega) (by omega) (by omega) d_law_831 ?_
  refine lv_aload_n hx hb d_law_832 rfl (lv_at hl 3 rfl) ?_
  have hPa := pL (a := OUT k ao f0 :: R) (c := M) hP
  have hDa := dL (a := OUT k ao f0 :: R) (c := M) hD
  have hFa := fr hDa hS hA
  refine va_calli (runSW (n := 4) (As := [.ref h0, .int (xs (i + 1)), .int (xs (i + 2)), .ref ao]) (rest := []) ⟨hx, hb, hml, hown, hts⟩ hC good_LW_compare rfl (hts _ k_58) (hts _ k_673) (hts _ k_674) (by decide +kernel) hrm ⟨fun a U g mk q => ⟨q.1, ⟨q.2.1.1, q.2.1.2.1, va_K.moved (u := U) (U := U.calling g mk a) (Vm.Alike.refl U.vm) q.2.1.2.2.1, q.2.1.2.2.2.1, q.2.1.2.2.2.2.calling⟩, q.2.2.calling⟩, fun U hU hW => ⟨rfl, ⟨by rw [hU], by rw [hU]; exact hPa, va_K.moved hW.alike hK, hDa.weaken (fun _ _ _ _ => trivial), by rw [hU]; exact (hX.mono hS hFa).warm hW⟩, by rw [hU]; exact (hTX.mono hS hFa).warm hW⟩⟩ rfl rfl hl.1 rfl (lv_room (Nat.le_of_ble_eq_true rfl)) d_law_833 ⟨by omega, by omega⟩) hS (fun q _ h => hFa q h) hFa (fun r9 u9 t H1 locs ht hvm h9 hB1 hz1 hk1 hS => ?_)
  obtain ⟨hP1, hD1⟩ := hB1
  rw [ht] at hP1
  obtain ⟨hP, hD⟩ := jL (c := M) hP hD hk1 hFa hP1 hD1
  refine z_top h9 ?_
  clear hk1 hz1 hPa hDa hFa hC
  have hP : va_P D classes (OUT k ao f1 :: (R' ++ M)) H1 := hP
  have hD : va_D (va_A [] s.heap.size) (OUT k ao f1 :: (R' ++ M)) := hD
  clear ht
  generalize H1 = H at hP hS ⊢
  refine lv_istore (lv' := [(5, .int kk), (0, .ref b), (1, .ref h0), (2, .ref hm), (3, .ref ao), (4, .int (iI (i : Int)))]) hx hb d_law_836 hl (by decide) rfl (fun ls hl => ?_)
  refine lv_aload_n hx hb d_law_838 rfl (lv_at hl 3 rfl) ?_
  refine lv_aload_n hx hb d_law_839 rfl (lv_at hl 1 rfl) ?_
  refine lv_iload hx hb d_law_840 (lv_at hl 5 rfl) ?_
  refine z_iconst hx hb d_law_842 ?_
  refine z_iadd hx hb d_law_843 ?_
  refine s_ld hx hb hXs hbl (nA0 hbl) hS (i + 1) (by omega) (by omega) (by omega) d_law_844 ?_
  refine lv_aload_n hx hb d_law_845 rfl (lv_at hl 1 rfl) ?_
  refine lv_iload hx hb d_law_846 (lv_at hl 5 rfl) ?_
  refine z_iconst hx hb d_law_848 ?_
  refine z_iadd hx hb d_law_849 ?_
  refine s_ld hx hb hXs hbl (nA0 hbl) hS (i + 2) (by omega) (by omega) (by omega) d_law_850 ?_
  have hPc := pR (a := OUT k ao f1 :: R') (c := M) hP
  have hDc := dR (a := OUT k ao f1 :: R') (c := M) hD
  have hFc := fr hDc hS hA
  refine va_calli (va_runV (As := [.int (xs (i + 1)), .int (xs (i + 2))]) (rest := []) (b := hm) ⟨hx, hb, hml, hown, hts⟩ (hB H.size) ⟨callB_of 2 hts (good_MD_compare) rfl rfl rfl (hts _ k_67) (hts _ k_990) (by decide +kernel) ⟨(Nat.le_of_ble_eq_true rfl), (Nat.le_of_ble_eq_true rfl)⟩, (hts _ k_991), (hts _ k_992)⟩ ⟨fun a U g mk q => ⟨q.1, q.2.1, q.2.2.1, va_K.moved (u := U) (U := U.calling g mk a) (Vm.Alike.refl U.vm) q.2.2.2.1, q.2.2.2.2.1, q.2.2.2.2.2.calling⟩, (va_recv (q0 := 0) hK hPc rfl hM0), fun U hU hW => ⟨rfl, by rw [hU], by rw [hU]; exact hPc, va_K.moved hW.alike hK, hDc.weaken (fun _ _ _ _ => trivial), by rw [hU]; exact (hX.mono hS hFc).warm hW⟩⟩ rfl rfl hl.1 rfl (lv_room (Nat.le_of_ble_eq_true rfl)) d_law_851 ⟨by omega, by omega⟩) hS (fun q _ h => hFc q h) hFc (fun r9 u9 t H1 locs ht hvm h9 hB1 hz1 hk1 hS => ?_)
  obtain ⟨hP1, hD1⟩ := hB1
  rw [ht] at hP1
  obtain ⟨hP, hD⟩ := jR (a := OUT k ao f1 :: R') hP hD hk1 hFc hP1 hD1
  refine z_top h9 ?_
  clear hk1 hz1 hPc hDc hFc
  have hP : va_P D classes (OUT k ao f1 :: (R' ++ M')) H1 := hP
  have hD : va_D (va_A [] s.heap.size) (OUT k ao f1 :: (R' ++ M')) := hD
  clear ht
  generalize H1 = H at hP hS ⊢
  obtain ⟨q3, q4, hR1, hM1⟩ := hinv _ _ hI'
  refine lv_istore (lv' := [(6, .int bb), (5, .int kk), (0, .ref b), (1, .ref h0), (2, .ref hm), (3, .ref ao), (4, .int (iI (i : Int)))]) hx hb d_law_854 hl (by decide) rfl (fun ls hl => ?_)
  refine lv_aload_n hx hb d_law_856 rfl (lv_at hl 4 rfl) ?_
  have hPc := pR (a := OUT k ao f1 :: R') (c := M') hP
  have hDc := dR (a := OUT k ao f1 :: R') (c := M') hD
  refine rc_i (va_runV (As := []) (rest := []) (b := hm) ⟨hx, hb, hml, hown, hts⟩ hT ⟨callB_of 0 hts (good_MD_thrown) rfl rfl rfl (hts _ k_67) (hts _ k_812) (by decide +kernel) ⟨(Nat.le_of_ble_eq_true rfl), (Nat.le_of_ble_eq_true rfl)⟩, (hts _ k_813), (hts _ k_814)⟩ ⟨fun a U g mk q => ⟨q.1, q.2.1, va_K.moved (u := U) (U := U.calling g mk a) (Vm.Alike.refl U.vm) q.2.2.1, q.2.2.2.calling⟩, (va_recv (q0 := 0) hK hPc rfl hM1), fun U hU hW => ⟨rfl, by rw [hU]; exact hPc, va_K.moved hW.alike hK, by rw [hU]; exact (hX.mono (B := nA) hS (fun _ h => absurd h id)).warm hW⟩⟩ rfl rfl hl.1 rfl (lv_room (Nat.le_of_ble_eq_true rfl)) d_law_857 ⟨by omega, by omega⟩) (fun r9 h9 => ?_)
  refine z_top h9 ?_
  clear hPc hDc
  refine lv_iload hx hb d_law_860 (lv_at hl 1 rfl) ?_
  refine lv_icmp_eq (tgt := 867) hx hb d_law_862 (by decide) (fun h9 => ?_) (fun h9 => absurd rfl h9)
  refine lv_iload hx hb d_law_867 (lv_at hl 1 rfl) ?_
  refine lv_if_ne (tgt := 884) hx hb d_law_869 (by decide) (fun h9 => ?_) (fun h9 => ?_)
  · refine lv_goto (tgt := 1122) hx hb d_law_884 (by decide) ?_
    exact W.widen (by omega) (by omega) (kt _ _ _ _ _ _ hI' (lv_sub hl [2, 3, 4, 5, 6] rfl) hP hD hS)
  · refine lv_aload_n hx hb d_law_872 rfl (lv_at hl 5 rfl) ?_
    refine z_iconst hx hb d_law_873 ?_
    refine x_lald hx hb hK hP 0 1 rfl rfl (0) rfl (by decide) (by omega) d_law_874 ?_
    refine lv_iload hx hb d_law_875 (lv_at hl 0 rfl) ?_
    refine lv_i2l hx hb d_law_877 rfl ?_
    refine l_eq (tgt := 884) hx hb d_law_878 d_law_879 (by decide) (fun h7 => ?_) (fun h7 => absurd (hf1 h9) h7)
    refine lv_goto (tgt := 1122) hx hb d_law_884 (by decide) ?_
    exact W.widen (by omega) (by omega) (kt _ _ _ _ _ _ hI' (lv_sub hl [2, 3, 4, 5, 6] rfl) hP hD hS)

set_option maxHeartbeats 4000000 in
set_option maxRecDepth 20000 in
theorem lc_inside {p : Program} {l : Launch} {e : Env} {s : State} {m : MethodId} {below : List Frame} {meth : Method} {c : Code} {b L : Nat} {xs : Nat → Int32} {D : va_G} {k : Nat → ClassId} {Q : State → Prop} (C0 : LC p s m c b L xs D k) {h0 hm ao i cells slots : Nat} {INV : va_W → va_W → Prop} {R M : va_W} (hinv : ∀ R M, INV R M → ∃ q1 q2 : List Value, R[0]? = some (h0, .inr (0, q1)) ∧ M[0]? = some (hm, .inr (8, q2))) (hRM : INV R M) (hi : i + 5 ≤ L) (hcs : cells + 1 ≤ room_1.cells ∧ slots + 6 ≤ room_1.slots) (hst : ST_inside l D k h0 hm ao INV R M (xs (i + 1)) (xs (i + 2)))
    (kt : ∀ (R' M' : va_W) (f1 : Nat → Int64) (ls : Array Slot) (H : Heap) (locs : List Loc), INV R' M' → lv_has ls 7 [(0, .ref b), (1, .ref h0), (2, .ref hm), (3, .ref ao), (4, .int (iI (i : Int)))] → va_P D classes (OUT k ao f1 :: (R' ++ M')) H → va_D (va_A [] s.heap.size) (OUT k ao f1 :: (R' ++ M')) → va_S (va_A [] s.heap.size) s.heap H locs → W p l e room_1 s m #[Value.ref b] below meth c H locs (cells + 1) (slots + 6) Q (F0 m 1122 ls []))
    {f0 : Nat → Int64} {ls : Array Slot} {H : Heap} {locs : List Loc} (hl : lv_has ls 7 [(0, .ref b), (1, .ref h0), (2, .ref hm), (3, .ref ao), (4, .int (iI (i : Int)))]) (hP : va_P D classes (OUT k ao f0 :: (R ++ M)) H) (hD : va_D (va_A [] s.heap.size) (OUT k ao f0 :: (R ++ M))) (hS : va_S (va_A [] s.heap.size) s.heap H locs) : W p l e room_1 s m #[Value.ref b] below meth c H locs cells slots Q (F0 m 887 ls []) := by
  obtain ⟨hx, hb, hml, hown, hts, hXs, hbl, hL, hK, hX, hTX⟩ := C0
  obtain ⟨q1, q2, hR0, hM0⟩ := hinv _ _ hRM
  have hA : ∀ q : Nat, s.heap.size ≤ q → (va_A [] s.heap.size) q := fun q h => Or.inr h
  obtain ⟨R', M', kk, bb, rm, mc, ms, hI', hrm, hmc, hC, hB, hT⟩ := hst
  obtain ⟨f1, hf1, hC⟩ := hC H.size f0
  refine lv_aload_n hx hb d_law_887 rfl (lv_at hl 1 rfl) ?_
  refine lv_aload_n hx hb d_law_888 rfl (lv_at hl 0 rfl) ?_
  refine lv_iload hx hb d_law_889 (lv_at hl 4 rfl) ?_
  refine z_iconst hx hb d_law_891 ?_
  refine z_iadd hx hb d_law_892 ?_
  refine s_ld hx hb hXs hbl (nA0 hbl) hS (i + 1) (by omega) (by omega) (by omega) d_law_893 ?_
  refine lv_aload_n hx hb d_law_894 rfl (lv_at hl 0 rfl) ?_
  refine lv_iload hx hb d_law_895 (lv_at hl 4 rfl) ?_
  refine z_iconst hx hb d_law_897 ?_
  refine z_iadd hx hb d_law_898 ?_
  refine s_ld hx hb hXs hbl (nA0 hbl) hS (i + 2) (by omega) (by omega) (by omega) d_law_899 ?_
  refine lv_aload_n hx hb d_law_900 rfl (lv_at hl 3 rfl) ?_
  have hPa := pL (a := OUT k ao f0 :: R) (c := M) hP
  have hDa := dL (a := OUT k ao f0 :: R) (c := M) hD
  have hFa := fr hDa hS hA
  refine va_calli (runSW (n := 4) (As := [.ref h0, .int (xs (i + 1)), .int (xs (i + 2)), .ref ao]) (rest := []) ⟨hx, hb, hml, hown, hts⟩ hC good_LW_inside rfl (hts _ k_58) (hts _ k_684) (hts _ k_685) (by decide +kernel) hrm ⟨fun a U g mk q => ⟨q.1, ⟨q.2.1.1, q.2.1.2.1, va_K.moved (u := U) (U := U.calling g mk a) (Vm.Alike.refl U.vm) q.2.1.2.2.1, q.2.1.2.2.2.1, q.2.1.2.2.2.2.calling⟩, q.2.2.calling⟩, fun U hU hW => ⟨rfl, ⟨by rw [hU], by rw [hU]; exact hPa, va_K.moved hW.alike hK, hDa.weaken (fun _ _ _ _ => trivial), by rw [hU]; exact (hX.mono hS hFa).warm hW⟩, by rw [hU]; exact (hTX.mono hS hFa).warm hW⟩⟩ rfl rfl hl.1 rfl (lv_room (Nat.le_of_ble_eq_true rfl)) d_law_901 ⟨by omega, by omega⟩) hS (fun q _ h => hFa q h) hFa (fun r9 u9 t H1 locs ht hvm h9 hB1 hz1 hk1 hS => ?_)
  obtain ⟨hP1, hD1⟩ := hB1
  rw [ht] at hP1
  obtain ⟨hP, hD⟩ := jL (c := M) hP hD hk1 hFa hP1 hD1
  refine z_top h9 ?_
  clear hk1 hz1 hPa hDa hFa hC
  have hP : va_P D classes (OUT k ao f1 :: (R' ++ M)) H1 := hP
  have hD : va_D (va_A [] s.heap.size) (OUT k ao f1 :: (R' ++ M)) := hD
  clear ht
  generalize H1 = H at hP hS ⊢
  refine lv_istore (lv' := [(5, .int kk), (0, .ref b), (1, .ref h0), (2, .ref hm), (3, .ref ao), (4, .int (iI (i : Int)))]) hx hb d_law_904 hl (by decide) rfl (fun ls hl => ?_)
  refine lv_aload_n hx hb d_law_906 rfl (lv_at hl 3 rfl) ?_
  refine lv_aload_n hx hb d_law_907 rfl (lv_at hl 1 rfl) ?_
  refine lv_iload hx hb d_law_908 (lv_at hl 5 rfl) ?_
  refine z_iconst hx hb d_law_910 ?_
  refine z_iadd hx hb d_law_911 ?_
  refine s_ld hx hb hXs hbl (nA0 hbl) hS (i + 1) (by omega) (by omega) (by omega) d_law_912 ?_
  refine lv_aload_n hx hb d_law_913 rfl (lv_at hl 1 rfl) ?_
  refine lv_iload hx hb d_law_914 (lv_at hl 5 rfl) ?_
  refine z_iconst hx hb d_law_916 ?_
  refine z_iadd hx hb d_law_917 ?_
  refine s_ld hx hb hXs hbl (nA0 hbl) hS (i + 2) (by omega) (by omega) (by omega) d_law_918 ?_
  have hPc := pR (a := OUT k ao f1 :: R') (c := M) hP
  have hDc := dR (a := OUT k ao f1 :: R') (c := M) hD
  have hFc := fr hDc hS hA
  refine va_calli (va_runV (As := [.int (xs (i + 1)), .int (xs (i + 2))]) (rest := []) (b := hm) ⟨hx, hb, hml, hown, hts⟩ (hB H.size) ⟨callB_of 2 hts (good_MD_inside) rfl rfl rfl (hts _ k_67) (hts _ k_998) (by decide +kernel) ⟨(Nat.le_of_ble_eq_true rfl), (Nat.le_of_ble_eq_true rfl)⟩, (hts _ k_999), (hts _ k_1000)⟩ ⟨fun a U g mk q => ⟨q.1, q.2.1, q.2.2.1, va_K.moved (u := U) (U := U.calling g mk a) (Vm.Alike.refl U.vm) q.2.2.2.1, q.2.2.2.2.1, q.2.2.2.2.2.calling⟩, (va_recv (q0 := 0) hK hPc rfl hM0), fun U hU hW => ⟨rfl, by rw [hU], by rw [hU]; exact hPc, va_K.moved hW.alike hK, hDc.weaken (fun _ _ _ _ => trivial), by rw [hU]; exact (hX.mono hS hFc).warm hW⟩⟩ rfl rfl hl.1 rfl (lv_room (Nat.le_of_ble_eq_true rfl)) d_law_919 ⟨by omega, by omega⟩) hS (fun q _ h => hFc q h) hFc (fun r9 u9 t H1 locs ht hvm h9 hB1 hz1 hk1 hS => ?_)
  obtain ⟨hP1, hD1⟩ := hB1
  rw [ht] at hP1
  obtain ⟨hP, hD⟩ := jR (a := OUT k ao f1 :: R') hP hD hk1 hFc hP1 hD1
  refine z_top h9 ?_
  clear hk1 hz1 hPc hDc hFc
  have hP : va_P D classes (OUT k ao f1 :: (R' ++ M')) H1 := hP
  have hD : va_D (va_A [] s.heap.size) (OUT k ao f1 :: (R' ++ M')) := hD
  clear ht
  generalize H1 = H at hP hS ⊢
  obtain ⟨q3, q4, hR1, hM1⟩ := hinv _ _ hI'
  refine lv_istore (lv' := [(6, .int (bI bb)), (5, .int kk), (0, .ref b), (1, .ref h0), (2, .ref hm), (3, .ref ao), (4, .int (iI (i : Int)))]) hx hb d_law_922 hl (by decide) rfl (fun ls hl => ?_)
  refine lv_aload_n hx hb d_law_924 rfl (lv_at hl 4 rfl) ?_
  have hPc := pR (a := OUT k ao f1 :: R') (c := M') hP
  have hDc := dR (a := OUT k ao f1 :: R') (c := M') hD
  refine rc_i (va_runV (As := []) (rest := []) (b := hm) ⟨hx, hb, hml, hown, hts⟩ hT ⟨callB_of 0 hts (good_MD_thrown) rfl rfl rfl (hts _ k_67) (hts _ k_812) (by decide +kernel) ⟨(Nat.le_of_ble_eq_true rfl), (Nat.le_of_ble_eq_true rfl)⟩, (hts _ k_813), (hts _ k_814)⟩ ⟨fun a U g mk q => ⟨q.1, q.2.1, va_K.moved (u := U) (U := U.calling g mk a) (Vm.Alike.refl U.vm) q.2.2.1, q.2.2.2.calling⟩, (va_recv (q0 := 0) hK hPc rfl hM1), fun U hU hW => ⟨rfl, by rw [hU]; exact hPc, va_K.moved hW.alike hK, by rw [hU]; exact (hX.mono (B := nA) hS (fun _ h => absurd h id)).warm hW⟩⟩ rfl rfl hl.1 rfl (lv_room (Nat.le_of_ble_eq_true rfl)) d_law_925 ⟨by omega, by omega⟩) (fun r9 h9 => ?_)
  refine z_top h9 ?_
  clear hPc hDc
  refine lv_iload hx hb d_law_928 (lv_at hl 1 rfl) ?_
  refine lv_icmp_eq (tgt := 935) hx hb d_law_930 (by decide) (fun h9 => ?_) (fun h9 => absurd rfl h9)
  refine lv_iload hx hb d_law_935 (lv_at hl 1 rfl) ?_
  refine lv_if_ne (tgt := 959) hx hb d_law_937 (by decide) (fun h9 => ?_) (fun h9 => ?_)
  · refine lv_goto (tgt := 1122) hx hb d_law_959 (by decide) ?_
    exact W.widen (by omega) (by omega) (kt _ _ _ _ _ _ hI' (lv_sub hl [2, 3, 4, 5, 6] rfl) hP hD hS)
  · refine lv_aload_n hx hb d_law_940 rfl (lv_at hl 5 rfl) ?_
    refine z_iconst hx hb d_law_941 ?_
    refine x_lald hx hb hK hP 0 1 rfl rfl (0) rfl (by decide) (by omega) d_law_942 ?_
    refine lv_iload hx hb d_law_943 (lv_at hl 0 rfl) ?_
    refine b_if_eq (tgt := 952) hx hb d_law_945 (by decide) (fun h8 => ?_) (fun h8 => ?_)
    · refine lv_lconst (v := 0) hx hb d_law_952 (by decide) ?_
      refine l_eq (tgt := 959) hx hb d_law_953 d_law_954 (by decide) (fun h7 => ?_) (fun h7 => absurd (by rw [hf1 h9, h8]; rfl) h7)
      refine lv_goto (tgt := 1122) hx hb d_law_959 (by decide) ?_
      exact W.widen (by omega) (by omega) (kt _ _ _ _ _ _ hI' (lv_sub hl [2, 3, 4, 5, 6] rfl) hP hD hS)
    · refine lv_lconst (v := 1) hx hb d_law_948 (by decide) ?_
      refine lv_goto (tgt := 953) hx hb d_law_949 (by decide) ?_
      refine l_eq (tgt := 959) hx hb d_law_953 d_law_954 (by decide) (fun h7 => ?_) (fun h7 => absurd (by rw [hf1 h9, h8]; rfl) h7)
      refine lv_goto (tgt := 1122) hx hb d_law_959 (by decide) ?_
      exact W.widen (by omega) (by omega) (kt _ _ _ _ _ _ hI' (lv_sub hl [2, 3, 4, 5, 6] rfl) hP hD hS)

set_option maxHeartbeats 4000000 in
set_option maxRecDepth 20000 in
theorem lc_dead {p : Program} {l : Launch} {e : Env} {s : State} {m : MethodId} {below : List Frame} {meth : Method} {c : Code} {b L : Nat} {xs : Nat → Int32} {D : va_G} {k : Nat → ClassId} {Q : State → Prop} (C0 : LC p s m c b L xs D k) {h0 hm ao i cells slots : Nat} {INV : va_W → va_W → Prop} {R M : va_W} (hinv : ∀ R M, INV R M → ∃ q1 q2 : List Value, R[0]? = some (h0, .inr (0, q1)) ∧ M[0]? = some (hm, .inr (8, q2))) (hRM : INV R M) (hi : i + 5 ≤ L) (hcs : cells + 1 ≤ room_1.cells ∧ slots + 6 ≤ room_1.slots) (hst : ST_dead l D k h0 hm ao INV R M (xs (i + 1)) (xs (i + 2)))
    (kt : ∀ (R' M' : va_W) (f1 : Nat → Int64) (ls : Array Slot) (H : Heap) (locs : List Loc), INV R' M' → lv_has ls 7 [(0, .ref b), (1, .ref h0), (2, .ref hm), (3, .ref ao), (4, .int (iI (i : Int)))] → va_P D classes (OUT k ao f1 :: (R' ++ M')) H → va_D (va_A [] s.heap.size) (OUT k ao f1 :: (R' ++ M')) → va_S (va_A [] s.heap.size) s.heap H locs → W p l e room_1 s m #[Value.ref b] below meth c H locs (cells + 1) (slots + 6) Q (F0 m 1122 ls []))
    {f0 : Nat → Int64} {ls : Array Slot} {H : Heap} {locs : List Loc} (hl : lv_has ls 7 [(0, .ref b), (1, .ref h0), (2, .ref hm), (3, .ref ao), (4, .int (iI (i : Int)))]) (hP : va_P D classes (OUT k ao f0 :: (R ++ M)) H) (hD : va_D (va_A [] s.heap.size) (OUT k ao f0 :: (R ++ M))) (hS : va_S (va_A [] s.heap.size) s.heap H locs) : W p l e room_1 s m #[Value.ref b] below meth c H locs cells slots Q (F0 m 962 ls []) := by
  obtain ⟨hx, hb, hml, hown, hts, hXs, hbl, hL, hK, hX, hTX⟩ := C0
  obtain ⟨q1, q2, hR0, hM0⟩ := hinv _ _ hRM
  have hA : ∀ q : Nat, s.heap.size ≤ q → (va_A [] s.heap.size) q := fun q h => Or.inr h
  obtain ⟨R', M', kk, bb, rm, mc, ms, hI', hrm, hmc, hC, hB, hT⟩ := hst
  obtain ⟨f1, hf1, hC⟩ := hC H.size f0
  refine lv_aload_n hx hb d_law_962 rfl (lv_at hl 1 rfl) ?_
  refine lv_aload_n hx hb d_law_963 rfl (lv_at hl 0 rfl) ?_
  refine lv_iload hx hb d_law_964 (lv_at hl 4 rfl) ?_
  refine z_iconst hx hb d_law_966 ?_
  refine z_iadd hx hb d_law_967 ?_
  refine s_ld hx hb hXs hbl (nA0 hbl) hS (i + 1) (by omega) (by omega) (by omega) d_law_968 ?_
  refine lv_aload_n hx hb d_law_969 rfl (lv_at hl 0 rfl) ?_
  refine lv_iload hx hb d_law_970 (lv_at hl 4 rfl) ?_
  refine z_iconst hx hb d_law_972 ?_
  refine z_iadd hx hb d_law_973 ?_
  refine s_ld hx hb hXs hbl (nA0 hbl) hS (i + 2) (by omega) (by omega) (by omega) d_law_974 ?_
  refine lv_aload_n hx hb d_law_975 rfl (lv_at hl 3 rfl) ?_
  have hPa := pL (a := OUT k ao f0 :: R) (c := M) hP
  have hDa := dL (a := OUT k ao f0 :: R) (c := M) hD
  have hFa := fr hDa hS hA
  refine va_calli (runSW (n := 4) (As := [.ref h0, .int (xs (i + 1)), .int (xs (i + 2)), .ref ao]) (rest := []) ⟨hx, hb, hml, hown, hts⟩ hC good_LW_dead rfl (hts _ k_58) (hts _ k_695) (hts _ k_696) (by decide +kernel) hrm ⟨fun a U g mk q => ⟨q.1, ⟨q.2.1.1, q.2.1.2.1, va_K.moved (u := U) (U := U.calling g mk a) (Vm.Alike.refl U.vm) q.2.1.2.2.1, q.2.1.2.2.2.1, q.2.1.2.2.2.2.calling⟩, q.2.2.calling⟩, fun U hU hW => ⟨rfl, ⟨by rw [hU], by rw [hU]; exact hPa, va_K.moved hW.alike hK, hDa.weaken (fun _ _ _ _ => trivial), by rw [hU]; exact (hX.mono hS hFa).warm hW⟩, by rw [hU]; exact (hTX.mono hS hFa).warm hW⟩⟩ rfl rfl hl.1 rfl (lv_room (Nat.le_of_ble_eq_true rfl)) d_law_976 ⟨by omega, by omega⟩) hS (fun q _ h => hFa q h) hFa (fun r9 u9 t H1 locs ht hvm h9 hB1 hz1 hk1 hS => ?_)
  obtain ⟨hP1, hD1⟩ := hB1
  rw [ht] at hP1
  obtain ⟨hP, hD⟩ := jL (c := M) hP hD hk1 hFa hP1 hD1
  refine z_top h9 ?_
  clear hk1 hz1 hPa hDa hFa hC
  have hP : va_P D classes (OUT k ao f1 :: (R' ++ M)) H1 := hP
  have hD : va_D (va_A [] s.heap.size) (OUT k ao f1 :: (R' ++ M)) := hD
  clear ht
  generalize H1 = H at hP hS ⊢
  refine lv_istore (lv' := [(5, .int kk), (0, .ref b), (1, .ref h0), (2, .ref hm), (3, .ref ao), (4, .int (iI (i : Int)))]) hx hb d_law_979 hl (by decide) rfl (fun ls hl => ?_)
  refine lv_aload_n hx hb d_law_981 rfl (lv_at hl 3 rfl) ?_
  refine lv_aload_n hx hb d_law_982 rfl (lv_at hl 1 rfl) ?_
  refine lv_iload hx hb d_law_983 (lv_at hl 5 rfl) ?_
  refine z_iconst hx hb d_law_985 ?_
  refine z_iadd hx hb d_law_986 ?_
  refine s_ld hx hb hXs hbl (nA0 hbl) hS (i + 1) (by omega) (by omega) (by omega) d_law_987 ?_
  refine lv_aload_n hx hb d_law_988 rfl (lv_at hl 1 rfl) ?_
  refine lv_iload hx hb d_law_989 (lv_at hl 5 rfl) ?_
  refine z_iconst hx hb d_law_991 ?_
  refine z_iadd hx hb d_law_992 ?_
  refine s_ld hx hb hXs hbl (nA0 hbl) hS (i + 2) (by omega) (by omega) (by omega) d_law_993 ?_
  have hPc := pR (a := OUT k ao f1 :: R') (c := M) hP
  have hDc := dR (a := OUT k ao f1 :: R') (c := M) hD
  have hFc := fr hDc hS hA
  refine va_calli (va_runV (As := [.int (xs (i + 1)), .int (xs (i + 2))]) (rest := []) (b := hm) ⟨hx, hb, hml, hown, hts⟩ (hB H.size) ⟨callB_of 2 hts (good_MD_dead) rfl rfl rfl (hts _ k_67) (hts _ k_1002) (by decide +kernel) ⟨(Nat.le_of_ble_eq_true rfl), (Nat.le_of_ble_eq_true rfl)⟩, (hts _ k_1003), (hts _ k_1004)⟩ ⟨fun a U g mk q => ⟨q.1, q.2.1, q.2.2.1, va_K.moved (u := U) (U := U.calling g mk a) (Vm.Alike.refl U.vm) q.2.2.2.1, q.2.2.2.2.1, q.2.2.2.2.2.calling⟩, (va_recv (q0 := 0) hK hPc rfl hM0), fun U hU hW => ⟨rfl, by rw [hU], by rw [hU]; exact hPc, va_K.moved hW.alike hK, hDc.weaken (fun _ _ _ _ => trivial), by rw [hU]; exact (hX.mono hS hFc).warm hW⟩⟩ rfl rfl hl.1 rfl (lv_room (Nat.le_of_ble_eq_true rfl)) d_law_994 ⟨by omega, by omega⟩) hS (fun q _ h => hFc q h) hFc (fun r9 u9 t H1 locs ht hvm h9 hB1 hz1 hk1 hS => ?_)
  obtain ⟨hP1, hD1⟩ := hB1
  rw [ht] at hP1
  obtain ⟨hP, hD⟩ := jR (a := OUT k ao f1 :: R') hP hD hk1 hFc hP1 hD1
  refine z_top h9 ?_
  clear hk1 hz1 hPc hDc hFc
  have hP : va_P D classes (OUT k ao f1 :: (R' ++ M')) H1 := hP
  have hD : va_D (va_A [] s.heap.size) (OUT k ao f1 :: (R' ++ M')) := hD
  clear ht
  generalize H1 = H at hP hS ⊢
  obtain ⟨q3, q4, hR1, hM1⟩ := hinv _ _ hI'
  refine lv_istore (lv' := [(6, .int bb), (5, .int kk), (0, .ref b), (1, .ref h0), (2, .ref hm), (3, .ref ao), (4, .int (iI (i : Int)))]) hx hb d_law_997 hl (by decide) rfl (fun ls hl => ?_)
  refine lv_aload_n hx hb d_law_999 rfl (lv_at hl 4 rfl) ?_
  have hPc := pR (a := OUT k ao f1 :: R') (c := M') hP
  have hDc := dR (a := OUT k ao f1 :: R') (c := M') hD
  refine rc_i (va_runV (As := []) (rest := []) (b := hm) ⟨hx, hb, hml, hown, hts⟩ hT ⟨callB_of 0 hts (good_MD_thrown) rfl rfl rfl (hts _ k_67) (hts _ k_812) (by decide +kernel) ⟨(Nat.le_of_ble_eq_true rfl), (Nat.le_of_ble_eq_true rfl)⟩, (hts _ k_813), (hts _ k_814)⟩ ⟨fun a U g mk q => ⟨q.1, q.2.1, va_K.moved (u := U) (U := U.calling g mk a) (Vm.Alike.refl U.vm) q.2.2.1, q.2.2.2.calling⟩, (va_recv (q0 := 0) hK hPc rfl hM1), fun U hU hW => ⟨rfl, by rw [hU]; exact hPc, va_K.moved hW.alike hK, by rw [hU]; exact (hX.mono (B := nA) hS (fun _ h => absurd h id)).warm hW⟩⟩ rfl rfl hl.1 rfl (lv_room (Nat.le_of_ble_eq_true rfl)) d_law_1000 ⟨by omega, by omega⟩) (fun r9 h9 => ?_)
  refine z_top h9 ?_
  clear hPc hDc
  refine lv_iload hx hb d_law_1003 (lv_at hl 1 rfl) ?_
  refine lv_icmp_eq (tgt := 1010) hx hb d_law_1005 (by decide) (fun h9 => ?_) (fun h9 => absurd rfl h9)
  refine lv_iload hx hb d_law_1010 (lv_at hl 1 rfl) ?_
  refine lv_if_ne (tgt := 1027) hx hb d_law_1012 (by decide) (fun h9 => ?_) (fun h9 => ?_)
  · refine lv_goto (tgt := 1122) hx hb d_law_1027 (by decide) ?_
    exact W.widen (by omega) (by omega) (kt _ _ _ _ _ _ hI' (lv_sub hl [2, 3, 4, 5, 6] rfl) hP hD hS)
  · refine lv_aload_n hx hb d_law_1015 rfl (lv_at hl 5 rfl) ?_
    refine z_iconst hx hb d_law_1016 ?_
    refine x_lald hx hb hK hP 0 1 rfl rfl (0) rfl (by decide) (by omega) d_law_1017 ?_
    refine lv_iload hx hb d_law_1018 (lv_at hl 0 rfl) ?_
    refine lv_i2l hx hb d_law_1020 rfl ?_
    refine l_eq (tgt := 1027) hx hb d_law_1021 d_law_1022 (by decide) (fun h7 => ?_) (fun h7 => absurd (hf1 h9) h7)
    refine lv_goto (tgt := 1122) hx hb d_law_1027 (by decide) ?_
    exact W.widen (by omega) (by omega) (kt _ _ _ _ _ _ hI' (lv_sub hl [2, 3, 4, 5, 6] rfl) hP hD hS)

set_option maxHeartbeats 4000000 in
set_option maxRecDepth 20000 in
theorem lc_run {p : Program} {l : Launch} {e : Env} {s : State} {m : MethodId} {below : List Frame} {meth : Method} {c : Code} {b L : Nat} {xs : Nat → Int32} {D : va_G} {k : Nat → ClassId} {Q : State → Prop} (C0 : LC p s m c b L xs D k) {h0 hm ao i cells slots : Nat} {INV : va_W → va_W → Prop} {R M : va_W} (hinv : ∀ R M, INV R M → ∃ q1 q2 : List Value, R[0]? = some (h0, .inr (0, q1)) ∧ M[0]? = some (hm, .inr (8, q2))) (hRM : INV R M) (hi : i + 5 ≤ L) (hcs : cells + 1 ≤ room_1.cells ∧ slots + 6 ≤ room_1.slots) (hst : ST_run l D k h0 hm ao INV R M (xs (i + 1)) (xs (i + 2)) (xs (i + 3)) (xs (i + 4)))
    (kt : ∀ (R' M' : va_W) (f1 : Nat → Int64) (ls : Array Slot) (H : Heap) (locs : List Loc), INV R' M' → lv_has ls 7 [(0, .ref b), (1, .ref h0), (2, .ref hm), (3, .ref ao), (4, .int (iI (i : Int)))] → va_P D classes (OUT k ao f1 :: (R' ++ M')) H → va_D (va_A [] s.heap.size) (OUT k ao f1 :: (R' ++ M')) → va_S (va_A [] s.heap.size) s.heap H locs → W p l e room_1 s m #[Value.ref b] below meth c H locs (cells + 1) (slots + 6) Q (F0 m 1122 ls []))
    {f0 : Nat → Int64} {ls : Array Slot} {H : Heap} {locs : List Loc} (hl : lv_has ls 7 [(0, .ref b), (1, .ref h0), (2, .ref hm), (3, .ref ao), (4, .int (iI (i : Int)))]) (hP : va_P D classes (OUT k ao f0 :: (R ++ M)) H) (hD : va_D (va_A [] s.heap.size) (OUT k ao f0 :: (R ++ M))) (hS : va_S (va_A [] s.heap.size) s.heap H locs) : W p l e room_1 s m #[Value.ref b] below meth c H locs cells slots Q (F0 m 1030 ls []) := by
  obtain ⟨hx, hb, hml, hown, hts, hXs, hbl, hL, hK, hX, hTX⟩ := C0
  obtain ⟨q1, q2, hR0, hM0⟩ := hinv _ _ hRM
  have hA : ∀ q : Nat, s.heap.size ≤ q → (va_A [] s.heap.size) q := fun q h => Or.inr h
  obtain ⟨R', M', kk, bb, rm, mc, ms, hI', hrm, hmc, hC, hB, hT⟩ := hst
  obtain ⟨f1, hf1, hC⟩ := hC H.size f0
  refine lv_aload_n hx hb d_law_1030 rfl (lv_at hl 1 rfl) ?_
  refine lv_aload_n hx hb d_law_1031 rfl (lv_at hl 0 rfl) ?_
  refine lv_iload hx hb d_law_1032 (lv_at hl 4 rfl) ?_
  refine z_iconst hx hb d_law_1034 ?_
  refine z_iadd hx hb d_law_1035 ?_
  refine s_ld hx hb hXs hbl (nA0 hbl) hS (i + 1) (by omega) (by omega) (by omega) d_law_1036 ?_
  refine lv_aload_n hx hb d_law_1037 rfl (lv_at hl 0 rfl) ?_
  refine lv_iload hx hb d_law_1038 (lv_at hl 4 rfl) ?_
  refine z_iconst hx hb d_law_1040 ?_
  refine z_iadd hx hb d_law_1041 ?_
  refine s_ld hx hb hXs hbl (nA0 hbl) hS (i + 2) (by omega) (by omega) (by omega) d_law_1042 ?_
  refine lv_aload_n hx hb d_law_1043 rfl (lv_at hl 0 rfl) ?_
  refine lv_iload hx hb d_law_1044 (lv_at hl 4 rfl) ?_
  refine z_iconst hx hb d_law_1046 ?_
  refine z_iadd hx hb d_law_1047 ?_
  refine s_ld hx hb hXs hbl (nA0 hbl) hS (i + 3) (by omega) (by omega) (by omega) d_law_1048 ?_
  refine lv_aload_n hx hb d_law_1049 rfl (lv_at hl 0 rfl) ?_
  refine lv_iload hx hb d_law_1050 (lv_at hl 4 rfl) ?_
  refine z_iconst hx hb d_law_1052 ?_
  refine z_iadd hx hb d_law_1053 ?_
  refine s_ld hx hb hXs hbl (nA0 hbl) hS (i + 4) (by omega) (by omega) (by omega) d_law_1054 ?_
  refine lv_aload_n hx hb d_law_1055 rfl (lv_at hl 3 rfl) ?_
  have hPa := pL (a := OUT k ao f0 :: R) (c := M) hP
  have hDa := dL (a := OUT k ao f0 :: R) (c := M) hD
  have hFa := fr hDa hS hA
  refine va_calli (runSW (n := 6) (As := [.ref h0, .int (xs (i + 1)), .int (xs (i + 2)), .int (xs (i + 3)), .int (xs (i + 4)), .ref ao]) (rest := []) ⟨hx, hb, hml, hown, hts⟩ hC good_LW_run rfl (hts _ k_58) (hts _ k_706) (hts _ k_707) (by decide +kernel) hrm ⟨fun a U g mk q => ⟨q.1, ⟨q.2.1.1, q.2.1.2.1, va_K.moved (u := U) (U := U.calling g mk a) (Vm.Alike.refl U.vm) q.2.1.2.2.1, q.2.1.2.2.2.1, q.2.1.2.2.2.2.calling⟩, q.2.2.calling⟩, fun U hU hW => ⟨rfl, ⟨by rw [hU], by rw [hU]; exact hPa, va_K.moved hW.alike hK, hDa.weaken (fun _ _ _ _ => trivial), by rw [hU]; exact (hX.mono hS hFa).warm hW⟩, by rw [hU]; exact (hTX.mono hS hFa).warm hW⟩⟩ rfl rfl hl.1 rfl (lv_room (Nat.le_of_ble_eq_true rfl)) d_law_1056 ⟨by omega, by omega⟩) hS (fun q _ h => hFa q h) hFa (fun r9 u9 t H1 locs ht hvm h9 hB1 hz1 hk1 hS => ?_)
  obtain ⟨hP1, hD1⟩ := hB1
  rw [ht] at hP1
  obtain ⟨hP, hD⟩ := jL (c := M) hP hD hk1 hFa hP1 hD1
  refine z_top h9 ?_
  clear hk1 hz1 hPa hDa hFa hC
  have hP : va_P D classes (OUT k ao f1 :: (R' ++ M)) H1 := hP
  have hD : va_D (va_A [] s.heap.size) (OUT k ao f1 :: (R' ++ M)) := hD
  clear ht
  generalize H1 = H at hP hS ⊢
  refine lv_istore (lv' := [(5, .int kk), (0, .ref b), (1, .ref h0), (2, .ref hm), (3, .ref ao), (4, .int (iI (i : Int)))]) hx hb d_law_1059 hl (by decide) rfl (fun ls hl => ?_)
  refine lv_aload_n hx hb d_law_1061 rfl (lv_at hl 3 rfl) ?_
  refine lv_aload_n hx hb d_law_1062 rfl (lv_at hl 1 rfl) ?_
  refine lv_iload hx hb d_law_1063 (lv_at hl 5 rfl) ?_
  refine z_iconst hx hb d_law_1065 ?_
  refine z_iadd hx hb d_law_1066 ?_
  refine s_ld hx hb hXs hbl (nA0 hbl) hS (i + 1) (by omega) (by omega) (by omega) d_law_1067 ?_
  refine lv_aload_n hx hb d_law_1068 rfl (lv_at hl 1 rfl) ?_
  refine lv_iload hx hb d_law_1069 (lv_at hl 5 rfl) ?_
  refine z_iconst hx hb d_law_1071 ?_
  refine z_iadd hx hb d_law_1072 ?_
  refine s_ld hx hb hXs hbl (nA0 hbl) hS (i + 2) (by omega) (by omega) (by omega) d_law_1073 ?_
  refine lv_aload_n hx hb d_law_1074 rfl (lv_at hl 1 rfl) ?_
  refine lv_iload hx hb d_law_1075 (lv_at hl 5 rfl) ?_
  refine z_iconst hx hb d_law_1077 ?_
  refine z_iadd hx hb d_law_1078 ?_
  refine s_ld hx hb hXs hbl (nA0 hbl) hS (i + 3) (by omega) (by omega) (by omega) d_law_1079 ?_
  refine lv_aload_n hx hb d_law_1080 rfl (lv_at hl 1 rfl) ?_
  refine lv_iload hx hb d_law_1081 (lv_at hl 5 rfl) ?_
  refine z_iconst hx hb d_law_1083 ?_
  refine z_iadd hx hb d_law_1084 ?_
  refine s_ld hx hb hXs hbl (nA0 hbl) hS (i + 4) (by omega) (by omega) (by omega) d_law_1085 ?_
  have hPc := pR (a := OUT k ao f1 :: R') (c := M) hP
  have hDc := dR (a := OUT k ao f1 :: R') (c := M) hD
  have hFc := fr hDc hS hA
  refine va_calli (va_runV (As := [.int (xs (i + 1)), .int (xs (i + 2)), .int (xs (i + 3)), .int (xs (i + 4))]) (rest := []) (b := hm) ⟨hx, hb, hml, hown, hts⟩ (hB H.size) ⟨callB_of 4 hts (good_MD_run) rfl rfl rfl (hts _ k_67) (hts _ k_1006) (by decide +kernel) ⟨(Nat.le_of_ble_eq_true rfl), (Nat.le_of_ble_eq_true rfl)⟩, (hts _ k_1007), (hts _ k_1008)⟩ ⟨fun a U g mk q => ⟨q.1, q.2.1, q.2.2.1, va_K.moved (u := U) (U := U.calling g mk a) (Vm.Alike.refl U.vm) q.2.2.2.1, q.2.2.2.2.1, q.2.2.2.2.2.calling⟩, (va_recv (q0 := 0) hK hPc rfl hM0), fun U hU hW => ⟨rfl, by rw [hU], by rw [hU]; exact hPc, va_K.moved hW.alike hK, hDc.weaken (fun _ _ _ _ => trivial), by rw [hU]; exact (hX.mono hS hFc).warm hW⟩⟩ rfl rfl hl.1 rfl (lv_room (Nat.le_of_ble_eq_true rfl)) d_law_1086 ⟨by omega, by omega⟩) hS (fun q _ h => hFc q h) hFc (fun r9 u9 t H1 locs ht hvm h9 hB1 hz1 hk1 hS => ?_)
  obtain ⟨hP1, hD1⟩ := hB1
  rw [ht] at hP1
  obtain ⟨hP, hD⟩ := jR (a := OUT k ao f1 :: R') hP hD hk1 hFc hP1 hD1
  refine z_top h9 ?_
  clear hk1 hz1 hPc hDc hFc
  have hP : va_P D classes (OUT k ao f1 :: (R' ++ M')) H1 := hP
  have hD : va_D (va_A [] s.heap.size) (OUT k ao f1 :: (R' ++ M')) := hD
  clear ht
  generalize H1 = H at hP hS ⊢
  obtain ⟨q3, q4, hR1, hM1⟩ := hinv _ _ hI'
  refine lv_istore (lv' := [(6, .int bb), (5, .int kk), (0, .ref b), (1, .ref h0), (2, .ref hm), (3, .ref ao), (4, .int (iI (i : Int)))]) hx hb d_law_1089 hl (by decide) rfl (fun ls hl => ?_)
  refine lv_aload_n hx hb d_law_1091 rfl (lv_at hl 4 rfl) ?_
  have hPc := pR (a := OUT k ao f1 :: R') (c := M') hP
  have hDc := dR (a := OUT k ao f1 :: R') (c := M') hD
  refine rc_i (va_runV (As := []) (rest := []) (b := hm) ⟨hx, hb, hml, hown, hts⟩ hT ⟨callB_of 0 hts (good_MD_thrown) rfl rfl rfl (hts _ k_67) (hts _ k_812) (by decide +kernel) ⟨(Nat.le_of_ble_eq_true rfl), (Nat.le_of_ble_eq_true rfl)⟩, (hts _ k_813), (hts _ k_814)⟩ ⟨fun a U g mk q => ⟨q.1, q.2.1, va_K.moved (u := U) (U := U.calling g mk a) (Vm.Alike.refl U.vm) q.2.2.1, q.2.2.2.calling⟩, (va_recv (q0 := 0) hK hPc rfl hM1), fun U hU hW => ⟨rfl, by rw [hU]; exact hPc, va_K.moved hW.alike hK, by rw [hU]; exact (hX.mono (B := nA) hS (fun _ h => absurd h id)).warm hW⟩⟩ rfl rfl hl.1 rfl (lv_room (Nat.le_of_ble_eq_true rfl)) d_law_1092 ⟨by omega, by omega⟩) (fun r9 h9 => ?_)
  refine z_top h9 ?_
  clear hPc hDc
  refine lv_iload hx hb d_law_1095 (lv_at hl 1 rfl) ?_
  refine lv_icmp_eq (tgt := 1102) hx hb d_law_1097 (by decide) (fun h9 => ?_) (fun h9 => absurd rfl h9)
  refine lv_iload hx hb d_law_1102 (lv_at hl 1 rfl) ?_
  refine lv_if_ne (tgt := 1119) hx hb d_law_1104 (by decide) (fun h9 => ?_) (fun h9 => ?_)
  · refine lv_goto (tgt := 1122) hx hb d_law_1119 (by decide) ?_
    exact W.widen (by omega) (by omega) (kt _ _ _ _ _ _ hI' (lv_sub hl [2, 3, 4, 5, 6] rfl) hP hD hS)
  · refine lv_aload_n hx hb d_law_1107 rfl (lv_at hl 5 rfl) ?_
    refine z_iconst hx hb d_law_1108 ?_
    refine x_lald hx hb hK hP 0 1 rfl rfl (0) rfl (by decide) (by omega) d_law_1109 ?_
    refine lv_iload hx hb d_law_1110 (lv_at hl 0 rfl) ?_
    refine lv_i2l hx hb d_law_1112 rfl ?_
    refine l_eq (tgt := 1119) hx hb d_law_1113 d_law_1114 (by decide) (fun h7 => ?_) (fun h7 => absurd (hf1 h9) h7)
    refine lv_goto (tgt := 1122) hx hb d_law_1119 (by decide) ?_
    exact W.widen (by omega) (by omega) (kt _ _ _ _ _ _ hI' (lv_sub hl [2, 3, 4, 5, 6] rfl) hP hD hS)

set_option maxHeartbeats 4000000 in
set_option maxRecDepth 20000 in
theorem law_loop {p : Program} {l : Launch} {e : Env} {s : State} {m : MethodId} {below : List Frame} {meth : Method} {c : Code} {b L : Nat} {xs : Nat → Int32} {D : va_G} {k : Nat → ClassId} {Q : State → Prop} (C0 : LC p s m c b L xs D k) {h0 hm ao : Nat} {INV : va_W → va_W → Prop} (hinv : ∀ R M, INV R M → ∃ q1 q2 : List Value, R[0]? = some (h0, .inr (0, q1)) ∧ M[0]? = some (hm, .inr (8, q2)))
    (s_type : ∀ (R M : va_W) (v1 : Int32), INV R M → ST_type l D k h0 hm ao INV R M v1)
    (s_wipe : ∀ (R M : va_W), INV R M → ST_wipe l D k h0 hm ao INV R M )
    (s_compile : ∀ (R M : va_W) (v1 : Int32), INV R M → ST_compile l D k h0 hm ao INV R M v1)
    (s_shifts : ∀ (R M : va_W) (v1 : Int32), INV R M → ST_shifts l D k h0 hm ao INV R M v1)
    (s_at : ∀ (R M : va_W) (v1 v2 v3 : Int32), INV R M → ST_at l D k h0 hm ao INV R M v1 v2 v3)
    (s_which : ∀ (R M : va_W) (v1 v2 v3 : Int32), INV R M → ST_which l D k h0 hm ao INV R M v1 v2 v3)
    (s_next : ∀ (R M : va_W) (v1 v2 v3 : Int32), INV R M → ST_next l D k h0 hm ao INV R M v1 v2 v3)
    (s_total : ∀ (R M : va_W) (v1 v2 v3 v4 : Int32), INV R M → ST_total l D k h0 hm ao INV R M v1 v2 v3 v4)
    (s_dayOf : ∀ (R M : va_W) (v1 v2 v3 : Int32), INV R M → ST_dayOf l D k h0 hm ao INV R M v1 v2 v3)
    (s_dateOf : ∀ (R M : va_W) (v1 v2 : Int32), INV R M → ST_dateOf l D k h0 hm ao INV R M v1 v2)
    (s_feast : ∀ (R M : va_W) (v1 : Int32), INV R M → ST_feast l D k h0 hm ao INV R M v1)
    (s_elapsed : ∀ (R M : va_W) (v1 v2 v3 : Int32), INV R M → ST_elapsed l D k h0 hm ao INV R M v1 v2 v3)
    (s_clock : ∀ (R M : va_W) (v1 : Int32), INV R M → ST_clock l D k h0 hm ao INV R M v1)
    (s_compare : ∀ (R M : va_W) (v1 v2 : Int32), INV R M → ST_compare l D k h0 hm ao INV R M v1 v2)
    (s_inside : ∀ (R M : va_W) (v1 v2 : Int32), INV R M → ST_inside l D k h0 hm ao INV R M v1 v2)
    (s_dead : ∀ (R M : va_W) (v1 v2 : Int32), INV R M → ST_dead l D k h0 hm ao INV R M v1 v2)
    (s_run : ∀ (R M : va_W) (v1 v2 v3 v4 : Int32), INV R M → ST_run l D k h0 hm ao INV R M v1 v2 v3 v4)
    (hend : ∀ (ls : Array Slot) (H : Heap), W p l e room_1 s m #[Value.ref b] below meth c H [] 601024 7293034 Q (F0 m 1129 ls [.int 1])) :
    ∀ (fu i : Nat) (R M : va_W) (f0 : Nat → Int64) (ls : Array Slot) (H : Heap) (locs : List Loc) (cells slots : Nat), INV R M → L - i < fu → i ≤ L → cells ≤ 200 + i → slots ≤ 60000 + 6 * i → lv_has ls 7 [(0, .ref b), (1, .ref h0), (2, .ref hm), (3, .ref ao), (4, .int (iI (i : Int)))] → va_P D classes (OUT k ao f0 :: (R ++ M)) H → va_D (va_A [] s.heap.size) (OUT k ao f0 :: (R ++ M)) → va_S (va_A [] s.heap.size) s.heap H locs → W p l e room_1 s m #[Value.ref b] below meth c H locs cells slots Q (F0 m 23 ls []) := by
  intro fu
  induction fu with
  | zero => intro i R M f0 ls H locs cells slots _ hmu; exact absurd hmu (Nat.not_lt_zero _)
  | succ fu ih =>
    intro i R M f0 ls H locs cells slots hI hmu hiL hcl hsl hl hP hD hS
    obtain ⟨hx, hb, hml, hown, hts, hXs, hbl, hL, hK, hX, hTX⟩ := id C0
    have hr1 : room_1.cells = 601024 := rfl
    have hr2 : room_1.slots = 7293034 := rfl
    refine lv_iload hx hb d_law_23 (lv_at hl 4 rfl) ?_
    refine lv_aload_n hx hb d_law_25 rfl (lv_at hl 0 rfl) ?_
    refine va_slen hx hb hXs hbl (nA0 hbl) hS d_law_26 ?_
    refine z_top (show Int32.ofNat L = iI (L : Int) from (iI_nat L).symm) ?_
    refine z_iconst hx hb d_law_27 ?_
    refine z_isub hx hb d_law_28 ?_
    refine z_icmp_gt (tgt := 1128) hx hb d_law_29 (by decide) ⟨by omega, by omega⟩ ⟨by omega, by omega⟩ (fun h9 => ?_) (fun h9 => ?_)
    · refine z_iconst hx hb d_law_1128 ?_
      refine va_forget (fun q hq => ?_) (W.widen (by omega) (by omega) (hend _ _))
      rcases hS.2.2 q hq with ⟨k9, e9, h8⟩ | h8
      · simp at h8
      · exact h8
    · have hi : i + 5 ≤ L := by omega
      have hcs : cells + 1 ≤ room_1.cells ∧ slots + 6 ≤ room_1.slots := by rw [hr1, hr2]; omega
      have kt : ∀ (R' M' : va_W) (f1 : Nat → Int64) (ls : Array Slot) (H : Heap) (locs : List Loc), INV R' M' → lv_has ls 7 [(0, .ref b), (1, .ref h0), (2, .ref hm), (3, .ref ao), (4, .int (iI (i : Int)))] → va_P D classes (OUT k ao f1 :: (R' ++ M')) H → va_D (va_A [] s.heap.size) (OUT k ao f1 :: (R' ++ M')) → va_S (va_A [] s.heap.size) s.heap H locs → W p l e room_1 s m #[Value.ref b] below meth c H locs (cells + 1) (slots + 6) Q (F0 m 1122 ls []) := by
        intro R' M' f1 ls H locs hI hl hP hD hS
        refine z_iinc (k := 4) (a := (i : Int)) (lv' := [(4, .int (iI ((i : Int) + 5))), (0, .ref b), (1, .ref h0), (2, .ref hm), (3, .ref ao)]) hx hb d_law_1122 hl rfl (by decide) rfl (fun ls hl => ?_)
        refine lv_goto (tgt := 23) hx hb d_law_1125 (by decide) ?_
        refine ih (i + 5) R' M' f1 ls H locs (cells + 1) (slots + 6) hI (by omega) (by omega) (by omega) (by omega) ?_ hP hD hS
        have hl := lv_sub hl [1, 2, 3, 4, 0] rfl
        exact hl
      refine lv_aload_n hx hb d_law_32 rfl (lv_at hl 0 rfl) ?_
      refine lv_iload hx hb d_law_33 (lv_at hl 4 rfl) ?_
      refine s_ld hx hb hXs hbl (nA0 hbl) hS i rfl (by omega) (by omega) d_law_35 ?_
      refine z_bipush hx hb d_law_36 (by decide) ?_
      refine lv_iand hx hb d_law_38 ?_
      generalize xs i &&& iI 31 = w
      by_cases g0 : w.toInt = 0
      · refine lv_tableIn (tgt := 120) (off := 81) hx hb d_law_39 (by rw [g0]; decide) (by rw [g0]; decide) (by rw [g0]; rfl) (by decide) ?_
        exact lc_type C0 hinv hI hi hcs (s_type R M _ hI) kt hl hP hD hS
      by_cases g1 : w.toInt = 1
      · refine lv_tableIn (tgt := 147) (off := 108) hx hb d_law_39 (by rw [g1]; decide) (by rw [g1]; decide) (by rw [g1]; rfl) (by decide) ?_
        exact lc_wipe C0 hinv hI hi hcs (s_wipe R M  hI) kt hl hP hD hS
      by_cases g2 : w.toInt = 2
      · refine lv_tableIn (tgt := 160) (off := 121) hx hb d_law_39 (by rw [g2]; decide) (by rw [g2]; decide) (by rw [g2]; rfl) (by decide) ?_
        exact lc_compile C0 hinv hI hi hcs (s_compile R M _ hI) kt hl hP hD hS
      by_cases g3 : w.toInt = 3
      · refine lv_tableIn (tgt := 216) (off := 177) hx hb d_law_39 (by rw [g3]; decide) (by rw [g3]; decide) (by rw [g3]; rfl) (by decide) ?_
        exact lc_shifts C0 hinv hI hi hcs (s_shifts R M _ hI) kt hl hP hD hS
      by_cases g4 : w.toInt = 4
      · refine lv_tableIn (tgt := 255) (off := 216) hx hb d_law_39 (by rw [g4]; decide) (by rw [g4]; decide) (by rw [g4]; rfl) (by decide) ?_
        exact lc_at C0 hinv hI hi hcs (s_at R M _ _ _ hI) kt hl hP hD hS
      by_cases g5 : w.toInt = 5
      · refine lv_tableIn (tgt := 335) (off := 296) hx hb d_law_39 (by rw [g5]; decide) (by rw [g5]; decide) (by rw [g5]; rfl) (by decide) ?_
        exact lc_which C0 hinv hI hi hcs (s_which R M _ _ _ hI) kt hl hP hD hS
      by_cases g6 : w.toInt = 6
      · refine lv_tableIn (tgt := 415) (off := 376) hx hb d_law_39 (by rw [g6]; decide) (by rw [g6]; decide) (by rw [g6]; rfl) (by decide) ?_
        exact lc_next C0 hinv hI hi hcs (s_next R M _ _ _ hI) kt hl hP hD hS
      by_cases g7 : w.toInt = 7
      · refine lv_tableIn (tgt := 495) (off := 456) hx hb d_law_39 (by rw [g7]; decide) (by rw [g7]; decide) (by rw [g7]; rfl) (by decide) ?_
        exact lc_total C0 hinv hI hi hcs (s_total R M _ _ _ _ hI) kt hl hP hD hS
      by_cases g8 : w.toInt = 8
      · refine lv_tableIn (tgt := 587) (off := 548) hx hb d_law_39 (by rw [g8]; decide) (by rw [g8]; decide) (by rw [g8]; rfl) (by decide) ?_
        exact lc_dayOf C0 hinv hI hi hcs (s_dayOf R M _ _ _ hI) kt hl hP hD hS
      by_cases g9 : w.toInt = 9
      · refine lv_tableIn (tgt := 636) (off := 597) hx hb d_law_39 (by rw [g9]; decide) (by rw [g9]; decide) (by rw [g9]; rfl) (by decide) ?_
        exact lc_dateOf C0 hinv hI hi hcs (s_dateOf R M _ _ hI) kt hl hP hD hS
      by_cases g10 : w.toInt = 10
      · refine lv_tableIn (tgt := 673) (off := 634) hx hb d_law_39 (by rw [g10]; decide) (by rw [g10]; decide) (by rw [g10]; rfl) (by decide) ?_
        exact lc_feast C0 hinv hI hi hcs (s_feast R M _ hI) kt hl hP hD hS
      by_cases g11 : w.toInt = 11
      · refine lv_tableIn (tgt := 698) (off := 659) hx hb d_law_39 (by rw [g11]; decide) (by rw [g11]; decide) (by rw [g11]; rfl) (by decide) ?_
        exact lc_elapsed C0 hinv hI hi hcs (s_elapsed R M _ _ _ hI) kt hl hP hD hS
      by_cases g12 : w.toInt = 12
      · refine lv_tableIn (tgt := 794) (off := 755) hx hb d_law_39 (by rw [g12]; decide) (by rw [g12]; decide) (by rw [g12]; rfl) (by decide) ?_
        exact lc_clock C0 hinv hI hi hcs (s_clock R M _ hI) kt hl hP hD hS
      by_cases g13 : w.toInt = 13
      · refine lv_tableIn (tgt := 819) (off := 780) hx hb d_law_39 (by rw [g13]; decide) (by rw [g13]; decide) (by rw [g13]; rfl) (by decide) ?_
        exact lc_compare C0 hinv hI hi hcs (s_compare R M _ _ hI) kt hl hP hD hS
      by_cases g14 : w.toInt = 14
      · refine lv_tableIn (tgt := 887) (off := 848) hx hb d_law_39 (by rw [g14]; decide) (by rw [g14]; decide) (by rw [g14]; rfl) (by decide) ?_
        exact lc_inside C0 hinv hI hi hcs (s_inside R M _ _ hI) kt hl hP hD hS
      by_cases g15 : w.toInt = 15
      · refine lv_tableIn (tgt := 962) (off := 923) hx hb d_law_39 (by rw [g15]; decide) (by rw [g15]; decide) (by rw [g15]; rfl) (by decide) ?_
        exact lc_dead C0 hinv hI hi hcs (s_dead R M _ _ hI) kt hl hP hD hS
      by_cases g16 : w.toInt = 16
      · refine lv_tableIn (tgt := 1030) (off := 991) hx hb d_law_39 (by rw [g16]; decide) (by rw [g16]; decide) (by rw [g16]; rfl) (by decide) ?_
        exact lc_run C0 hinv hI hi hcs (s_run R M _ _ _ _ hI) kt hl hP hD hS
      refine lv_tableOut (tgt := 1122) hx hb d_law_39 (by omega) (by decide) ?_
      exact kt R M f0 ls H locs hI hl hP hD hS |> W.widen (by omega) (by omega)
