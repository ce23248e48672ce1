/-- the character at a place, 0 behind the text -/
def chT (tx : Nat → Int) (n p : Nat) : Int := if p < n then tx p else 0
def mTk (tx : Nat → Int) (n p : Nat) (m : MS) : Int × MS := takF (m.sWa (m.wa - 1)) (m.ex ((m.wa - 1).toNat)) (m.ab ((m.wa - 1).toNat)) (m.co ((m.wa - 1).toNat)) (chT tx n p)
def RunsA (P : Nat → MS → Prop) (n : Nat) (gt : Int) (p : Nat) (m : MS) (res : Int) (mf : MS) : Prop := if gt = 2 then P p m else if gt = 1 ∧ p < n then P (p + 1) m else res = (p : Int) ∧ mf = m
/-- the reading ends with res and mf -/
def RunsTo (tx : Nat → Int) (n : Nat) (res : Int) (mf : MS) : Nat → Nat → MS → Prop
  | 0, _, _ => False
  | k + 1, p, m => (0 ≤ m.wa ∧ m.wa ≤ 300) ∧ (if 0 < m.wa then TOK (m.sWa (m.wa - 1)) (m.ex ((m.wa - 1).toNat)) (m.ab ((m.wa - 1).toNat)) (m.co ((m.wa - 1).toNat)) (chT tx n p) ∧ (0 ≤ (mTk tx n p m).1 ∧ (mTk tx n p m).1 ≤ 2) ∧ RunsA (RunsTo tx n res mf k) n (mTk tx n p m).1 p (mTk tx n p m).2 res mf
    else mf = m ∧ res = (if p < n then (p : Int) else -1))
theorem RunsTo_i {tx : Nat → Int} {n : Nat} {res : Int} {mf : MS} {k p : Nat} {m : MS} (h : RunsTo tx n res mf k p m) : ∃ k4, k = k4 + 1 ∧ (0 ≤ m.wa ∧ m.wa ≤ 300) ∧ (m.wa ≤ 0 → mf = m ∧ res = (if p < n then (p : Int) else -1)) ∧ (0 < m.wa → TOK (m.sWa (m.wa - 1)) (m.ex ((m.wa - 1).toNat)) (m.ab ((m.wa - 1).toNat)) (m.co ((m.wa - 1).toNat)) (chT tx n p) ∧ (0 ≤ (mTk tx n p m).1 ∧ (mTk tx n p m).1 ≤ 2) ∧ RunsA (RunsTo tx n res mf k4) n (mTk tx n p m).1 p (mTk tx n p m).2 res mf) := by
  cases k with
  | zero => exact absurd h id
  | succ k4 =>
    obtain ⟨h1, h2⟩ := h
    refine ⟨k4, rfl, h1, fun h0 => ?_, fun h0 => ?_⟩
    · rw [if_neg (by omega)] at h2; exact h2
    · rw [if_pos h0] at h2; exact h2
theorem RunsA_2 {P : Nat → MS → Prop} {n : Nat} {p : Nat} {m : MS} {res : Int} {mf : MS} (h : P p m) : RunsA P n 2 p m res mf := by
  unfold RunsA
  rw [if_pos rfl]
  exact h
theorem RunsA_i {P : Nat → MS → Prop} {n : Nat} {gt : Int} {p : Nat} {m : MS} {res : Int} {mf : MS} (h : RunsA P n gt p m res mf) : (gt = 2 → P p m) ∧ (gt = 1 ∧ p < n → P (p + 1) m) ∧ (¬ gt = 2 → ¬ (gt = 1 ∧ p < n) → res = (p : Int) ∧ mf = m) := by
  unfold RunsA at h
  refine ⟨fun q => ?_, fun q => ?_, fun q q2 => ?_⟩
  · rw [if_pos q] at h; exact h
  · rw [if_neg (by omega), if_pos q] at h; exact h
  · rw [if_neg q, if_neg q2] at h; exact h
/-- how the inner loop is left -/
def RX (tx : Nat → Int) (n : Nat) (res : Int) (mf : MS) (gt : Int) (p : Nat) (m : MS) : Prop := (gt = 1 ∧ p < n → ∃ k, RunsTo tx n res mf k (p + 1) m) ∧ (¬ (gt = 1 ∧ p < n) → ¬ (gt = 2 ∧ n ≤ p) → res = (p : Int) ∧ mf = m) ∧ (gt = 2 ∧ n ≤ p → m.wa ≤ 0 ∧ res = -1 ∧ mf = m)
theorem RX_a {tx : Nat → Int} {n : Nat} {res : Int} {mf : MS} {gt : Int} {p k : Nat} {m : MS} (h : RunsA (RunsTo tx n res mf k) n gt p m res mf) (h2 : ¬ gt = 2) : RX tx n res mf gt p m := by
  obtain ⟨_, q2, q3⟩ := RunsA_i h
  exact ⟨fun q => ⟨k, q2 q⟩, fun q _ => q3 h2 q, fun q => absurd q.1 h2⟩
theorem RX_b {tx : Nat → Int} {n : Nat} {res : Int} {mf : MS} {gt : Int} {p : Nat} {m : MS} (h : m.wa ≤ 0 → mf = m ∧ res = (if p < n then (p : Int) else -1)) (h2 : gt = 2) (h3 : m.wa ≤ 0) : RX tx n res mf gt p m := by
  obtain ⟨e1, e2⟩ := h h3
  refine ⟨fun q => absurd q.1 (by omega), fun _ q => ?_, fun q => ⟨h3, ?_, e1⟩⟩
  · rw [if_pos (by omega)] at e2; exact ⟨e2, e1⟩
  · rw [if_neg (by omega)] at e2; exact e2
theorem RX_n {tx : Nat → Int} {n : Nat} {res : Int} {mf : MS} {gt : Int} {p : Nat} {m : MS} (h : RX tx n res mf gt p m) (h2 : p + 1 ≤ n → gt = 1) : ∃ k, p + 1 ≤ n → RunsTo tx n res mf k (p + 1) m := by
  by_cases c : p + 1 ≤ n
  · obtain ⟨k, hk⟩ := h.1 ⟨h2 c, by omega⟩
    exact ⟨k, fun _ => hk⟩
  · exact ⟨0, fun q => absurd q c⟩
def raI (ms : MS) : MS := pushF (((((ms.sWa 0).sRr 0).sCf (updZ ms.cf 0 0)).sCl 0).sAn 0) 0 0 0
/-- an atom that can be asked -/
def AK (kd fi se : Nat → Int) (a : Nat) : Prop := (20 ≤ kd a ∧ kd a ≤ 26) ∧ (0 ≤ fi a ∧ fi a ≤ 100000) ∧ (-1 ≤ se a ∧ se a ≤ 100000) ∧ (kd a = 20 → fi a < 256) ∧ (kd a = 24 → 1 ≤ fi a) ∧ (kd a = 25 → se a = 1 ∨ se a = -1)
def CEO (kd fi se : Nat → Int) (c : Int) : Prop := c = 100 ∨ c = 101 ∨ c = 102 ∨ (0 ≤ c ∧ c ≤ 59 ∧ AK kd fi se c.toNat)
theorem CEO_bd {kd fi se : Nat → Int} {c : Int} (h : CEO kd fi se c) : 0 ≤ c ∧ c ≤ 102 := by
  rcases h with h | h | h | ⟨h, h2, _⟩ <;> omega
theorem CEO_a {kd fi se : Nat → Int} {c : Int} (h : CEO kd fi se c) (h0 : ¬ c = 102) (h1 : ¬ c = 100) (h2 : ¬ c = 101) : 0 ≤ c ∧ c ≤ 59 ∧ AK kd fi se c.toNat := by
  rcases h with h | h | h | h
  · exact absurd h h1
  · exact absurd h h2
  · exact absurd h h0
  · exact h
def cpG (g : Nat → Int) (b : Nat) (f : Nat → Int) (r : Nat) : Nat → Int := fun j => if b ≤ j ∧ j < b + r then f (j - b) else g j
theorem cpG_0 (g : Nat → Int) (b : Nat) (f : Nat → Int) : g = cpG g b f 0 := by
  funext j
  unfold cpG
  rw [if_neg (by omega)]
theorem cpG_s (g : Nat → Int) (b : Nat) (f : Nat → Int) (r : Nat) : updZ (cpG g b f r) (b + r) (f r) = cpG g b f (r + 1) := by
  funext j
  unfold updZ cpG
  by_cases h : j = b + r
  · subst h
    rw [if_pos rfl, if_pos (by omega), show b + r - b = r by omega]
  · rw [if_neg h]
    by_cases h2 : b ≤ j ∧ j < b + r
    · rw [if_pos h2, if_pos (by omega)]
    · rw [if_neg h2, if_neg (by omega)]
/-- a day's rules, as bits -/
def stM (P : Nat → Bool) : Nat → Int
  | 0 => 0
  | r + 1 => if P r = true then orb (stM P r) (r : Int) else stM P r
theorem stM_bd (P : Nat → Bool) : ∀ r, r ≤ 12 → 0 ≤ stM P r ∧ stM P r < 4096
  | 0, _ => ⟨by show (0 : Int) ≤ 0; omega, by show (0 : Int) < 4096; omega⟩
  | r + 1, h => by
    have ih := stM_bd P r (by omega)
    show 0 ≤ (if P r = true then orb (stM P r) (r : Int) else stM P r) ∧ (if P r = true then orb (stM P r) (r : Int) else stM P r) < 4096
    by_cases c : P r = true
    · rw [if_pos c]; exact (orbw ih ⟨by omega, by omega⟩).2
    · rw [if_neg c]; exact ih
theorem stM_t {P : Nat → Bool} {r : Nat} (h : P r = true) (hr : r < 12) : (iI (stM P r) ||| (iI 1 <<< (iI (r : Int) &&& 31))) = iI (stM P (r + 1)) := by
  show _ = iI (if P r = true then orb (stM P r) (r : Int) else stM P r)
  rw [if_pos h]
  exact (orbw (stM_bd P r (by omega)) ⟨by omega, by omega⟩).1
theorem stM_f {P : Nat → Bool} {r : Nat} (h : P r = false) : iI (stM P r) = iI (stM P (r + 1)) := by
  show _ = iI (if P r = true then orb (stM P r) (r : Int) else stM P r)
  rw [if_neg (Bool.eq_false_iff.mp h)]
set_option maxHeartbeats 16000000 in
set_option maxRecDepth 100000 in
theorem c_MD_readAll (l : Launch) (D : va_G) (k : Nat → ClassId) (sz : Nat) (h0 aTx aDt aFe aRu aTa aBe aEn aMa aEx aAb aCo aNt aNb aNe aCf aCd aKi aFi aSe : Nat) (fa : Int) (sh : Bool) (ms : MS) (tx : Nat → Int) (n : Nat) (kf : Nat) (res : Int) (mf : MS) (hn : n ≤ 100) (htx : ∀ j, 0 ≤ tx j ∧ tx j ≤ 127) (hrun : RunsTo tx n res mf kf 0 (raI ms)) : Met l y_MD_readAll wd_MD_readAll rm_MD_readAll (va_Pc [.ref h0] (PRW D k [(h0, .inr (8, [.int (iI (fa)), .int (iI ((n : Int))), .ref aTx, .int (bI (sh)), .ref aDt, .ref aFe, .ref aRu, .ref aTa, .ref aBe, .ref aEn, .ref aMa, .int (iI (ms.wa)), .ref aEx, .ref aAb, .ref aCo, .int (iI (ms.rr)), .ref aNt, .ref aNb, .ref aNe, .ref aCf, .ref aCd, .int (iI (ms.cl)), .int (iI (ms.an)), .ref aKi, .ref aFi, .ref aSe])), (aEx, .inl (k 0, 300, .inl (aZ (ms.ex)))), (aAb, .inl (k 0, 300, .inl (aZ (ms.ab)))), (aCo, .inl (k 0, 300, .inl (aZ (ms.co)))), (aNt, .inl (k 0, 12, .inl (aZ (ms.nt)))), (aNb, .inl (k 0, 12, .inl (aZ (ms.nb)))), (aNe, .inl (k 0, 12, .inl (aZ (ms.ne)))), (aCf, .inl (k 0, 13, .inl (aZ (ms.cf)))), (aCd, .inl (k 0, 110, .inl (aZ (ms.ce)))), (aKi, .inl (k 0, 60, .inl (aZ (ms.kd)))), (aFi, .inl (k 0, 60, .inl (aZ (ms.fi)))), (aSe, .inl (k 0, 60, .inl (aZ (ms.se)))), (aTx, .inl (k 0, 100, .inl (aZ (tx))))] sz)) (va_Qi (fun (r : Int32) (u : Unit) => r = (iI (res))) (fun _ t => BRW D [(h0, .inr (8, [.int (iI (fa)), .int (iI ((n : Int))), .ref aTx, .int (bI (sh)), .ref aDt, .ref aFe, .ref aRu, .ref aTa, .ref aBe, .ref aEn, .ref aMa, .int (iI (ms.wa)), .ref aEx, .ref aAb, .ref aCo, .int (iI (ms.rr)), .ref aNt, .ref aNb, .ref aNe, .ref aCf, .ref aCd, .int (iI (ms.cl)), .int (iI (ms.an)), .ref aKi, .ref aFi, .ref aSe])), (aEx, .inl (k 0, 300, .inl (aZ (ms.ex)))), (aAb, .inl (k 0, 300, .inl (aZ (ms.ab)))), (aCo, .inl (k 0, 300, .inl (aZ (ms.co)))), (aNt, .inl (k 0, 12, .inl (aZ (ms.nt)))), (aNb, .inl (k 0, 12, .inl (aZ (ms.nb)))), (aNe, .inl (k 0, 12, .inl (aZ (ms.ne)))), (aCf, .inl (k 0, 13, .inl (aZ (ms.cf)))), (aCd, .inl (k 0, 110, .inl (aZ (ms.ce)))), (aKi, .inl (k 0, 60, .inl (aZ (ms.kd)))), (aFi, .inl (k 0, 60, .inl (aZ (ms.fi)))), (aSe, .inl (k 0, 60, .inl (aZ (ms.se)))), (aTx, .inl (k 0, 100, .inl (aZ (tx))))] sz [(h0, .inr (8, [.int (iI (fa)), .int (iI (0)), .ref aTx, .int (bI (sh)), .ref aDt, .ref aFe, .ref aRu, .ref aTa, .ref aBe, .ref aEn, .ref aMa, .int (iI (mf.wa)), .ref aEx, .ref aAb, .ref aCo, .int (iI (mf.rr)), .ref aNt, .ref aNb, .ref aNe, .ref aCf, .ref aCd, .int (iI (mf.cl)), .int (iI (mf.an)), .ref aKi, .ref aFi, .ref aSe])), (aEx, .inl (k 0, 300, .inl (aZ (mf.ex)))), (aAb, .inl (k 0, 300, .inl (aZ (mf.ab)))), (aCo, .inl (k 0, 300, .inl (aZ (mf.co)))), (aNt, .inl (k 0, 12, .inl (aZ (mf.nt)))), (aNb, .inl (k 0, 12, .inl (aZ (mf.nb)))), (aNe, .inl (k 0, 12, .inl (aZ (mf.ne)))), (aCf, .inl (k 0, 13, .inl (aZ (mf.cf)))), (aCd, .inl (k 0, 110, .inl (aZ (mf.ce)))), (aKi, .inl (k 0, 60, .inl (aZ (mf.kd)))), (aFi, .inl (k 0, 60, .inl (aZ (mf.fi)))), (aSe, .inl (k 0, 60, .inl (aZ (mf.se)))), (aTx, .inl (k 0, 100, .inl (aZ (tx))))] t) (va_A [(h0, .inr (8, [.int (iI (fa)), .int (iI ((n : Int))), .ref aTx, .int (bI (sh)), .ref aDt, .ref aFe, .ref aRu, .ref aTa, .ref aBe, .ref aEn, .ref aMa, .int (iI (ms.wa)), .ref aEx, .ref aAb, .ref aCo, .int (iI (ms.rr)), .ref aNt, .ref aNb, .ref aNe, .ref aCf, .ref aCd, .int (iI (ms.cl)), .int (iI (ms.an)), .ref aKi, .ref aFi, .ref aSe])), (aEx, .inl (k 0, 300, .inl (aZ (ms.ex)))), (aAb, .inl (k 0, 300, .inl (aZ (ms.ab)))), (aCo, .inl (k 0, 300, .inl (aZ (ms.co)))), (aNt, .inl (k 0, 12, .inl (aZ (ms.nt)))), (aNb, .inl (k 0, 12, .inl (aZ (ms.nb)))), (aNe, .inl (k 0, 12, .inl (aZ (ms.ne)))), (aCf, .inl (k 0, 13, .inl (aZ (ms.cf)))), (aCd, .inl (k 0, 110, .inl (aZ (ms.ce)))), (aKi, .inl (k 0, 60, .inl (aZ (ms.kd)))), (aFi, .inl (k 0, 60, .inl (aZ (ms.fi)))), (aSe, .inl (k 0, 60, .inl (aZ (ms.se)))), (aTx, .inl (k 0, 100, .inl (aZ (tx))))] sz)) 0 0 (va_A [(h0, .inr (8, [.int (iI (fa)), .int (iI ((n : Int))), .ref aTx, .int (bI (sh)), .ref aDt, .ref aFe, .ref aRu, .ref aTa, .ref aBe, .ref aEn, .ref aMa, .int (iI (ms.wa)), .ref aEx, .ref aAb, .ref aCo, .int (iI (ms.rr)), .ref aNt, .ref aNb, .ref aNe, .ref aCf, .ref aCd, .int (iI (ms.cl)), .int (iI (ms.an)), .ref aKi, .ref aFi, .ref aSe])), (aEx, .inl (k 0, 300, .inl (aZ (ms.ex)))), (aAb, .inl (k 0, 300, .inl (aZ (ms.ab)))), (aCo, .inl (k 0, 300, .inl (aZ (ms.co)))), (aNt, .inl (k 0, 12, .inl (aZ (ms.nt)))), (aNb, .inl (k 0, 12, .inl (aZ (ms.nb)))), (aNe, .inl (k 0, 12, .inl (aZ (ms.ne)))), (aCf, .inl (k 0, 13, .inl (aZ (ms.cf)))), (aCd, .inl (k 0, 110, .inl (aZ (ms.ce)))), (aKi, .inl (k 0, 60, .inl (aZ (ms.kd)))), (aFi, .inl (k 0, 60, .inl (aZ (ms.fi)))), (aSe, .inl (k 0, 60, .inl (aZ (ms.se)))), (aTx, .inl (k 0, 100, .inl (aZ (tx))))] sz) := by
  refine e_i (by decide) rfl (Nat.le_of_ble_eq_true rfl) ?_
  intro p e s m args below meth c Q ls hx hb hml hown hts hpre hl ret
  obtain ⟨hsz, hP, hK, hD0, hX⟩ := hpre
  subst hsz
  have hD := hD0.self (sz := s.heap.size)
  have hA : ∀ q : Nat, s.heap.size ≤ q → (va_A [(h0, .inr (8, [.int (iI (fa)), .int (iI ((n : Int))), .ref aTx, .int (bI (sh)), .ref aDt, .ref aFe, .ref aRu, .ref aTa, .ref aBe, .ref aEn, .ref aMa, .int (iI (ms.wa)), .ref aEx, .ref aAb, .ref aCo, .int (iI (ms.rr)), .ref aNt, .ref aNb, .ref aNe, .ref aCf, .ref aCd, .int (iI (ms.cl)), .int (iI (ms.an)), .ref aKi, .ref aFi, .ref aSe])), (aEx, .inl (k 0, 300, .inl (aZ (ms.ex)))), (aAb, .inl (k 0, 300, .inl (aZ (ms.ab)))), (aCo, .inl (k 0, 300, .inl (aZ (ms.co)))), (aNt, .inl (k 0, 12, .inl (aZ (ms.nt)))), (aNb, .inl (k 0, 12, .inl (aZ (ms.nb)))), (aNe, .inl (k 0, 12, .inl (aZ (ms.ne)))), (aCf, .inl (k 0, 13, .inl (aZ (ms.cf)))), (aCd, .inl (k 0, 110, .inl (aZ (ms.ce)))), (aKi, .inl (k 0, 60, .inl (aZ (ms.kd)))), (aFi, .inl (k 0, 60, .inl (aZ (ms.fi)))), (aSe, .inl (k 0, 60, .inl (aZ (ms.se)))), (aTx, .inl (k 0, 100, .inl (aZ (tx))))] s.heap.size) q := fun q h => Or.inr h
  have hS : va_S (va_A [(h0, .inr (8, [.int (iI (fa)), .int (iI ((n : Int))), .ref aTx, .int (bI (sh)), .ref aDt, .ref aFe, .ref aRu, .ref aTa, .ref aBe, .ref aEn, .ref aMa, .int (iI (ms.wa)), .ref aEx, .ref aAb, .ref aCo, .int (iI (ms.rr)), .ref aNt, .ref aNb, .ref aNe, .ref aCf, .ref aCd, .int (iI (ms.cl)), .int (iI (ms.an)), .ref aKi, .ref aFi, .ref aSe])), (aEx, .inl (k 0, 300, .inl (aZ (ms.ex)))), (aAb, .inl (k 0, 300, .inl (aZ (ms.ab)))), (aCo, .inl (k 0, 300, .inl (aZ (ms.co)))), (aNt, .inl (k 0, 12, .inl (aZ (ms.nt)))), (aNb, .inl (k 0, 12, .inl (aZ (ms.nb)))), (aNe, .inl (k 0, 12, .inl (aZ (ms.ne)))), (aCf, .inl (k 0, 13, .inl (aZ (ms.cf)))), (aCd, .inl (k 0, 110, .inl (aZ (ms.ce)))), (aKi, .inl (k 0, 60, .inl (aZ (ms.kd)))), (aFi, .inl (k 0, 60, .inl (aZ (ms.fi)))), (aSe, .inl (k 0, 60, .inl (aZ (ms.se)))), (aTx, .inl (k 0, 100, .inl (aZ (tx))))] s.heap.size) s.heap s.heap [] := va_S.rf
  have hl : lv_has ls 5 [(0, .ref h0)] := hl
  refine lv_aload_n hx hb d_MD_readAll_0 rfl (lv_at hl 0 rfl) ?_
  refine va_get (D := D) (ci := 8) (v := .int (iI ((n : Int)))) (C := R_MD) (T := F_MD) (N := 26) hx hb hts in_MD hown hK hP 0 rfl rfl 1 (by decide) (hts _ k_734) (fun _ h9 => h9) rfl d_MD_readAll_1 ?_
  refine lv_istore_n (lv' := [(1, .int (iI ((n : Int)))), (0, .ref h0)]) hx hb d_MD_readAll_4 rfl hl (by decide) rfl (fun ls hl => ?_)
  refine lv_aload_n hx hb d_MD_readAll_5 rfl (lv_at hl 1 rfl) ?_
  refine z_iconst hx hb d_MD_readAll_6 ?_
  refine va_put (D := D) (ci := 8) (v := .int (iI (0))) (ty := .int) (C := R_MD) (T := F_MD) (N := 26) hx hb hts in_MD t_MD t_MD_ok n_MD hown hK hP hD hS 0 rfl rfl 1 (by decide) (hts _ k_734) (fun _ h9 => h9) rfl (by decide +kernel) rfl rfl (Nat.le_of_ble_eq_true rfl) d_MD_readAll_7 (fun H locs hP hD hS => ?_)
  have hP : va_P D classes [(h0, .inr (8, [.int (iI (fa)), .int (iI (0)), .ref aTx, .int (bI (sh)), .ref aDt, .ref aFe, .ref aRu, .ref aTa, .ref aBe, .ref aEn, .ref aMa, .int (iI (ms.wa)), .ref aEx, .ref aAb, .ref aCo, .int (iI (ms.rr)), .ref aNt, .ref aNb, .ref aNe, .ref aCf, .ref aCd, .int (iI (ms.cl)), .int (iI (ms.an)), .ref aKi, .ref aFi, .ref aSe])), (aEx, .inl (k 0, 300, .inl (aZ (ms.ex)))), (aAb, .inl (k 0, 300, .inl (aZ (ms.ab)))), (aCo, .inl (k 0, 300, .inl (aZ (ms.co)))), (aNt, .inl (k 0, 12, .inl (aZ (ms.nt)))), (aNb, .inl (k 0, 12, .inl (aZ (ms.nb)))), (aNe, .inl (k 0, 12, .inl (aZ (ms.ne)))), (aCf, .inl (k 0, 13, .inl (aZ (ms.cf)))), (aCd, .inl (k 0, 110, .inl (aZ (ms.ce)))), (aKi, .inl (k 0, 60, .inl (aZ (ms.kd)))), (aFi, .inl (k 0, 60, .inl (aZ (ms.fi)))), (aSe, .inl (k 0, 60, .inl (aZ (ms.se)))), (aTx, .inl (k 0, 100, .inl (aZ (tx))))] H := hP
  have hD : va_D (va_A [(h0, .inr (8, [.int (iI (fa)), .int (iI ((n : Int))), .ref aTx, .int (bI (sh)), .ref aDt, .ref aFe, .ref aRu, .ref aTa, .ref aBe, .ref aEn, .ref aMa, .int (iI (ms.wa)), .ref aEx, .ref aAb, .ref aCo, .int (iI (ms.rr)), .ref aNt, .ref aNb, .ref aNe, .ref aCf, .ref aCd, .int (iI (ms.cl)), .int (iI (ms.an)), .ref aKi, .ref aFi, .ref aSe])), (aEx, .inl (k 0, 300, .inl (aZ (ms.ex)))), (aAb, .inl (k 0, 300, .inl (aZ (ms.ab)))), (aCo, .inl (k 0, 300, .inl (aZ (ms.co)))), (aNt, .inl (k 0, 12, .inl (aZ (ms.nt)))), (aNb, .inl (k 0, 12, .inl (aZ (ms.nb)))), (aNe, .inl (k 0, 12, .inl (aZ (ms.ne)))), (aCf, .inl (k 0, 13, .inl (aZ (ms.cf)))), (aCd, .inl (k 0, 110, .inl (aZ (ms.ce)))), (aKi, .inl (k 0, 60, .inl (aZ (ms.kd)))), (aFi, .inl (k 0, 60, .inl (aZ (ms.fi)))), (aSe, .inl (k 0, 60, .inl (aZ (ms.se)))), (aTx, .inl (k 0, 100, .inl (aZ (tx))))] s.heap.size) [(h0, .inr (8, [.int (iI (fa)), .int (iI (0)), .ref aTx, .int (bI (sh)), .ref aDt, .ref aFe, .ref aRu, .ref aTa, .ref aBe, .ref aEn, .ref aMa, .int (iI (ms.wa)), .ref aEx, .ref aAb, .ref aCo, .int (iI (ms.rr)), .ref aNt, .ref aNb, .ref aNe, .ref aCf, .ref aCd, .int (iI (ms.cl)), .int (iI (ms.an)), .ref aKi, .ref aFi, .ref aSe])), (aEx, .inl (k 0, 300, .inl (aZ (ms.ex)))), (aAb, .inl (k 0, 300, .inl (aZ (ms.ab)))), (aCo, .inl (k 0, 300, .inl (aZ (ms.co)))), (aNt, .inl (k 0, 12, .inl (aZ (ms.nt)))), (aNb, .inl (k 0, 12, .inl (aZ (ms.nb)))), (aNe, .inl (k 0, 12, .inl (aZ (ms.ne)))), (aCf, .inl (k 0, 13, .inl (aZ (ms.cf)))), (aCd, .inl (k 0, 110, .inl (aZ (ms.ce)))), (aKi, .inl (k 0, 60, .inl (aZ (ms.kd)))), (aFi, .inl (k 0, 60, .inl (aZ (ms.fi)))), (aSe, .inl (k 0, 60, .inl (aZ (ms.se)))), (aTx, .inl (k 0, 100, .inl (aZ (tx))))] := hD
  refine lv_aload_n hx hb d_MD_readAll_10 rfl (lv_at hl 1 rfl) ?_
  refine z_iconst hx hb d_MD_readAll_11 ?_
  refine va_put (D := D) (ci := 8) (v := .int (iI (0))) (ty := .int) (C := R_MD) (T := F_MD) (N := 26) hx hb hts in_MD t_MD t_MD_ok n_MD hown hK hP hD hS 0 rfl rfl 11 (by decide) (hts _ k_744) (fun _ h9 => h9) rfl (by decide +kernel) rfl rfl (Nat.le_of_ble_eq_true rfl) d_MD_readAll_12 (fun H locs hP hD hS => ?_)
  have hP : va_P D classes [(h0, .inr (8, [.int (iI (fa)), .int (iI (0)), .ref aTx, .int (bI (sh)), .ref aDt, .ref aFe, .ref aRu, .ref aTa, .ref aBe, .ref aEn, .ref aMa, .int (iI (0)), .ref aEx, .ref aAb, .ref aCo, .int (iI (ms.rr)), .ref aNt, .ref aNb, .ref aNe, .ref aCf, .ref aCd, .int (iI (ms.cl)), .int (iI (ms.an)), .ref aKi, .ref aFi, .ref aSe])), (aEx, .inl (k 0, 300, .inl (aZ (ms.ex)))), (aAb, .inl (k 0, 300, .inl (aZ (ms.ab)))), (aCo, .inl (k 0, 300, .inl (aZ (ms.co)))), (aNt, .inl (k 0, 12, .inl (aZ (ms.nt)))), (aNb, .inl (k 0, 12, .inl (aZ (ms.nb)))), (aNe, .inl (k 0, 12, .inl (aZ (ms.ne)))), (aCf, .inl (k 0, 13, .inl (aZ (ms.cf)))), (aCd, .inl (k 0, 110, .inl (aZ (ms.ce)))), (aKi, .inl (k 0, 60, .inl (aZ (ms.kd)))), (aFi, .inl (k 0, 60, .inl (aZ (ms.fi)))), (aSe, .inl (k 0, 60, .inl (aZ (ms.se)))), (aTx, .inl (k 0, 100, .inl (aZ (tx))))] H := hP
  have hD : va_D (va_A [(h0, .inr (8, [.int (iI (fa)), .int (iI ((n : Int))), .ref aTx, .int (bI (sh)), .ref aDt, .ref aFe, .ref aRu, .ref aTa, .ref aBe, .ref aEn, .ref aMa, .int (iI (ms.wa)), .ref aEx, .ref aAb, .ref aCo, .int (iI (ms.rr)), .ref aNt, .ref aNb, .ref aNe, .ref aCf, .ref aCd, .int (iI (ms.cl)), .int (iI (ms.an)), .ref aKi, .ref aFi, .ref aSe])), (aEx, .inl (k 0, 300, .inl (aZ (ms.ex)))), (aAb, .inl (k 0, 300, .inl (aZ (ms.ab)))), (aCo, .inl (k 0, 300, .inl (aZ (ms.co)))), (aNt, .inl (k 0, 12, .inl (aZ (ms.nt)))), (aNb, .inl (k 0, 12, .inl (aZ (ms.nb)))), (aNe, .inl (k 0, 12, .inl (aZ (ms.ne)))), (aCf, .inl (k 0, 13, .inl (aZ (ms.cf)))), (aCd, .inl (k 0, 110, .inl (aZ (ms.ce)))), (aKi, .inl (k 0, 60, .inl (aZ (ms.kd)))), (aFi, .inl (k 0, 60, .inl (aZ (ms.fi)))), (aSe, .inl (k 0, 60, .inl (aZ (ms.se)))), (aTx, .inl (k 0, 100, .inl (aZ (tx))))] s.heap.size) [(h0, .inr (8, [.int (iI (fa)), .int (iI (0)), .ref aTx, .int (bI (sh)), .ref aDt, .ref aFe, .ref aRu, .ref aTa, .ref aBe, .ref aEn, .ref aMa, .int (iI (0)), .ref aEx, .ref aAb, .ref aCo, .int (iI (ms.rr)), .ref aNt, .ref aNb, .ref aNe, .ref aCf, .ref aCd, .int (iI (ms.cl)), .int (iI (ms.an)), .ref aKi, .ref aFi, .ref aSe])), (aEx, .inl (k 0, 300, .inl (aZ (ms.ex)))), (aAb, .inl (k 0, 300, .inl (aZ (ms.ab)))), (aCo, .inl (k 0, 300, .inl (aZ (ms.co)))), (aNt, .inl (k 0, 12, .inl (aZ (ms.nt)))), (aNb, .inl (k 0, 12, .inl (aZ (ms.nb)))), (aNe, .inl (k 0, 12, .inl (aZ (ms.ne)))), (aCf, .inl (k 0, 13, .inl (aZ (ms.cf)))), (aCd, .inl (k 0, 110, .inl (aZ (ms.ce)))), (aKi, .inl (k 0, 60, .inl (aZ (ms.kd)))), (aFi, .inl (k 0, 60, .inl (aZ (ms.fi)))), (aSe, .inl (k 0, 60, .inl (aZ (ms.se)))), (aTx, .inl (k 0, 100, .inl (aZ (tx))))] := hD
  refine lv_aload_n hx hb d_MD_readAll_15 rfl (lv_at hl 1 rfl) ?_
  refine z_iconst hx hb d_MD_readAll_16 ?_
  refine va_put (D := D) (ci := 8) (v := .int (iI (0))) (ty := .int) (C := R_MD) (T := F_MD) (N := 26) hx hb hts in_MD t_MD t_MD_ok n_MD hown hK hP hD hS 0 rfl rfl 15 (by decide) (hts _ k_748) (fun _ h9 => h9) rfl (by decide +kernel) rfl rfl (Nat.le_of_ble_eq_true rfl) d_MD_readAll_17 (fun H locs hP hD hS => ?_)
  have hP : va_P D classes [(h0, .inr (8, [.int (iI (fa)), .int (iI (0)), .ref aTx, .int (bI (sh)), .ref aDt, .ref aFe, .ref aRu, .ref aTa, .ref aBe, .ref aEn, .ref aMa, .int (iI (0)), .ref aEx, .ref aAb, .ref aCo, .int (iI (0)), .ref aNt, .ref aNb, .ref aNe, .ref aCf, .ref aCd, .int (iI (ms.cl)), .int (iI (ms.an)), .ref aKi, .ref aFi, .ref aSe])), (aEx, .inl (k 0, 300, .inl (aZ (ms.ex)))), (aAb, .inl (k 0, 300, .inl (aZ (ms.ab)))), (aCo, .inl (k 0, 300, .inl (aZ (ms.co)))), (aNt, .inl (k 0, 12, .inl (aZ (ms.nt)))), (aNb, .inl (k 0, 12, .inl (aZ (ms.nb)))), (aNe, .inl (k 0, 12, .inl (aZ (ms.ne)))), (aCf, .inl (k 0, 13, .inl (aZ (ms.cf)))), (aCd, .inl (k 0, 110, .inl (aZ (ms.ce)))), (aKi, .inl (k 0, 60, .inl (aZ (ms.kd)))), (aFi, .inl (k 0, 60, .inl (aZ (ms.fi)))), (aSe, .inl (k 0, 60, .inl (aZ (ms.se)))), (aTx, .inl (k 0, 100, .inl (aZ (tx))))] H := hP
  have hD : va_D (va_A [(h0, .inr (8, [.int (iI (fa)), .int (iI ((n : Int))), .ref aTx, .int (bI (sh)), .ref aDt, .ref aFe, .ref aRu, .ref aTa, .ref aBe, .ref aEn, .ref aMa, .int (iI (ms.wa)), .ref aEx, .ref aAb, .ref aCo, .int (iI (ms.rr)), .ref aNt, .ref aNb, .ref aNe, .ref aCf, .ref aCd, .int (iI (ms.cl)), .int (iI (ms.an)), .ref aKi, .ref aFi, .ref aSe])), (aEx, .inl (k 0, 300, .inl (aZ (ms.ex)))), (aAb, .inl (k 0, 300, .inl (aZ (ms.ab)))), (aCo, .inl (k 0, 300, .inl (aZ (ms.co)))), (aNt, .inl (k 0, 12, .inl (aZ (ms.nt)))), (aNb, .inl (k 0, 12, .inl (aZ (ms.nb)))), (aNe, .inl (k 0, 12, .inl (aZ (ms.ne)))), (aCf, .inl (k 0, 13, .inl (aZ (ms.cf)))), (aCd, .inl (k 0, 110, .inl (aZ (ms.ce)))), (aKi, .inl (k 0, 60, .inl (aZ (ms.kd)))), (aFi, .inl (k 0, 60, .inl (aZ (ms.fi)))), (aSe, .inl (k 0, 60, .inl (aZ (ms.se)))), (aTx, .inl (k 0, 100, .inl (aZ (tx))))] s.heap.size) [(h0, .inr (8, [.int (iI (fa)), .int (iI (0)), .ref aTx, .int (bI (sh)), .ref aDt, .ref aFe, .ref aRu, .ref aTa, .ref aBe, .ref aEn, .ref aMa, .int (iI (0)), .ref aEx, .ref aAb, .ref aCo, .int (iI (0)), .ref aNt, .ref aNb, .ref aNe, .ref aCf, .ref aCd, .int (iI (ms.cl)), .int (iI (ms.an)), .ref aKi, .ref aFi, .ref aSe])), (aEx, .inl (k 0, 300, .inl (aZ (ms.ex)))), (aAb, .inl (k 0, 300, .inl (aZ (ms.ab)))), (aCo, .inl (k 0, 300, .inl (aZ (ms.co)))), (aNt, .inl (k 0, 12, .inl (aZ (ms.nt)))), (aNb, .inl (k 0, 12, .inl (aZ (ms.nb)))), (aNe, .inl (k 0, 12, .inl (aZ (ms.ne)))), (aCf, .inl (k 0, 13, .inl (aZ (ms.cf)))), (aCd, .inl (k 0, 110, .inl (aZ (ms.ce)))), (aKi, .inl (k 0, 60, .inl (aZ (ms.kd)))), (aFi, .inl (k 0, 60, .inl (aZ (ms.fi)))), (aSe, .inl (k 0, 60, .inl (aZ (ms.se)))), (aTx, .inl (k 0, 100, .inl (aZ (tx))))] := hD
  refine lv_aload_n hx hb d_MD_readAll_20 rfl (lv_at hl 1 rfl) ?_
  refine z_iconst hx hb d_MD_readAll_21 ?_
  refine va_put (D := D) (ci := 8) (v := .int (iI (0))) (ty := .int) (C := R_MD) (T := F_MD) (N := 26) hx hb hts in_MD t_MD t_MD_ok n_MD hown hK hP hD hS 0 rfl rfl 21 (by decide) (hts _ k_754) (fun _ h9 => h9) rfl (by decide +kernel) rfl rfl (Nat.le_of_ble_eq_true rfl) d_MD_readAll_22 (fun H locs hP hD hS => ?_)
  have hP : va_P D classes [(h0, .inr (8, [.int (iI (fa)), .int (iI (0)), .ref aTx, .int (bI (sh)), .ref aDt, .ref aFe, .ref aRu, .ref aTa, .ref aBe, .ref aEn, .ref aMa, .int (iI (0)), .ref aEx, .ref aAb, .ref aCo, .int (iI (0)), .ref aNt, .ref aNb, .ref aNe, .ref aCf, .ref aCd, .int (iI (0)), .int (iI (ms.an)), .ref aKi, .ref aFi, .ref aSe])), (aEx, .inl (k 0, 300, .inl (aZ (ms.ex)))), (aAb, .inl (k 0, 300, .inl (aZ (ms.ab)))), (aCo, .inl (k 0, 300, .inl (aZ (ms.co)))), (aNt, .inl (k 0, 12, .inl (aZ (ms.nt)))), (aNb, .inl (k 0, 12, .inl (aZ (ms.nb)))), (aNe, .inl (k 0, 12, .inl (aZ (ms.ne)))), (aCf, .inl (k 0, 13, .inl (aZ (ms.cf)))), (aCd, .inl (k 0, 110, .inl (aZ (ms.ce)))), (aKi, .inl (k 0, 60, .inl (aZ (ms.kd)))), (aFi, .inl (k 0, 60, .inl (aZ (ms.fi)))), (aSe, .inl (k 0, 60, .inl (aZ (ms.se)))), (aTx, .inl (k 0, 100, .inl (aZ (tx))))] H := hP
  have hD : va_D (va_A [(h0, .inr (8, [.int (iI (fa)), .int (iI ((n : Int))), .ref aTx, .int (bI (sh)), .ref aDt, .ref aFe, .ref aRu, .ref aTa, .ref aBe, .ref aEn, .ref aMa, .int (iI (ms.wa)), .ref aEx, .ref aAb, .ref aCo, .int (iI (ms.rr)), .ref aNt, .ref aNb, .ref aNe, .ref aCf, .ref aCd, .int (iI (ms.cl)), .int (iI (ms.an)), .ref aKi, .ref aFi, .ref aSe])), (aEx, .inl (k 0, 300, .inl (aZ (ms.ex)))), (aAb, .inl (k 0, 300, .inl (aZ (ms.ab)))), (aCo, .inl (k 0, 300, .inl (aZ (ms.co)))), (aNt, .inl (k 0, 12, .inl (aZ (ms.nt)))), (aNb, .inl (k 0, 12, .inl (aZ (ms.nb)))), (aNe, .inl (k 0, 12, .inl (aZ (ms.ne)))), (aCf, .inl (k 0, 13, .inl (aZ (ms.cf)))), (aCd, .inl (k 0, 110, .inl (aZ (ms.ce)))), (aKi, .inl (k 0, 60, .inl (aZ (ms.kd)))), (aFi, .inl (k 0, 60, .inl (aZ (ms.fi)))), (aSe, .inl (k 0, 60, .inl (aZ (ms.se)))), (aTx, .inl (k 0, 100, .inl (aZ (tx))))] s.heap.size) [(h0, .inr (8, [.int (iI (fa)), .int (iI (0)), .ref aTx, .int (bI (sh)), .ref aDt, .ref aFe, .ref aRu, .ref aTa, .ref aBe, .ref aEn, .ref aMa, .int (iI (0)), .ref aEx, .ref aAb, .ref aCo, .int (iI (0)), .ref aNt, .ref aNb, .ref aNe, .ref aCf, .ref aCd, .int (iI (0)), .int (iI (ms.an)), .ref aKi, .ref aFi, .ref aSe])), (aEx, .inl (k 0, 300, .inl (aZ (ms.ex)))), (aAb, .inl (k 0, 300, .inl (aZ (ms.ab)))), (aCo, .inl (k 0, 300, .inl (aZ (ms.co)))), (aNt, .inl (k 0, 12, .inl (aZ (ms.nt)))), (aNb, .inl (k 0, 12, .inl (aZ (ms.nb)))), (aNe, .inl (k 0, 12, .inl (aZ (ms.ne)))), (aCf, .inl (k 0, 13, .inl (aZ (ms.cf)))), (aCd, .inl (k 0, 110, .inl (aZ (ms.ce)))), (aKi, .inl (k 0, 60, .inl (aZ (ms.kd)))), (aFi, .inl (k 0, 60, .inl (aZ (ms.fi)))), (aSe, .inl (k 0, 60, .inl (aZ (ms.se)))), (aTx, .inl (k 0, 100, .inl (aZ (tx))))] := hD
  refine lv_aload_n hx hb d_MD_readAll_25 rfl (lv_at hl 1 rfl) ?_
  refine z_iconst hx hb d_MD_readAll_26 ?_
  refine va_put (D := D) (ci := 8) (v := .int (iI (0))) (ty := .int) (C := R_MD) (T := F_MD) (N := 26) hx hb hts in_MD t_MD t_MD_ok n_MD hown hK hP hD hS 0 rfl rfl 22 (by decide) (hts _ k_755) (fun _ h9 => h9) rfl (by decide +kernel) rfl rfl (Nat.le_of_ble_eq_true rfl) d_MD_readAll_27 (fun H locs hP hD hS => ?_)
  have hP : va_P D classes [(h0, .inr (8, [.int (iI (fa)), .int (iI (0)), .ref aTx, .int (bI (sh)), .ref aDt, .ref aFe, .ref aRu, .ref aTa, .ref aBe, .ref aEn, .ref aMa, .int (iI (0)), .ref aEx, .ref aAb, .ref aCo, .int (iI (0)), .ref aNt, .ref aNb, .ref aNe, .ref aCf, .ref aCd, .int (iI (0)), .int (iI (0)), .ref aKi, .ref aFi, .ref aSe])), (aEx, .inl (k 0, 300, .inl (aZ (ms.ex)))), (aAb, .inl (k 0, 300, .inl (aZ (ms.ab)))), (aCo, .inl (k 0, 300, .inl (aZ (ms.co)))), (aNt, .inl (k 0, 12, .inl (aZ (ms.nt)))), (aNb, .inl (k 0, 12, .inl (aZ (ms.nb)))), (aNe, .inl (k 0, 12, .inl (aZ (ms.ne)))), (aCf, .inl (k 0, 13, .inl (aZ (ms.cf)))), (aCd, .inl (k 0, 110, .inl (aZ (ms.ce)))), (aKi, .inl (k 0, 60, .inl (aZ (ms.kd)))), (aFi, .inl (k 0, 60, .inl (aZ (ms.fi)))), (aSe, .inl (k 0, 60, .inl (aZ (ms.se)))), (aTx, .inl (k 0, 100, .inl (aZ (tx))))] H := hP
  have hD : va_D (va_A [(h0, .inr (8, [.int (iI (fa)), .int (iI ((n : Int))), .ref aTx, .int (bI (sh)), .ref aDt, .ref aFe, .ref aRu, .ref aTa, .ref aBe, .ref aEn, .ref aMa, .int (iI (ms.wa)), .ref aEx, .ref aAb, .ref aCo, .int (iI (ms.rr)), .ref aNt, .ref aNb, .ref aNe, .ref aCf, .ref aCd, .int (iI (ms.cl)), .int (iI (ms.an)), .ref aKi, .ref aFi, .ref aSe])), (aEx, .inl (k 0, 300, .inl (aZ (ms.ex)))), (aAb, .inl (k 0, 300, .inl (aZ (ms.ab)))), (aCo, .inl (k 0, 300, .inl (aZ (ms.co)))), (aNt, .inl (k 0, 12, .inl (aZ (ms.nt)))), (aNb, .inl (k 0, 12, .inl (aZ (ms.nb)))), (aNe, .inl (k 0, 12, .inl (aZ (ms.ne)))), (aCf, .inl (k 0, 13, .inl (aZ (ms.cf)))), (aCd, .inl (k 0, 110, .inl (aZ (ms.ce)))), (aKi, .inl (k 0, 60, .inl (aZ (ms.kd)))), (aFi, .inl (k 0, 60, .inl (aZ (ms.fi)))), (aSe, .inl (k 0, 60, .inl (aZ (ms.se)))), (aTx, .inl (k 0, 100, .inl (aZ (tx))))] s.heap.size) [(h0, .inr (8, [.int (iI (fa)), .int (iI (0)), .ref aTx, .int (bI (sh)), .ref aDt, .ref aFe, .ref aRu, .ref aTa, .ref aBe, .ref aEn, .ref aMa, .int (iI (0)), .ref aEx, .ref aAb, .ref aCo, .int (iI (0)), .ref aNt, .ref aNb, .ref aNe, .ref aCf, .ref aCd, .int (iI (0)), .int (iI (0)), .ref aKi, .ref aFi, .ref aSe])), (aEx, .inl (k 0, 300, .inl (aZ (ms.ex)))), (aAb, .inl (k 0, 300, .inl (aZ (ms.ab)))), (aCo, .inl (k 0, 300, .inl (aZ (ms.co)))), (aNt, .inl (k 0, 12, .inl (aZ (ms.nt)))), (aNb, .inl (k 0, 12, .inl (aZ (ms.nb)))), (aNe, .inl (k 0, 12, .inl (aZ (ms.ne)))), (aCf, .inl (k 0, 13, .inl (aZ (ms.cf)))), (aCd, .inl (k 0, 110, .inl (aZ (ms.ce)))), (aKi, .inl (k 0, 60, .inl (aZ (ms.kd)))), (aFi, .inl (k 0, 60, .inl (aZ (ms.fi)))), (aSe, .inl (k 0, 60, .inl (aZ (ms.se)))), (aTx, .inl (k 0, 100, .inl (aZ (tx))))] := hD
  refine lv_aload_n hx hb d_MD_readAll_30 rfl (lv_at hl 1 rfl) ?_
  refine va_get (D := D) (ci := 8) (v := .ref aCf) (C := R_MD) (T := F_MD) (N := 26) hx hb hts in_MD hown hK hP 0 rfl rfl 19 (by decide) (hts _ k_752) (fun _ h9 => h9) rfl d_MD_readAll_31 ?_
  refine z_iconst hx hb d_MD_readAll_34 ?_
  refine z_iconst hx hb d_MD_readAll_35 ?_
  refine x_iast hx hb hK hP hD hS 7 0 rfl rfl (0) rfl (by decide) (by omega) d_MD_readAll_36 (fun H locs hP hD hS => ?_)
  rw [aZ_upd] at hP hD
  have hP : va_P D classes [(h0, .inr (8, [.int (iI (fa)), .int (iI (0)), .ref aTx, .int (bI (sh)), .ref aDt, .ref aFe, .ref aRu, .ref aTa, .ref aBe, .ref aEn, .ref aMa, .int (iI (0)), .ref aEx, .ref aAb, .ref aCo, .int (iI (0)), .ref aNt, .ref aNb, .ref aNe, .ref aCf, .ref aCd, .int (iI (0)), .int (iI (0)), .ref aKi, .ref aFi, .ref aSe])), (aEx, .inl (k 0, 300, .inl (aZ (ms.ex)))), (aAb, .inl (k 0, 300, .inl (aZ (ms.ab)))), (aCo, .inl (k 0, 300, .inl (aZ (ms.co)))), (aNt, .inl (k 0, 12, .inl (aZ (ms.nt)))), (aNb, .inl (k 0, 12, .inl (aZ (ms.nb)))), (aNe, .inl (k 0, 12, .inl (aZ (ms.ne)))), (aCf, .inl (k 0, 13, .inl (aZ (updZ (ms.cf) (0) (0))))), (aCd, .inl (k 0, 110, .inl (aZ (ms.ce)))), (aKi, .inl (k 0, 60, .inl (aZ (ms.kd)))), (aFi, .inl (k 0, 60, .inl (aZ (ms.fi)))), (aSe, .inl (k 0, 60, .inl (aZ (ms.se)))), (aTx, .inl (k 0, 100, .inl (aZ (tx))))] H := hP
  have hD : va_D (va_A [(h0, .inr (8, [.int (iI (fa)), .int (iI ((n : Int))), .ref aTx, .int (bI (sh)), .ref aDt, .ref aFe, .ref aRu, .ref aTa, .ref aBe, .ref aEn, .ref aMa, .int (iI (ms.wa)), .ref aEx, .ref aAb, .ref aCo, .int (iI (ms.rr)), .ref aNt, .ref aNb, .ref aNe, .ref aCf, .ref aCd, .int (iI (ms.cl)), .int (iI (ms.an)), .ref aKi, .ref aFi, .ref aSe])), (aEx, .inl (k 0, 300, .inl (aZ (ms.ex)))), (aAb, .inl (k 0, 300, .inl (aZ (ms.ab)))), (aCo, .inl (k 0, 300, .inl (aZ (ms.co)))), (aNt, .inl (k 0, 12, .inl (aZ (ms.nt)))), (aNb, .inl (k 0, 12, .inl (aZ (ms.nb)))), (aNe, .inl (k 0, 12, .inl (aZ (ms.ne)))), (aCf, .inl (k 0, 13, .inl (aZ (ms.cf)))), (aCd, .inl (k 0, 110, .inl (aZ (ms.ce)))), (aKi, .inl (k 0, 60, .inl (aZ (ms.kd)))), (aFi, .inl (k 0, 60, .inl (aZ (ms.fi)))), (aSe, .inl (k 0, 60, .inl (aZ (ms.se)))), (aTx, .inl (k 0, 100, .inl (aZ (tx))))] s.heap.size) [(h0, .inr (8, [.int (iI (fa)), .int (iI (0)), .ref aTx, .int (bI (sh)), .ref aDt, .ref aFe, .ref aRu, .ref aTa, .ref aBe, .ref aEn, .ref aMa, .int (iI (0)), .ref aEx, .ref aAb, .ref aCo, .int (iI (0)), .ref aNt, .ref aNb, .ref aNe, .ref aCf, .ref aCd, .int (iI (0)), .int (iI (0)), .ref aKi, .ref aFi, .ref aSe])), (aEx, .inl (k 0, 300, .inl (aZ (ms.ex)))), (aAb, .inl (k 0, 300, .inl (aZ (ms.ab)))), (aCo, .inl (k 0, 300, .inl (aZ (ms.co)))), (aNt, .inl (k 0, 12, .inl (aZ (ms.nt)))), (aNb, .inl (k 0, 12, .inl (aZ (ms.nb)))), (aNe, .inl (k 0, 12, .inl (aZ (ms.ne)))), (aCf, .inl (k 0, 13, .inl (aZ (updZ (ms.cf) (0) (0))))), (aCd, .inl (k 0, 110, .inl (aZ (ms.ce)))), (aKi, .inl (k 0, 60, .inl (aZ (ms.kd)))), (aFi, .inl (k 0, 60, .inl (aZ (ms.fi)))), (aSe, .inl (k 0, 60, .inl (aZ (ms.se)))), (aTx, .inl (k 0, 100, .inl (aZ (tx))))] := hD
  refine lv_aload_n hx hb d_MD_readAll_37 rfl (lv_at hl 1 rfl) ?_
  refine z_iconst hx hb d_MD_readAll_38 ?_
  refine z_iconst hx hb d_MD_readAll_39 ?_
  refine z_iconst hx hb d_MD_readAll_40 ?_
  have hPc := hP.sub (ws' := [(h0, .inr (8, [.int (iI (fa)), .int (iI (0)), .ref aTx, .int (bI (sh)), .ref aDt, .ref aFe, .ref aRu, .ref aTa, .ref aBe, .ref aEn, .ref aMa, .int (iI (0)), .ref aEx, .ref aAb, .ref aCo, .int (iI (0)), .ref aNt, .ref aNb, .ref aNe, .ref aCf, .ref aCd, .int (iI (0)), .int (iI (0)), .ref aKi, .ref aFi, .ref aSe])), (aEx, .inl (k 0, 300, .inl (aZ (ms.ex)))), (aAb, .inl (k 0, 300, .inl (aZ (ms.ab)))), (aCo, .inl (k 0, 300, .inl (aZ (ms.co)))), (aNt, .inl (k 0, 12, .inl (aZ (ms.nt)))), (aNb, .inl (k 0, 12, .inl (aZ (ms.nb)))), (aNe, .inl (k 0, 12, .inl (aZ (ms.ne)))), (aCf, .inl (k 0, 13, .inl (aZ (updZ (ms.cf) (0) (0))))), (aCd, .inl (k 0, 110, .inl (aZ (ms.ce)))), (aKi, .inl (k 0, 60, .inl (aZ (ms.kd)))), (aFi, .inl (k 0, 60, .inl (aZ (ms.fi)))), (aSe, .inl (k 0, 60, .inl (aZ (ms.se))))]) [0, 1, 2, 3, 4, 5, 6, 7, 8, 9, 10, 11] rfl
  have hDc := hD.sub (ws' := [(h0, .inr (8, [.int (iI (fa)), .int (iI (0)), .ref aTx, .int (bI (sh)), .ref aDt, .ref aFe, .ref aRu, .ref aTa, .ref aBe, .ref aEn, .ref aMa, .int (iI (0)), .ref aEx, .ref aAb, .ref aCo, .int (iI (0)), .ref aNt, .ref aNb, .ref aNe, .ref aCf, .ref aCd, .int (iI (0)), .int (iI (0)), .ref aKi, .ref aFi, .ref aSe])), (aEx, .inl (k 0, 300, .inl (aZ (ms.ex)))), (aAb, .inl (k 0, 300, .inl (aZ (ms.ab)))), (aCo, .inl (k 0, 300, .inl (aZ (ms.co)))), (aNt, .inl (k 0, 12, .inl (aZ (ms.nt)))), (aNb, .inl (k 0, 12, .inl (aZ (ms.nb)))), (aNe, .inl (k 0, 12, .inl (aZ (ms.ne)))), (aCf, .inl (k 0, 13, .inl (aZ (updZ (ms.cf) (0) (0))))), (aCd, .inl (k 0, 110, .inl (aZ (ms.ce)))), (aKi, .inl (k 0, 60, .inl (aZ (ms.kd)))), (aFi, .inl (k 0, 60, .inl (aZ (ms.fi)))), (aSe, .inl (k 0, 60, .inl (aZ (ms.se))))]) [0, 1, 2, 3, 4, 5, 6, 7, 8, 9, 10, 11] (by decide) rfl
  have hFc := va_free (wc := [(h0, .inr (8, [.int (iI (fa)), .int (iI (0)), .ref aTx, .int (bI (sh)), .ref aDt, .ref aFe, .ref aRu, .ref aTa, .ref aBe, .ref aEn, .ref aMa, .int (iI (0)), .ref aEx, .ref aAb, .ref aCo, .int (iI (0)), .ref aNt, .ref aNb, .ref aNe, .ref aCf, .ref aCd, .int (iI (0)), .int (iI (0)), .ref aKi, .ref aFi, .ref aSe])), (aEx, .inl (k 0, 300, .inl (aZ (ms.ex)))), (aAb, .inl (k 0, 300, .inl (aZ (ms.ab)))), (aCo, .inl (k 0, 300, .inl (aZ (ms.co)))), (aNt, .inl (k 0, 12, .inl (aZ (ms.nt)))), (aNb, .inl (k 0, 12, .inl (aZ (ms.nb)))), (aNe, .inl (k 0, 12, .inl (aZ (ms.ne)))), (aCf, .inl (k 0, 13, .inl (aZ (updZ (ms.cf) (0) (0))))), (aCd, .inl (k 0, 110, .inl (aZ (ms.ce)))), (aKi, .inl (k 0, 60, .inl (aZ (ms.kd)))), (aFi, .inl (k 0, 60, .inl (aZ (ms.fi)))), (aSe, .inl (k 0, 60, .inl (aZ (ms.se))))]) hD hS hA [0, 1, 2, 3, 4, 5, 6, 7, 8, 9, 10, 11] rfl
  refine va_callv (va_runV (As := [.int (iI (0)), .int (iI (0)), .int (iI (0))]) (rest := []) (b := h0) ⟨hx, hb, hml, hown, hts⟩ (c_MD_push l D k H.size (h0) (aTx) (aDt) (aFe) (aRu) (aTa) (aBe) (aEn) (aMa) (aEx) (aAb) (aCo) (aNt) (aNb) (aNe) (aCf) (aCd) (aKi) (aFi) (aSe) (fa) (0) (sh) ((((((ms.sWa (0)).sRr (0)).sCf (updZ (ms.cf) (0) (0))).sCl (0)).sAn (0))) (0) (0) (0) ((by show (0 : Int) ≤ 0 ∧ (0 : Int) ≤ 299; omega))) ⟨callB_of 3 hts (good_MD_push) rfl rfl rfl (hts _ k_67) (hts _ k_828) (by decide +kernel) ⟨Nat.le_of_ble_eq_true rfl, Nat.le_of_ble_eq_true rfl⟩, (hts _ k_830), (hts _ k_30)⟩ ⟨fun a U g mk q => ⟨q.1, q.2.1, q.2.2.1, va_K.moved (u := U) (U := U.calling g mk a) (Vm.Alike.refl U.vm) q.2.2.2.1, q.2.2.2.2.1, q.2.2.2.2.2.calling⟩, (va_recv (q0 := 0) hK hP rfl rfl), fun U hU hW => ⟨rfl, by rw [hU], by rw [hU]; exact hPc, va_K.moved hW.alike hK, hDc.weaken (fun _ _ _ _ => trivial), by rw [hU]; exact (hX.mono hS hFc).warm hW⟩⟩ rfl rfl hl.1 rfl (lv_room (Nat.le_of_ble_eq_true rfl)) d_MD_readAll_41 ⟨Nat.le_of_ble_eq_true rfl, Nat.le_of_ble_eq_true rfl⟩) hS (fun q _ h => hFc q h) hFc (fun xu_2 t H1 locs ht hvm h_xr_1 hB hz1 hk1 hS => ?_)
  obtain ⟨hP1, hD1⟩ := hB
  rw [ht] at hP1
  obtain ⟨hP, hD⟩ := va_join (wr := [(aTx, .inl (k 0, 100, .inl (aZ (tx))))]) (w1 := [(h0, .inr (8, [.int (iI (fa)), .int (iI (0)), .ref aTx, .int (bI (sh)), .ref aDt, .ref aFe, .ref aRu, .ref aTa, .ref aBe, .ref aEn, .ref aMa, .int (iI ((pushF ((((((ms.sWa (0)).sRr (0)).sCf (updZ (ms.cf) (0) (0))).sCl (0)).sAn (0))) 0 0 0).wa)), .ref aEx, .ref aAb, .ref aCo, .int (iI ((pushF ((((((ms.sWa (0)).sRr (0)).sCf (updZ (ms.cf) (0) (0))).sCl (0)).sAn (0))) 0 0 0).rr)), .ref aNt, .ref aNb, .ref aNe, .ref aCf, .ref aCd, .int (iI ((pushF ((((((ms.sWa (0)).sRr (0)).sCf (updZ (ms.cf) (0) (0))).sCl (0)).sAn (0))) 0 0 0).cl)), .int (iI ((pushF ((((((ms.sWa (0)).sRr (0)).sCf (updZ (ms.cf) (0) (0))).sCl (0)).sAn (0))) 0 0 0).an)), .ref aKi, .ref aFi, .ref aSe])), (aEx, .inl (k 0, 300, .inl (aZ ((pushF ((((((ms.sWa (0)).sRr (0)).sCf (updZ (ms.cf) (0) (0))).sCl (0)).sAn (0))) 0 0 0).ex)))), (aAb, .inl (k 0, 300, .inl (aZ ((pushF ((((((ms.sWa (0)).sRr (0)).sCf (updZ (ms.cf) (0) (0))).sCl (0)).sAn (0))) 0 0 0).ab)))), (aCo, .inl (k 0, 300, .inl (aZ ((pushF ((((((ms.sWa (0)).sRr (0)).sCf (updZ (ms.cf) (0) (0))).sCl (0)).sAn (0))) 0 0 0).co)))), (aNt, .inl (k 0, 12, .inl (aZ ((pushF ((((((ms.sWa (0)).sRr (0)).sCf (updZ (ms.cf) (0) (0))).sCl (0)).sAn (0))) 0 0 0).nt)))), (aNb, .inl (k 0, 12, .inl (aZ ((pushF ((((((ms.sWa (0)).sRr (0)).sCf (updZ (ms.cf) (0) (0))).sCl (0)).sAn (0))) 0 0 0).nb)))), (aNe, .inl (k 0, 12, .inl (aZ ((pushF ((((((ms.sWa (0)).sRr (0)).sCf (updZ (ms.cf) (0) (0))).sCl (0)).sAn (0))) 0 0 0).ne)))), (aCf, .inl (k 0, 13, .inl (aZ ((pushF ((((((ms.sWa (0)).sRr (0)).sCf (updZ (ms.cf) (0) (0))).sCl (0)).sAn (0))) 0 0 0).cf)))), (aCd, .inl (k 0, 110, .inl (aZ ((pushF ((((((ms.sWa (0)).sRr (0)).sCf (updZ (ms.cf) (0) (0))).sCl (0)).sAn (0))) 0 0 0).ce)))), (aKi, .inl (k 0, 60, .inl (aZ ((pushF ((((((ms.sWa (0)).sRr (0)).sCf (updZ (ms.cf) (0) (0))).sCl (0)).sAn (0))) 0 0 0).kd)))), (aFi, .inl (k 0, 60, .inl (aZ ((pushF ((((((ms.sWa (0)).sRr (0)).sCf (updZ (ms.cf) (0) (0))).sCl (0)).sAn (0))) 0 0 0).fi)))), (aSe, .inl (k 0, 60, .inl (aZ ((pushF ((((((ms.sWa (0)).sRr (0)).sCf (updZ (ms.cf) (0) (0))).sCl (0)).sAn (0))) 0 0 0).se))))]) hP hD [0, 1, 2, 3, 4, 5, 6, 7, 8, 9, 10, 11] [12] rfl rfl (by decide) (by decide) hk1 hFc hP1 hD1
  generalize H1 = H at hP hS ⊢
  have hP := hP.sub (ws' := [(h0, .inr (8, [.int (iI (fa)), .int (iI (0)), .ref aTx, .int (bI (sh)), .ref aDt, .ref aFe, .ref aRu, .ref aTa, .ref aBe, .ref aEn, .ref aMa, .int (iI ((pushF ((((((ms.sWa (0)).sRr (0)).sCf (updZ (ms.cf) (0) (0))).sCl (0)).sAn (0))) 0 0 0).wa)), .ref aEx, .ref aAb, .ref aCo, .int (iI ((pushF ((((((ms.sWa (0)).sRr (0)).sCf (updZ (ms.cf) (0) (0))).sCl (0)).sAn (0))) 0 0 0).rr)), .ref aNt, .ref aNb, .ref aNe, .ref aCf, .ref aCd, .int (iI ((pushF ((((((ms.sWa (0)).sRr (0)).sCf (updZ (ms.cf) (0) (0))).sCl (0)).sAn (0))) 0 0 0).cl)), .int (iI ((pushF ((((((ms.sWa (0)).sRr (0)).sCf (updZ (ms.cf) (0) (0))).sCl (0)).sAn (0))) 0 0 0).an)), .ref aKi, .ref aFi, .ref aSe])), (aEx, .inl (k 0, 300, .inl (aZ ((pushF ((((((ms.sWa (0)).sRr (0)).sCf (updZ (ms.cf) (0) (0))).sCl (0)).sAn (0))) 0 0 0).ex)))), (aAb, .inl (k 0, 300, .inl (aZ ((pushF ((((((ms.sWa (0)).sRr (0)).sCf (updZ (ms.cf) (0) (0))).sCl (0)).sAn (0))) 0 0 0).ab)))), (aCo, .inl (k 0, 300, .inl (aZ ((pushF ((((((ms.sWa (0)).sRr (0)).sCf (updZ (ms.cf) (0) (0))).sCl (0)).sAn (0))) 0 0 0).co)))), (aNt, .inl (k 0, 12, .inl (aZ ((pushF ((((((ms.sWa (0)).sRr (0)).sCf (updZ (ms.cf) (0) (0))).sCl (0)).sAn (0))) 0 0 0).nt)))), (aNb, .inl (k 0, 12, .inl (aZ ((pushF ((((((ms.sWa (0)).sRr (0)).sCf (updZ (ms.cf) (0) (0))).sCl (0)).sAn (0))) 0 0 0).nb)))), (aNe, .inl (k 0, 12, .inl (aZ ((pushF ((((((ms.sWa (0)).sRr (0)).sCf (updZ (ms.cf) (0) (0))).sCl (0)).sAn (0))) 0 0 0).ne)))), (aCf, .inl (k 0, 13, .inl (aZ ((pushF ((((((ms.sWa (0)).sRr (0)).sCf (updZ (ms.cf) (0) (0))).sCl (0)).sAn (0))) 0 0 0).cf)))), (aCd, .inl (k 0, 110, .inl (aZ ((pushF ((((((ms.sWa (0)).sRr (0)).sCf (updZ (ms.cf) (0) (0))).sCl (0)).sAn (0))) 0 0 0).ce)))), (aKi, .inl (k 0, 60, .inl (aZ ((pushF ((((((ms.sWa (0)).sRr (0)).sCf (updZ (ms.cf) (0) (0))).sCl (0)).sAn (0))) 0 0 0).kd)))), (aFi, .inl (k 0, 60, .inl (aZ ((pushF ((((((ms.sWa (0)).sRr (0)).sCf (updZ (ms.cf) (0) (0))).sCl (0)).sAn (0))) 0 0 0).fi)))), (aSe, .inl (k 0, 60, .inl (aZ ((pushF ((((((ms.sWa (0)).sRr (0)).sCf (updZ (ms.cf) (0) (0))).sCl (0)).sAn (0))) 0 0 0).se)))), (aTx, .inl (k 0, 100, .inl (aZ (tx))))]) [1, 2, 3, 4, 5, 6, 7, 8, 9, 10, 11, 12, 0] rfl
  have hD := hD.sub (ws' := [(h0, .inr (8, [.int (iI (fa)), .int (iI (0)), .ref aTx, .int (bI (sh)), .ref aDt, .ref aFe, .ref aRu, .ref aTa, .ref aBe, .ref aEn, .ref aMa, .int (iI ((pushF ((((((ms.sWa (0)).sRr (0)).sCf (updZ (ms.cf) (0) (0))).sCl (0)).sAn (0))) 0 0 0).wa)), .ref aEx, .ref aAb, .ref aCo, .int (iI ((pushF ((((((ms.sWa (0)).sRr (0)).sCf (updZ (ms.cf) (0) (0))).sCl (0)).sAn (0))) 0 0 0).rr)), .ref aNt, .ref aNb, .ref aNe, .ref aCf, .ref aCd, .int (iI ((pushF ((((((ms.sWa (0)).sRr (0)).sCf (updZ (ms.cf) (0) (0))).sCl (0)).sAn (0))) 0 0 0).cl)), .int (iI ((pushF ((((((ms.sWa (0)).sRr (0)).sCf (updZ (ms.cf) (0) (0))).sCl (0)).sAn (0))) 0 0 0).an)), .ref aKi, .ref aFi, .ref aSe])), (aEx, .inl (k 0, 300, .inl (aZ ((pushF ((((((ms.sWa (0)).sRr (0)).sCf (updZ (ms.cf) (0) (0))).sCl (0)).sAn (0))) 0 0 0).ex)))), (aAb, .inl (k 0, 300, .inl (aZ ((pushF ((((((ms.sWa (0)).sRr (0)).sCf (updZ (ms.cf) (0) (0))).sCl (0)).sAn (0))) 0 0 0).ab)))), (aCo, .inl (k 0, 300, .inl (aZ ((pushF ((((((ms.sWa (0)).sRr (0)).sCf (updZ (ms.cf) (0) (0))).sCl (0)).sAn (0))) 0 0 0).co)))), (aNt, .inl (k 0, 12, .inl (aZ ((pushF ((((((ms.sWa (0)).sRr (0)).sCf (updZ (ms.cf) (0) (0))).sCl (0)).sAn (0))) 0 0 0).nt)))), (aNb, .inl (k 0, 12, .inl (aZ ((pushF ((((((ms.sWa (0)).sRr (0)).sCf (updZ (ms.cf) (0) (0))).sCl (0)).sAn (0))) 0 0 0).nb)))), (aNe, .inl (k 0, 12, .inl (aZ ((pushF ((((((ms.sWa (0)).sRr (0)).sCf (updZ (ms.cf) (0) (0))).sCl (0)).sAn (0))) 0 0 0).ne)))), (aCf, .inl (k 0, 13, .inl (aZ ((pushF ((((((ms.sWa (0)).sRr (0)).sCf (updZ (ms.cf) (0) (0))).sCl (0)).sAn (0))) 0 0 0).cf)))), (aCd, .inl (k 0, 110, .inl (aZ ((pushF ((((((ms.sWa (0)).sRr (0)).sCf (updZ (ms.cf) (0) (0))).sCl (0)).sAn (0))) 0 0 0).ce)))), (aKi, .inl (k 0, 60, .inl (aZ ((pushF ((((((ms.sWa (0)).sRr (0)).sCf (updZ (ms.cf) (0) (0))).sCl (0)).sAn (0))) 0 0 0).kd)))), (aFi, .inl (k 0, 60, .inl (aZ ((pushF ((((((ms.sWa (0)).sRr (0)).sCf (updZ (ms.cf) (0) (0))).sCl (0)).sAn (0))) 0 0 0).fi)))), (aSe, .inl (k 0, 60, .inl (aZ ((pushF ((((((ms.sWa (0)).sRr (0)).sCf (updZ (ms.cf) (0) (0))).sCl (0)).sAn (0))) 0 0 0).se)))), (aTx, .inl (k 0, 100, .inl (aZ (tx))))]) [1, 2, 3, 4, 5, 6, 7, 8, 9, 10, 11, 12, 0] (by decide) rfl
  refine z_iconst hx hb d_MD_readAll_44 ?_
  refine lv_istore_n (lv' := [(2, .int (iI (0))), (1, .int (iI ((n : Int)))), (0, .ref h0)]) hx hb d_MD_readAll_45 rfl hl (by decide) rfl (fun ls hl => ?_)
  have L46 : ∀ (fu : Nat) (k2 : Nat) (p1 : Nat) (z : Int) (m2 : MS) (ls : Array Slot) (H : Heap) (locs : List Loc), z = (p1 : Int) → p1 ≤ n + 1 → (p1 ≤ n → RunsTo tx n res mf k2 p1 m2) → (p1 = n + 1 → res = -1 ∧ mf = m2) → n + 1 - p1 < fu → lv_has ls 5 [(0, .ref h0), (1, .int (iI ((n : Int)))), (2, .int (iI (z)))] → va_P D classes [(h0, .inr (8, [.int (iI (fa)), .int (iI (0)), .ref aTx, .int (bI (sh)), .ref aDt, .ref aFe, .ref aRu, .ref aTa, .ref aBe, .ref aEn, .ref aMa, .int (iI (m2.wa)), .ref aEx, .ref aAb, .ref aCo, .int (iI (m2.rr)), .ref aNt, .ref aNb, .ref aNe, .ref aCf, .ref aCd, .int (iI (m2.cl)), .int (iI (m2.an)), .ref aKi, .ref aFi, .ref aSe])), (aEx, .inl (k 0, 300, .inl (aZ (m2.ex)))), (aAb, .inl (k 0, 300, .inl (aZ (m2.ab)))), (aCo, .inl (k 0, 300, .inl (aZ (m2.co)))), (aNt, .inl (k 0, 12, .inl (aZ (m2.nt)))), (aNb, .inl (k 0, 12, .inl (aZ (m2.nb)))), (aNe, .inl (k 0, 12, .inl (aZ (m2.ne)))), (aCf, .inl (k 0, 13, .inl (aZ (m2.cf)))), (aCd, .inl (k 0, 110, .inl (aZ (m2.ce)))), (aKi, .inl (k 0, 60, .inl (aZ (m2.kd)))), (aFi, .inl (k 0, 60, .inl (aZ (m2.fi)))), (aSe, .inl (k 0, 60, .inl (aZ (m2.se)))), (aTx, .inl (k 0, 100, .inl (aZ (tx))))] H → va_D (va_A [(h0, .inr (8, [.int (iI (fa)), .int (iI ((n : Int))), .ref aTx, .int (bI (sh)), .ref aDt, .ref aFe, .ref aRu, .ref aTa, .ref aBe, .ref aEn, .ref aMa, .int (iI (ms.wa)), .ref aEx, .ref aAb, .ref aCo, .int (iI (ms.rr)), .ref aNt, .ref aNb, .ref aNe, .ref aCf, .ref aCd, .int (iI (ms.cl)), .int (iI (ms.an)), .ref aKi, .ref aFi, .ref aSe])), (aEx, .inl (k 0, 300, .inl (aZ (ms.ex)))), (aAb, .inl (k 0, 300, .inl (aZ (ms.ab)))), (aCo, .inl (k 0, 300, .inl (aZ (ms.co)))), (aNt, .inl (k 0, 12, .inl (aZ (ms.nt)))), (aNb, .inl (k 0, 12, .inl (aZ (ms.nb)))), (aNe, .inl (k 0, 12, .inl (aZ (ms.ne)))), (aCf, .inl (k 0, 13, .inl (aZ (ms.cf)))), (aCd, .inl (k 0, 110, .inl (aZ (ms.ce)))), (aKi, .inl (k 0, 60, .inl (aZ (ms.kd)))), (aFi, .inl (k 0, 60, .inl (aZ (ms.fi)))), (aSe, .inl (k 0, 60, .inl (aZ (ms.se)))), (aTx, .inl (k 0, 100, .inl (aZ (tx))))] s.heap.size) [(h0, .inr (8, [.int (iI (fa)), .int (iI (0)), .ref aTx, .int (bI (sh)), .ref aDt, .ref aFe, .ref aRu, .ref aTa, .ref aBe, .ref aEn, .ref aMa, .int (iI (m2.wa)), .ref aEx, .ref aAb, .ref aCo, .int (iI (m2.rr)), .ref aNt, .ref aNb, .ref aNe, .ref aCf, .ref aCd, .int (iI (m2.cl)), .int (iI (m2.an)), .ref aKi, .ref aFi, .ref aSe])), (aEx, .inl (k 0, 300, .inl (aZ (m2.ex)))), (aAb, .inl (k 0, 300, .inl (aZ (m2.ab)))), (aCo, .inl (k 0, 300, .inl (aZ (m2.co)))), (aNt, .inl (k 0, 12, .inl (aZ (m2.nt)))), (aNb, .inl (k 0, 12, .inl (aZ (m2.nb)))), (aNe, .inl (k 0, 12, .inl (aZ (m2.ne)))), (aCf, .inl (k 0, 13, .inl (aZ (m2.cf)))), (aCd, .inl (k 0, 110, .inl (aZ (m2.ce)))), (aKi, .inl (k 0, 60, .inl (aZ (m2.kd)))), (aFi, .inl (k 0, 60, .inl (aZ (m2.fi)))), (aSe, .inl (k 0, 60, .inl (aZ (m2.se)))), (aTx, .inl (k 0, 100, .inl (aZ (tx))))] → va_S (va_A [(h0, .inr (8, [.int (iI (fa)), .int (iI ((n : Int))), .ref aTx, .int (bI (sh)), .ref aDt, .ref aFe, .ref aRu, .ref aTa, .ref aBe, .ref aEn, .ref aMa, .int (iI (ms.wa)), .ref aEx, .ref aAb, .ref aCo, .int (iI (ms.rr)), .ref aNt, .ref aNb, .ref aNe, .ref aCf, .ref aCd, .int (iI (ms.cl)), .int (iI (ms.an)), .ref aKi, .ref aFi, .ref aSe])), (aEx, .inl (k 0, 300, .inl (aZ (ms.ex)))), (aAb, .inl (k 0, 300, .inl (aZ (ms.ab)))), (aCo, .inl (k 0, 300, .inl (aZ (ms.co)))), (aNt, .inl (k 0, 12, .inl (aZ (ms.nt)))), (aNb, .inl (k 0, 12, .inl (aZ (ms.nb)))), (aNe, .inl (k 0, 12, .inl (aZ (ms.ne)))), (aCf, .inl (k 0, 13, .inl (aZ (ms.cf)))), (aCd, .inl (k 0, 110, .inl (aZ (ms.ce)))), (aKi, .inl (k 0, 60, .inl (aZ (ms.kd)))), (aFi, .inl (k 0, 60, .inl (aZ (ms.fi)))), (aSe, .inl (k 0, 60, .inl (aZ (ms.se)))), (aTx, .inl (k 0, 100, .inl (aZ (tx))))] s.heap.size) s.heap H locs → W p l e rm_MD_readAll s m args below meth c H locs 0 0 Q (F0 m 46 ls []) := by
    intro fu
    induction fu with
    | zero => intro k2 p1 z m2 ls H locs hz hp1 hw hw9 hmu; exact absurd hmu (Nat.not_lt_zero _)
    | succ fu ih46 =>
      intro k2 p1 z m2 ls H locs hz hp1 hw hw9 hmu hl hP hD hS
      subst hz
      refine lv_iload_n hx hb d_MD_readAll_46 rfl (lv_at hl 2 rfl) ?_
      refine lv_iload_n hx hb d_MD_readAll_47 rfl (lv_at hl 1 rfl) ?_
      refine z_icmp_gt (tgt := 165) hx hb d_MD_readAll_48 (by decide) ⟨by omega, by omega⟩ ⟨by omega, by omega⟩ (fun h48 => ?_) (fun h48 => ?_)
      · refine z_iconst hx hb d_MD_readAll_165 ?_
        rw [← (hw9 (by omega)).2] at hP hD
        exact ret _ _ _ 166 (iI (-1)) () d_MD_readAll_166 hS (by rw [(hw9 (by omega)).1]) (fun t ht _ => ⟨by rw [ht]; exact hP, hD⟩)
      · refine lv_iload_n hx hb d_MD_readAll_51 rfl (lv_at hl 2 rfl) ?_
        refine lv_iload_n hx hb d_MD_readAll_52 rfl (lv_at hl 1 rfl) ?_
        have J53_1 : W p l e rm_MD_readAll s m args below meth c H locs 0 0 Q (F0 m 66 ls [.int (iI (chT tx n p1))]) := by
          refine lv_istore_n (lv' := [(3, .int (iI (chT tx n p1))), (0, .ref h0), (1, .int (iI ((n : Int)))), (2, .int (iI ((p1 : Int))))]) hx hb d_MD_readAll_66 rfl hl (by decide) rfl (fun ls hl => ?_)
          refine z_iconst hx hb d_MD_readAll_67 ?_
          refine lv_istore (lv' := [(4, .int (iI (2))), (3, .int (iI (chT tx n p1))), (0, .ref h0), (1, .int (iI ((n : Int)))), (2, .int (iI ((p1 : Int))))]) hx hb d_MD_readAll_68 hl (by decide) rfl (fun ls hl => ?_)
          have L70 : ∀ (fu : Nat) (k3 : Nat) (gt : Int) (m3 : MS) (ls : Array Slot) (H : Heap) (locs : List Loc), 0 ≤ gt ∧ gt ≤ 2 → RunsA (RunsTo tx n res mf k3) n gt p1 m3 res mf → k3 < fu → lv_has ls 5 [(0, .ref h0), (1, .int (iI ((n : Int)))), (2, .int (iI ((p1 : Int)))), (3, .int (iI (chT tx n p1))), (4, .int (iI (gt)))] → va_P D classes [(h0, .inr (8, [.int (iI (fa)), .int (iI (0)), .ref aTx, .int (bI (sh)), .ref aDt, .ref aFe, .ref aRu, .ref aTa, .ref aBe, .ref aEn, .ref aMa, .int (iI (m3.wa)), .ref aEx, .ref aAb, .ref aCo, .int (iI (m3.rr)), .ref aNt, .ref aNb, .ref aNe, .ref aCf, .ref aCd, .int (iI (m3.cl)), .int (iI (m3.an)), .ref aKi, .ref aFi, .ref aSe])), (aEx, .inl (k 0, 300, .inl (aZ (m3.ex)))), (aAb, .inl (k 0, 300, .inl (aZ (m3.ab)))), (aCo, .inl (k 0, 300, .inl (aZ (m3.co)))), (aNt, .inl (k 0, 12, .inl (aZ (m3.nt)))), (aNb, .inl (k 0, 12, .inl (aZ (m3.nb)))), (aNe, .inl (k 0, 12, .inl (aZ (m3.ne)))), (aCf, .inl (k 0, 13, .inl (aZ (m3.cf)))), (aCd, .inl (k 0, 110, .inl (aZ (m3.ce)))), (aKi, .inl (k 0, 60, .inl (aZ (m3.kd)))), (aFi, .inl (k 0, 60, .inl (aZ (m3.fi)))), (aSe, .inl (k 0, 60, .inl (aZ (m3.se)))), (aTx, .inl (k 0, 100, .inl (aZ (tx))))] H → va_D (va_A [(h0, .inr (8, [.int (iI (fa)), .int (iI ((n : Int))), .ref aTx, .int (bI (sh)), .ref aDt, .ref aFe, .ref aRu, .ref aTa, .ref aBe, .ref aEn, .ref aMa, .int (iI (ms.wa)), .ref aEx, .ref aAb, .ref aCo, .int (iI (ms.rr)), .ref aNt, .ref aNb, .ref aNe, .ref aCf, .ref aCd, .int (iI (ms.cl)), .int (iI (ms.an)), .ref aKi, .ref aFi, .ref aSe])), (aEx, .inl (k 0, 300, .inl (aZ (ms.ex)))), (aAb, .inl (k 0, 300, .inl (aZ (ms.ab)))), (aCo, .inl (k 0, 300, .inl (aZ (ms.co)))), (aNt, .inl (k 0, 12, .inl (aZ (ms.nt)))), (aNb, .inl (k 0, 12, .inl (aZ (ms.nb)))), (aNe, .inl (k 0, 12, .inl (aZ (ms.ne)))), (aCf, .inl (k 0, 13, .inl (aZ (ms.cf)))), (aCd, .inl (k 0, 110, .inl (aZ (ms.ce)))), (aKi, .inl (k 0, 60, .inl (aZ (ms.kd)))), (aFi, .inl (k 0, 60, .inl (aZ (ms.fi)))), (aSe, .inl (k 0, 60, .inl (aZ (ms.se)))), (aTx, .inl (k 0, 100, .inl (aZ (tx))))] s.heap.size) [(h0, .inr (8, [.int (iI (fa)), .int (iI (0)), .ref aTx, .int (bI (sh)), .ref aDt, .ref aFe, .ref aRu, .ref aTa, .ref aBe, .ref aEn, .ref aMa, .int (iI (m3.wa)), .ref aEx, .ref aAb, .ref aCo, .int (iI (m3.rr)), .ref aNt, .ref aNb, .ref aNe, .ref aCf, .ref aCd, .int (iI (m3.cl)), .int (iI (m3.an)), .ref aKi, .ref aFi, .ref aSe])), (aEx, .inl (k 0, 300, .inl (aZ (m3.ex)))), (aAb, .inl (k 0, 300, .inl (aZ (m3.ab)))), (aCo, .inl (k 0, 300, .inl (aZ (m3.co)))), (aNt, .inl (k 0, 12, .inl (aZ (m3.nt)))), (aNb, .inl (k 0, 12, .inl (aZ (m3.nb)))), (aNe, .inl (k 0, 12, .inl (aZ (m3.ne)))), (aCf, .inl (k 0, 13, .inl (aZ (m3.cf)))), (aCd, .inl (k 0, 110, .inl (aZ (m3.ce)))), (aKi, .inl (k 0, 60, .inl (aZ (m3.kd)))), (aFi, .inl (k 0, 60, .inl (aZ (m3.fi)))), (aSe, .inl (k 0, 60, .inl (aZ (m3.se)))), (aTx, .inl (k 0, 100, .inl (aZ (tx))))] → va_S (va_A [(h0, .inr (8, [.int (iI (fa)), .int (iI ((n : Int))), .ref aTx, .int (bI (sh)), .ref aDt, .ref aFe, .ref aRu, .ref aTa, .ref aBe, .ref aEn, .ref aMa, .int (iI (ms.wa)), .ref aEx, .ref aAb, .ref aCo, .int (iI (ms.rr)), .ref aNt, .ref aNb, .ref aNe, .ref aCf, .ref aCd, .int (iI (ms.cl)), .int (iI (ms.an)), .ref aKi, .ref aFi, .ref aSe])), (aEx, .inl (k 0, 300, .inl (aZ (ms.ex)))), (aAb, .inl (k 0, 300, .inl (aZ (ms.ab)))), (aCo, .inl (k 0, 300, .inl (aZ (ms.co)))), (aNt, .inl (k 0, 12, .inl (aZ (ms.nt)))), (aNb, .inl (k 0, 12, .inl (aZ (ms.nb)))), (aNe, .inl (k 0, 12, .inl (aZ (ms.ne)))), (aCf, .inl (k 0, 13, .inl (aZ (ms.cf)))), (aCd, .inl (k 0, 110, .inl (aZ (ms.ce)))), (aKi, .inl (k 0, 60, .inl (aZ (ms.kd)))), (aFi, .inl (k 0, 60, .inl (aZ (ms.fi)))), (aSe, .inl (k 0, 60, .inl (aZ (ms.se)))), (aTx, .inl (k 0, 100, .inl (aZ (tx))))] s.heap.size) s.heap H locs → W p l e rm_MD_readAll s m args below meth c H locs 0 0 Q (F0 m 70 ls []) := by
            intro fu
            induction fu with
            | zero => intro k3 gt m3 ls H locs hg h3 hmu; exact absurd hmu (Nat.not_lt_zero _)
            | succ fu ih70 =>
              intro k3 gt m3 ls H locs hg h3 hmu hl hP hD hS
              refine lv_iload hx hb d_MD_readAll_70 (lv_at hl 4 rfl) ?_
              refine z_iconst hx hb d_MD_readAll_72 ?_
              refine z_icmp_ne (tgt := 130) hx hb d_MD_readAll_73 (by decide) ⟨by omega, by omega⟩ ⟨by omega, by omega⟩ (fun h73 => ?_) (fun h73 => ?_)
              · have h9 : RX tx n res mf gt p1 m3 := by first | exact RX_a h3 h73 | exact RX_b h5 (by omega) h80
                refine lv_iload_n hx hb d_MD_readAll_130 rfl (lv_at hl 2 rfl) ?_
                refine lv_iload_n hx hb d_MD_readAll_131 rfl (lv_at hl 1 rfl) ?_
                refine z_icmp_ge (tgt := 144) hx hb d_MD_readAll_132 (by decide) ⟨by omega, by omega⟩ ⟨by omega, by omega⟩ (fun h132 => ?_) (fun h132 => ?_)
                · refine lv_iload hx hb d_MD_readAll_144 (lv_at hl 4 rfl) ?_
                  refine z_iconst hx hb d_MD_readAll_146 ?_
                  refine z_icmp_ne (tgt := 157) hx hb d_MD_readAll_147 (by decide) ⟨by omega, by omega⟩ ⟨by omega, by omega⟩ (fun h147 => ?_) (fun h147 => ?_)
                  · refine lv_iload_n hx hb d_MD_readAll_157 rfl (lv_at hl 2 rfl) ?_
                    have e9 : res = (p1 : Int) ∧ mf = m3 := by first | exact h9.2.1 (by omega) (by omega) | (exfalso; have := h9.2.2 ⟨by omega, by omega⟩; omega) | (exfalso; omega)
                    rw [← e9.2] at hP hD
                    exact ret _ _ _ 158 (iI ((p1 : Int))) () d_MD_readAll_158 hS (by rw [e9.1]) (fun t ht _ => ⟨by rw [ht]; exact hP, hD⟩)
                  · refine lv_aload_n hx hb d_MD_readAll_150 rfl (lv_at hl 0 rfl) ?_
                    refine va_get (D := D) (ci := 8) (v := .int (iI (m3.wa))) (C := R_MD) (T := F_MD) (N := 26) hx hb hts in_MD hown hK hP 0 rfl rfl 11 (by decide) (hts _ k_744) (fun _ h9 => h9) rfl d_MD_readAll_151 ?_
                    refine z_if_le (tgt := 159) hx hb d_MD_readAll_154 (by decide) ⟨by omega, by omega⟩ (fun h154 => ?_) (fun h154 => ?_)
                    · obtain ⟨k9, hk9⟩ := RX_n h9 (fun _ => by omega)
                      refine z_iinc (k := 2) (a := (p1 : Int)) (lv' := [(2, .int (iI (((p1 : Int)) + 1))), (0, .ref h0), (1, .int (iI ((n : Int)))), (3, .int (iI (chT tx n p1))), (4, .int (iI (gt)))]) hx hb d_MD_readAll_159 hl rfl (by decide) rfl (fun ls hl => ?_)
                      refine lv_goto (tgt := 46) hx hb d_MD_readAll_162 (by decide) ?_
                      exact ih46 (k9) (p1 + 1) ((p1 : Int) + 1) (m3) ls H locs (by omega) (by omega) (by exact hk9) (by intro q; first | exact absurd q (by omega) | exact (h9.2.2 ⟨by omega, by omega⟩).2) (by omega) (lv_sub hl [1, 2, 0] rfl) hP hD hS
                    · refine lv_iload_n hx hb d_MD_readAll_157 rfl (lv_at hl 2 rfl) ?_
                      have e9 : res = (p1 : Int) ∧ mf = m3 := by first | exact h9.2.1 (by omega) (by omega) | (exfalso; have := h9.2.2 ⟨by omega, by omega⟩; omega) | (exfalso; omega)
                      rw [← e9.2] at hP hD
                      exact ret _ _ _ 158 (iI ((p1 : Int))) () d_MD_readAll_158 hS (by rw [e9.1]) (fun t ht _ => ⟨by rw [ht]; exact hP, hD⟩)
                · refine lv_iload hx hb d_MD_readAll_135 (lv_at hl 4 rfl) ?_
                  refine z_iconst hx hb d_MD_readAll_137 ?_
                  refine z_icmp_eq (tgt := 159) hx hb d_MD_readAll_138 (by decide) ⟨by omega, by omega⟩ ⟨by omega, by omega⟩ (fun h138 => ?_) (fun h138 => ?_)
                  · obtain ⟨k9, hk9⟩ := RX_n h9 (fun _ => by omega)
                    refine z_iinc (k := 2) (a := (p1 : Int)) (lv' := [(2, .int (iI (((p1 : Int)) + 1))), (0, .ref h0), (1, .int (iI ((n : Int)))), (3, .int (iI (chT tx n p1))), (4, .int (iI (gt)))]) hx hb d_MD_readAll_159 hl rfl (by decide) rfl (fun ls hl => ?_)
                    refine lv_goto (tgt := 46) hx hb d_MD_readAll_162 (by decide) ?_
                    exact ih46 (k9) (p1 + 1) ((p1 : Int) + 1) (m3) ls H locs (by omega) (by omega) (by exact hk9) (by intro q; first | exact absurd q (by omega) | exact (h9.2.2 ⟨by omega, by omega⟩).2) (by omega) (lv_sub hl [1, 2, 0] rfl) hP hD hS
                  · refine lv_goto (tgt := 157) hx hb d_MD_readAll_141 (by decide) ?_
                    refine lv_iload_n hx hb d_MD_readAll_157 rfl (lv_at hl 2 rfl) ?_
                    have e9 : res = (p1 : Int) ∧ mf = m3 := by first | exact h9.2.1 (by omega) (by omega) | (exfalso; have := h9.2.2 ⟨by omega, by omega⟩; omega) | (exfalso; omega)
                    rw [← e9.2] at hP hD
                    exact ret _ _ _ 158 (iI ((p1 : Int))) () d_MD_readAll_158 hS (by rw [e9.1]) (fun t ht _ => ⟨by rw [ht]; exact hP, hD⟩)
              · obtain ⟨k4, rfl, hwb, h5, h6⟩ := RunsTo_i ((RunsA_i h3).1 (by omega))
                refine lv_aload_n hx hb d_MD_readAll_76 rfl (lv_at hl 0 rfl) ?_
                refine va_get (D := D) (ci := 8) (v := .int (iI (m3.wa))) (C := R_MD) (T := F_MD) (N := 26) hx hb hts in_MD hown hK hP 0 rfl rfl 11 (by decide) (hts _ k_744) (fun _ h9 => h9) rfl d_MD_readAll_77 ?_
                refine z_if_le (tgt := 130) hx hb d_MD_readAll_80 (by decide) ⟨by omega, by omega⟩ (fun h80 => ?_) (fun h80 => ?_)
                · have h9 : RX tx n res mf gt p1 m3 := by first | exact RX_a h3 h73 | exact RX_b h5 (by omega) h80
                  refine lv_iload_n hx hb d_MD_readAll_130 rfl (lv_at hl 2 rfl) ?_
                  refine lv_iload_n hx hb d_MD_readAll_131 rfl (lv_at hl 1 rfl) ?_
                  refine z_icmp_ge (tgt := 144) hx hb d_MD_readAll_132 (by decide) ⟨by omega, by omega⟩ ⟨by omega, by omega⟩ (fun h132 => ?_) (fun h132 => ?_)
                  · refine lv_iload hx hb d_MD_readAll_144 (lv_at hl 4 rfl) ?_
                    refine z_iconst hx hb d_MD_readAll_146 ?_
                    refine z_icmp_ne (tgt := 157) hx hb d_MD_readAll_147 (by decide) ⟨by omega, by omega⟩ ⟨by omega, by omega⟩ (fun h147 => ?_) (fun h147 => ?_)
                    · refine lv_iload_n hx hb d_MD_readAll_157 rfl (lv_at hl 2 rfl) ?_
                      have e9 : res = (p1 : Int) ∧ mf = m3 := by first | exact h9.2.1 (by omega) (by omega) | (exfalso; have := h9.2.2 ⟨by omega, by omega⟩; omega) | (exfalso; omega)
                      rw [← e9.2] at hP hD
                      exact ret _ _ _ 158 (iI ((p1 : Int))) () d_MD_readAll_158 hS (by rw [e9.1]) (fun t ht _ => ⟨by rw [ht]; exact hP, hD⟩)
                    · refine lv_aload_n hx hb d_MD_readAll_150 rfl (lv_at hl 0 rfl) ?_
                      refine va_get (D := D) (ci := 8) (v := .int (iI (m3.wa))) (C := R_MD) (T := F_MD) (N := 26) hx hb hts in_MD hown hK hP 0 rfl rfl 11 (by decide) (hts _ k_744) (fun _ h9 => h9) rfl d_MD_readAll_151 ?_
                      refine z_if_le (tgt := 159) hx hb d_MD_readAll_154 (by decide) ⟨by omega, by omega⟩ (fun h154 => ?_) (fun h154 => ?_)
                      · obtain ⟨k9, hk9⟩ := RX_n h9 (fun _ => by omega)
                        refine z_iinc (k := 2) (a := (p1 : Int)) (lv' := [(2, .int (iI (((p1 : Int)) + 1))), (0, .ref h0), (1, .int (iI ((n : Int)))), (3, .int (iI (chT tx n p1))), (4, .int (iI (gt)))]) hx hb d_MD_readAll_159 hl rfl (by decide) rfl (fun ls hl => ?_)
                        refine lv_goto (tgt := 46) hx hb d_MD_readAll_162 (by decide) ?_
                        exact ih46 (k9) (p1 + 1) ((p1 : Int) + 1) (m3) ls H locs (by omega) (by omega) (by exact hk9) (by intro q; first | exact absurd q (by omega) | exact (h9.2.2 ⟨by omega, by omega⟩).2) (by omega) (lv_sub hl [1, 2, 0] rfl) hP hD hS
                      · refine lv_iload_n hx hb d_MD_readAll_157 rfl (lv_at hl 2 rfl) ?_
                        have e9 : res = (p1 : Int) ∧ mf = m3 := by first | exact h9.2.1 (by omega) (by omega) | (exfalso; have := h9.2.2 ⟨by omega, by omega⟩; omega) | (exfalso; omega)
                        rw [← e9.2] at hP hD
                        exact ret _ _ _ 158 (iI ((p1 : Int))) () d_MD_readAll_158 hS (by rw [e9.1]) (fun t ht _ => ⟨by rw [ht]; exact hP, hD⟩)
                  · refine lv_iload hx hb d_MD_readAll_135 (lv_at hl 4 rfl) ?_
                    refine z_iconst hx hb d_MD_readAll_137 ?_
                    refine z_icmp_eq (tgt := 159) hx hb d_MD_readAll_138 (by decide) ⟨by omega, by omega⟩ ⟨by omega, by omega⟩ (fun h138 => ?_) (fun h138 => ?_)
                    · obtain ⟨k9, hk9⟩ := RX_n h9 (fun _ => by omega)
                      refine z_iinc (k := 2) (a := (p1 : Int)) (lv' := [(2, .int (iI (((p1 : Int)) + 1))), (0, .ref h0), (1, .int (iI ((n : Int)))), (3, .int (iI (chT tx n p1))), (4, .int (iI (gt)))]) hx hb d_MD_readAll_159 hl rfl (by decide) rfl (fun ls hl => ?_)
                      refine lv_goto (tgt := 46) hx hb d_MD_readAll_162 (by decide) ?_
                      exact ih46 (k9) (p1 + 1) ((p1 : Int) + 1) (m3) ls H locs (by omega) (by omega) (by exact hk9) (by intro q; first | exact absurd q (by omega) | exact (h9.2.2 ⟨by omega, by omega⟩).2) (by omega) (lv_sub hl [1, 2, 0] rfl) hP hD hS
                    · refine lv_goto (tgt := 157) hx hb d_MD_readAll_141 (by decide) ?_
                      refine lv_iload_n hx hb d_MD_readAll_157 rfl (lv_at hl 2 rfl) ?_
                      have e9 : res = (p1 : Int) ∧ mf = m3 := by first | exact h9.2.1 (by omega) (by omega) | (exfalso; have := h9.2.2 ⟨by omega, by omega⟩; omega) | (exfalso; omega)
                      rw [← e9.2] at hP hD
                      exact ret _ _ _ 158 (iI ((p1 : Int))) () d_MD_readAll_158 hS (by rw [e9.1]) (fun t ht _ => ⟨by rw [ht]; exact hP, hD⟩)
                · refine lv_aload_n hx hb d_MD_readAll_83 rfl (lv_at hl 0 rfl) ?_
                  refine lv_dup hx hb d_MD_readAll_84 rfl ?_
                  refine va_get (D := D) (ci := 8) (v := .int (iI (m3.wa))) (C := R_MD) (T := F_MD) (N := 26) hx hb hts in_MD hown hK hP 0 rfl rfl 11 (by decide) (hts _ k_744) (fun _ h9 => h9) rfl d_MD_readAll_85 ?_
                  refine z_iconst hx hb d_MD_readAll_88 ?_
                  refine z_isub hx hb d_MD_readAll_89 ?_
                  refine va_put (D := D) (ci := 8) (v := .int (iI ((m3.wa) - 1))) (ty := .int) (C := R_MD) (T := F_MD) (N := 26) hx hb hts in_MD t_MD t_MD_ok n_MD hown hK hP hD hS 0 rfl rfl 11 (by decide) (hts _ k_744) (fun _ h9 => h9) rfl (by decide +kernel) rfl rfl (Nat.le_of_ble_eq_true rfl) d_MD_readAll_90 (fun H locs hP hD hS => ?_)
                  have hP : va_P D classes [(h0, .inr (8, [.int (iI (fa)), .int (iI (0)), .ref aTx, .int (bI (sh)), .ref aDt, .ref aFe, .ref aRu, .ref aTa, .ref aBe, .ref aEn, .ref aMa, .int (iI ((m3.wa) - 1)), .ref aEx, .ref aAb, .ref aCo, .int (iI (m3.rr)), .ref aNt, .ref aNb, .ref aNe, .ref aCf, .ref aCd, .int (iI (m3.cl)), .int (iI (m3.an)), .ref aKi, .ref aFi, .ref aSe])), (aEx, .inl (k 0, 300, .inl (aZ (m3.ex)))), (aAb, .inl (k 0, 300, .inl (aZ (m3.ab)))), (aCo, .inl (k 0, 300, .inl (aZ (m3.co)))), (aNt, .inl (k 0, 12, .inl (aZ (m3.nt)))), (aNb, .inl (k 0, 12, .inl (aZ (m3.nb)))), (aNe, .inl (k 0, 12, .inl (aZ (m3.ne)))), (aCf, .inl (k 0, 13, .inl (aZ (m3.cf)))), (aCd, .inl (k 0, 110, .inl (aZ (m3.ce)))), (aKi, .inl (k 0, 60, .inl (aZ (m3.kd)))), (aFi, .inl (k 0, 60, .inl (aZ (m3.fi)))), (aSe, .inl (k 0, 60, .inl (aZ (m3.se)))), (aTx, .inl (k 0, 100, .inl (aZ (tx))))] H := hP
                  have hD : va_D (va_A [(h0, .inr (8, [.int (iI (fa)), .int (iI ((n : Int))), .ref aTx, .int (bI (sh)), .ref aDt, .ref aFe, .ref aRu, .ref aTa, .ref aBe, .ref aEn, .ref aMa, .int (iI (ms.wa)), .ref aEx, .ref aAb, .ref aCo, .int (iI (ms.rr)), .ref aNt, .ref aNb, .ref aNe, .ref aCf, .ref aCd, .int (iI (ms.cl)), .int (iI (ms.an)), .ref aKi, .ref aFi, .ref aSe])), (aEx, .inl (k 0, 300, .inl (aZ (ms.ex)))), (aAb, .inl (k 0, 300, .inl (aZ (ms.ab)))), (aCo, .inl (k 0, 300, .inl (aZ (ms.co)))), (aNt, .inl (k 0, 12, .inl (aZ (ms.nt)))), (aNb, .inl (k 0, 12, .inl (aZ (ms.nb)))), (aNe, .inl (k 0, 12, .inl (aZ (ms.ne)))), (aCf, .inl (k 0, 13, .inl (aZ (ms.cf)))), (aCd, .inl (k 0, 110, .inl (aZ (ms.ce)))), (aKi, .inl (k 0, 60, .inl (aZ (ms.kd)))), (aFi, .inl (k 0, 60, .inl (aZ (ms.fi)))), (aSe, .inl (k 0, 60, .inl (aZ (ms.se)))), (aTx, .inl (k 0, 100, .inl (aZ (tx))))] s.heap.size) [(h0, .inr (8, [.int (iI (fa)), .int (iI (0)), .ref aTx, .int (bI (sh)), .ref aDt, .ref aFe, .ref aRu, .ref aTa, .ref aBe, .ref aEn, .ref aMa, .int (iI ((m3.wa) - 1)), .ref aEx, .ref aAb, .ref aCo, .int (iI (m3.rr)), .ref aNt, .ref aNb, .ref aNe, .ref aCf, .ref aCd, .int (iI (m3.cl)), .int (iI (m3.an)), .ref aKi, .ref aFi, .ref aSe])), (aEx, .inl (k 0, 300, .inl (aZ (m3.ex)))), (aAb, .inl (k 0, 300, .inl (aZ (m3.ab)))), (aCo, .inl (k 0, 300, .inl (aZ (m3.co)))), (aNt, .inl (k 0, 12, .inl (aZ (m3.nt)))), (aNb, .inl (k 0, 12, .inl (aZ (m3.nb)))), (aNe, .inl (k 0, 12, .inl (aZ (m3.ne)))), (aCf, .inl (k 0, 13, .inl (aZ (m3.cf)))), (aCd, .inl (k 0, 110, .inl (aZ (m3.ce)))), (aKi, .inl (k 0, 60, .inl (aZ (m3.kd)))), (aFi, .inl (k 0, 60, .inl (aZ (m3.fi)))), (aSe, .inl (k 0, 60, .inl (aZ (m3.se)))), (aTx, .inl (k 0, 100, .inl (aZ (tx))))] := hD
                  refine lv_aload_n hx hb d_MD_readAll_93 rfl (lv_at hl 0 rfl) ?_
                  refine lv_aload_n hx hb d_MD_readAll_94 rfl (lv_at hl 0 rfl) ?_
                  refine va_get (D := D) (ci := 8) (v := .ref aEx) (C := R_MD) (T := F_MD) (N := 26) hx hb hts in_MD hown hK hP 0 rfl rfl 12 (by decide) (hts _ k_745) (fun _ h9 => h9) rfl d_MD_readAll_95 ?_
                  refine lv_aload_n hx hb d_MD_readAll_98 rfl (lv_at hl 0 rfl) ?_
                  refine va_get (D := D) (ci := 8) (v := .int (iI ((m3.wa) - 1))) (C := R_MD) (T := F_MD) (N := 26) hx hb hts in_MD hown hK hP 0 rfl rfl 11 (by decide) (hts _ k_744) (fun _ h9 => h9) rfl d_MD_readAll_99 ?_
                  refine x_iald hx hb hK hP 1 0 rfl rfl (((m3.wa) - 1).toNat) (by omega) (by omega) (by omega) d_MD_readAll_102 ?_
                  refine z_top (show _ = iI ((m3.ex) (((m3.wa) - 1).toNat)) from rfl) ?_
                  refine lv_aload_n hx hb d_MD_readAll_103 rfl (lv_at hl 0 rfl) ?_
                  refine va_get (D := D) (ci := 8) (v := .ref aAb) (C := R_MD) (T := F_MD) (N := 26) hx hb hts in_MD hown hK hP 0 rfl rfl 13 (by decide) (hts _ k_746) (fun _ h9 => h9) rfl d_MD_readAll_104 ?_
                  refine lv_aload_n hx hb d_MD_readAll_107 rfl (lv_at hl 0 rfl) ?_
                  refine va_get (D := D) (ci := 8) (v := .int (iI ((m3.wa) - 1))) (C := R_MD) (T := F_MD) (N := 26) hx hb hts in_MD hown hK hP 0 rfl rfl 11 (by decide) (hts _ k_744) (fun _ h9 => h9) rfl d_MD_readAll_108 ?_
                  refine x_iald hx hb hK hP 2 0 rfl rfl (((m3.wa) - 1).toNat) (by omega) (by omega) (by omega) d_MD_readAll_111 ?_
                  refine z_top (show _ = iI ((m3.ab) (((m3.wa) - 1).toNat)) from rfl) ?_
                  refine lv_aload_n hx hb d_MD_readAll_112 rfl (lv_at hl 0 rfl) ?_
                  refine va_get (D := D) (ci := 8) (v := .ref aCo) (C := R_MD) (T := F_MD) (N := 26) hx hb hts in_MD hown hK hP 0 rfl rfl 14 (by decide) (hts _ k_747) (fun _ h9 => h9) rfl d_MD_readAll_113 ?_
                  refine lv_aload_n hx hb d_MD_readAll_116 rfl (lv_at hl 0 rfl) ?_
                  refine va_get (D := D) (ci := 8) (v := .int (iI ((m3.wa) - 1))) (C := R_MD) (T := F_MD) (N := 26) hx hb hts in_MD hown hK hP 0 rfl rfl 11 (by decide) (hts _ k_744) (fun _ h9 => h9) rfl d_MD_readAll_117 ?_
                  refine x_iald hx hb hK hP 3 0 rfl rfl (((m3.wa) - 1).toNat) (by omega) (by omega) (by omega) d_MD_readAll_120 ?_
                  refine z_top (show _ = iI ((m3.co) (((m3.wa) - 1).toNat)) from rfl) ?_
                  refine lv_iload_n hx hb d_MD_readAll_121 rfl (lv_at hl 3 rfl) ?_
                  have hPc := hP.sub (ws' := [(h0, .inr (8, [.int (iI (fa)), .int (iI (0)), .ref aTx, .int (bI (sh)), .ref aDt, .ref aFe, .ref aRu, .ref aTa, .ref aBe, .ref aEn, .ref aMa, .int (iI ((m3.wa) - 1)), .ref aEx, .ref aAb, .ref aCo, .int (iI (m3.rr)), .ref aNt, .ref aNb, .ref aNe, .ref aCf, .ref aCd, .int (iI (m3.cl)), .int (iI (m3.an)), .ref aKi, .ref aFi, .ref aSe])), (aEx, .inl (k 0, 300, .inl (aZ (m3.ex)))), (aAb, .inl (k 0, 300, .inl (aZ (m3.ab)))), (aCo, .inl (k 0, 300, .inl (aZ (m3.co)))), (aNt, .inl (k 0, 12, .inl (aZ (m3.nt)))), (aNb, .inl (k 0, 12, .inl (aZ (m3.nb)))), (aNe, .inl (k 0, 12, .inl (aZ (m3.ne)))), (aCf, .inl (k 0, 13, .inl (aZ (m3.cf)))), (aCd, .inl (k 0, 110, .inl (aZ (m3.ce)))), (aKi, .inl (k 0, 60, .inl (aZ (m3.kd)))), (aFi, .inl (k 0, 60, .inl (aZ (m3.fi)))), (aSe, .inl (k 0, 60, .inl (aZ (m3.se))))]) [0, 1, 2, 3, 4, 5, 6, 7, 8, 9, 10, 11] rfl
                  have hDc := hD.sub (ws' := [(h0, .inr (8, [.int (iI (fa)), .int (iI (0)), .ref aTx, .int (bI (sh)), .ref aDt, .ref aFe, .ref aRu, .ref aTa, .ref aBe, .ref aEn, .ref aMa, .int (iI ((m3.wa) - 1)), .ref aEx, .ref aAb, .ref aCo, .int (iI (m3.rr)), .ref aNt, .ref aNb, .ref aNe, .ref aCf, .ref aCd, .int (iI (m3.cl)), .int (iI (m3.an)), .ref aKi, .ref aFi, .ref aSe])), (aEx, .inl (k 0, 300, .inl (aZ (m3.ex)))), (aAb, .inl (k 0, 300, .inl (aZ (m3.ab)))), (aCo, .inl (k 0, 300, .inl (aZ (m3.co)))), (aNt, .inl (k 0, 12, .inl (aZ (m3.nt)))), (aNb, .inl (k 0, 12, .inl (aZ (m3.nb)))), (aNe, .inl (k 0, 12, .inl (aZ (m3.ne)))), (aCf, .inl (k 0, 13, .inl (aZ (m3.cf)))), (aCd, .inl (k 0, 110, .inl (aZ (m3.ce)))), (aKi, .inl (k 0, 60, .inl (aZ (m3.kd)))), (aFi, .inl (k 0, 60, .inl (aZ (m3.fi)))), (aSe, .inl (k 0, 60, .inl (aZ (m3.se))))]) [0, 1, 2, 3, 4, 5, 6, 7, 8, 9, 10, 11] (by decide) rfl
                  have hFc := va_free (wc := [(h0, .inr (8, [.int (iI (fa)), .int (iI (0)), .ref aTx, .int (bI (sh)), .ref aDt, .ref aFe, .ref aRu, .ref aTa, .ref aBe, .ref aEn, .ref aMa, .int (iI ((m3.wa) - 1)), .ref aEx, .ref aAb, .ref aCo, .int (iI (m3.rr)), .ref aNt, .ref aNb, .ref aNe, .ref aCf, .ref aCd, .int (iI (m3.cl)), .int (iI (m3.an)), .ref aKi, .ref aFi, .ref aSe])), (aEx, .inl (k 0, 300, .inl (aZ (m3.ex)))), (aAb, .inl (k 0, 300, .inl (aZ (m3.ab)))), (aCo, .inl (k 0, 300, .inl (aZ (m3.co)))), (aNt, .inl (k 0, 12, .inl (aZ (m3.nt)))), (aNb, .inl (k 0, 12, .inl (aZ (m3.nb)))), (aNe, .inl (k 0, 12, .inl (aZ (m3.ne)))), (aCf, .inl (k 0, 13, .inl (aZ (m3.cf)))), (aCd, .inl (k 0, 110, .inl (aZ (m3.ce)))), (aKi, .inl (k 0, 60, .inl (aZ (m3.kd)))), (aFi, .inl (k 0, 60, .inl (aZ (m3.fi)))), (aSe, .inl (k 0, 60, .inl (aZ (m3.se))))]) hD hS hA [0, 1, 2, 3, 4, 5, 6, 7, 8, 9, 10, 11] rfl
                  refine va_calli (va_runV (As := [.int (iI ((m3.ex) (((m3.wa) - 1).toNat))), .int (iI ((m3.ab) (((m3.wa) - 1).toNat))), .int (iI ((m3.co) (((m3.wa) - 1).toNat))), .int (iI (chT tx n p1))]) (rest := []) (b := h0) ⟨hx, hb, hml, hown, hts⟩ (c_MD_take l D k H.size (h0) (aTx) (aDt) (aFe) (aRu) (aTa) (aBe) (aEn) (aMa) (aEx) (aAb) (aCo) (aNt) (aNb) (aNe) (aCf) (aCd) (aKi) (aFi) (aSe) (fa) (0) (sh) ((m3.sWa ((m3.wa) - 1))) ((m3.ex) (((m3.wa) - 1).toNat)) ((m3.ab) (((m3.wa) - 1).toNat)) ((m3.co) (((m3.wa) - 1).toNat)) (chT tx n p1) ((h6 (by omega)).1)) ⟨callB_of 4 hts (good_MD_take) rfl rfl rfl (hts _ k_67) (hts _ k_832) (by decide +kernel) ⟨Nat.le_of_ble_eq_true rfl, Nat.le_of_ble_eq_true rfl⟩, (hts _ k_834), (hts _ k_31)⟩ ⟨fun a U g mk q => ⟨q.1, q.2.1, q.2.2.1, va_K.moved (u := U) (U := U.calling g mk a) (Vm.Alike.refl U.vm) q.2.2.2.1, q.2.2.2.2.1, q.2.2.2.2.2.calling⟩, (va_recv (q0 := 0) hK hP rfl rfl), fun U hU hW => ⟨rfl, by rw [hU], by rw [hU]; exact hPc, va_K.moved hW.alike hK, hDc.weaken (fun _ _ _ _ => trivial), by rw [hU]; exact (hX.mono hS hFc).warm hW⟩⟩ rfl rfl hl.1 rfl (lv_room (Nat.le_of_ble_eq_true rfl)) d_MD_readAll_122 ⟨Nat.le_of_ble_eq_true rfl, Nat.le_of_ble_eq_true rfl⟩) hS (fun q _ h => hFc q h) hFc (fun xr_3 xu_4 t H1 locs ht hvm h_xr_3 hB hz1 hk1 hS => ?_)
                  obtain ⟨hP1, hD1⟩ := hB
                  rw [ht] at hP1
                  obtain ⟨hP, hD⟩ := va_join (wr := [(aTx, .inl (k 0, 100, .inl (aZ (tx))))]) (w1 := [(h0, .inr (8, [.int (iI (fa)), .int (iI (0)), .ref aTx, .int (bI (sh)), .ref aDt, .ref aFe, .ref aRu, .ref aTa, .ref aBe, .ref aEn, .ref aMa, .int (iI (((takF ((m3.sWa ((m3.wa) - 1))) ((m3.ex) (((m3.wa) - 1).toNat)) ((m3.ab) (((m3.wa) - 1).toNat)) ((m3.co) (((m3.wa) - 1).toNat)) (chT tx n p1)).2).wa)), .ref aEx, .ref aAb, .ref aCo, .int (iI (((takF ((m3.sWa ((m3.wa) - 1))) ((m3.ex) (((m3.wa) - 1).toNat)) ((m3.ab) (((m3.wa) - 1).toNat)) ((m3.co) (((m3.wa) - 1).toNat)) (chT tx n p1)).2).rr)), .ref aNt, .ref aNb, .ref aNe, .ref aCf, .ref aCd, .int (iI (((takF ((m3.sWa ((m3.wa) - 1))) ((m3.ex) (((m3.wa) - 1).toNat)) ((m3.ab) (((m3.wa) - 1).toNat)) ((m3.co) (((m3.wa) - 1).toNat)) (chT tx n p1)).2).cl)), .int (iI (((takF ((m3.sWa ((m3.wa) - 1))) ((m3.ex) (((m3.wa) - 1).toNat)) ((m3.ab) (((m3.wa) - 1).toNat)) ((m3.co) (((m3.wa) - 1).toNat)) (chT tx n p1)).2).an)), .ref aKi, .ref aFi, .ref aSe])), (aEx, .inl (k 0, 300, .inl (aZ (((takF ((m3.sWa ((m3.wa) - 1))) ((m3.ex) (((m3.wa) - 1).toNat)) ((m3.ab) (((m3.wa) - 1).toNat)) ((m3.co) (((m3.wa) - 1).toNat)) (chT tx n p1)).2).ex)))), (aAb, .inl (k 0, 300, .inl (aZ (((takF ((m3.sWa ((m3.wa) - 1))) ((m3.ex) (((m3.wa) - 1).toNat)) ((m3.ab) (((m3.wa) - 1).toNat)) ((m3.co) (((m3.wa) - 1).toNat)) (chT tx n p1)).2).ab)))), (aCo, .inl (k 0, 300, .inl (aZ (((takF ((m3.sWa ((m3.wa) - 1))) ((m3.ex) (((m3.wa) - 1).toNat)) ((m3.ab) (((m3.wa) - 1).toNat)) ((m3.co) (((m3.wa) - 1).toNat)) (chT tx n p1)).2).co)))), (aNt, .inl (k 0, 12, .inl (aZ (((takF ((m3.sWa ((m3.wa) - 1))) ((m3.ex) (((m3.wa) - 1).toNat)) ((m3.ab) (((m3.wa) - 1).toNat)) ((m3.co) (((m3.wa) - 1).toNat)) (chT tx n p1)).2).nt)))), (aNb, .inl (k 0, 12, .inl (aZ (((takF ((m3.sWa ((m3.wa) - 1))) ((m3.ex) (((m3.wa) - 1).toNat)) ((m3.ab) (((m3.wa) - 1).toNat)) ((m3.co) (((m3.wa) - 1).toNat)) (chT tx n p1)).2).nb)))), (aNe, .inl (k 0, 12, .inl (aZ (((takF ((m3.sWa ((m3.wa) - 1))) ((m3.ex) (((m3.wa) - 1).toNat)) ((m3.ab) (((m3.wa) - 1).toNat)) ((m3.co) (((m3.wa) - 1).toNat)) (chT tx n p1)).2).ne)))), (aCf, .inl (k 0, 13, .inl (aZ (((takF ((m3.sWa ((m3.wa) - 1))) ((m3.ex) (((m3.wa) - 1).toNat)) ((m3.ab) (((m3.wa) - 1).toNat)) ((m3.co) (((m3.wa) - 1).toNat)) (chT tx n p1)).2).cf)))), (aCd, .inl (k 0, 110, .inl (aZ (((takF ((m3.sWa ((m3.wa) - 1))) ((m3.ex) (((m3.wa) - 1).toNat)) ((m3.ab) (((m3.wa) - 1).toNat)) ((m3.co) (((m3.wa) - 1).toNat)) (chT tx n p1)).2).ce)))), (aKi, .inl (k 0, 60, .inl (aZ (((takF ((m3.sWa ((m3.wa) - 1))) ((m3.ex) (((m3.wa) - 1).toNat)) ((m3.ab) (((m3.wa) - 1).toNat)) ((m3.co) (((m3.wa) - 1).toNat)) (chT tx n p1)).2).kd)))), (aFi, .inl (k 0, 60, .inl (aZ (((takF ((m3.sWa ((m3.wa) - 1))) ((m3.ex) (((m3.wa) - 1).toNat)) ((m3.ab) (((m3.wa) - 1).toNat)) ((m3.co) (((m3.wa) - 1).toNat)) (chT tx n p1)).2).fi)))), (aSe, .inl (k 0, 60, .inl (aZ (((takF ((m3.sWa ((m3.wa) - 1))) ((m3.ex) (((m3.wa) - 1).toNat)) ((m3.ab) (((m3.wa) - 1).toNat)) ((m3.co) (((m3.wa) - 1).toNat)) (chT tx n p1)).2).se))))]) hP hD [0, 1, 2, 3, 4, 5, 6, 7, 8, 9, 10, 11] [12] rfl rfl (by decide) (by decide) hk1 hFc hP1 hD1
                  generalize H1 = H at hP hS ⊢
                  have hP := hP.sub (ws' := [(h0, .inr (8, [.int (iI (fa)), .int (iI (0)), .ref aTx, .int (bI (sh)), .ref aDt, .ref aFe, .ref aRu, .ref aTa, .ref aBe, .ref aEn, .ref aMa, .int (iI (((takF ((m3.sWa ((m3.wa) - 1))) ((m3.ex) (((m3.wa) - 1).toNat)) ((m3.ab) (((m3.wa) - 1).toNat)) ((m3.co) (((m3.wa) - 1).toNat)) (chT tx n p1)).2).wa)), .ref aEx, .ref aAb, .ref aCo, .int (iI (((takF ((m3.sWa ((m3.wa) - 1))) ((m3.ex) (((m3.wa) - 1).toNat)) ((m3.ab) (((m3.wa) - 1).toNat)) ((m3.co) (((m3.wa) - 1).toNat)) (chT tx n p1)).2).rr)), .ref aNt, .ref aNb, .ref aNe, .ref aCf, .ref aCd, .int (iI (((takF ((m3.sWa ((m3.wa) - 1))) ((m3.ex) (((m3.wa) - 1).toNat)) ((m3.ab) (((m3.wa) - 1).toNat)) ((m3.co) (((m3.wa) - 1).toNat)) (chT tx n p1)).2).cl)), .int (iI (((takF ((m3.sWa ((m3.wa) - 1))) ((m3.ex) (((m3.wa) - 1).toNat)) ((m3.ab) (((m3.wa) - 1).toNat)) ((m3.co) (((m3.wa) - 1).toNat)) (chT tx n p1)).2).an)), .ref aKi, .ref aFi, .ref aSe])), (aEx, .inl (k 0, 300, .inl (aZ (((takF ((m3.sWa ((m3.wa) - 1))) ((m3.ex) (((m3.wa) - 1).toNat)) ((m3.ab) (((m3.wa) - 1).toNat)) ((m3.co) (((m3.wa) - 1).toNat)) (chT tx n p1)).2).ex)))), (aAb, .inl (k 0, 300, .inl (aZ (((takF ((m3.sWa ((m3.wa) - 1))) ((m3.ex) (((m3.wa) - 1).toNat)) ((m3.ab) (((m3.wa) - 1).toNat)) ((m3.co) (((m3.wa) - 1).toNat)) (chT tx n p1)).2).ab)))), (aCo, .inl (k 0, 300, .inl (aZ (((takF ((m3.sWa ((m3.wa) - 1))) ((m3.ex) (((m3.wa) - 1).toNat)) ((m3.ab) (((m3.wa) - 1).toNat)) ((m3.co) (((m3.wa) - 1).toNat)) (chT tx n p1)).2).co)))), (aNt, .inl (k 0, 12, .inl (aZ (((takF ((m3.sWa ((m3.wa) - 1))) ((m3.ex) (((m3.wa) - 1).toNat)) ((m3.ab) (((m3.wa) - 1).toNat)) ((m3.co) (((m3.wa) - 1).toNat)) (chT tx n p1)).2).nt)))), (aNb, .inl (k 0, 12, .inl (aZ (((takF ((m3.sWa ((m3.wa) - 1))) ((m3.ex) (((m3.wa) - 1).toNat)) ((m3.ab) (((m3.wa) - 1).toNat)) ((m3.co) (((m3.wa) - 1).toNat)) (chT tx n p1)).2).nb)))), (aNe, .inl (k 0, 12, .inl (aZ (((takF ((m3.sWa ((m3.wa) - 1))) ((m3.ex) (((m3.wa) - 1).toNat)) ((m3.ab) (((m3.wa) - 1).toNat)) ((m3.co) (((m3.wa) - 1).toNat)) (chT tx n p1)).2).ne)))), (aCf, .inl (k 0, 13, .inl (aZ (((takF ((m3.sWa ((m3.wa) - 1))) ((m3.ex) (((m3.wa) - 1).toNat)) ((m3.ab) (((m3.wa) - 1).toNat)) ((m3.co) (((m3.wa) - 1).toNat)) (chT tx n p1)).2).cf)))), (aCd, .inl (k 0, 110, .inl (aZ (((takF ((m3.sWa ((m3.wa) - 1))) ((m3.ex) (((m3.wa) - 1).toNat)) ((m3.ab) (((m3.wa) - 1).toNat)) ((m3.co) (((m3.wa) - 1).toNat)) (chT tx n p1)).2).ce)))), (aKi, .inl (k 0, 60, .inl (aZ (((takF ((m3.sWa ((m3.wa) - 1))) ((m3.ex) (((m3.wa) - 1).toNat)) ((m3.ab) (((m3.wa) - 1).toNat)) ((m3.co) (((m3.wa) - 1).toNat)) (chT tx n p1)).2).kd)))), (aFi, .inl (k 0, 60, .inl (aZ (((takF ((m3.sWa ((m3.wa) - 1))) ((m3.ex) (((m3.wa) - 1).toNat)) ((m3.ab) (((m3.wa) - 1).toNat)) ((m3.co) (((m3.wa) - 1).toNat)) (chT tx n p1)).2).fi)))), (aSe, .inl (k 0, 60, .inl (aZ (((takF ((m3.sWa ((m3.wa) - 1))) ((m3.ex) (((m3.wa) - 1).toNat)) ((m3.ab) (((m3.wa) - 1).toNat)) ((m3.co) (((m3.wa) - 1).toNat)) (chT tx n p1)).2).se)))), (aTx, .inl (k 0, 100, .inl (aZ (tx))))]) [1, 2, 3, 4, 5, 6, 7, 8, 9, 10, 11, 12, 0] rfl
                  have hD := hD.sub (ws' := [(h0, .inr (8, [.int (iI (fa)), .int (iI (0)), .ref aTx, .int (bI (sh)), .ref aDt, .ref aFe, .ref aRu, .ref aTa, .ref aBe, .ref aEn, .ref aMa, .int (iI (((takF ((m3.sWa ((m3.wa) - 1))) ((m3.ex) (((m3.wa) - 1).toNat)) ((m3.ab) (((m3.wa) - 1).toNat)) ((m3.co) (((m3.wa) - 1).toNat)) (chT tx n p1)).2).wa)), .ref aEx, .ref aAb, .ref aCo, .int (iI (((takF ((m3.sWa ((m3.wa) - 1))) ((m3.ex) (((m3.wa) - 1).toNat)) ((m3.ab) (((m3.wa) - 1).toNat)) ((m3.co) (((m3.wa) - 1).toNat)) (chT tx n p1)).2).rr)), .ref aNt, .ref aNb, .ref aNe, .ref aCf, .ref aCd, .int (iI (((takF ((m3.sWa ((m3.wa) - 1))) ((m3.ex) (((m3.wa) - 1).toNat)) ((m3.ab) (((m3.wa) - 1).toNat)) ((m3.co) (((m3.wa) - 1).toNat)) (chT tx n p1)).2).cl)), .int (iI (((takF ((m3.sWa ((m3.wa) - 1))) ((m3.ex) (((m3.wa) - 1).toNat)) ((m3.ab) (((m3.wa) - 1).toNat)) ((m3.co) (((m3.wa) - 1).toNat)) (chT tx n p1)).2).an)), .ref aKi, .ref aFi, .ref aSe])), (aEx, .inl (k 0, 300, .inl (aZ (((takF ((m3.sWa ((m3.wa) - 1))) ((m3.ex) (((m3.wa) - 1).toNat)) ((m3.ab) (((m3.wa) - 1).toNat)) ((m3.co) (((m3.wa) - 1).toNat)) (chT tx n p1)).2).ex)))), (aAb, .inl (k 0, 300, .inl (aZ (((takF ((m3.sWa ((m3.wa) - 1))) ((m3.ex) (((m3.wa) - 1).toNat)) ((m3.ab) (((m3.wa) - 1).toNat)) ((m3.co) (((m3.wa) - 1).toNat)) (chT tx n p1)).2).ab)))), (aCo, .inl (k 0, 300, .inl (aZ (((takF ((m3.sWa ((m3.wa) - 1))) ((m3.ex) (((m3.wa) - 1).toNat)) ((m3.ab) (((m3.wa) - 1).toNat)) ((m3.co) (((m3.wa) - 1).toNat)) (chT tx n p1)).2).co)))), (aNt, .inl (k 0, 12, .inl (aZ (((takF ((m3.sWa ((m3.wa) - 1))) ((m3.ex) (((m3.wa) - 1).toNat)) ((m3.ab) (((m3.wa) - 1).toNat)) ((m3.co) (((m3.wa) - 1).toNat)) (chT tx n p1)).2).nt)))), (aNb, .inl (k 0, 12, .inl (aZ (((takF ((m3.sWa ((m3.wa) - 1))) ((m3.ex) (((m3.wa) - 1).toNat)) ((m3.ab) (((m3.wa) - 1).toNat)) ((m3.co) (((m3.wa) - 1).toNat)) (chT tx n p1)).2).nb)))), (aNe, .inl (k 0, 12, .inl (aZ (((takF ((m3.sWa ((m3.wa) - 1))) ((m3.ex) (((m3.wa) - 1).toNat)) ((m3.ab) (((m3.wa) - 1).toNat)) ((m3.co) (((m3.wa) - 1).toNat)) (chT tx n p1)).2).ne)))), (aCf, .inl (k 0, 13, .inl (aZ (((takF ((m3.sWa ((m3.wa) - 1))) ((m3.ex) (((m3.wa) - 1).toNat)) ((m3.ab) (((m3.wa) - 1).toNat)) ((m3.co) (((m3.wa) - 1).toNat)) (chT tx n p1)).2).cf)))), (aCd, .inl (k 0, 110, .inl (aZ (((takF ((m3.sWa ((m3.wa) - 1))) ((m3.ex) (((m3.wa) - 1).toNat)) ((m3.ab) (((m3.wa) - 1).toNat)) ((m3.co) (((m3.wa) - 1).toNat)) (chT tx n p1)).2).ce)))), (aKi, .inl (k 0, 60, .inl (aZ (((takF ((m3.sWa ((m3.wa) - 1))) ((m3.ex) (((m3.wa) - 1).toNat)) ((m3.ab) (((m3.wa) - 1).toNat)) ((m3.co) (((m3.wa) - 1).toNat)) (chT tx n p1)).2).kd)))), (aFi, .inl (k 0, 60, .inl (aZ (((takF ((m3.sWa ((m3.wa) - 1))) ((m3.ex) (((m3.wa) - 1).toNat)) ((m3.ab) (((m3.wa) - 1).toNat)) ((m3.co) (((m3.wa) - 1).toNat)) (chT tx n p1)).2).fi)))), (aSe, .inl (k 0, 60, .inl (aZ (((takF ((m3.sWa ((m3.wa) - 1))) ((m3.ex) (((m3.wa) - 1).toNat)) ((m3.ab) (((m3.wa) - 1).toNat)) ((m3.co) (((m3.wa) - 1).toNat)) (chT tx n p1)).2).se)))), (aTx, .inl (k 0, 100, .inl (aZ (tx))))]) [1, 2, 3, 4, 5, 6, 7, 8, 9, 10, 11, 12, 0] (by decide) rfl
                  subst h_xr_3
                  refine lv_istore (lv' := [(4, .int (iI ((takF ((m3.sWa ((m3.wa) - 1))) ((m3.ex) (((m3.wa) - 1).toNat)) ((m3.ab) (((m3.wa) - 1).toNat)) ((m3.co) (((m3.wa) - 1).toNat)) (chT tx n p1)).1))), (0, .ref h0), (1, .int (iI ((n : Int)))), (2, .int (iI ((p1 : Int)))), (3, .int (iI (chT tx n p1)))]) hx hb d_MD_readAll_125 hl (by decide) rfl (fun ls hl => ?_)
                  refine lv_goto (tgt := 70) hx hb d_MD_readAll_127 (by decide) ?_
                  exact ih70 (k4) ((mTk tx n p1 m3).1) ((mTk tx n p1 m3).2) ls H locs (by exact (h6 (by omega)).2.1) (by exact (h6 (by omega)).2.2) (by omega) (lv_sub hl [1, 2, 3, 4, 0] rfl) hP hD hS
          exact L70 (_) (k2) (2) (m2) ls H locs (by omega) (by exact RunsA_2 (hw (by omega))) (Nat.lt_succ_self _) (lv_sub hl [2, 3, 4, 1, 0] rfl) hP hD hS
        refine z_icmp_ge (tgt := 65) hx hb d_MD_readAll_53 (by decide) ⟨by omega, by omega⟩ ⟨by omega, by omega⟩ (fun h53 => ?_) (fun h53 => ?_)
        · refine z_iconst hx hb d_MD_readAll_65 ?_
          exact z_top (show (iI (0)) = (iI (chT tx n p1)) from (by first | exact congrArg iI (if_pos (by omega)).symm | exact congrArg iI (if_neg (by omega)).symm)) J53_1
        · refine lv_aload_n hx hb d_MD_readAll_56 rfl (lv_at hl 0 rfl) ?_
          refine va_get (D := D) (ci := 8) (v := .ref aTx) (C := R_MD) (T := F_MD) (N := 26) hx hb hts in_MD hown hK hP 0 rfl rfl 2 (by decide) (hts _ k_735) (fun _ h9 => h9) rfl d_MD_readAll_57 ?_
          refine lv_iload_n hx hb d_MD_readAll_60 rfl (lv_at hl 2 rfl) ?_
          refine x_iald hx hb hK hP 12 0 rfl rfl (p1) rfl (by omega) (by omega) d_MD_readAll_61 ?_
          refine z_top (show _ = iI (tx (p1)) from rfl) ?_
          refine lv_goto (tgt := 66) hx hb d_MD_readAll_62 (by decide) ?_
          exact z_top (show (iI (tx (p1))) = (iI (chT tx n p1)) from (by first | exact congrArg iI (if_pos (by omega)).symm | exact congrArg iI (if_neg (by omega)).symm)) J53_1
  exact L46 (_) (kf) (0) (0) (raI ms) ls H locs (by omega) (by omega) (by exact fun _ => hrun) (by exact fun q => absurd q (by omega)) (Nat.lt_succ_self _) (lv_sub hl [2, 1, 0] rfl) hP hD hS

def atF (kk : Int) (fi : Nat → Int) (se : Nat → Int) (a1 : Nat) (d : Nat) : Bool := (if kk = 20 then (if (((fi (a1)).toNat / 2 ^ (wDay ((d : Int))).toNat % 2 : Nat) : Int) = 1 then (true) else (false)) else (if kk = 21 then (if wDay ((d : Int)) = se (a1) then (if fi (a1) = 9 then (if (((dateZ (d)) % (10000)) % (100)) + 7 ≤ (mML ((dateZ (d)) / (10000)) (((dateZ (d)) % (10000)) / (100))) then (false) else (true)) else (if (((((dateZ (d)) % (10000)) % (100)) - 1) / (7)) + 1 = fi (a1) then (true) else (false))) else (false)) else (if kk = 22 then (if se (a1) < fi (a1) then (if fi (a1) ≤ (dateZ (d)) % (10000) then (true) else (if se (a1) < (dateZ (d)) % (10000) then (false) else (true))) else (if (dateZ (d)) % (10000) < fi (a1) then (false) else (if se (a1) < (dateZ (d)) % (10000) then (false) else (true)))) else (if kk = 23 then (if ((weekZ ((d : Int))) % (100)) % (2) = fi (a1) then (true) else (false)) else (if kk = 24 then (if ((d : Int)) % (fi (a1)) = se (a1) then (true) else (false)) else (if kk = 25 then (if ((d : Int)) - (feaZ ((yIx (d : Int)).toNat)) = (se (a1)) * (fi (a1)) then (true) else (false)) else (if (dateZ (d)) / (10000) < fi (a1) then (false) else (if se (a1) < (dateZ (d)) / (10000) then (false) else (true)))))))))
set_option maxHeartbeats 4000000 in
set_option maxRecDepth 100000 in
theorem c_MD_isAtom (l : Launch) (D : va_G) (k : Nat → ClassId) (h0 aTx aDt aFe aRu aTa aBe aEn aMa aEx aAb aCo aNt aNb aNe aCf aCd aKi aFi aSe : Nat) (fa : Int) (ty : Int) (sh : Bool) (wt : Int) (rd : Int) (cd : Int) (at1 : Int) (kd : Nat → Int) (kk : Int) (fi : Nat → Int) (se : Nat → Int) (a1 : Nat) (d : Nat) (ha : a1 < 60) (hd : d < 1461) (hk : kd a1 = kk) (hkk : 20 ≤ kk ∧ kk ≤ 26) (hf : 0 ≤ fi a1 ∧ fi a1 ≤ 100000) (hs : -1 ≤ se a1 ∧ se a1 ≤ 100000) (h20 : kk = 20 → fi a1 < 256) (h24 : kk = 24 → 1 ≤ fi a1) (h25 : kk = 25 → se a1 = 1 ∨ se a1 = -1) : Met l y_MD_isAtom wd_MD_isAtom rm_MD_isAtom (va_Pc [.ref h0, .int (iI ((a1 : Int))), .int (iI ((d : Int)))] (PRO D k [(h0, .inr (8, [.int (iI (fa)), .int (iI (ty)), .ref aTx, .int (bI (sh)), .ref aDt, .ref aFe, .ref aRu, .ref aTa, .ref aBe, .ref aEn, .ref aMa, .int (iI (wt)), .ref aEx, .ref aAb, .ref aCo, .int (iI (rd)), .ref aNt, .ref aNb, .ref aNe, .ref aCf, .ref aCd, .int (iI (cd)), .int (iI (at1)), .ref aKi, .ref aFi, .ref aSe])), (aDt, .inl (k 0, 1461, .inl (aZ (dateZ)))), (aFe, .inl (k 0, 4, .inl (aZ (feaZ)))), (aKi, .inl (k 0, 60, .inl (aZ (kd)))), (aFi, .inl (k 0, 60, .inl (aZ (fi)))), (aSe, .inl (k 0, 60, .inl (aZ (se))))])) (QRi (fun r : Int32 => r = (bI ((atF kk fi se a1 d))))) 0 0 nA := by
  refine r_z (by decide) rfl (Nat.le_of_ble_eq_true rfl) ?_
  intro p e s m args below meth c Q ls hx hb hml hown hts hpre hl ret
  obtain ⟨hP, hK, hX⟩ := hpre
  have hS : va_S nA s.heap s.heap [] := va_S.rf
  have hl : lv_has ls 7 [(0, .ref h0), (1, .int (iI ((a1 : Int)))), (2, .int (iI ((d : Int))))] := hl
  have hb9 := dateZ_bd hd
  have hy9 := yIx_bd3 (t := (d : Int)) (by omega) (by omega)
  have hw9 := wDay_bd (z := (d : Int)) (by omega)
  have hwk := weekZ_bd (z := (d : Int)) (by omega) (by omega)
  have hld := ld_bd (yIx_ld hd)
  refine lv_aload_n hx hb d_MD_isAtom_0 rfl (lv_at hl 0 rfl) ?_
  refine va_get (D := D) (ci := 8) (v := .ref aDt) (C := R_MD) (T := F_MD) (N := 26) hx hb hts in_MD hown hK hP 0 rfl rfl 4 (by decide) (hts _ k_737) (fun _ h9 => h9) rfl d_MD_isAtom_1 ?_
  refine lv_iload_n hx hb d_MD_isAtom_4 rfl (lv_at hl 2 rfl) ?_
  refine x_iald hx hb hK hP 1 0 rfl rfl (d) rfl (by omega) (by omega) d_MD_isAtom_5 ?_
  refine z_top (show _ = iI (dateZ (d)) from rfl) ?_
  refine z_sipush hx hb d_MD_isAtom_6 (by decide) ?_
  refine z_irem hx hb d_MD_isAtom_9 ⟨by omega, by omega⟩ (by omega) ⟨by omega, by omega⟩ (by omega) ?_
  refine lv_istore_n (lv' := [(3, .int (iI ((dateZ (d)) % (10000)))), (0, .ref h0), (1, .int (iI ((a1 : Int)))), (2, .int (iI ((d : Int))))]) hx hb d_MD_isAtom_10 rfl hl (by decide) rfl (fun ls hl => ?_)
  refine lv_aload_n hx hb d_MD_isAtom_11 rfl (lv_at hl 1 rfl) ?_
  refine va_get (D := D) (ci := 8) (v := .ref aDt) (C := R_MD) (T := F_MD) (N := 26) hx hb hts in_MD hown hK hP 0 rfl rfl 4 (by decide) (hts _ k_737) (fun _ h9 => h9) rfl d_MD_isAtom_12 ?_
  refine lv_iload_n hx hb d_MD_isAtom_15 rfl (lv_at hl 3 rfl) ?_
  refine x_iald hx hb hK hP 1 0 rfl rfl (d) rfl (by omega) (by omega) d_MD_isAtom_16 ?_
  refine z_top (show _ = iI (dateZ (d)) from rfl) ?_
  refine z_sipush hx hb d_MD_isAtom_17 (by decide) ?_
  refine z_idiv hx hb d_MD_isAtom_20 ⟨by omega, by omega⟩ (by omega) ⟨by omega, by omega⟩ (by omega) ?_
  refine lv_istore (lv' := [(4, .int (iI ((dateZ (d)) / (10000)))), (3, .int (iI ((dateZ (d)) % (10000)))), (0, .ref h0), (1, .int (iI ((a1 : Int)))), (2, .int (iI ((d : Int))))]) hx hb d_MD_isAtom_21 hl (by decide) rfl (fun ls hl => ?_)
  refine lv_iload_n hx hb d_MD_isAtom_23 rfl (lv_at hl 1 rfl) ?_
  refine z_bipush hx hb d_MD_isAtom_24 (by decide) ?_
  refine z_irem hx hb d_MD_isAtom_26 ⟨by omega, by omega⟩ (by omega) ⟨by omega, by omega⟩ (by omega) ?_
  refine lv_istore (lv' := [(5, .int (iI (((dateZ (d)) % (10000)) % (100)))), (4, .int (iI ((dateZ (d)) / (10000)))), (3, .int (iI ((dateZ (d)) % (10000)))), (0, .ref h0), (1, .int (iI ((a1 : Int)))), (2, .int (iI ((d : Int))))]) hx hb d_MD_isAtom_27 hl (by decide) rfl (fun ls hl => ?_)
  refine lv_iload_n hx hb d_MD_isAtom_29 rfl (lv_at hl 5 rfl) ?_
  refine rc_i (va_runS (As := [.int (iI ((d : Int)))]) (rest := []) ⟨hx, hb, hml, hown, hts⟩ (c_MD_weekday l D k ((d : Int)) ((by omega))) ⟨callB_of 1 hts (good_MD_weekday) rfl rfl rfl (hts _ k_67) (hts _ k_891) (by decide +kernel) ⟨Nat.le_of_ble_eq_true rfl, Nat.le_of_ble_eq_true rfl⟩, (hts _ k_892)⟩ ⟨fun a U g mk q => ⟨q.1, q.2.1, va_K.moved (u := U) (U := U.calling g mk a) (Vm.Alike.refl U.vm) q.2.2.1, q.2.2.2.calling⟩, fun U hU hW => ⟨rfl, by rw [hU]; exact (hP.sub (ws' := []) [] rfl), va_K.moved hW.alike hK, by rw [hU]; exact hX.warm hW⟩⟩ rfl rfl hl.1 rfl (lv_room (Nat.le_of_ble_eq_true rfl)) d_MD_isAtom_30 ⟨Nat.le_of_ble_eq_true rfl, Nat.le_of_ble_eq_true rfl⟩) (fun xr_1 h_xr_1 => ?_)
  subst h_xr_1
  refine lv_istore (lv' := [(6, .int (iI (wDay ((d : Int))))), (5, .int (iI (((dateZ (d)) % (10000)) % (100)))), (4, .int (iI ((dateZ (d)) / (10000)))), (3, .int (iI ((dateZ (d)) % (10000)))), (0, .ref h0), (1, .int (iI ((a1 : Int)))), (2, .int (iI ((d : Int))))]) hx hb d_MD_isAtom_33 hl (by decide) rfl (fun ls hl => ?_)
  refine lv_aload_n hx hb d_MD_isAtom_35 rfl (lv_at hl 4 rfl) ?_
  refine va_get (D := D) (ci := 8) (v := .ref aKi) (C := R_MD) (T := F_MD) (N := 26) hx hb hts in_MD hown hK hP 0 rfl rfl 23 (by decide) (hts _ k_756) (fun _ h9 => h9) rfl d_MD_isAtom_36 ?_
  refine lv_iload_n hx hb d_MD_isAtom_39 rfl (lv_at hl 5 rfl) ?_
  refine x_iald hx hb hK hP 3 0 rfl rfl (a1) rfl (by omega) (by omega) d_MD_isAtom_40 ?_
  refine z_top (show _ = iI (kd (a1)) from rfl) ?_
  refine z_top (show (iI (kd (a1))) = (iI (kk)) from congrArg iI hk) ?_
  rcases (show kk = 20 ∨ kk = 21 ∨ kk = 22 ∨ kk = 23 ∨ kk = 24 ∨ kk = 25 ∨ kk = 26 by omega) with rfl | rfl | rfl | rfl | rfl | rfl | rfl
  · have hz41 : (iI (20)).toInt = 20 := iI_toInt ⟨by omega, by omega⟩
    refine lv_tableIn (tgt := 80) (off := 39) hx hb d_MD_isAtom_41 (by rw [hz41]; decide) (by rw [hz41]; decide) (by rw [hz41]; rfl) (by decide) ?_
    have hf8 := h20 rfl
    refine lv_aload_n hx hb d_MD_isAtom_80 rfl (lv_at hl 4 rfl) ?_
    refine va_get (D := D) (ci := 8) (v := .ref aFi) (C := R_MD) (T := F_MD) (N := 26) hx hb hts in_MD hown hK hP 0 rfl rfl 24 (by decide) (hts _ k_757) (fun _ h9 => h9) rfl d_MD_isAtom_81 ?_
    refine lv_iload_n hx hb d_MD_isAtom_84 rfl (lv_at hl 5 rfl) ?_
    refine x_iald hx hb hK hP 4 0 rfl rfl (a1) rfl (by omega) (by omega) d_MD_isAtom_85 ?_
    refine z_top (show _ = iI (fi (a1)) from rfl) ?_
    refine lv_iload hx hb d_MD_isAtom_86 (lv_at hl 0 rfl) ?_
    refine lv_ishr hx hb d_MD_isAtom_88 ?_
    refine z_iconst hx hb d_MD_isAtom_89 ?_
    refine lv_iand hx hb d_MD_isAtom_90 ?_
    refine z_top (show (((iI (fi (a1))) >>> ((iI (wDay ((d : Int)))) &&& 31)) &&& (iI (1))) = (iI ((((fi (a1)).toNat / 2 ^ (wDay ((d : Int))).toNat % 2 : Nat) : Int))) from (bitZ ⟨by omega, by omega⟩ ⟨by omega, by omega⟩)) ?_
    refine z_iconst hx hb d_MD_isAtom_91 ?_
    refine z_icmp_ne (tgt := 99) hx hb d_MD_isAtom_92 (by decide) ⟨by omega, by omega⟩ ⟨by omega, by omega⟩ (fun h92 => ?_) (fun h92 => ?_)
    · refine z_iconst hx hb d_MD_isAtom_99 ?_
      have e9 : atF 20 fi se a1 d = false := by unfold atF; rw [if_pos (c := (20 : Int) = 20) rfl, if_neg h92]
      exact ret _ 100 false d_MD_isAtom_100 ((congrArg (fun q9 => bI q9) e9).symm)
    · refine z_iconst hx hb d_MD_isAtom_95 ?_
      refine lv_goto (tgt := 100) hx hb d_MD_isAtom_96 (by decide) ?_
      have e9 : atF 20 fi se a1 d = true := by unfold atF; rw [if_pos (c := (20 : Int) = 20) rfl, if_pos h92]
      exact ret _ 100 true d_MD_isAtom_100 ((congrArg (fun q9 => bI q9) e9).symm)
  · have hz41 : (iI (21)).toInt = 21 := iI_toInt ⟨by omega, by omega⟩
    refine lv_tableIn (tgt := 101) (off := 60) hx hb d_MD_isAtom_41 (by rw [hz41]; decide) (by rw [hz41]; decide) (by rw [hz41]; rfl) (by decide) ?_
    refine lv_iload hx hb d_MD_isAtom_101 (lv_at hl 0 rfl) ?_
    refine lv_aload_n hx hb d_MD_isAtom_103 rfl (lv_at hl 4 rfl) ?_
    refine va_get (D := D) (ci := 8) (v := .ref aSe) (C := R_MD) (T := F_MD) (N := 26) hx hb hts in_MD hown hK hP 0 rfl rfl 25 (by decide) (hts _ k_758) (fun _ h9 => h9) rfl d_MD_isAtom_104 ?_
    refine lv_iload_n hx hb d_MD_isAtom_107 rfl (lv_at hl 5 rfl) ?_
    refine x_iald hx hb hK hP 5 0 rfl rfl (a1) rfl (by omega) (by omega) d_MD_isAtom_108 ?_
    refine z_top (show _ = iI (se (a1)) from rfl) ?_
    refine z_icmp_ne (tgt := 165) hx hb d_MD_isAtom_109 (by decide) ⟨by omega, by omega⟩ ⟨by omega, by omega⟩ (fun h109 => ?_) (fun h109 => ?_)
    · refine z_iconst hx hb d_MD_isAtom_165 ?_
      have e9 : atF 21 fi se a1 d = false := by unfold atF; rw [if_neg (c := (21 : Int) = 20) (by decide), if_pos (c := (21 : Int) = 21) rfl, if_neg h109]
      exact ret _ 166 false d_MD_isAtom_166 ((congrArg (fun q9 => bI q9) e9).symm)
    · refine lv_aload_n hx hb d_MD_isAtom_112 rfl (lv_at hl 4 rfl) ?_
      refine va_get (D := D) (ci := 8) (v := .ref aFi) (C := R_MD) (T := F_MD) (N := 26) hx hb hts in_MD hown hK hP 0 rfl rfl 24 (by decide) (hts _ k_757) (fun _ h9 => h9) rfl d_MD_isAtom_113 ?_
      refine lv_iload_n hx hb d_MD_isAtom_116 rfl (lv_at hl 5 rfl) ?_
      refine x_iald hx hb hK hP 4 0 rfl rfl (a1) rfl (by omega) (by omega) d_MD_isAtom_117 ?_
      refine z_top (show _ = iI (fi (a1)) from rfl) ?_
      refine z_bipush hx hb d_MD_isAtom_118 (by decide) ?_
      refine z_icmp_ne (tgt := 143) hx hb d_MD_isAtom_120 (by decide) ⟨by omega, by omega⟩ ⟨by omega, by omega⟩ (fun h120 => ?_) (fun h120 => ?_)
      · refine lv_iload hx hb d_MD_isAtom_143 (lv_at hl 1 rfl) ?_
        refine z_iconst hx hb d_MD_isAtom_145 ?_
        refine z_isub hx hb d_MD_isAtom_146 ?_
        refine z_bipush hx hb d_MD_isAtom_147 (by decide) ?_
        refine z_idiv hx hb d_MD_isAtom_149 ⟨by omega, by omega⟩ (by omega) ⟨by omega, by omega⟩ (by omega) ?_
        refine z_iconst hx hb d_MD_isAtom_150 ?_
        refine z_iadd hx hb d_MD_isAtom_151 ?_
        refine lv_aload_n hx hb d_MD_isAtom_152 rfl (lv_at hl 4 rfl) ?_
        refine va_get (D := D) (ci := 8) (v := .ref aFi) (C := R_MD) (T := F_MD) (N := 26) hx hb hts in_MD hown hK hP 0 rfl rfl 24 (by decide) (hts _ k_757) (fun _ h9 => h9) rfl d_MD_isAtom_153 ?_
        refine lv_iload_n hx hb d_MD_isAtom_156 rfl (lv_at hl 5 rfl) ?_
        refine x_iald hx hb hK hP 4 0 rfl rfl (a1) rfl (by omega) (by omega) d_MD_isAtom_157 ?_
        refine z_top (show _ = iI (fi (a1)) from rfl) ?_
        refine z_icmp_ne (tgt := 165) hx hb d_MD_isAtom_158 (by decide) ⟨by omega, by omega⟩ ⟨by omega, by omega⟩ (fun h158 => ?_) (fun h158 => ?_)
        · refine z_iconst hx hb d_MD_isAtom_165 ?_
          have e9 : atF 21 fi se a1 d = false := by unfold atF; rw [if_neg (c := (21 : Int) = 20) (by decide), if_pos (c := (21 : Int) = 21) rfl, if_pos h109, if_neg h120, if_neg h158]
          exact ret _ 166 false d_MD_isAtom_166 ((congrArg (fun q9 => bI q9) e9).symm)
        · refine z_iconst hx hb d_MD_isAtom_161 ?_
          refine lv_goto (tgt := 166) hx hb d_MD_isAtom_162 (by decide) ?_
          have e9 : atF 21 fi se a1 d = true := by unfold atF; rw [if_neg (c := (21 : Int) = 20) (by decide), if_pos (c := (21 : Int) = 21) rfl, if_pos h109, if_neg h120, if_pos h158]
          exact ret _ 166 true d_MD_isAtom_166 ((congrArg (fun q9 => bI q9) e9).symm)
      · refine lv_iload hx hb d_MD_isAtom_123 (lv_at hl 1 rfl) ?_
        refine z_bipush hx hb d_MD_isAtom_125 (by decide) ?_
        refine z_iadd hx hb d_MD_isAtom_127 ?_
        refine lv_iload hx hb d_MD_isAtom_128 (lv_at hl 2 rfl) ?_
        refine lv_iload_n hx hb d_MD_isAtom_130 rfl (lv_at hl 3 rfl) ?_
        refine z_bipush hx hb d_MD_isAtom_131 (by decide) ?_
        refine z_idiv hx hb d_MD_isAtom_133 ⟨by omega, by omega⟩ (by omega) ⟨by omega, by omega⟩ (by omega) ?_
        refine rc_i (va_runS (As := [.int (iI ((dateZ (d)) / (10000))), .int (iI (((dateZ (d)) % (10000)) / (100)))]) (rest := [.int (iI ((((dateZ (d)) % (10000)) % (100)) + 7))]) ⟨hx, hb, hml, hown, hts⟩ (c_MD_monthLength l D k ((dateZ (d)) / (10000)) (((dateZ (d)) % (10000)) / (100)) ((by omega)) (⟨by omega, by omega⟩)) ⟨callB_of 2 hts (good_MD_monthLength) rfl rfl rfl (hts _ k_67) (hts _ k_727) (by decide +kernel) ⟨Nat.le_of_ble_eq_true rfl, Nat.le_of_ble_eq_true rfl⟩, (hts _ k_728)⟩ ⟨fun a U g mk q => ⟨q.1, q.2.1, va_K.moved (u := U) (U := U.calling g mk a) (Vm.Alike.refl U.vm) q.2.2.1, q.2.2.2.calling⟩, fun U hU hW => ⟨rfl, by rw [hU]; exact (hP.sub (ws' := []) [] rfl), va_K.moved hW.alike hK, by rw [hU]; exact hX.warm hW⟩⟩ rfl rfl hl.1 rfl (lv_room (Nat.le_of_ble_eq_true rfl)) d_MD_isAtom_134 ⟨Nat.le_of_ble_eq_true rfl, Nat.le_of_ble_eq_true rfl⟩) (fun xr_2 h_xr_2 => ?_)
        subst h_xr_2
        have hmb := mML_bd ((dateZ (d)) / (10000)) (((dateZ (d)) % (10000)) / (100))
        refine z_icmp_le (tgt := 165) hx hb d_MD_isAtom_137 (by decide) ⟨by omega, by omega⟩ ⟨by omega, by omega⟩ (fun h137 => ?_) (fun h137 => ?_)
        · refine z_iconst hx hb d_MD_isAtom_165 ?_
          have e9 : atF 21 fi se a1 d = false := by unfold atF; rw [if_neg (c := (21 : Int) = 20) (by decide), if_pos (c := (21 : Int) = 21) rfl, if_pos h109, if_pos h120, if_pos h137]
          exact ret _ 166 false d_MD_isAtom_166 ((congrArg (fun q9 => bI q9) e9).symm)
        · refine lv_goto (tgt := 161) hx hb d_MD_isAtom_140 (by decide) ?_
          refine z_iconst hx hb d_MD_isAtom_161 ?_
          refine lv_goto (tgt := 166) hx hb d_MD_isAtom_162 (by decide) ?_
          have e9 : atF 21 fi se a1 d = true := by unfold atF; rw [if_neg (c := (21 : Int) = 20) (by decide), if_pos (c := (21 : Int) = 21) rfl, if_pos h109, if_pos h120, if_neg h137]
          exact ret _ 166 true d_MD_isAtom_166 ((congrArg (fun q9 => bI q9) e9).symm)
  · have hz41 : (iI (22)).toInt = 22 := iI_toInt ⟨by omega, by omega⟩
    refine lv_tableIn (tgt := 167) (off := 126) hx hb d_MD_isAtom_41 (by rw [hz41]; decide) (by rw [hz41]; decide) (by rw [hz41]; rfl) (by decide) ?_
    refine lv_aload_n hx hb d_MD_isAtom_167 rfl (lv_at hl 4 rfl) ?_
    refine va_get (D := D) (ci := 8) (v := .ref aFi) (C := R_MD) (T := F_MD) (N := 26) hx hb hts in_MD hown hK hP 0 rfl rfl 24 (by decide) (hts _ k_757) (fun _ h9 => h9) rfl d_MD_isAtom_168 ?_
    refine lv_iload_n hx hb d_MD_isAtom_171 rfl (lv_at hl 5 rfl) ?_
    refine x_iald hx hb hK hP 4 0 rfl rfl (a1) rfl (by omega) (by omega) d_MD_isAtom_172 ?_
    refine z_top (show _ = iI (fi (a1)) from rfl) ?_
    refine lv_aload_n hx hb d_MD_isAtom_173 rfl (lv_at hl 4 rfl) ?_
    refine va_get (D := D) (ci := 8) (v := .ref aSe) (C := R_MD) (T := F_MD) (N := 26) hx hb hts in_MD hown hK hP 0 rfl rfl 25 (by decide) (hts _ k_758) (fun _ h9 => h9) rfl d_MD_isAtom_174 ?_
    refine lv_iload_n hx hb d_MD_isAtom_177 rfl (lv_at hl 5 rfl) ?_
    refine x_iald hx hb hK hP 5 0 rfl rfl (a1) rfl (by omega) (by omega) d_MD_isAtom_178 ?_
    refine z_top (show _ = iI (se (a1)) from rfl) ?_
    refine z_icmp_gt (tgt := 208) hx hb d_MD_isAtom_179 (by decide) ⟨by omega, by omega⟩ ⟨by omega, by omega⟩ (fun h179 => ?_) (fun h179 => ?_)
    · refine lv_iload_n hx hb d_MD_isAtom_208 rfl (lv_at hl 3 rfl) ?_
      refine lv_aload_n hx hb d_MD_isAtom_209 rfl (lv_at hl 4 rfl) ?_
      refine va_get (D := D) (ci := 8) (v := .ref aFi) (C := R_MD) (T := F_MD) (N := 26) hx hb hts in_MD hown hK hP 0 rfl rfl 24 (by decide) (hts _ k_757) (fun _ h9 => h9) rfl d_MD_isAtom_210 ?_
      refine lv_iload_n hx hb d_MD_isAtom_213 rfl (lv_at hl 5 rfl) ?_
      refine x_iald hx hb hK hP 4 0 rfl rfl (a1) rfl (by omega) (by omega) d_MD_isAtom_214 ?_
      refine z_top (show _ = iI (fi (a1)) from rfl) ?_
      refine z_icmp_ge (tgt := 228) hx hb d_MD_isAtom_215 (by decide) ⟨by omega, by omega⟩ ⟨by omega, by omega⟩ (fun h215 => ?_) (fun h215 => ?_)
      · refine z_iconst hx hb d_MD_isAtom_228 ?_
        refine lv_goto (tgt := 233) hx hb d_MD_isAtom_229 (by decide) ?_
        have e9 : atF 22 fi se a1 d = true := by unfold atF; rw [if_neg (c := (22 : Int) = 20) (by decide), if_neg (c := (22 : Int) = 21) (by decide), if_pos (c := (22 : Int) = 22) rfl, if_pos h179, if_pos h215]
        exact ret _ 233 true d_MD_isAtom_233 ((congrArg (fun q9 => bI q9) e9).symm)
      · refine lv_iload_n hx hb d_MD_isAtom_218 rfl (lv_at hl 3 rfl) ?_
        refine lv_aload_n hx hb d_MD_isAtom_219 rfl (lv_at hl 4 rfl) ?_
        refine va_get (D := D) (ci := 8) (v := .ref aSe) (C := R_MD) (T := F_MD) (N := 26) hx hb hts in_MD hown hK hP 0 rfl rfl 25 (by decide) (hts _ k_758) (fun _ h9 => h9) rfl d_MD_isAtom_220 ?_
        refine lv_iload_n hx hb d_MD_isAtom_223 rfl (lv_at hl 5 rfl) ?_
        refine x_iald hx hb hK hP 5 0 rfl rfl (a1) rfl (by omega) (by omega) d_MD_isAtom_224 ?_
        refine z_top (show _ = iI (se (a1)) from rfl) ?_
        refine z_icmp_gt (tgt := 232) hx hb d_MD_isAtom_225 (by decide) ⟨by omega, by omega⟩ ⟨by omega, by omega⟩ (fun h225 => ?_) (fun h225 => ?_)
        · refine z_iconst hx hb d_MD_isAtom_232 ?_
          have e9 : atF 22 fi se a1 d = false := by unfold atF; rw [if_neg (c := (22 : Int) = 20) (by decide), if_neg (c := (22 : Int) = 21) (by decide), if_pos (c := (22 : Int) = 22) rfl, if_pos h179, if_neg h215, if_pos h225]
          exact ret _ 233 false d_MD_isAtom_233 ((congrArg (fun q9 => bI q9) e9).symm)
        · refine z_iconst hx hb d_MD_isAtom_228 ?_
          refine lv_goto (tgt := 233) hx hb d_MD_isAtom_229 (by decide) ?_
          have e9 : atF 22 fi se a1 d = true := by unfold atF; rw [if_neg (c := (22 : Int) = 20) (by decide), if_neg (c := (22 : Int) = 21) (by decide), if_pos (c := (22 : Int) = 22) rfl, if_pos h179, if_neg h215, if_neg h225]
          exact ret _ 233 true d_MD_isAtom_233 ((congrArg (fun q9 => bI q9) e9).symm)
    · refine lv_iload_n hx hb d_MD_isAtom_182 rfl (lv_at hl 3 rfl) ?_
      refine lv_aload_n hx hb d_MD_isAtom_183 rfl (lv_at hl 4 rfl) ?_
      refine va_get (D := D) (ci := 8) (v := .ref aFi) (C := R_MD) (T := F_MD) (N := 26) hx hb hts in_MD hown hK hP 0 rfl rfl 24 (by decide) (hts _ k_757) (fun _ h9 => h9) rfl d_MD_isAtom_184 ?_
      refine lv_iload_n hx hb d_MD_isAtom_187 rfl (lv_at hl 5 rfl) ?_
      refine x_iald hx hb hK hP 4 0 rfl rfl (a1) rfl (by omega) (by omega) d_MD_isAtom_188 ?_
      refine z_top (show _ = iI (fi (a1)) from rfl) ?_
      refine z_icmp_lt (tgt := 206) hx hb d_MD_isAtom_189 (by decide) ⟨by omega, by omega⟩ ⟨by omega, by omega⟩ (fun h189 => ?_) (fun h189 => ?_)
      · refine z_iconst hx hb d_MD_isAtom_206 ?_
        have e9 : atF 22 fi se a1 d = false := by unfold atF; rw [if_neg (c := (22 : Int) = 20) (by decide), if_neg (c := (22 : Int) = 21) (by decide), if_pos (c := (22 : Int) = 22) rfl, if_neg h179, if_pos h189]
        exact ret _ 207 false d_MD_isAtom_207 ((congrArg (fun q9 => bI q9) e9).symm)
      · refine lv_iload_n hx hb d_MD_isAtom_192 rfl (lv_at hl 3 rfl) ?_
        refine lv_aload_n hx hb d_MD_isAtom_193 rfl (lv_at hl 4 rfl) ?_
        refine va_get (D := D) (ci := 8) (v := .ref aSe) (C := R_MD) (T := F_MD) (N := 26) hx hb hts in_MD hown hK hP 0 rfl rfl 25 (by decide) (hts _ k_758) (fun _ h9 => h9) rfl d_MD_isAtom_194 ?_
        refine lv_iload_n hx hb d_MD_isAtom_197 rfl (lv_at hl 5 rfl) ?_
        refine x_iald hx hb hK hP 5 0 rfl rfl (a1) rfl (by omega) (by omega) d_MD_isAtom_198 ?_
        refine z_top (show _ = iI (se (a1)) from rfl) ?_
        refine z_icmp_gt (tgt := 206) hx hb d_MD_isAtom_199 (by decide) ⟨by omega, by omega⟩ ⟨by omega, by omega⟩ (fun h199 => ?_) (fun h199 => ?_)
        · refine z_iconst hx hb d_MD_isAtom_206 ?_
          have e9 : atF 22 fi se a1 d = false := by unfold atF; rw [if_neg (c := (22 : Int) = 20) (by decide), if_neg (c := (22 : Int) = 21) (by decide), if_pos (c := (22 : Int) = 22) rfl, if_neg h179, if_neg h189, if_pos h199]
          exact ret _ 207 false d_MD_isAtom_207 ((congrArg (fun q9 => bI q9) e9).symm)
        · refine z_iconst hx hb d_MD_isAtom_202 ?_
          refine lv_goto (tgt := 207) hx hb d_MD_isAtom_203 (by decide) ?_
          have e9 : atF 22 fi se a1 d = true := by unfold atF; rw [if_neg (c := (22 : Int) = 20) (by decide), if_neg (c := (22 : Int) = 21) (by decide), if_pos (c := (22 : Int) = 22) rfl, if_neg h179, if_neg h189, if_neg h199]
          exact ret _ 207 true d_MD_isAtom_207 ((congrArg (fun q9 => bI q9) e9).symm)
  · have hz41 : (iI (23)).toInt = 23 := iI_toInt ⟨by omega, by omega⟩
    refine lv_tableIn (tgt := 234) (off := 193) hx hb d_MD_isAtom_41 (by rw [hz41]; decide) (by rw [hz41]; decide) (by rw [hz41]; rfl) (by decide) ?_
    refine lv_aload_n hx hb d_MD_isAtom_234 rfl (lv_at hl 4 rfl) ?_
    refine lv_iload_n hx hb d_MD_isAtom_235 rfl (lv_at hl 6 rfl) ?_
    refine rc_i (va_runV (As := [.int (iI ((d : Int)))]) (rest := []) (b := h0) ⟨hx, hb, hml, hown, hts⟩ (c_MD_week l D k (h0) (aTx) (aDt) (aFe) (aRu) (aTa) (aBe) (aEn) (aMa) (aEx) (aAb) (aCo) (aNt) (aNb) (aNe) (aCf) (aCd) (aKi) (aFi) (aSe) (fa) (ty) (sh) (wt) (rd) (cd) (at1) ((d : Int)) ((by omega))) ⟨callB_of 1 hts (good_MD_week) rfl rfl rfl (hts _ k_67) (hts _ k_894) (by decide +kernel) ⟨Nat.le_of_ble_eq_true rfl, Nat.le_of_ble_eq_true rfl⟩, (hts _ k_896), (hts _ k_45)⟩ ⟨fun a U g mk q => ⟨q.1, q.2.1, va_K.moved (u := U) (U := U.calling g mk a) (Vm.Alike.refl U.vm) q.2.2.1, q.2.2.2.calling⟩, (va_recv (q0 := 0) hK hP rfl rfl), fun U hU hW => ⟨rfl, by rw [hU]; exact (hP.sub (ws' := [(h0, .inr (8, [.int (iI (fa)), .int (iI (ty)), .ref aTx, .int (bI (sh)), .ref aDt, .ref aFe, .ref aRu, .ref aTa, .ref aBe, .ref aEn, .ref aMa, .int (iI (wt)), .ref aEx, .ref aAb, .ref aCo, .int (iI (rd)), .ref aNt, .ref aNb, .ref aNe, .ref aCf, .ref aCd, .int (iI (cd)), .int (iI (at1)), .ref aKi, .ref aFi, .ref aSe])), (aDt, .inl (k 0, 1461, .inl (aZ (dateZ))))]) [0, 1] rfl), va_K.moved hW.alike hK, by rw [hU]; exact hX.warm hW⟩⟩ rfl rfl hl.1 rfl (lv_room (Nat.le_of_ble_eq_true rfl)) d_MD_isAtom_236 ⟨Nat.le_of_ble_eq_true rfl, Nat.le_of_ble_eq_true rfl⟩) (fun xr_3 h_xr_3 => ?_)
    subst h_xr_3
    refine z_bipush hx hb d_MD_isAtom_239 (by decide) ?_
    refine z_irem hx hb d_MD_isAtom_241 ⟨by omega, by omega⟩ (by omega) ⟨by omega, by omega⟩ (by omega) ?_
    refine z_iconst hx hb d_MD_isAtom_242 ?_
    refine z_irem hx hb d_MD_isAtom_243 ⟨by omega, by omega⟩ (by omega) ⟨by omega, by omega⟩ (by omega) ?_
    refine lv_aload_n hx hb d_MD_isAtom_244 rfl (lv_at hl 4 rfl) ?_
    refine va_get (D := D) (ci := 8) (v := .ref aFi) (C := R_MD) (T := F_MD) (N := 26) hx hb hts in_MD hown hK hP 0 rfl rfl 24 (by decide) (hts _ k_757) (fun _ h9 => h9) rfl d_MD_isAtom_245 ?_
    refine lv_iload_n hx hb d_MD_isAtom_248 rfl (lv_at hl 5 rfl) ?_
    refine x_iald hx hb hK hP 4 0 rfl rfl (a1) rfl (by omega) (by omega) d_MD_isAtom_249 ?_
    refine z_top (show _ = iI (fi (a1)) from rfl) ?_
    refine z_icmp_ne (tgt := 257) hx hb d_MD_isAtom_250 (by decide) ⟨by omega, by omega⟩ ⟨by omega, by omega⟩ (fun h250 => ?_) (fun h250 => ?_)
    · refine z_iconst hx hb d_MD_isAtom_257 ?_
      have e9 : atF 23 fi se a1 d = false := by unfold atF; rw [if_neg (c := (23 : Int) = 20) (by decide), if_neg (c := (23 : Int) = 21) (by decide), if_neg (c := (23 : Int) = 22) (by decide), if_pos (c := (23 : Int) = 23) rfl, if_neg h250]
      exact ret _ 258 false d_MD_isAtom_258 ((congrArg (fun q9 => bI q9) e9).symm)
    · refine z_iconst hx hb d_MD_isAtom_253 ?_
      refine lv_goto (tgt := 258) hx hb d_MD_isAtom_254 (by decide) ?_
      have e9 : atF 23 fi se a1 d = true := by unfold atF; rw [if_neg (c := (23 : Int) = 20) (by decide), if_neg (c := (23 : Int) = 21) (by decide), if_neg (c := (23 : Int) = 22) (by decide), if_pos (c := (23 : Int) = 23) rfl, if_pos h250]
      exact ret _ 258 true d_MD_isAtom_258 ((congrArg (fun q9 => bI q9) e9).symm)
  · have hz41 : (iI (24)).toInt = 24 := iI_toInt ⟨by omega, by omega⟩
    refine lv_tableIn (tgt := 259) (off := 218) hx hb d_MD_isAtom_41 (by rw [hz41]; decide) (by rw [hz41]; decide) (by rw [hz41]; rfl) (by decide) ?_
    have hf8 := h24 rfl
    have hm1 := Int.emod_nonneg (d : Int) (b := fi a1) (by omega)
    have hm2 := Int.emod_lt_of_pos (d : Int) (b := fi a1) (by omega)
    refine lv_iload_n hx hb d_MD_isAtom_259 rfl (lv_at hl 6 rfl) ?_
    refine lv_aload_n hx hb d_MD_isAtom_260 rfl (lv_at hl 4 rfl) ?_
    refine va_get (D := D) (ci := 8) (v := .ref aFi) (C := R_MD) (T := F_MD) (N := 26) hx hb hts in_MD hown hK hP 0 rfl rfl 24 (by decide) (hts _ k_757) (fun _ h9 => h9) rfl d_MD_isAtom_261 ?_
    refine lv_iload_n hx hb d_MD_isAtom_264 rfl (lv_at hl 5 rfl) ?_
    refine x_iald hx hb hK hP 4 0 rfl rfl (a1) rfl (by omega) (by omega) d_MD_isAtom_265 ?_
    refine z_top (show _ = iI (fi (a1)) from rfl) ?_
    refine z_irem hx hb d_MD_isAtom_266 ⟨by omega, by omega⟩ (by omega) ⟨by omega, by omega⟩ (by omega) ?_
    refine lv_aload_n hx hb d_MD_isAtom_267 rfl (lv_at hl 4 rfl) ?_
    refine va_get (D := D) (ci := 8) (v := .ref aSe) (C := R_MD) (T := F_MD) (N := 26) hx hb hts in_MD hown hK hP 0 rfl rfl 25 (by decide) (hts _ k_758) (fun _ h9 => h9) rfl d_MD_isAtom_268 ?_
    refine lv_iload_n hx hb d_MD_isAtom_271 rfl (lv_at hl 5 rfl) ?_
    refine x_iald hx hb hK hP 5 0 rfl rfl (a1) rfl (by omega) (by omega) d_MD_isAtom_272 ?_
    refine z_top (show _ = iI (se (a1)) from rfl) ?_
    refine z_icmp_ne (tgt := 280) hx hb d_MD_isAtom_273 (by decide) ⟨by omega, by omega⟩ ⟨by omega, by omega⟩ (fun h273 => ?_) (fun h273 => ?_)
    · refine z_iconst hx hb d_MD_isAtom_280 ?_
      have e9 : atF 24 fi se a1 d = false := by unfold atF; rw [if_neg (c := (24 : Int) = 20) (by decide), if_neg (c := (24 : Int) = 21) (by decide), if_neg (c := (24 : Int) = 22) (by decide), if_neg (c := (24 : Int) = 23) (by decide), if_pos (c := (24 : Int) = 24) rfl, if_neg h273]
      exact ret _ 281 false d_MD_isAtom_281 ((congrArg (fun q9 => bI q9) e9).symm)
    · refine z_iconst hx hb d_MD_isAtom_276 ?_
      refine lv_goto (tgt := 281) hx hb d_MD_isAtom_277 (by decide) ?_
      have e9 : atF 24 fi se a1 d = true := by unfold atF; rw [if_neg (c := (24 : Int) = 20) (by decide), if_neg (c := (24 : Int) = 21) (by decide), if_neg (c := (24 : Int) = 22) (by decide), if_neg (c := (24 : Int) = 23) (by decide), if_pos (c := (24 : Int) = 24) rfl, if_pos h273]
      exact ret _ 281 true d_MD_isAtom_281 ((congrArg (fun q9 => bI q9) e9).symm)
  · have hz41 : (iI (25)).toInt = 25 := iI_toInt ⟨by omega, by omega⟩
    refine lv_tableIn (tgt := 282) (off := 241) hx hb d_MD_isAtom_41 (by rw [hz41]; decide) (by rw [hz41]; decide) (by rw [hz41]; rfl) (by decide) ?_
    have hpb : -100000 ≤ (se (a1)) * (fi (a1)) ∧ (se (a1)) * (fi (a1)) ≤ 100000 := by rcases h25 rfl with q | q <;> rw [q] <;> omega
    refine lv_iload_n hx hb d_MD_isAtom_282 rfl (lv_at hl 6 rfl) ?_
    refine lv_aload_n hx hb d_MD_isAtom_283 rfl (lv_at hl 4 rfl) ?_
    refine va_get (D := D) (ci := 8) (v := .ref aFe) (C := R_MD) (T := F_MD) (N := 26) hx hb hts in_MD hown hK hP 0 rfl rfl 5 (by decide) (hts _ k_738) (fun _ h9 => h9) rfl d_MD_isAtom_284 ?_
    refine lv_iload hx hb d_MD_isAtom_287 (lv_at hl 2 rfl) ?_
    refine z_sipush hx hb d_MD_isAtom_289 (by decide) ?_
    refine z_isub hx hb d_MD_isAtom_292 ?_
    refine x_iald hx hb hK hP 2 0 rfl rfl ((yIx (d : Int)).toNat) (by omega) (by omega) (by omega) d_MD_isAtom_293 ?_
    refine z_top (show _ = iI (feaZ ((yIx (d : Int)).toNat)) from rfl) ?_
    refine z_isub hx hb d_MD_isAtom_294 ?_
    refine lv_aload_n hx hb d_MD_isAtom_295 rfl (lv_at hl 4 rfl) ?_
    refine va_get (D := D) (ci := 8) (v := .ref aSe) (C := R_MD) (T := F_MD) (N := 26) hx hb hts in_MD hown hK hP 0 rfl rfl 25 (by decide) (hts _ k_758) (fun _ h9 => h9) rfl d_MD_isAtom_296 ?_
    refine lv_iload_n hx hb d_MD_isAtom_299 rfl (lv_at hl 5 rfl) ?_
    refine x_iald hx hb hK hP 5 0 rfl rfl (a1) rfl (by omega) (by omega) d_MD_isAtom_300 ?_
    refine z_top (show _ = iI (se (a1)) from rfl) ?_
    refine lv_aload_n hx hb d_MD_isAtom_301 rfl (lv_at hl 4 rfl) ?_
    refine va_get (D := D) (ci := 8) (v := .ref aFi) (C := R_MD) (T := F_MD) (N := 26) hx hb hts in_MD hown hK hP 0 rfl rfl 24 (by decide) (hts _ k_757) (fun _ h9 => h9) rfl d_MD_isAtom_302 ?_
    refine lv_iload_n hx hb d_MD_isAtom_305 rfl (lv_at hl 5 rfl) ?_
    refine x_iald hx hb hK hP 4 0 rfl rfl (a1) rfl (by omega) (by omega) d_MD_isAtom_306 ?_
    refine z_top (show _ = iI (fi (a1)) from rfl) ?_
    refine z_imul hx hb d_MD_isAtom_307 ?_
    refine z_icmp_ne (tgt := 315) hx hb d_MD_isAtom_308 (by decide) ⟨by omega, by omega⟩ ⟨by omega, by omega⟩ (fun h308 => ?_) (fun h308 => ?_)
    · refine z_iconst hx hb d_MD_isAtom_315 ?_
      have e9 : atF 25 fi se a1 d = false := by unfold atF; rw [if_neg (c := (25 : Int) = 20) (by decide), if_neg (c := (25 : Int) = 21) (by decide), if_neg (c := (25 : Int) = 22) (by decide), if_neg (c := (25 : Int) = 23) (by decide), if_neg (c := (25 : Int) = 24) (by decide), if_pos (c := (25 : Int) = 25) rfl, if_neg h308]
      exact ret _ 316 false d_MD_isAtom_316 ((congrArg (fun q9 => bI q9) e9).symm)
    · refine z_iconst hx hb d_MD_isAtom_311 ?_
      refine lv_goto (tgt := 316) hx hb d_MD_isAtom_312 (by decide) ?_
      have e9 : atF 25 fi se a1 d = true := by unfold atF; rw [if_neg (c := (25 : Int) = 20) (by decide), if_neg (c := (25 : Int) = 21) (by decide), if_neg (c := (25 : Int) = 22) (by decide), if_neg (c := (25 : Int) = 23) (by decide), if_neg (c := (25 : Int) = 24) (by decide), if_pos (c := (25 : Int) = 25) rfl, if_pos h308]
      exact ret _ 316 true d_MD_isAtom_316 ((congrArg (fun q9 => bI q9) e9).symm)
  · have hz41 : (iI (26)).toInt = 26 := iI_toInt ⟨by omega, by omega⟩
    refine lv_tableOut (tgt := 317) hx hb d_MD_isAtom_41 (by rw [hz41]; decide) (by decide) ?_
    refine lv_iload hx hb d_MD_isAtom_317 (lv_at hl 2 rfl) ?_
    refine lv_aload_n hx hb d_MD_isAtom_319 rfl (lv_at hl 4 rfl) ?_
    refine va_get (D := D) (ci := 8) (v := .ref aFi) (C := R_MD) (T := F_MD) (N := 26) hx hb hts in_MD hown hK hP 0 rfl rfl 24 (by decide) (hts _ k_757) (fun _ h9 => h9) rfl d_MD_isAtom_320 ?_
    refine lv_iload_n hx hb d_MD_isAtom_323 rfl (lv_at hl 5 rfl) ?_
    refine x_iald hx hb hK hP 4 0 rfl rfl (a1) rfl (by omega) (by omega) d_MD_isAtom_324 ?_
    refine z_top (show _ = iI (fi (a1)) from rfl) ?_
    refine z_icmp_lt (tgt := 343) hx hb d_MD_isAtom_325 (by decide) ⟨by omega, by omega⟩ ⟨by omega, by omega⟩ (fun h325 => ?_) (fun h325 => ?_)
    · refine z_iconst hx hb d_MD_isAtom_343 ?_
      have e9 : atF 26 fi se a1 d = false := by unfold atF; rw [if_neg (c := (26 : Int) = 20) (by decide), if_neg (c := (26 : Int) = 21) (by decide), if_neg (c := (26 : Int) = 22) (by decide), if_neg (c := (26 : Int) = 23) (by decide), if_neg (c := (26 : Int) = 24) (by decide), if_neg (c := (26 : Int) = 25) (by decide), if_pos h325]
      exact ret _ 344 false d_MD_isAtom_344 ((congrArg (fun q9 => bI q9) e9).symm)
    · refine lv_iload hx hb d_MD_isAtom_328 (lv_at hl 2 rfl) ?_
      refine lv_aload_n hx hb d_MD_isAtom_330 rfl (lv_at hl 4 rfl) ?_
      refine va_get (D := D) (ci := 8) (v := .ref aSe) (C := R_MD) (T := F_MD) (N := 26) hx hb hts in_MD hown hK hP 0 rfl rfl 25 (by decide) (hts _ k_758) (fun _ h9 => h9) rfl d_MD_isAtom_331 ?_
      refine lv_iload_n hx hb d_MD_isAtom_334 rfl (lv_at hl 5 rfl) ?_
      refine x_iald hx hb hK hP 5 0 rfl rfl (a1) rfl (by omega) (by omega) d_MD_isAtom_335 ?_
      refine z_top (show _ = iI (se (a1)) from rfl) ?_
      refine z_icmp_gt (tgt := 343) hx hb d_MD_isAtom_336 (by decide) ⟨by omega, by omega⟩ ⟨by omega, by omega⟩ (fun h336 => ?_) (fun h336 => ?_)
      · refine z_iconst hx hb d_MD_isAtom_343 ?_
        have e9 : atF 26 fi se a1 d = false := by unfold atF; rw [if_neg (c := (26 : Int) = 20) (by decide), if_neg (c := (26 : Int) = 21) (by decide), if_neg (c := (26 : Int) = 22) (by decide), if_neg (c := (26 : Int) = 23) (by decide), if_neg (c := (26 : Int) = 24) (by decide), if_neg (c := (26 : Int) = 25) (by decide), if_neg h325, if_pos h336]
        exact ret _ 344 false d_MD_isAtom_344 ((congrArg (fun q9 => bI q9) e9).symm)
      · refine z_iconst hx hb d_MD_isAtom_339 ?_
        refine lv_goto (tgt := 344) hx hb d_MD_isAtom_340 (by decide) ?_
        have e9 : atF 26 fi se a1 d = true := by unfold atF; rw [if_neg (c := (26 : Int) = 20) (by decide), if_neg (c := (26 : Int) = 21) (by decide), if_neg (c := (26 : Int) = 22) (by decide), if_neg (c := (26 : Int) = 23) (by decide), if_neg (c := (26 : Int) = 24) (by decide), if_neg (c := (26 : Int) = 25) (by decide), if_neg h325, if_neg h336]
        exact ret _ 344 true d_MD_isAtom_344 ((congrArg (fun q9 => bI q9) e9).symm)
