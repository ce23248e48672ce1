theorem bI_T {b : Bool} (h : b = true) : iI 1 = bI b := by rw [h]; rfl
theorem bI_F {b : Bool} (h : b = false) : iI 0 = bI b := by rw [h]; rfl
theorem iI_shr (d : Nat) (z : Int) (k P : Nat) (hs : ((iI z &&& 31).toBitVec.smod 32).toNat = k) (hP : 2 ^ k = P) (hd : d < 2 ^ 31) : iI (d : Int) >>> (iI z &&& 31) = iI ((d / P : Nat) : Int) := by
  rw [iI_nat, iI_nat, pk_shrN hd _ k hs, hP]
theorem iI_and (d : Nat) (z : Int) (k P : Nat) (hm : (iI z).toBitVec.toNat = 2 ^ k - 1) (hP : 2 ^ k = P) (hd : d < 2 ^ 32) : iI (d : Int) &&& iI z = iI ((d % P : Nat) : Int) := by
  rw [iI_nat, iI_nat, pk_andN hd k hm, hP]
theorem iI_bit (n : Nat) (z : Int) (k : Nat) (hs : ((iI z &&& 31).toBitVec.smod 32).toNat = k) (hn : n < 2 ^ 31) : (iI (n : Int) >>> (iI z &&& 31)) &&& iI 1 = iI ((n / 2 ^ k % 2 : Nat) : Int) := by
  rw [iI_shr n z k (2 ^ k) hs rfl hn]
  exact iI_and (n / 2 ^ k) 1 1 2 (by decide) (by decide) (by have := Nat.div_le_self n (2 ^ k); omega)
/-- bit j of a long -/
def lb (w : Int64) (j : Nat) : Bool := w.toBitVec.getLsbD j
theorem lb_sh {w : Int64} {j : Nat} (hj : j < 64) : (((w.toUInt64 >>> ((iI (j : Int)).toInt64.toUInt64 &&& Int64.toUInt64 63)).toInt64 &&& 1) = 0) ↔ lb w j = false := by
  rw [iI_nat]
  exact ts_bit hj (by rw [wb_cu j hj]; exact u_tn (by omega))
theorem lb_raw (w : Int64) {j : Nat} (hj : j < 64) : ((w.toUInt64 >>> ((iI (j : Int)).toInt64.toUInt64 &&& Int64.toUInt64 63)).toInt64 &&& 1) = if lb w j then 1 else 0 := by
  by_cases h : lb w j = true
  · rw [if_pos h]
    obtain ⟨n, hn, rfl⟩ := wb_of w
    have hb := wb_bit hn hj
    rw [iI_nat, hb]
    have h0 : ¬ ((((lN n).toUInt64 >>> ((iI (j : Int)).toInt64.toUInt64 &&& Int64.toUInt64 63)).toInt64 &&& 1) = 0) := fun q => by
      have := (lb_sh hj).mp q
      rw [this] at h
      cases h
    rw [iI_nat, hb] at h0
    have h2 : n / 2 ^ j % 2 = 0 ∨ n / 2 ^ j % 2 = 1 := by omega
    rcases h2 with h2 | h2
    · exact absurd (by rw [h2]; rfl) h0
    · rw [h2]; rfl
  · rw [if_neg h]
    exact (lb_sh hj).mpr (by simpa using h)
def dsb (f : Nat → Int64) (d : Nat) : Bool := lb (f (d / 64)) (d % 64)
theorem dsb_t (f : Nat → Int64) (d : Nat) (h : ¬ ((((f (d / 64)).toUInt64 >>> ((iI ((d % 64 : Nat) : Int)).toInt64.toUInt64 &&& Int64.toUInt64 63)).toInt64 &&& 1) = 0)) : dsb f d = true := by
  rw [lb_sh (Nat.mod_lt _ (by decide))] at h
  unfold dsb
  simpa using h
theorem dsb_f (f : Nat → Int64) (d : Nat) (h : ((((f (d / 64)).toUInt64 >>> ((iI ((d % 64 : Nat) : Int)).toInt64.toUInt64 &&& Int64.toUInt64 63)).toInt64 &&& 1) = 0)) : dsb f d = false := by
  rw [lb_sh (Nat.mod_lt _ (by decide))] at h
  exact h
def dsAdd (f : Nat → Int64) (d : Nat) : Nat → Int64 := vp_updL f (d / 64) ((f (d / 64)) ||| ((1 : Int64) <<< ((iI ((d % 64 : Nat) : Int)).toInt64 &&& 63)))
def dsJoin (f g : Nat → Int64) (n : Nat) : Nat → Int64 := fun j => if j < n then f j ||| g j else f j
theorem dsJoin_0 (f g : Nat → Int64) : dsJoin f g 0 = f := by
  funext j
  simp [dsJoin]
theorem dsJoin_s (f g : Nat → Int64) (i : Nat) : vp_updL (dsJoin f g i) i ((dsJoin f g i i) ||| (g i)) = dsJoin f g (i + 1) := by
  funext j
  by_cases h : j = i
  · subst h
    simp [vp_updL, dsJoin]
  · have h2 : j < i + 1 ↔ j < i := by omega
    simp [vp_updL, dsJoin, h, h2]
def ngL (b : Bool) (x : Int64) : Int64 := if b then x ^^^ (-1) else x
def dsKeep (f g : Nat → Int64) (b : Bool) (n : Nat) : Nat → Int64 := fun j => if j < n then f j &&& ngL b (g j) else f j
theorem dsKeep_0 (f g : Nat → Int64) (b : Bool) : dsKeep f g b 0 = f := by
  funext j
  simp [dsKeep]
theorem dsKeep_s (f g : Nat → Int64) (b : Bool) (i : Nat) : vp_updL (dsKeep f g b i) i ((dsKeep f g b i i) &&& (ngL b (g i))) = dsKeep f g b (i + 1) := by
  funext j
  by_cases h : j = i
  · subst h
    simp [vp_updL, dsKeep]
  · have h2 : j < i + 1 ↔ j < i := by omega
    simp [vp_updL, dsKeep, h, h2]
def rws (a b c d : Nat) : Nat → Option Nat := fun i => match i with
  | 0 => some a
  | 1 => some b
  | 2 => some c
  | 3 => some d
  | _ => none
def bN (b : Bool) : Int := if b then 1 else 0
def cnGet (a b c d : Int64) (j : Nat) : Int := bN (lb a j) + 2 * bN (lb b j) + 4 * bN (lb c j) + 8 * bN (lb d j)
theorem cn_get_raw (a b c d : Int64) (j : Nat) (hj : j < 64) :
    ((((iI 0 ||| ((((a.toUInt64 >>> ((iI (j : Int)).toInt64.toUInt64 &&& Int64.toUInt64 63)).toInt64 &&& 1).toInt32) <<< (iI 0 &&& 31))) |||
      ((((b.toUInt64 >>> ((iI (j : Int)).toInt64.toUInt64 &&& Int64.toUInt64 63)).toInt64 &&& 1).toInt32) <<< (iI 1 &&& 31))) |||
      ((((c.toUInt64 >>> ((iI (j : Int)).toInt64.toUInt64 &&& Int64.toUInt64 63)).toInt64 &&& 1).toInt32) <<< (iI 2 &&& 31))) |||
      ((((d.toUInt64 >>> ((iI (j : Int)).toInt64.toUInt64 &&& Int64.toUInt64 63)).toInt64 &&& 1).toInt32) <<< (iI 3 &&& 31))) = iI (cnGet a b c d j) := by
  rw [lb_raw a hj, lb_raw b hj, lb_raw c hj, lb_raw d hj]
  unfold cnGet
  cases lb a j <;> cases lb b j <;> cases lb c j <;> cases lb d j <;> decide
def pk (n b : Nat) (x : Int64) : Int64 := if n / 2 ^ b % 2 = 0 then x ^^^ (-1) else x
theorem pk_t {n b : Nat} {x : Int64} (h : ((n / 2 ^ b % 2 : Nat) : Int) = 0) : pk n b x = x ^^^ (-1) := by
  unfold pk
  rw [if_pos (by omega)]
theorem pk_f {n b : Nat} {x : Int64} (h : ¬ ((n / 2 ^ b % 2 : Nat) : Int) = 0) : pk n b x = x := by
  unfold pk
  rw [if_neg (by omega)]
def cnWith (a b c d : Int64) (n : Nat) : Int64 := ((((281474976710655) &&& (pk n 0 a)) &&& (pk n 1 b)) &&& (pk n 2 c)) &&& (pk n 3 d)
def cnAny (a b c d : Int64) : Int64 := (((0 ||| a) ||| b) ||| c) ||| d
def yIx (z : Int) : Int := if z < 366 then 0 else (z - 1) / 365
theorem yIx_0 {z : Int} (h : ¬ 366 ≤ z) : yIx z = 0 := if_pos (by omega)
theorem yIx_1 {z : Int} (h : 366 ≤ z) : yIx z = (z - 1) / 365 := if_neg (by omega)
def wDay (z : Int) : Int := (z + 5) % 7 + 1
def fDay (y : Int) : Int := 365 * (y - 2000) + (if 2000 < y then 1 else 0)
def lonG (j : Nat) : Int := match j with
  | 1 => 31
  | 2 => 29
  | 3 => 31
  | 4 => 30
  | 5 => 31
  | 6 => 30
  | 7 => 31
  | 8 => 31
  | 9 => 30
  | 10 => 31
  | 11 => 30
  | 12 => 31
  | _ => 0
def mLen (y m : Int) : Int := if m < 1 ∨ 12 < m then 0 else if m = 2 ∧ ¬ y = 2000 then 28 else lonG m.toNat
theorem mLen_0 {y m : Int} (h : m < 1 ∨ 12 < m) : mLen y m = 0 := if_pos h
theorem mLen_28 {y m : Int} (h : m = 2) (h2 : ¬ y = 2000) : mLen y m = 28 := by
  unfold mLen
  rw [if_neg (by omega), if_pos ⟨h, h2⟩]
theorem mLen_L {y m : Int} (h : 1 ≤ m) (h1 : m ≤ 12) (h2 : ¬ (m = 2 ∧ ¬ y = 2000)) : mLen y m = lonG m.toNat := by
  unfold mLen
  rw [if_neg (by omega), if_neg h2]
theorem lonG_le (j : Nat) : 0 ≤ lonG j ∧ lonG j ≤ 31 := by
  unfold lonG
  split <;> decide
theorem mLen_le (y m : Int) : 0 ≤ mLen y m ∧ mLen y m ≤ 31 := by
  unfold mLen
  have := lonG_le m.toNat
  split
  · decide
  · split
    · decide
    · exact this
/-- months 1 .. n of a year, in days -/
def mSum (y : Int) : Nat → Int
  | 0 => 0
  | n + 1 => mSum y n + mLen y ((n : Int) + 1)
theorem mSum_s (y : Int) (n : Nat) : mSum y (n + 1) = mSum y n + mLen y ((n : Int) + 1) := rfl
theorem mSum_le (y : Int) (n : Nat) : 0 ≤ mSum y n ∧ mSum y n ≤ 31 * n := by
  induction n with
  | zero => exact ⟨Int.le_refl _, Int.le_refl _⟩
  | succ n ih =>
    have := mLen_le y ((n : Int) + 1)
    rw [mSum_s]
    omega
def dNum (y m o : Int) : Int := if y < 2000 ∨ 2004 ≤ y ∨ o < 1 ∨ mLen y m < o then -1 else fDay y + o - 1 + mSum y (m - 1).toNat
theorem dNum_out {y m o : Int} (h : y < 2000 ∨ 2004 ≤ y ∨ o < 1 ∨ mLen y m < o) : dNum y m o = -1 := if_pos h
theorem dNum_in {y m o : Int} (h : ¬ (y < 2000 ∨ 2004 ≤ y ∨ o < 1 ∨ mLen y m < o)) : dNum y m o = fDay y + o - 1 + mSum y (m - 1).toNat := if_neg h
theorem mLen_pos {y m : Int} (h : 1 ≤ mLen y m) : 1 ≤ m ∧ m ≤ 12 := by
  by_cases q : m < 1 ∨ 12 < m
  · rw [mLen_0 q] at h; omega
  · omega
theorem fDay_bd {y : Int} (h : 1999 ≤ y) (h2 : y ≤ 2004) : -365 ≤ fDay y ∧ fDay y ≤ 1461 := by
  unfold fDay
  split <;> omega
theorem dNum_bd (y m o : Int) : -1 ≤ dNum y m o ∧ dNum y m o ≤ 2000 := by
  by_cases h : y < 2000 ∨ 2004 ≤ y ∨ o < 1 ∨ mLen y m < o
  · rw [dNum_out h]; omega
  · rw [dNum_in h]
    have h1 := fDay_bd (y := y) (by omega) (by omega)
    have h2 := mSum_le y (m - 1).toNat
    have h3 := mLen_le y m
    have h4 := mLen_pos (y := y) (m := m) (by omega)
    have h5 : 0 ≤ fDay y := by unfold fDay; split <;> omega
    omega
def lSun (y m : Int) : Int := dNum y m (mLen y m) - wDay (dNum y m (mLen y m)) % 7
def weekZ (z : Int) : Int := if z - wDay z + 4 < 0 then 100 * 1999 + (z - wDay z + 4 - fDay 1999) / 7 + 1 else 100 * (2000 + yIx (z - wDay z + 4)) + (z - wDay z + 4 - fDay (2000 + yIx (z - wDay z + 4))) / 7 + 1
theorem wDay_bd {z : Int} (h : -5 ≤ z) : 1 ≤ wDay z ∧ wDay z ≤ 7 := by
  unfold wDay
  omega
theorem yIx_bd {t : Int} (h : 0 ≤ t) (h2 : t ≤ 1464) : 0 ≤ yIx t ∧ yIx t ≤ 4 ∧ fDay (2000 + yIx t) ≤ t := by
  unfold yIx fDay
  split
  · simp; omega
  · split <;> omega
theorem yIx_bd3 {t : Int} (h : 0 ≤ t) (h2 : t ≤ 1460) : 0 ≤ yIx t ∧ yIx t ≤ 3 := by
  unfold yIx
  split <;> omega
theorem yIx_nn (t : Int) : 0 ≤ yIx t := by
  unfold yIx
  split <;> omega
/-- the feast of a year, 100 * month + day -/
def fE (y : Int) : Int :=
  let a := y % 19
  let b := y / 100
  let c := y % 100
  let d := b / 4
  let e := b % 4
  let f := (b + 8) / 25
  let g := (b - f + 1) / 3
  let h := (19 * a + b - d - g + 15) % 30
  let i := c / 4
  let k := c % 4
  let l := (32 + 2 * e + 2 * i - h - k) % 7
  let m := (a + 11 * h + 22 * l) / 451
  let s := h + l - 7 * m + 114
  100 * (s / 31) + s % 31 + 1
def feastZ (y : Int) : Int := if y < 1900 ∨ 2299 < y then -1 else fE y
theorem feastZ_out {y : Int} (h : y < 1900 ∨ 2299 < y) : feastZ y = -1 := if_pos h
theorem feastZ_in {y : Int} (h : ¬ (y < 1900 ∨ 2299 < y)) : feastZ y = fE y := if_neg h
/-- month and day of a place in a year -/
def mFind (y : Int) : Nat → Int → Int → Int × Int
  | 0, m, q => (m, q + 1)
  | n + 1, m, q => if q < mLen y m then (m, q + 1) else mFind y n (m + 1) (q - mLen y m)
def dateZ (d : Nat) : Int :=
  let y := 2000 + yIx (d : Int)
  let r := mFind y 11 1 ((d : Int) - fDay y)
  10000 * y + 100 * r.1 + r.2
def dateOK (d : Nat) : Bool := decide (20000101 ≤ dateZ d) && decide (dateZ d ≤ 20031231) && decide (1 ≤ dateZ d % 100) && decide (dateZ d % 100 ≤ 31) && decide (1 ≤ dateZ d / 100 % 100) && decide (dateZ d / 100 % 100 ≤ 12) && decide (dateZ d / 10000 = 2000 + yIx (d : Int))
theorem dateOK_all : (List.range 1461).all dateOK = true := by decide +kernel
theorem dateZ_bd {d : Nat} (h : d < 1461) : 20000101 ≤ dateZ d ∧ dateZ d ≤ 20031231 ∧ 1 ≤ dateZ d % 100 ∧ dateZ d % 100 ≤ 31 ∧ 1 ≤ dateZ d / 100 % 100 ∧ dateZ d / 100 % 100 ≤ 12 ∧ dateZ d / 10000 = 2000 + yIx (d : Int) := by
  have h1 := List.all_eq_true.mp dateOK_all d (List.mem_range.mpr h)
  simpa [dateOK, and_assoc] using h1
def hasRk (d : Nat) (r : Int) : Bool := if 0 < r then decide ((dateZ d % 100 - 1) / 7 + 1 = r) else decide (mLen (dateZ d / 10000) (dateZ d / 100 % 100) < dateZ d % 100 + 7)
/-- the feasts' days, and those that lose or double an hour, by year -/
def feaZ (i : Nat) : Int := dNum (2000 + i) (fE (2000 + i) / 100) (fE (2000 + i) % 100)
def losZ (i : Nat) : Int := lSun (2000 + i) 3
def dblZ (i : Nat) : Int := lSun (2000 + i) 10
def lose (on : Bool) (d : Nat) : Bool := on && decide (losZ (yIx (d : Int)).toNat = (d : Int))
def dble (on : Bool) (d : Nat) : Bool := on && decide (dblZ (yIx (d : Int)).toNat = (d : Int))
def shf (z : Int) : Bool := decide (4 ≤ z) && decide (z < 6)
def cOf (on : Bool) (d : Nat) : Int64 := if lose on d then 281474976710607 else 281474976710655
def cBel (q : Nat) : Int64 := ((1 : Int64) <<< ((iI ((q : Int))).toInt64 &&& 63)) - (1)
def cBeh (on : Bool) (d q : Nat) : Int64 := if shf (q : Int) && dble on d then ((cOf on d) &&& ((cBel (q + 1)) ^^^ ((-1 : Int64)))) ||| (((48 : Int64)) &&& (((1 : Int64) <<< ((iI ((q : Int))).toInt64 &&& 63)) ^^^ ((-1 : Int64)))) else (cOf on d) &&& ((cBel (q + 1)) ^^^ ((-1 : Int64)))
def summ (on : Bool) (d : Nat) : Bool := on && (decide (losZ (yIx (d : Int)).toNat < (d : Int)) && decide ((d : Int) ≤ dblZ (yIx (d : Int)).toNat))
def stZ (on : Bool) (d : Nat) : Int := 48 * (d : Int) - (if summ on d then 2 else 0)
def tmZ (on : Bool) (d : Nat) (q : Int) (sec : Bool) : Int :=
  if 6 ≤ q ∧ lose on d = true then stZ on d + q - 2
  else if (6 ≤ q ∨ (sec = true ∧ shf q = true)) ∧ dble on d = true then stZ on d + q + 2 else stZ on d + q
def ldOK (i : Nat) : Bool := decide (0 ≤ losZ i) && decide (losZ i ≤ 1460) && decide (0 ≤ dblZ i) && decide (dblZ i ≤ 1460) && decide (0 ≤ feaZ i) && decide (feaZ i ≤ 1460)
theorem ldOK_all : (List.range 4).all ldOK = true := by decide +kernel
theorem ld_bd {i : Nat} (h : i < 4) : 0 ≤ losZ i ∧ losZ i ≤ 1460 ∧ 0 ≤ dblZ i ∧ dblZ i ≤ 1460 ∧ 0 ≤ feaZ i ∧ feaZ i ≤ 1460 := by
  have h1 := List.all_eq_true.mp ldOK_all i (List.mem_range.mpr h)
  simpa [ldOK, and_assoc] using h1
theorem yIx_ld {d : Nat} (h : d < 1461) : (yIx (d : Int)).toNat < 4 := by
  have := yIx_bd3 (t := (d : Int)) (by omega) (by omega)
  omega
theorem lose_bd {on : Bool} {d : Nat} (h : d < 1461) : rg (losZ (yIx (d : Int)).toNat) ∧ rg (dblZ (yIx (d : Int)).toNat) := by
  have := ld_bd (yIx_ld h)
  exact ⟨⟨by omega, by omega⟩, ⟨by omega, by omega⟩⟩
theorem stZ_bd {on : Bool} {d : Nat} : 48 * (d : Int) - 2 ≤ stZ on d ∧ stZ on d ≤ 48 * (d : Int) := by
  unfold stZ
  split <;> omega
def tellD (on : Bool) (z : Int) : Nat := if (z / 48).toNat < 1460 ∧ stZ on ((z / 48).toNat + 1) ≤ z then (z / 48).toNat + 1 else (z / 48).toNat
def tellQ (on : Bool) (d : Nat) (q : Int) : Int :=
  if lose on d = true ∧ 4 ≤ q then 1000 * (d : Int) + 10 * (q + 2)
  else if ¬ dble on d = true ∨ q < 4 then 1000 * (d : Int) + 10 * q
  else if q < 6 then 1000 * (d : Int) + 10 * q + 1
  else 1000 * (d : Int) + 10 * (q - 2) + (if shf (q - 2) then 2 else 0)
/-- java.lang.Long.bitCount, as it is written -/
def bcRaw (x : Int64) : Int32 :=
  let sh := fun (w : Int64) (n : Int) => (w.toUInt64 >>> ((iI n).toInt64.toUInt64 &&& Int64.toUInt64 63)).toInt64
  let a := x - (sh x 1 &&& 6148914691236517205)
  let b := (a &&& 3689348814741910323) + (sh a 2 &&& 3689348814741910323)
  let c := (b + sh b 4) &&& 1085102592571150095
  let d := c + sh c 8
  let e := d + sh d 16
  let f := e + sh e 32
  f.toInt32 &&& iI 127
def tmsRaw (on : Bool) (d : Nat) (w : Int64) : Int32 := if dble on d then bcRaw (w &&& cOf on d) + bcRaw (w &&& 48) else bcRaw (w &&& cOf on d)
def fillF (f : Nat → Int64) (v : Int64) (n : Nat) : Nat → Int64 := fun j => if j < n then v else f j
theorem fillF_0 (f : Nat → Int64) (v : Int64) : fillF f v 0 = f := by
  funext j
  simp [fillF]
theorem fillF_s (f : Nat → Int64) (v : Int64) (i : Nat) : vp_updL (fillF f v i) i v = fillF f v (i + 1) := by
  funext j
  by_cases h : j = i
  · subst h
    simp [vp_updL, fillF]
  · have h2 : j < i + 1 ↔ j < i := by omega
    simp [vp_updL, fillF, h, h2]
theorem cellL {cA : ClassId} {n : Nat} {f g : Nat → Int64} (h : ∀ j, j < n → f j = g j) : vp_cell cA (n, .inr (.inl f)) = vp_cell cA (n, .inr (.inl g)) := by
  rw [vp_cell_l, vp_cell_l]
  unfold arrV
  congr 1
  apply Array.ext
  · simp
  · intro i h1 h2
    simp at h1
    simp [h i h1]
theorem P_fill {D : va_G} {cl : List vw_C} {a : Nat} {cA : ClassId} {n : Nat} {f : Nat → Int64} {v : Int64} {H : Heap} (h : va_P D cl [(a, .inl (cA, n, .inr (.inl (fillF f v n))))] H) : va_P D cl [(a, .inl (cA, n, .inr (.inl (fun _ => v))))] H := by
  intro j q hq
  have h0 := h 0 _ rfl
  match j, hq with
  | 0, hq =>
    cases hq
    show H[a]? = some (vp_cell cA (n, .inr (.inl (fun _ => v))))
    rw [← cellL (f := fillF f v n) (fun j hj => by simp [fillF, hj])]
    exact h0
theorem D_one {A : Nat → Prop} {a : Nat} {e e' : va_E} (h : va_D A [(a, e)]) : va_D A [(a, e')] := by
  refine ⟨fun i j p q hi hj _ => ?_, fun j q hq => ?_⟩
  · match i, j, hi, hj with
    | 0, 0, _, _ => rfl
  · match j, hq with
    | 0, hq => cases hq; exact h.2 0 (a, e) rfl
/-- what put leaves in one row -/
def putF (n b : Nat) (f : Nat → Int64) (d : Nat) (x : Int64) : Nat → Int64 := vp_updL f d (if n / 2 ^ b % 2 = 0 then f d &&& (x ^^^ (-1)) else f d ||| x)
theorem putF_0 {n b : Nat} {f : Nat → Int64} {d : Nat} {x : Int64} (h : ((n / 2 ^ b % 2 : Nat) : Int) = 0) : putF n b f d x = vp_updL f d (f d &&& (x ^^^ (-1))) := by
  unfold putF
  rw [if_pos (by omega)]
theorem putF_1 {n b : Nat} {f : Nat → Int64} {d : Nat} {x : Int64} (h : ¬ ((n / 2 ^ b % 2 : Nat) : Int) = 0) : putF n b f d x = vp_updL f d (f d ||| x) := by
  unfold putF
  rw [if_neg (by omega)]
/-- what the statics hold, and the words of nest mates -/
def SX (A : Nat → Prop) (U : State) (H : Heap) : Prop := (∃ t : Nat, va_Z R_AL "LONGEST" "[I" (.ref t) A U H ∧ va_T .int t 13 (fun j => .int (iI (lonG j))) A U H) ∧ ∀ w ∈ NESTW, va_Nw w U
theorem nest_warm {w : Cond} (hw : isNest w = true) {s U : State} (hW : s.WarmedH U.vm) (h : va_Nw w s) : va_Nw w U := by
  cases w <;> first | exact va_Nw.warmF hW h | exact va_Nw.warmM hW h | cases hw
theorem nest_same {w : Cond} (hw : isNest w = true) {s U : State} (hv : s.vm = U.vm) (h : va_Nw w s) : va_Nw w U := by
  cases w <;> first | exact va_Nw.same rfl hv h | cases hw
theorem SX.warm {A : Nat → Prop} {s U : State} {H : Heap} (h : SX A s H) (hW : s.WarmedH U.vm) : SX A U H := by
  obtain ⟨⟨t, h1, h2⟩, h3⟩ := h
  exact ⟨⟨t, h1.moved hW.alike, h2.moved hW.alike⟩, fun w hw => nest_warm (List.mem_filter.mp hw).2 hW (h3 w hw)⟩
theorem SX.calling {A : Nat → Prop} {U : State} {g : JFrame} {mk : MethodId} {a : Array Value} (h : SX A U U.heap) : SX A (U.calling g mk a) (U.calling g mk a).heap := by
  obtain ⟨⟨t, h1, h2⟩, h3⟩ := h
  exact ⟨⟨t, h1.moved (Vm.Alike.refl U.vm), h2.moved (Vm.Alike.refl U.vm)⟩, fun w hw => nest_same (s := U) (List.mem_filter.mp hw).2 rfl (h3 w hw)⟩
theorem SX.mono {A B : Nat → Prop} {s : State} {H0 H : Heap} {locs : List Loc} (h : SX A s H0) (hS : va_S A H0 H locs) (hBA : ∀ q, B q → A q) : SX B s H := by
  obtain ⟨⟨t, h1, h2⟩, h3⟩ := h
  exact ⟨⟨t, (h1.kept hS.2.1).narrow hBA, (h2.kept hS.2.1).narrow hBA⟩, h3⟩
/-- where a read-only method begins -/
abbrev PRO (D : va_G) (k : Nat → ClassId) (ws : va_W) : State → Prop := fun U => va_P D classes ws U.heap ∧ va_K D classes (TY k) U ∧ SX nA U U.heap
/-- where a method that writes begins, and its world behind it -/
abbrev PRW (D : va_G) (k : Nat → ClassId) (ws : va_W) (sz : Nat) : State → Prop := fun U => U.heap.size = sz ∧ va_P D classes ws U.heap ∧ va_K D classes (TY k) U ∧ va_D (fun _ => True) ws ∧ SX (va_A ws sz) U U.heap
abbrev BRW (D : va_G) (ws : va_W) (sz : Nat) (w1 : va_W) : State → Prop := fun t => va_P D classes w1 t.heap ∧ va_D (va_A ws sz) w1
abbrev rm_AL_init : Room := { frames := 2, cells := 0, slots := 0, locals := 45 }
abbrev rm_AL_monthLength : Room := { frames := 0, cells := 0, slots := 0, locals := 0 }
abbrev rm_AL_feastDate : Room := { frames := 0, cells := 0, slots := 0, locals := 0 }
abbrev rm_AL_dayNumber : Room := { frames := 1, cells := 0, slots := 0, locals := 21 }
abbrev rm_AL_firstDay : Room := { frames := 0, cells := 0, slots := 0, locals := 0 }
abbrev rm_AL_date : Room := { frames := 0, cells := 0, slots := 0, locals := 0 }
abbrev rm_AL_monthAndDay : Room := { frames := 0, cells := 0, slots := 0, locals := 0 }
abbrev rm_AL_feastDay : Room := { frames := 1, cells := 0, slots := 0, locals := 20 }
abbrev rm_RC_yearIndex : Room := { frames := 0, cells := 0, slots := 0, locals := 0 }
abbrev rm_AL_hasRank : Room := { frames := 1, cells := 0, slots := 0, locals := 21 }
abbrev rm_AL_weekday : Room := { frames := 0, cells := 0, slots := 0, locals := 0 }
abbrev rm_AL_lastSunday : Room := { frames := 2, cells := 0, slots := 0, locals := 45 }
abbrev rm_AL_week : Room := { frames := 1, cells := 0, slots := 0, locals := 20 }
abbrev rm_AT_init : Room := { frames := 1, cells := 0, slots := 0, locals := 20 }
abbrev rm_AT_become : Room := { frames := 0, cells := 0, slots := 0, locals := 0 }
abbrev rm_AT_collect : Room := { frames := 3, cells := 0, slots := 0, locals := 65 }
abbrev rm_DS_clear : Room := { frames := 1, cells := 0, slots := 0, locals := 24 }
abbrev rm_JA_fill : Room := { frames := 0, cells := 0, slots := 0, locals := 0 }
abbrev rm_AT_matches : Room := { frames := 2, cells := 0, slots := 0, locals := 44 }
abbrev rm_AT_isBetween : Room := { frames := 0, cells := 0, slots := 0, locals := 0 }
abbrev rm_DS_add : Room := { frames := 0, cells := 0, slots := 0, locals := 0 }
abbrev rm_CN_init : Room := { frames := 1, cells := 0, slots := 0, locals := 20 }
abbrev rm_CN_clear : Room := { frames := 1, cells := 0, slots := 0, locals := 24 }
abbrev rm_CN_put : Room := { frames := 0, cells := 0, slots := 0, locals := 0 }
abbrev rm_CN_get : Room := { frames := 0, cells := 0, slots := 0, locals := 0 }
abbrev rm_CN_cellsWith : Room := { frames := 0, cells := 0, slots := 0, locals := 0 }
abbrev rm_CN_cellsAboveZero : Room := { frames := 0, cells := 0, slots := 0, locals := 0 }
abbrev rm_CN_cellsUnlike : Room := { frames := 0, cells := 0, slots := 0, locals := 0 }
abbrev rm_DS_init : Room := { frames := 1, cells := 0, slots := 0, locals := 20 }
abbrev rm_DS_fill : Room := { frames := 1, cells := 0, slots := 0, locals := 24 }
abbrev rm_DS_has : Room := { frames := 0, cells := 0, slots := 0, locals := 0 }
abbrev rm_DS_join : Room := { frames := 0, cells := 0, slots := 0, locals := 0 }
abbrev rm_DS_keep : Room := { frames := 0, cells := 0, slots := 0, locals := 0 }
abbrev rm_PL_init : Room := { frames := 2, cells := 0, slots := 0, locals := 40 }
abbrev rm_PL_clear : Room := { frames := 2, cells := 0, slots := 0, locals := 45 }
abbrev rm_PL_lay : Room := { frames := 1, cells := 0, slots := 0, locals := 25 }
abbrev rm_RC_cellsBelow : Room := { frames := 0, cells := 0, slots := 0, locals := 0 }
abbrev rm_RR_init : Room := { frames := 2, cells := 0, slots := 0, locals := 41 }
abbrev rm_RR_read : Room := { frames := 6, cells := 0, slots := 0, locals := 135 }
abbrev rm_RR_readRule : Room := { frames := 5, cells := 0, slots := 0, locals := 113 }
abbrev rm_RR_takeNumber : Room := { frames := 0, cells := 0, slots := 0, locals := 0 }
abbrev rm_RR_take : Room := { frames := 0, cells := 0, slots := 0, locals := 0 }
abbrev rm_RR_readSpan : Room := { frames := 2, cells := 0, slots := 0, locals := 50 }
abbrev rm_RR_takeHalfHour : Room := { frames := 1, cells := 0, slots := 0, locals := 25 }
abbrev rm_RR_readMatcher : Room := { frames := 4, cells := 0, slots := 0, locals := 90 }
abbrev rm_RR_openMatcher : Room := { frames := 2, cells := 0, slots := 0, locals := 44 }
abbrev rm_RR_takeNots : Room := { frames := 1, cells := 0, slots := 0, locals := 21 }
abbrev rm_RR_readAtom : Room := { frames := 3, cells := 0, slots := 0, locals := 69 }
abbrev rm_RR_readWeekdays : Room := { frames := 1, cells := 0, slots := 0, locals := 25 }
abbrev rm_RR_readRankedWeekday : Room := { frames := 1, cells := 0, slots := 0, locals := 25 }
abbrev rm_RR_readDates : Room := { frames := 2, cells := 0, slots := 0, locals := 47 }
abbrev rm_RR_takeMonthAndDay : Room := { frames := 1, cells := 0, slots := 0, locals := 25 }
abbrev rm_RR_readCycle : Room := { frames := 1, cells := 0, slots := 0, locals := 25 }
abbrev rm_RR_readFeast : Room := { frames := 1, cells := 0, slots := 0, locals := 25 }
abbrev rm_RR_readYears : Room := { frames := 1, cells := 0, slots := 0, locals := 25 }
abbrev rm_RR_closeMatchers : Room := { frames := 3, cells := 0, slots := 0, locals := 65 }
abbrev rm_RR_closeAll : Room := { frames := 2, cells := 0, slots := 0, locals := 44 }
abbrev rm_SH_init : Room := { frames := 3, cells := 0, slots := 0, locals := 67 }
abbrev rm_SH_loses : Room := { frames := 1, cells := 0, slots := 0, locals := 20 }
abbrev rm_SH_doubles : Room := { frames := 1, cells := 0, slots := 0, locals := 20 }
abbrev rm_SH_isShifted : Room := { frames := 0, cells := 0, slots := 0, locals := 0 }
abbrev rm_SH_isLost : Room := { frames := 2, cells := 0, slots := 0, locals := 41 }
abbrev rm_SH_cellsOf : Room := { frames := 2, cells := 0, slots := 0, locals := 41 }
abbrev rm_SH_cellsBehind : Room := { frames := 3, cells := 0, slots := 0, locals := 62 }
abbrev rm_SH_timesOf : Room := { frames := 3, cells := 0, slots := 0, locals := 62 }
abbrev rm_JL_bitCount : Room := { frames := 0, cells := 0, slots := 0, locals := 0 }
abbrev rm_SH_startOf : Room := { frames := 1, cells := 0, slots := 0, locals := 20 }
abbrev rm_SH_timeOf : Room := { frames := 2, cells := 0, slots := 0, locals := 43 }
abbrev rm_SH_tell : Room := { frames := 2, cells := 0, slots := 0, locals := 43 }
abbrev rm_RC_init : Room := { frames := 4, cells := 0, slots := 0, locals := 88 }
abbrev rm_RC_type : Room := { frames := 0, cells := 0, slots := 0, locals := 0 }
abbrev rm_RC_wipe : Room := { frames := 0, cells := 0, slots := 0, locals := 0 }
abbrev rm_RC_compile : Room := { frames := 8, cells := 0, slots := 0, locals := 172 }
abbrev rm_RC_needCalendar : Room := { frames := 7, cells := 0, slots := 0, locals := 151 }
abbrev rm_RC_shifts : Room := { frames := 0, cells := 0, slots := 0, locals := 0 }
abbrev rm_RC_at : Room := { frames := 9, cells := 0, slots := 0, locals := 196 }
abbrev rm_RC_planWithCell : Room := { frames := 8, cells := 0, slots := 0, locals := 173 }
abbrev rm_RC_needCell : Room := { frames := 7, cells := 0, slots := 0, locals := 151 }
abbrev rm_RC_compiledPlan : Room := { frames := 7, cells := 0, slots := 0, locals := 151 }
abbrev rm_RC_which : Room := { frames := 9, cells := 0, slots := 0, locals := 196 }
abbrev rm_RC_next : Room := { frames := 9, cells := 0, slots := 0, locals := 196 }
abbrev rm_RC_lowestCell : Room := { frames := 1, cells := 0, slots := 0, locals := 21 }
abbrev rm_RC_total : Room := { frames := 8, cells := 0, slots := 0, locals := 172 }
abbrev rm_RC_dayOf : Room := { frames := 2, cells := 0, slots := 0, locals := 45 }
abbrev rm_RC_dateOf : Room := { frames := 2, cells := 0, slots := 0, locals := 42 }
abbrev rm_RC_feast : Room := { frames := 1, cells := 0, slots := 0, locals := 33 }
abbrev rm_RC_elapsed : Room := { frames := 8, cells := 0, slots := 0, locals := 173 }
abbrev rm_RC_clock : Room := { frames := 3, cells := 0, slots := 0, locals := 66 }
abbrev rm_RC_compare : Room := { frames := 8, cells := 0, slots := 0, locals := 172 }
abbrev rm_RC_inside : Room := { frames := 8, cells := 0, slots := 0, locals := 172 }
abbrev rm_RC_dead : Room := { frames := 8, cells := 0, slots := 0, locals := 172 }
abbrev rm_RC_decidesSome : Room := { frames := 3, cells := 0, slots := 0, locals := 62 }
abbrev rm_RC_run : Room := { frames := 9, cells := 0, slots := 0, locals := 196 }
abbrev rm_RC_firstOfRun : Room := { frames := 3, cells := 0, slots := 0, locals := 63 }
abbrev rm_RC_lastOfRun : Room := { frames := 3, cells := 0, slots := 0, locals := 63 }
abbrev rm_MD_init : Room := { frames := 1, cells := 0, slots := 0, locals := 33 }
abbrev rm_MD_monthLength : Room := { frames := 0, cells := 0, slots := 0, locals := 0 }
abbrev rm_MD_feastOf : Room := { frames := 0, cells := 0, slots := 0, locals := 0 }
abbrev rm_MD_thrown : Room := { frames := 0, cells := 0, slots := 0, locals := 0 }
abbrev rm_MD_refused : Room := { frames := 0, cells := 0, slots := 0, locals := 0 }
abbrev rm_MD_weekday : Room := { frames := 0, cells := 0, slots := 0, locals := 0 }
abbrev rm_MD_week : Room := { frames := 1, cells := 0, slots := 0, locals := 20 }
abbrev rm_MD_find : Room := { frames := 0, cells := 0, slots := 0, locals := 0 }
abbrev rm_MD_isLastSunday : Room := { frames := 1, cells := 0, slots := 0, locals := 20 }
abbrev rm_MD_isLost : Room := { frames := 2, cells := 0, slots := 0, locals := 43 }
abbrev rm_MD_isTwice : Room := { frames := 2, cells := 0, slots := 0, locals := 43 }
abbrev rm_MD_push : Room := { frames := 0, cells := 0, slots := 0, locals := 0 }
abbrev rm_MD_isIn : Room := { frames := 0, cells := 0, slots := 0, locals := 0 }
abbrev rm_MD_emit : Room := { frames := 0, cells := 0, slots := 0, locals := 0 }
abbrev rm_MD_newAtom : Room := { frames := 1, cells := 0, slots := 0, locals := 21 }
abbrev rm_MD_take : Room := { frames := 4, cells := 0, slots := 0, locals := 99 }
abbrev rm_MD_beginRule : Room := { frames := 1, cells := 0, slots := 0, locals := 23 }
abbrev rm_MD_takeSpan : Room := { frames := 1, cells := 0, slots := 0, locals := 23 }
abbrev rm_MD_takeMatcher : Room := { frames := 3, cells := 0, slots := 0, locals := 64 }
abbrev rm_MD_beginOne : Room := { frames := 2, cells := 0, slots := 0, locals := 42 }
abbrev rm_MD_takeAtom : Room := { frames := 3, cells := 0, slots := 0, locals := 74 }
abbrev rm_MD_go : Room := { frames := 1, cells := 0, slots := 0, locals := 23 }
abbrev rm_MD_takeDates : Room := { frames := 2, cells := 0, slots := 0, locals := 48 }
abbrev rm_MD_takeCycle : Room := { frames := 2, cells := 0, slots := 0, locals := 48 }
abbrev rm_MD_takeYears : Room := { frames := 2, cells := 0, slots := 0, locals := 48 }
abbrev rm_MD_readAll : Room := { frames := 5, cells := 0, slots := 0, locals := 123 }
abbrev rm_MD_isAtom : Room := { frames := 2, cells := 0, slots := 0, locals := 44 }
abbrev rm_MD_isMatched : Room := { frames := 3, cells := 0, slots := 0, locals := 70 }
abbrev rm_MD_compile : Room := { frames := 6, cells := 0, slots := 0, locals := 147 }
abbrev rm_MD_isMatch : Room := { frames := 0, cells := 0, slots := 0, locals := 0 }
abbrev rm_MD_isCovered : Room := { frames := 1, cells := 0, slots := 0, locals := 23 }
abbrev rm_MD_decides : Room := { frames := 2, cells := 0, slots := 0, locals := 49 }
abbrev rm_MD_tariffOf : Room := { frames := 3, cells := 0, slots := 0, locals := 73 }
abbrev rm_MD_wrong : Room := { frames := 0, cells := 0, slots := 0, locals := 0 }
abbrev rm_MD_shifts : Room := { frames := 0, cells := 0, slots := 0, locals := 0 }
abbrev rm_MD_type : Room := { frames := 0, cells := 0, slots := 0, locals := 0 }
abbrev rm_MD_wipe : Room := { frames := 0, cells := 0, slots := 0, locals := 0 }
abbrev rm_MD_at : Room := { frames := 4, cells := 0, slots := 0, locals := 97 }
abbrev rm_MD_which : Room := { frames := 3, cells := 0, slots := 0, locals := 73 }
abbrev rm_MD_shown : Room := { frames := 3, cells := 0, slots := 0, locals := 65 }
abbrev rm_MD_timeOf : Room := { frames := 3, cells := 0, slots := 0, locals := 65 }
abbrev rm_MD_next : Room := { frames := 4, cells := 0, slots := 0, locals := 97 }
abbrev rm_MD_total : Room := { frames := 4, cells := 0, slots := 0, locals := 97 }
abbrev rm_MD_dayOf : Room := { frames := 1, cells := 0, slots := 0, locals := 23 }
abbrev rm_MD_dateOf : Room := { frames := 2, cells := 0, slots := 0, locals := 44 }
abbrev rm_MD_feast : Room := { frames := 1, cells := 0, slots := 0, locals := 33 }
abbrev rm_MD_elapsed : Room := { frames := 4, cells := 0, slots := 0, locals := 91 }
abbrev rm_MD_clock : Room := { frames := 4, cells := 0, slots := 0, locals := 93 }
abbrev rm_MD_wrongTwo : Room := { frames := 0, cells := 0, slots := 0, locals := 0 }
abbrev rm_MD_compare : Room := { frames := 4, cells := 0, slots := 0, locals := 97 }
abbrev rm_MD_inside : Room := { frames := 4, cells := 0, slots := 0, locals := 97 }
abbrev rm_MD_dead : Room := { frames := 3, cells := 0, slots := 0, locals := 73 }
abbrev rm_MD_run : Room := { frames := 4, cells := 0, slots := 0, locals := 97 }
