/-- what the law's casts make of a script's int -/
def chv (v : Int32) : Int32 := (v.toUInt32 % 65536).toInt32
def nz (v : Int32) : Bool := !decide (v = 0)
theorem nz_0 {v : Int32} (h : v = 0) : iI 0 = bI (nz v) := by subst h; rfl
theorem nz_1 {v : Int32} (h : ¬ v = 0) : iI 1 = bI (nz v) := by unfold nz; rw [decide_eq_false h]; rfl
def ST_type (l : Launch) (D : va_G) (k : Nat → ClassId) (h0 hm ao : Nat) (INV : va_W → va_W → Prop) (R M : va_W) (v1 : Int32) : Prop := ∃ (R' M' : va_W) (w : Int32), INV R' M' ∧ (∀ sz : Nat, Met l y_RC_type wd_RC_type rm_RC_type (va_Pc [.ref h0, .int (chv v1)] (PRW D k R sz)) (va_Qi (fun (r : Int32) (_ : Unit) => r = w) (fun _ t => BRW D R sz R' t) (va_A R sz)) 0 0 (va_A R sz)) ∧ (∀ sz : Nat, Met l y_MD_type wd_MD_type rm_MD_type (va_Pc [.ref hm, .int (chv v1)] (PRW D k M sz)) (va_Qi (fun (r : Int32) (_ : Unit) => r = w) (fun _ t => BRW D M sz M' t) (va_A M sz)) 0 0 (va_A M sz))
def ST_wipe (l : Launch) (D : va_G) (k : Nat → ClassId) (h0 hm ao : Nat) (INV : va_W → va_W → Prop) (R M : va_W) : Prop := ∃ (R' M' : va_W) (w : Int32), INV R' M' ∧ (∀ sz : Nat, Met l y_RC_wipe wd_RC_wipe rm_RC_wipe (va_Pc [.ref h0] (PRW D k R sz)) (va_Qi (fun (r : Int32) (_ : Unit) => r = w) (fun _ t => BRW D R sz R' t) (va_A R sz)) 0 0 (va_A R sz)) ∧ (∀ sz : Nat, Met l y_MD_wipe wd_MD_wipe rm_MD_wipe (va_Pc [.ref hm] (PRW D k M sz)) (va_Qi (fun (r : Int32) (_ : Unit) => r = w) (fun _ t => BRW D M sz M' t) (va_A M sz)) 0 0 (va_A M sz))
def ST_compile (l : Launch) (D : va_G) (k : Nat → ClassId) (h0 hm ao : Nat) (INV : va_W → va_W → Prop) (R M : va_W) (v1 : Int32) : Prop := ∃ (R' M' : va_W) (kk : Int32) (bb : Int32) (rm : Room) (mc ms : Nat), INV R' M' ∧ (rm.cells = mc ∧ rm.slots = ms ∧ rm.frames + 1 ≤ room_1.frames ∧ 8 + (4 + 11) + rm.locals ≤ room_1.locals) ∧ (mc ≤ 1 ∧ ms ≤ 6) ∧ (∀ (sz : Nat) (f0 : Nat → Int64), ∃ f1 : Nat → Int64, (kk = 0 → f1 0 = (bb.toInt64)) ∧ Met l y_LW_compile wd_LW_compile rm (va_Pc [.ref h0, .int v1, .ref ao] (PTW D k (OUT k ao f0 :: R) sz)) (va_Qi (fun (r : Int32) (_ : Unit) => r = kk) (fun _ t => BRW D (OUT k ao f0 :: R) sz (OUT k ao f1 :: R') t) (va_A (OUT k ao f0 :: R) sz)) mc ms (va_A (OUT k ao f0 :: R) sz)) ∧ (∀ sz : Nat, Met l y_MD_compile wd_MD_compile rm_MD_compile (va_Pc [.ref hm, .int v1] (PRW D k M sz)) (va_Qi (fun (r : Int32) (_ : Unit) => r = bb) (fun _ t => BRW D M sz M' t) (va_A M sz)) 0 0 (va_A M sz)) ∧ Met l y_MD_thrown wd_MD_thrown rm_MD_thrown (va_Pc [.ref hm] (PRO D k M')) (QRi (fun r : Int32 => r = kk)) 0 0 nA
def ST_shifts (l : Launch) (D : va_G) (k : Nat → ClassId) (h0 hm ao : Nat) (INV : va_W → va_W → Prop) (R M : va_W) (v1 : Int32) : Prop := ∃ (R' M' : va_W), INV R' M' ∧ (∀ sz : Nat, Met l y_RC_shifts wd_RC_shifts rm_RC_shifts (va_Pc [.ref h0, .int (bI (nz v1))] (PRW D k R sz)) (va_Qv (fun _ : Unit => True) (fun _ t => BRW D R sz R' t) (va_A R sz)) 0 0 (va_A R sz)) ∧ (∀ sz : Nat, Met l y_MD_shifts wd_MD_shifts rm_MD_shifts (va_Pc [.ref hm, .int (bI (nz v1))] (PRW D k M sz)) (va_Qv (fun _ : Unit => True) (fun _ t => BRW D M sz M' t) (va_A M sz)) 0 0 (va_A M sz))
def ST_at (l : Launch) (D : va_G) (k : Nat → ClassId) (h0 hm ao : Nat) (INV : va_W → va_W → Prop) (R M : va_W) (v1 v2 v3 : Int32) : Prop := ∃ (R' M' : va_W) (kk : Int32) (bb : Int32) (rm : Room) (mc ms : Nat), INV R' M' ∧ (rm.cells = mc ∧ rm.slots = ms ∧ rm.frames + 1 ≤ room_1.frames ∧ 8 + (6 + 11) + rm.locals ≤ room_1.locals) ∧ (mc ≤ 1 ∧ ms ≤ 6) ∧ (∀ (sz : Nat) (f0 : Nat → Int64), ∃ f1 : Nat → Int64, (kk = 0 → f1 0 = (bb.toInt64)) ∧ Met l y_LW_at wd_LW_at rm (va_Pc [.ref h0, .int v1, .int v2, .int v3, .ref ao] (PTW D k (OUT k ao f0 :: R) sz)) (va_Qi (fun (r : Int32) (_ : Unit) => r = kk) (fun _ t => BRW D (OUT k ao f0 :: R) sz (OUT k ao f1 :: R') t) (va_A (OUT k ao f0 :: R) sz)) mc ms (va_A (OUT k ao f0 :: R) sz)) ∧ (∀ sz : Nat, Met l y_MD_at wd_MD_at rm_MD_at (va_Pc [.ref hm, .int v1, .int v2, .int v3] (PRW D k M sz)) (va_Qi (fun (r : Int32) (_ : Unit) => r = bb) (fun _ t => BRW D M sz M' t) (va_A M sz)) 0 0 (va_A M sz)) ∧ Met l y_MD_thrown wd_MD_thrown rm_MD_thrown (va_Pc [.ref hm] (PRO D k M')) (QRi (fun r : Int32 => r = kk)) 0 0 nA
def ST_which (l : Launch) (D : va_G) (k : Nat → ClassId) (h0 hm ao : Nat) (INV : va_W → va_W → Prop) (R M : va_W) (v1 v2 v3 : Int32) : Prop := ∃ (R' M' : va_W) (kk : Int32) (bb : Int32) (rm : Room) (mc ms : Nat), INV R' M' ∧ (rm.cells = mc ∧ rm.slots = ms ∧ rm.frames + 1 ≤ room_1.frames ∧ 8 + (6 + 11) + rm.locals ≤ room_1.locals) ∧ (mc ≤ 1 ∧ ms ≤ 6) ∧ (∀ (sz : Nat) (f0 : Nat → Int64), ∃ f1 : Nat → Int64, (kk = 0 → f1 0 = (bb.toInt64)) ∧ Met l y_LW_which wd_LW_which rm (va_Pc [.ref h0, .int v1, .int v2, .int v3, .ref ao] (PTW D k (OUT k ao f0 :: R) sz)) (va_Qi (fun (r : Int32) (_ : Unit) => r = kk) (fun _ t => BRW D (OUT k ao f0 :: R) sz (OUT k ao f1 :: R') t) (va_A (OUT k ao f0 :: R) sz)) mc ms (va_A (OUT k ao f0 :: R) sz)) ∧ (∀ sz : Nat, Met l y_MD_which wd_MD_which rm_MD_which (va_Pc [.ref hm, .int v1, .int v2, .int v3] (PRW D k M sz)) (va_Qi (fun (r : Int32) (_ : Unit) => r = bb) (fun _ t => BRW D M sz M' t) (va_A M sz)) 0 0 (va_A M sz)) ∧ Met l y_MD_thrown wd_MD_thrown rm_MD_thrown (va_Pc [.ref hm] (PRO D k M')) (QRi (fun r : Int32 => r = kk)) 0 0 nA
def ST_next (l : Launch) (D : va_G) (k : Nat → ClassId) (h0 hm ao : Nat) (INV : va_W → va_W → Prop) (R M : va_W) (v1 v2 v3 : Int32) : Prop := ∃ (R' M' : va_W) (kk : Int32) (bb : Int32) (rm : Room) (mc ms : Nat), INV R' M' ∧ (rm.cells = mc ∧ rm.slots = ms ∧ rm.frames + 1 ≤ room_1.frames ∧ 8 + (6 + 11) + rm.locals ≤ room_1.locals) ∧ (mc ≤ 1 ∧ ms ≤ 6) ∧ (∀ (sz : Nat) (f0 : Nat → Int64), ∃ f1 : Nat → Int64, (kk = 0 → f1 0 = (bb.toInt64)) ∧ Met l y_LW_next wd_LW_next rm (va_Pc [.ref h0, .int v1, .int v2, .int v3, .ref ao] (PTW D k (OUT k ao f0 :: R) sz)) (va_Qi (fun (r : Int32) (_ : Unit) => r = kk) (fun _ t => BRW D (OUT k ao f0 :: R) sz (OUT k ao f1 :: R') t) (va_A (OUT k ao f0 :: R) sz)) mc ms (va_A (OUT k ao f0 :: R) sz)) ∧ (∀ sz : Nat, Met l y_MD_next wd_MD_next rm_MD_next (va_Pc [.ref hm, .int v1, .int v2, .int v3] (PRW D k M sz)) (va_Qi (fun (r : Int32) (_ : Unit) => r = bb) (fun _ t => BRW D M sz M' t) (va_A M sz)) 0 0 (va_A M sz)) ∧ Met l y_MD_thrown wd_MD_thrown rm_MD_thrown (va_Pc [.ref hm] (PRO D k M')) (QRi (fun r : Int32 => r = kk)) 0 0 nA
def ST_total (l : Launch) (D : va_G) (k : Nat → ClassId) (h0 hm ao : Nat) (INV : va_W → va_W → Prop) (R M : va_W) (v1 v2 v3 v4 : Int32) : Prop := ∃ (R' M' : va_W) (kk : Int32) (bb : Int32) (rm : Room) (mc ms : Nat), INV R' M' ∧ (rm.cells = mc ∧ rm.slots = ms ∧ rm.frames + 1 ≤ room_1.frames ∧ 8 + (7 + 11) + rm.locals ≤ room_1.locals) ∧ (mc ≤ 1 ∧ ms ≤ 6) ∧ (∀ (sz : Nat) (f0 : Nat → Int64), ∃ f1 : Nat → Int64, (kk = 0 → f1 0 = (bb.toInt64)) ∧ Met l y_LW_total wd_LW_total rm (va_Pc [.ref h0, .int v1, .int v2, .int v3, .int v4, .ref ao] (PTW D k (OUT k ao f0 :: R) sz)) (va_Qi (fun (r : Int32) (_ : Unit) => r = kk) (fun _ t => BRW D (OUT k ao f0 :: R) sz (OUT k ao f1 :: R') t) (va_A (OUT k ao f0 :: R) sz)) mc ms (va_A (OUT k ao f0 :: R) sz)) ∧ (∀ sz : Nat, Met l y_MD_total wd_MD_total rm_MD_total (va_Pc [.ref hm, .int v1, .int v2, .int v3, .int v4] (PRW D k M sz)) (va_Qi (fun (r : Int32) (_ : Unit) => r = bb) (fun _ t => BRW D M sz M' t) (va_A M sz)) 0 0 (va_A M sz)) ∧ Met l y_MD_thrown wd_MD_thrown rm_MD_thrown (va_Pc [.ref hm] (PRO D k M')) (QRi (fun r : Int32 => r = kk)) 0 0 nA
def ST_dayOf (l : Launch) (D : va_G) (k : Nat → ClassId) (h0 hm ao : Nat) (INV : va_W → va_W → Prop) (R M : va_W) (v1 v2 v3 : Int32) : Prop := ∃ (M' : va_W) (w : Int32), INV R M' ∧ Met l y_RC_dayOf wd_RC_dayOf rm_RC_dayOf (va_Pc [.ref h0, .int v1, .int v2, .int v3] (PRO D k R)) (QRi (fun r : Int32 => r = w)) 0 0 nA ∧ (∀ sz : Nat, Met l y_MD_dayOf wd_MD_dayOf rm_MD_dayOf (va_Pc [.ref hm, .int v1, .int v2, .int v3] (PRW D k M sz)) (va_Qi (fun (r : Int32) (_ : Unit) => r = w) (fun _ t => BRW D M sz M' t) (va_A M sz)) 0 0 (va_A M sz))
def ST_dateOf (l : Launch) (D : va_G) (k : Nat → ClassId) (h0 hm ao : Nat) (INV : va_W → va_W → Prop) (R M : va_W) (v1 v2 : Int32) : Prop := ∃ (M' : va_W) (w : Int32), INV R M' ∧ Met l y_RC_dateOf wd_RC_dateOf rm_RC_dateOf (va_Pc [.ref h0, .int v1, .int v2] (PRO D k R)) (QRi (fun r : Int32 => r = w)) 0 0 nA ∧ (∀ sz : Nat, Met l y_MD_dateOf wd_MD_dateOf rm_MD_dateOf (va_Pc [.ref hm, .int v1, .int v2] (PRW D k M sz)) (va_Qi (fun (r : Int32) (_ : Unit) => r = w) (fun _ t => BRW D M sz M' t) (va_A M sz)) 0 0 (va_A M sz))
def ST_feast (l : Launch) (D : va_G) (k : Nat → ClassId) (h0 hm ao : Nat) (INV : va_W → va_W → Prop) (R M : va_W) (v1 : Int32) : Prop := ∃ (M' : va_W) (w : Int32), INV R M' ∧ Met l y_RC_feast wd_RC_feast rm_RC_feast (va_Pc [.ref h0, .int v1] (PRO D k R)) (QRi (fun r : Int32 => r = w)) 0 0 nA ∧ (∀ sz : Nat, Met l y_MD_feast wd_MD_feast rm_MD_feast (va_Pc [.ref hm, .int v1] (PRW D k M sz)) (va_Qi (fun (r : Int32) (_ : Unit) => r = w) (fun _ t => BRW D M sz M' t) (va_A M sz)) 0 0 (va_A M sz))
def ST_elapsed (l : Launch) (D : va_G) (k : Nat → ClassId) (h0 hm ao : Nat) (INV : va_W → va_W → Prop) (R M : va_W) (v1 v2 v3 : Int32) : Prop := ∃ (R' M' : va_W) (kk : Int32) (bb : Int32) (rm : Room) (mc ms : Nat), INV R' M' ∧ (rm.cells = mc ∧ rm.slots = ms ∧ rm.frames + 1 ≤ room_1.frames ∧ 8 + (6 + 11) + rm.locals ≤ room_1.locals) ∧ (mc ≤ 1 ∧ ms ≤ 6) ∧ (∀ (sz : Nat) (f0 : Nat → Int64), ∃ f1 : Nat → Int64, (kk = 0 → f1 0 = (bb.toInt64)) ∧ Met l y_LW_elapsed wd_LW_elapsed rm (va_Pc [.ref h0, .int v1, .int v2, .int (bI (nz v3)), .ref ao] (PTW D k (OUT k ao f0 :: R) sz)) (va_Qi (fun (r : Int32) (_ : Unit) => r = kk) (fun _ t => BRW D (OUT k ao f0 :: R) sz (OUT k ao f1 :: R') t) (va_A (OUT k ao f0 :: R) sz)) mc ms (va_A (OUT k ao f0 :: R) sz)) ∧ (∀ sz : Nat, Met l y_MD_elapsed wd_MD_elapsed rm_MD_elapsed (va_Pc [.ref hm, .int v1, .int v2, .int (bI (nz v3))] (PRW D k M sz)) (va_Qi (fun (r : Int32) (_ : Unit) => r = bb) (fun _ t => BRW D M sz M' t) (va_A M sz)) 0 0 (va_A M sz)) ∧ Met l y_MD_thrown wd_MD_thrown rm_MD_thrown (va_Pc [.ref hm] (PRO D k M')) (QRi (fun r : Int32 => r = kk)) 0 0 nA
def ST_clock (l : Launch) (D : va_G) (k : Nat → ClassId) (h0 hm ao : Nat) (INV : va_W → va_W → Prop) (R M : va_W) (v1 : Int32) : Prop := ∃ (M' : va_W) (w : Int32), INV R M' ∧ Met l y_RC_clock wd_RC_clock rm_RC_clock (va_Pc [.ref h0, .int v1] (PRO D k R)) (QRi (fun r : Int32 => r = w)) 0 0 nA ∧ (∀ sz : Nat, Met l y_MD_clock wd_MD_clock rm_MD_clock (va_Pc [.ref hm, .int v1] (PRW D k M sz)) (va_Qi (fun (r : Int32) (_ : Unit) => r = w) (fun _ t => BRW D M sz M' t) (va_A M sz)) 0 0 (va_A M sz))
def ST_compare (l : Launch) (D : va_G) (k : Nat → ClassId) (h0 hm ao : Nat) (INV : va_W → va_W → Prop) (R M : va_W) (v1 v2 : Int32) : Prop := ∃ (R' M' : va_W) (kk : Int32) (bb : Int32) (rm : Room) (mc ms : Nat), INV R' M' ∧ (rm.cells = mc ∧ rm.slots = ms ∧ rm.frames + 1 ≤ room_1.frames ∧ 8 + (5 + 11) + rm.locals ≤ room_1.locals) ∧ (mc ≤ 1 ∧ ms ≤ 6) ∧ (∀ (sz : Nat) (f0 : Nat → Int64), ∃ f1 : Nat → Int64, (kk = 0 → f1 0 = (bb.toInt64)) ∧ Met l y_LW_compare wd_LW_compare rm (va_Pc [.ref h0, .int v1, .int v2, .ref ao] (PTW D k (OUT k ao f0 :: R) sz)) (va_Qi (fun (r : Int32) (_ : Unit) => r = kk) (fun _ t => BRW D (OUT k ao f0 :: R) sz (OUT k ao f1 :: R') t) (va_A (OUT k ao f0 :: R) sz)) mc ms (va_A (OUT k ao f0 :: R) sz)) ∧ (∀ sz : Nat, Met l y_MD_compare wd_MD_compare rm_MD_compare (va_Pc [.ref hm, .int v1, .int v2] (PRW D k M sz)) (va_Qi (fun (r : Int32) (_ : Unit) => r = bb) (fun _ t => BRW D M sz M' t) (va_A M sz)) 0 0 (va_A M sz)) ∧ Met l y_MD_thrown wd_MD_thrown rm_MD_thrown (va_Pc [.ref hm] (PRO D k M')) (QRi (fun r : Int32 => r = kk)) 0 0 nA
def ST_inside (l : Launch) (D : va_G) (k : Nat → ClassId) (h0 hm ao : Nat) (INV : va_W → va_W → Prop) (R M : va_W) (v1 v2 : Int32) : Prop := ∃ (R' M' : va_W) (kk : Int32) (bb : Bool) (rm : Room) (mc ms : Nat), INV R' M' ∧ (rm.cells = mc ∧ rm.slots = ms ∧ rm.frames + 1 ≤ room_1.frames ∧ 8 + (5 + 11) + rm.locals ≤ room_1.locals) ∧ (mc ≤ 1 ∧ ms ≤ 6) ∧ (∀ (sz : Nat) (f0 : Nat → Int64), ∃ f1 : Nat → Int64, (kk = 0 → f1 0 = (if bb then 1 else 0)) ∧ Met l y_LW_inside wd_LW_inside rm (va_Pc [.ref h0, .int v1, .int v2, .ref ao] (PTW D k (OUT k ao f0 :: R) sz)) (va_Qi (fun (r : Int32) (_ : Unit) => r = kk) (fun _ t => BRW D (OUT k ao f0 :: R) sz (OUT k ao f1 :: R') t) (va_A (OUT k ao f0 :: R) sz)) mc ms (va_A (OUT k ao f0 :: R) sz)) ∧ (∀ sz : Nat, Met l y_MD_inside wd_MD_inside rm_MD_inside (va_Pc [.ref hm, .int v1, .int v2] (PRW D k M sz)) (va_Qi (fun (r : Int32) (_ : Unit) => r = bI bb) (fun _ t => BRW D M sz M' t) (va_A M sz)) 0 0 (va_A M sz)) ∧ Met l y_MD_thrown wd_MD_thrown rm_MD_thrown (va_Pc [.ref hm] (PRO D k M')) (QRi (fun r : Int32 => r = kk)) 0 0 nA
def ST_dead (l : Launch) (D : va_G) (k : Nat → ClassId) (h0 hm ao : Nat) (INV : va_W → va_W → Prop) (R M : va_W) (v1 v2 : Int32) : Prop := ∃ (R' M' : va_W) (kk : Int32) (bb : Int32) (rm : Room) (mc ms : Nat), INV R' M' ∧ (rm.cells = mc ∧ rm.slots = ms ∧ rm.frames + 1 ≤ room_1.frames ∧ 8 + (5 + 11) + rm.locals ≤ room_1.locals) ∧ (mc ≤ 1 ∧ ms ≤ 6) ∧ (∀ (sz : Nat) (f0 : Nat → Int64), ∃ f1 : Nat → Int64, (kk = 0 → f1 0 = (bb.toInt64)) ∧ Met l y_LW_dead wd_LW_dead rm (va_Pc [.ref h0, .int v1, .int v2, .ref ao] (PTW D k (OUT k ao f0 :: R) sz)) (va_Qi (fun (r : Int32) (_ : Unit) => r = kk) (fun _ t => BRW D (OUT k ao f0 :: R) sz (OUT k ao f1 :: R') t) (va_A (OUT k ao f0 :: R) sz)) mc ms (va_A (OUT k ao f0 :: R) sz)) ∧ (∀ sz : Nat, Met l y_MD_dead wd_MD_dead rm_MD_dead (va_Pc [.ref hm, .int v1, .int v2] (PRW D k M sz)) (va_Qi (fun (r : Int32) (_ : Unit) => r = bb) (fun _ t => BRW D M sz M' t) (va_A M sz)) 0 0 (va_A M sz)) ∧ Met l y_MD_thrown wd_MD_thrown rm_MD_thrown (va_Pc [.ref hm] (PRO D k M')) (QRi (fun r : Int32 => r = kk)) 0 0 nA
def ST_run (l : Launch) (D : va_G) (k : Nat → ClassId) (h0 hm ao : Nat) (INV : va_W → va_W → Prop) (R M : va_W) (v1 v2 v3 v4 : Int32) : Prop := ∃ (R' M' : va_W) (kk : Int32) (bb : Int32) (rm : Room) (mc ms : Nat), INV R' M' ∧ (rm.cells = mc ∧ rm.slots = ms ∧ rm.frames + 1 ≤ room_1.frames ∧ 8 + (7 + 11) + rm.locals ≤ room_1.locals) ∧ (mc ≤ 1 ∧ ms ≤ 6) ∧ (∀ (sz : Nat) (f0 : Nat → Int64), ∃ f1 : Nat → Int64, (kk = 0 → f1 0 = (bb.toInt64)) ∧ Met l y_LW_run wd_LW_run rm (va_Pc [.ref h0, .int v1, .int v2, .int v3, .int v4, .ref ao] (PTW D k (OUT k ao f0 :: R) sz)) (va_Qi (fun (r : Int32) (_ : Unit) => r = kk) (fun _ t => BRW D (OUT k ao f0 :: R) sz (OUT k ao f1 :: R') t) (va_A (OUT k ao f0 :: R) sz)) mc ms (va_A (OUT k ao f0 :: R) sz)) ∧ (∀ sz : Nat, Met l y_MD_run wd_MD_run rm_MD_run (va_Pc [.ref hm, .int v1, .int v2, .int v3, .int v4] (PRW D k M sz)) (va_Qi (fun (r : Int32) (_ : Unit) => r = bb) (fun _ t => BRW D M sz M' t) (va_A M sz)) 0 0 (va_A M sz)) ∧ Met l y_MD_thrown wd_MD_thrown rm_MD_thrown (va_Pc [.ref hm] (PRO D k M')) (QRi (fun r : Int32 => r = kk)) 0 0 nA
/-- what holds all through the law -/
def LC (p : Program) (s : State) (m : MethodId) (c : Code) (b L : Nat) (xs : Nat → Int32) (D : va_G) (k : Nat → ClassId) : Prop := p.tables.exec = Jvm.exec ∧ c.code = code ∧ c.maxLocals = 7 ∧ s.vm.findClass R_LW = some m.cls ∧ (∀ w ∈ ALLW, w.before #[Value.ref b] s = true) ∧ va_X b L xs s s.heap ∧ b < s.heap.size ∧ L ≤ 2560 ∧ va_K D classes (TY k) s ∧ SX (va_A [] s.heap.size) s s.heap ∧ TX (va_A [] s.heap.size) s s.heap
theorem nA0 {b n : Nat} (h : b < n) : ¬ va_A [] n b := by
  rintro (⟨k, e, h1⟩ | h1)
  · simp at h1
  · omega
theorem i2s {i L : Nat} (h : ((i : Int)) ≤ (L : Int) - 5) : i + 5 ≤ L := by omega
set_option maxHeartbeats 4000000 in
set_option maxRecDepth 20000 in
theorem lc_type {p : Program} {l : Launch} {e : Env} {s : State} {m : MethodId} {below : List Frame} {meth : Method} {c : Code} {b L : Nat} {xs : Nat → Int32} {D : va_G} {k : Nat → ClassId} {Q : State → Prop} (C0 : LC p s m c b L xs D k) {h0 hm ao i cells slots : Nat} {INV : va_W → va_W → Prop} {R M : va_W} (hinv : ∀ R M, INV R M → ∃ q1 q2 : List Value, R[0]? = some (h0, .inr (0, q1)) ∧ M[0]? = some (hm, .inr (8, q2))) (hRM : INV R M) (hi : i + 5 ≤ L) (hcs : cells + 1 ≤ room_1.cells ∧ slots + 6 ≤ room_1.slots) (hst : ST_type l D k h0 hm ao INV R M (xs (i + 1)))
    (kt : ∀ (R' M' : va_W) (f1 : Nat → Int64) (ls : Array Slot) (H : Heap) (locs : List Loc), INV R' M' → lv_has ls 7 [(0, .ref b), (1, .ref h0), (2, .ref hm), (3, .ref ao), (4, .int (iI (i : Int)))] → va_P D classes (OUT k ao f1 :: (R' ++ M')) H → va_D (va_A [] s.heap.size) (OUT k ao f1 :: (R' ++ M')) → va_S (va_A [] s.heap.size) s.heap H locs → W p l e room_1 s m #[Value.ref b] below meth c H locs (cells + 1) (slots + 6) Q (F0 m 1122 ls []))
    {f0 : Nat → Int64} {ls : Array Slot} {H : Heap} {locs : List Loc} (hl : lv_has ls 7 [(0, .ref b), (1, .ref h0), (2, .ref hm), (3, .ref ao), (4, .int (iI (i : Int)))]) (hP : va_P D classes (OUT k ao f0 :: (R ++ M)) H) (hD : va_D (va_A [] s.heap.size) (OUT k ao f0 :: (R ++ M))) (hS : va_S (va_A [] s.heap.size) s.heap H locs) : W p l e room_1 s m #[Value.ref b] below meth c H locs cells slots Q (F0 m 120 ls []) := by
  obtain ⟨hx, hb, hml, hown, hts, hXs, hbl, hL, hK, hX, hTX⟩ := C0
  obtain ⟨q1, q2, hR0, hM0⟩ := hinv _ _ hRM
  have hA : ∀ q : Nat, s.heap.size ≤ q → (va_A [] s.heap.size) q := fun q h => Or.inr h
  obtain ⟨R', M', w, hI', hC, hB⟩ := hst
  refine lv_aload_n hx hb d_law_120 rfl (lv_at hl 1 rfl) ?_
  refine lv_aload_n hx hb d_law_121 rfl (lv_at hl 0 rfl) ?_
  refine lv_iload hx hb d_law_122 (lv_at hl 4 rfl) ?_
  refine z_iconst hx hb d_law_124 ?_
  refine z_iadd hx hb d_law_125 ?_
  refine s_ld hx hb hXs hbl (nA0 hbl) hS (i + 1) (by omega) (by omega) (by omega) d_law_126 ?_
  refine lv_i2c (v := chv (xs (i + 1))) hx hb d_law_127 rfl ?_
  have hPc := pL (a := R) (c := M) (pR (a := [OUT k ao f0]) hP)
  have hDc := dL (a := R) (c := M) (dR (a := [OUT k ao f0]) hD)
  have hFc := fr hDc hS hA
  refine va_calli (va_runV (As := [.int (chv (xs (i + 1)))]) (rest := []) (b := h0) ⟨hx, hb, hml, hown, hts⟩ (hC H.size) ⟨callB_of 1 hts (good_RC_type) rfl rfl rfl (hts _ k_59) (hts _ k_259) (by decide +kernel) ⟨(Nat.le_of_ble_eq_true rfl), (Nat.le_of_ble_eq_true rfl)⟩, (hts _ k_260), (hts _ k_261)⟩ ⟨fun a U g mk q => ⟨q.1, q.2.1, q.2.2.1, va_K.moved (u := U) (U := U.calling g mk a) (Vm.Alike.refl U.vm) q.2.2.2.1, q.2.2.2.2.1, q.2.2.2.2.2.calling⟩, (va_recv (q0 := 0) hK hPc rfl hR0), fun U hU hW => ⟨rfl, by rw [hU], by rw [hU]; exact hPc, va_K.moved hW.alike hK, hDc.weaken (fun _ _ _ _ => trivial), by rw [hU]; exact (hX.mono hS hFc).warm hW⟩⟩ rfl rfl hl.1 rfl (lv_room (Nat.le_of_ble_eq_true rfl)) d_law_128 ⟨by omega, by omega⟩) hS (fun q _ h => hFc q h) hFc (fun r9 u9 t H1 locs ht hvm h9 hB1 hz1 hk1 hS => ?_)
  obtain ⟨hP1, hD1⟩ := hB1
  rw [ht] at hP1
  obtain ⟨hP, hD⟩ := jM (a := [OUT k ao f0]) (c := M) hP hD hk1 hFc hP1 hD1
  refine z_top h9 ?_
  clear hk1 hz1 hPc hDc hFc
  have hP : va_P D classes (OUT k ao f0 :: (R' ++ M)) H1 := hP
  have hD : va_D (va_A [] s.heap.size) (OUT k ao f0 :: (R' ++ M)) := hD
  clear ht
  generalize H1 = H at hP hS ⊢
  refine lv_aload_n hx hb d_law_131 rfl (lv_at hl 2 rfl) ?_
  refine lv_aload_n hx hb d_law_132 rfl (lv_at hl 0 rfl) ?_
  refine lv_iload hx hb d_law_133 (lv_at hl 4 rfl) ?_
  refine z_iconst hx hb d_law_135 ?_
  refine z_iadd hx hb d_law_136 ?_
  refine s_ld hx hb hXs hbl (nA0 hbl) hS (i + 1) (by omega) (by omega) (by omega) d_law_137 ?_
  refine lv_i2c (v := chv (xs (i + 1))) hx hb d_law_138 rfl ?_
  have hPc := pR (a := OUT k ao f0 :: R') (c := M) hP
  have hDc := dR (a := OUT k ao f0 :: R') (c := M) hD
  have hFc := fr hDc hS hA
  refine va_calli (va_runV (As := [.int (chv (xs (i + 1)))]) (rest := [.int w]) (b := hm) ⟨hx, hb, hml, hown, hts⟩ (hB H.size) ⟨callB_of 1 hts (good_MD_type) rfl rfl rfl (hts _ k_67) (hts _ k_902) (by decide +kernel) ⟨(Nat.le_of_ble_eq_true rfl), (Nat.le_of_ble_eq_true rfl)⟩, (hts _ k_903), (hts _ k_904)⟩ ⟨fun a U g mk q => ⟨q.1, q.2.1, q.2.2.1, va_K.moved (u := U) (U := U.calling g mk a) (Vm.Alike.refl U.vm) q.2.2.2.1, q.2.2.2.2.1, q.2.2.2.2.2.calling⟩, (va_recv (q0 := 0) hK hPc rfl hM0), fun U hU hW => ⟨rfl, by rw [hU], by rw [hU]; exact hPc, va_K.moved hW.alike hK, hDc.weaken (fun _ _ _ _ => trivial), by rw [hU]; exact (hX.mono hS hFc).warm hW⟩⟩ rfl rfl hl.1 rfl (lv_room (Nat.le_of_ble_eq_true rfl)) d_law_139 ⟨by omega, by omega⟩) hS (fun q _ h => hFc q h) hFc (fun r9 u9 t H1 locs ht hvm h9 hB1 hz1 hk1 hS => ?_)
  obtain ⟨hP1, hD1⟩ := hB1
  rw [ht] at hP1
  obtain ⟨hP, hD⟩ := jR (a := OUT k ao f0 :: R') hP hD hk1 hFc hP1 hD1
  refine z_top h9 ?_
  clear hk1 hz1 hPc hDc hFc
  have hP : va_P D classes (OUT k ao f0 :: (R' ++ M')) H1 := hP
  have hD : va_D (va_A [] s.heap.size) (OUT k ao f0 :: (R' ++ M')) := hD
  clear ht
  generalize H1 = H at hP hS ⊢
  obtain ⟨q3, q4, hR1, hM1⟩ := hinv _ _ hI'
  refine lv_icmp_eq (tgt := 1122) hx hb d_law_142 (by decide) (fun h9 => ?_) (fun h9 => absurd rfl h9)
  exact W.widen (by omega) (by omega) (kt _ _ _ _ _ _ hI' (lv_sub hl [0, 1, 2, 3, 4] rfl) hP hD hS)

set_option maxHeartbeats 4000000 in
set_option maxRecDepth 20000 in
theorem lc_wipe {p : Program} {l : Launch} {e : Env} {s : State} {m : MethodId} {below : List Frame} {meth : Method} {c : Code} {b L : Nat} {xs : Nat → Int32} {D : va_G} {k : Nat → ClassId} {Q : State → Prop} (C0 : LC p s m c b L xs D k) {h0 hm ao i cells slots : Nat} {INV : va_W → va_W → Prop} {R M : va_W} (hinv : ∀ R M, INV R M → ∃ q1 q2 : List Value, R[0]? = some (h0, .inr (0, q1)) ∧ M[0]? = some (hm, .inr (8, q2))) (hRM : INV R M) (hi : i + 5 ≤ L) (hcs : cells + 1 ≤ room_1.cells ∧ slots + 6 ≤ room_1.slots) (hst : ST_wipe l D k h0 hm ao INV R M )
    (kt : ∀ (R' M' : va_W) (f1 : Nat → Int64) (ls : Array Slot) (H : Heap) (locs : List Loc), INV R' M' → lv_has ls 7 [(0, .ref b), (1, .ref h0), (2, .ref hm), (3, .ref ao), (4, .int (iI (i : Int)))] → va_P D classes (OUT k ao f1 :: (R' ++ M')) H → va_D (va_A [] s.heap.size) (OUT k ao f1 :: (R' ++ M')) → va_S (va_A [] s.heap.size) s.heap H locs → W p l e room_1 s m #[Value.ref b] below meth c H locs (cells + 1) (slots + 6) Q (F0 m 1122 ls []))
    {f0 : Nat → Int64} {ls : Array Slot} {H : Heap} {locs : List Loc} (hl : lv_has ls 7 [(0, .ref b), (1, .ref h0), (2, .ref hm), (3, .ref ao), (4, .int (iI (i : Int)))]) (hP : va_P D classes (OUT k ao f0 :: (R ++ M)) H) (hD : va_D (va_A [] s.heap.size) (OUT k ao f0 :: (R ++ M))) (hS : va_S (va_A [] s.heap.size) s.heap H locs) : W p l e room_1 s m #[Value.ref b] below meth c H locs cells slots Q (F0 m 147 ls []) := by
  obtain ⟨hx, hb, hml, hown, hts, hXs, hbl, hL, hK, hX, hTX⟩ := C0
  obtain ⟨q1, q2, hR0, hM0⟩ := hinv _ _ hRM
  have hA : ∀ q : Nat, s.heap.size ≤ q → (va_A [] s.heap.size) q := fun q h => Or.inr h
  obtain ⟨R', M', w, hI', hC, hB⟩ := hst
  refine lv_aload_n hx hb d_law_147 rfl (lv_at hl 1 rfl) ?_
  have hPc := pL (a := R) (c := M) (pR (a := [OUT k ao f0]) hP)
  have hDc := dL (a := R) (c := M) (dR (a := [OUT k ao f0]) hD)
  have hFc := fr hDc hS hA
  refine va_calli (va_runV (As := []) (rest := []) (b := h0) ⟨hx, hb, hml, hown, hts⟩ (hC H.size) ⟨callB_of 0 hts (good_RC_wipe) rfl rfl rfl (hts _ k_59) (hts _ k_263) (by decide +kernel) ⟨(Nat.le_of_ble_eq_true rfl), (Nat.le_of_ble_eq_true rfl)⟩, (hts _ k_264), (hts _ k_265)⟩ ⟨fun a U g mk q => ⟨q.1, q.2.1, q.2.2.1, va_K.moved (u := U) (U := U.calling g mk a) (Vm.Alike.refl U.vm) q.2.2.2.1, q.2.2.2.2.1, q.2.2.2.2.2.calling⟩, (va_recv (q0 := 0) hK hPc rfl hR0), fun U hU hW => ⟨rfl, by rw [hU], by rw [hU]; exact hPc, va_K.moved hW.alike hK, hDc.weaken (fun _ _ _ _ => trivial), by rw [hU]; exact (hX.mono hS hFc).warm hW⟩⟩ rfl rfl hl.1 rfl (lv_room (Nat.le_of_ble_eq_true rfl)) d_law_148 ⟨by omega, by omega⟩) hS (fun q _ h => hFc q h) hFc (fun r9 u9 t H1 locs ht hvm h9 hB1 hz1 hk1 hS => ?_)
  obtain ⟨hP1, hD1⟩ := hB1
  rw [ht] at hP1
  obtain ⟨hP, hD⟩ := jM (a := [OUT k ao f0]) (c := M) hP hD hk1 hFc hP1 hD1
  refine z_top h9 ?_
  clear hk1 hz1 hPc hDc hFc
  have hP : va_P D classes (OUT k ao f0 :: (R' ++ M)) H1 := hP
  have hD : va_D (va_A [] s.heap.size) (OUT k ao f0 :: (R' ++ M)) := hD
  clear ht
  generalize H1 = H at hP hS ⊢
  refine lv_aload_n hx hb d_law_151 rfl (lv_at hl 2 rfl) ?_
  have hPc := pR (a := OUT k ao f0 :: R') (c := M) hP
  have hDc := dR (a := OUT k ao f0 :: R') (c := M) hD
  have hFc := fr hDc hS hA
  refine va_calli (va_runV (As := []) (rest := [.int w]) (b := hm) ⟨hx, hb, hml, hown, hts⟩ (hB H.size) ⟨callB_of 0 hts (good_MD_wipe) rfl rfl rfl (hts _ k_67) (hts _ k_906) (by decide +kernel) ⟨(Nat.le_of_ble_eq_true rfl), (Nat.le_of_ble_eq_true rfl)⟩, (hts _ k_907), (hts _ k_908)⟩ ⟨fun a U g mk q => ⟨q.1, q.2.1, q.2.2.1, va_K.moved (u := U) (U := U.calling g mk a) (Vm.Alike.refl U.vm) q.2.2.2.1, q.2.2.2.2.1, q.2.2.2.2.2.calling⟩, (va_recv (q0 := 0) hK hPc rfl hM0), fun U hU hW => ⟨rfl, by rw [hU], by rw [hU]; exact hPc, va_K.moved hW.alike hK, hDc.weaken (fun _ _ _ _ => trivial), by rw [hU]; exact (hX.mono hS hFc).warm hW⟩⟩ rfl rfl hl.1 rfl (lv_room (Nat.le_of_ble_eq_true rfl)) d_law_152 ⟨by omega, by omega⟩) hS (fun q _ h => hFc q h) hFc (fun r9 u9 t H1 locs ht hvm h9 hB1 hz1 hk1 hS => ?_)
  obtain ⟨hP1, hD1⟩ := hB1
  rw [ht] at hP1
  obtain ⟨hP, hD⟩ := jR (a := OUT k ao f0 :: R') hP hD hk1 hFc hP1 hD1
  refine z_top h9 ?_
  clear hk1 hz1 hPc hDc hFc
  have hP : va_P D classes (OUT k ao f0 :: (R' ++ M')) H1 := hP
  have hD : va_D (va_A [] s.heap.size) (OUT k ao f0 :: (R' ++ M')) := hD
  clear ht
  generalize H1 = H at hP hS ⊢
  obtain ⟨q3, q4, hR1, hM1⟩ := hinv _ _ hI'
  refine lv_icmp_eq (tgt := 1122) hx hb d_law_155 (by decide) (fun h9 => ?_) (fun h9 => absurd rfl h9)
  exact W.widen (by omega) (by omega) (kt _ _ _ _ _ _ hI' (lv_sub hl [0, 1, 2, 3, 4] rfl) hP hD hS)

set_option maxHeartbeats 4000000 in
set_option maxRecDepth 20000 in
theorem lc_compile {p : Program} {l : Launch} {e : Env} {s : State} {m : MethodId} {below : List Frame} {meth : Method} {c : Code} {b L : Nat} {xs : Nat → Int32} {D : va_G} {k : Nat → ClassId} {Q : State → Prop} (C0 : LC p s m c b L xs D k) {h0 hm ao i cells slots : Nat} {INV : va_W → va_W → Prop} {R M : va_W} (hinv : ∀ R M, INV R M → ∃ q1 q2 : List Value, R[0]? = some (h0, .inr (0, q1)) ∧ M[0]? = some (hm, .inr (8, q2))) (hRM : INV R M) (hi : i + 5 ≤ L) (hcs : cells + 1 ≤ room_1.cells ∧ slots + 6 ≤ room_1.slots) (hst : ST_compile l D k h0 hm ao INV R M (xs (i + 1)))
    (kt : ∀ (R' M' : va_W) (f1 : Nat → Int64) (ls : Array Slot) (H : Heap) (locs : List Loc), INV R' M' → lv_has ls 7 [(0, .ref b), (1, .ref h0), (2, .ref hm), (3, .ref ao), (4, .int (iI (i : Int)))] → va_P D classes (OUT k ao f1 :: (R' ++ M')) H → va_D (va_A [] s.heap.size) (OUT k ao f1 :: (R' ++ M')) → va_S (va_A [] s.heap.size) s.heap H locs → W p l e room_1 s m #[Value.ref b] below meth c H locs (cells + 1) (slots + 6) Q (F0 m 1122 ls []))
    {f0 : Nat → Int64} {ls : Array Slot} {H : Heap} {locs : List Loc} (hl : lv_has ls 7 [(0, .ref b), (1, .ref h0), (2, .ref hm), (3, .ref ao), (4, .int (iI (i : Int)))]) (hP : va_P D classes (OUT k ao f0 :: (R ++ M)) H) (hD : va_D (va_A [] s.heap.size) (OUT k ao f0 :: (R ++ M))) (hS : va_S (va_A [] s.heap.size) s.heap H locs) : W p l e room_1 s m #[Value.ref b] below meth c H locs cells slots Q (F0 m 160 ls []) := by
  obtain ⟨hx, hb, hml, hown, hts, hXs, hbl, hL, hK, hX, hTX⟩ := C0
  obtain ⟨q1, q2, hR0, hM0⟩ := hinv _ _ hRM
  have hA : ∀ q : Nat, s.heap.size ≤ q → (va_A [] s.heap.size) q := fun q h => Or.inr h
  obtain ⟨R', M', kk, bb, rm, mc, ms, hI', hrm, hmc, hC, hB, hT⟩ := hst
  obtain ⟨f1, hf1, hC⟩ := hC H.size f0
  refine lv_aload_n hx hb d_law_160 rfl (lv_at hl 1 rfl) ?_
  refine lv_aload_n hx hb d_law_161 rfl (lv_at hl 0 rfl) ?_
  refine lv_iload hx hb d_law_162 (lv_at hl 4 rfl) ?_
  refine z_iconst hx hb d_law_164 ?_
  refine z_iadd hx hb d_law_165 ?_
  refine s_ld hx hb hXs hbl (nA0 hbl) hS (i + 1) (by omega) (by omega) (by omega) d_law_166 ?_
  refine lv_aload_n hx hb d_law_167 rfl (lv_at hl 3 rfl) ?_
  have hPa := pL (a := OUT k ao f0 :: R) (c := M) hP
  have hDa := dL (a := OUT k ao f0 :: R) (c := M) hD
  have hFa := fr hDa hS hA
  refine va_calli (runSW (n := 3) (As := [.ref h0, .int (xs (i + 1)), .ref ao]) (rest := []) ⟨hx, hb, hml, hown, hts⟩ hC good_LW_compile rfl (hts _ k_58) (hts _ k_322) (hts _ k_323) (by decide +kernel) hrm ⟨fun a U g mk q => ⟨q.1, ⟨q.2.1.1, q.2.1.2.1, va_K.moved (u := U) (U := U.calling g mk a) (Vm.Alike.refl U.vm) q.2.1.2.2.1, q.2.1.2.2.2.1, q.2.1.2.2.2.2.calling⟩, q.2.2.calling⟩, fun U hU hW => ⟨rfl, ⟨by rw [hU], by rw [hU]; exact hPa, va_K.moved hW.alike hK, hDa.weaken (fun _ _ _ _ => trivial), by rw [hU]; exact (hX.mono hS hFa).warm hW⟩, by rw [hU]; exact (hTX.mono hS hFa).warm hW⟩⟩ rfl rfl hl.1 rfl (lv_room (Nat.le_of_ble_eq_true rfl)) d_law_168 ⟨by omega, by omega⟩) hS (fun q _ h => hFa q h) hFa (fun r9 u9 t H1 locs ht hvm h9 hB1 hz1 hk1 hS => ?_)
  obtain ⟨hP1, hD1⟩ := hB1
  rw [ht] at hP1
  obtain ⟨hP, hD⟩ := jL (c := M) hP hD hk1 hFa hP1 hD1
  refine z_top h9 ?_
  clear hk1 hz1 hPa hDa hFa hC
  have hP : va_P D classes (OUT k ao f1 :: (R' ++ M)) H1 := hP
  have hD : va_D (va_A [] s.heap.size) (OUT k ao f1 :: (R' ++ M)) := hD
  clear ht
  generalize H1 = H at hP hS ⊢
  refine lv_istore (lv' := [(5, .int kk), (0, .ref b), (1, .ref h0), (2, .ref hm), (3, .ref ao), (4, .int (iI (i : Int)))]) hx hb d_law_171 hl (by decide) rfl (fun ls hl => ?_)
  refine lv_aload_n hx hb d_law_173 rfl (lv_at hl 3 rfl) ?_
  refine lv_aload_n hx hb d_law_174 rfl (lv_at hl 1 rfl) ?_
  refine lv_iload hx hb d_law_175 (lv_at hl 5 rfl) ?_
  refine z_iconst hx hb d_law_177 ?_
  refine z_iadd hx hb d_law_178 ?_
  refine s_ld hx hb hXs hbl (nA0 hbl) hS (i + 1) (by omega) (by omega) (by omega) d_law_179 ?_
  have hPc := pR (a := OUT k ao f1 :: R') (c := M) hP
  have hDc := dR (a := OUT k ao f1 :: R') (c := M) hD
  have hFc := fr hDc hS hA
  refine va_calli (va_runV (As := [.int (xs (i + 1))]) (rest := []) (b := hm) ⟨hx, hb, hml, hown, hts⟩ (hB H.size) ⟨callB_of 1 hts (good_MD_compile) rfl rfl rfl (hts _ k_67) (hts _ k_816) (by decide +kernel) ⟨(Nat.le_of_ble_eq_true rfl), (Nat.le_of_ble_eq_true rfl)⟩, (hts _ k_817), (hts _ k_818)⟩ ⟨fun a U g mk q => ⟨q.1, q.2.1, q.2.2.1, va_K.moved (u := U) (U := U.calling g mk a) (Vm.Alike.refl U.vm) q.2.2.2.1, q.2.2.2.2.1, q.2.2.2.2.2.calling⟩, (va_recv (q0 := 0) hK hPc rfl hM0), fun U hU hW => ⟨rfl, by rw [hU], by rw [hU]; exact hPc, va_K.moved hW.alike hK, hDc.weaken (fun _ _ _ _ => trivial), by rw [hU]; exact (hX.mono hS hFc).warm hW⟩⟩ rfl rfl hl.1 rfl (lv_room (Nat.le_of_ble_eq_true rfl)) d_law_180 ⟨by omega, by omega⟩) hS (fun q _ h => hFc q h) hFc (fun r9 u9 t H1 locs ht hvm h9 hB1 hz1 hk1 hS => ?_)
  obtain ⟨hP1, hD1⟩ := hB1
  rw [ht] at hP1
  obtain ⟨hP, hD⟩ := jR (a := OUT k ao f1 :: R') hP hD hk1 hFc hP1 hD1
  refine z_top h9 ?_
  clear hk1 hz1 hPc hDc hFc
  have hP : va_P D classes (OUT k ao f1 :: (R' ++ M')) H1 := hP
  have hD : va_D (va_A [] s.heap.size) (OUT k ao f1 :: (R' ++ M')) := hD
  clear ht
  generalize H1 = H at hP hS ⊢
  obtain ⟨q3, q4, hR1, hM1⟩ := hinv _ _ hI'
  refine lv_istore (lv' := [(6, .int bb), (5, .int kk), (0, .ref b), (1, .ref h0), (2, .ref hm), (3, .ref ao), (4, .int (iI (i : Int)))]) hx hb d_law_183 hl (by decide) rfl (fun ls hl => ?_)
  refine lv_aload_n hx hb d_law_185 rfl (lv_at hl 4 rfl) ?_
  have hPc := pR (a := OUT k ao f1 :: R') (c := M') hP
  have hDc := dR (a := OUT k ao f1 :: R') (c := M') hD
  refine rc_i (va_runV (As := []) (rest := []) (b := hm) ⟨hx, hb, hml, hown, hts⟩ hT ⟨callB_of 0 hts (good_MD_thrown) rfl rfl rfl (hts _ k_67) (hts _ k_812) (by decide +kernel) ⟨(Nat.le_of_ble_eq_true rfl), (Nat.le_of_ble_eq_true rfl)⟩, (hts _ k_813), (hts _ k_814)⟩ ⟨fun a U g mk q => ⟨q.1, q.2.1, va_K.moved (u := U) (U := U.calling g mk a) (Vm.Alike.refl U.vm) q.2.2.1, q.2.2.2.calling⟩, (va_recv (q0 := 0) hK hPc rfl hM1), fun U hU hW => ⟨rfl, by rw [hU]; exact hPc, va_K.moved hW.alike hK, by rw [hU]; exact (hX.mono (B := nA) hS (fun _ h => absurd h id)).warm hW⟩⟩ rfl rfl hl.1 rfl (lv_room (Nat.le_of_ble_eq_true rfl)) d_law_186 ⟨by omega, by omega⟩) (fun r9 h9 => ?_)
  refine z_top h9 ?_
  clear hPc hDc
  refine lv_iload hx hb d_law_189 (lv_at hl 1 rfl) ?_
  refine lv_icmp_eq (tgt := 196) hx hb d_law_191 (by decide) (fun h9 => ?_) (fun h9 => absurd rfl h9)
  refine lv_iload hx hb d_law_196 (lv_at hl 1 rfl) ?_
  refine lv_if_ne (tgt := 213) hx hb d_law_198 (by decide) (fun h9 => ?_) (fun h9 => ?_)
  · refine lv_goto (tgt := 1122) hx hb d_law_213 (by decide) ?_
    exact W.widen (by omega) (by omega) (kt _ _ _ _ _ _ hI' (lv_sub hl [2, 3, 4, 5, 6] rfl) hP hD hS)
  · refine lv_aload_n hx hb d_law_201 rfl (lv_at hl 5 rfl) ?_
    refine z_iconst hx hb d_law_202 ?_
    refine x_lald hx hb hK hP 0 1 rfl rfl (0) rfl (by decide) (by omega) d_law_203 ?_
    refine lv_iload hx hb d_law_204 (lv_at hl 0 rfl) ?_
    refine lv_i2l hx hb d_law_206 rfl ?_
    refine l_eq (tgt := 213) hx hb d_law_207 d_law_208 (by decide) (fun h7 => ?_) (fun h7 => absurd (hf1 h9) h7)
    refine lv_goto (tgt := 1122) hx hb d_law_213 (by decide) ?_
    exact W.widen (by omega) (by omega) (kt _ _ _ _ _ _ hI' (lv_sub hl [2, 3, 4, 5, 6] rfl) hP hD hS)

set_option maxHeartbeats 4000000 in
set_option maxRecDepth 20000 in
theorem lc_shifts {p : Program} {l : Launch} {e : Env} {s : State} {m : MethodId} {below : List Frame} {meth : Method} {c : Code} {b L : Nat} {xs : Nat → Int32} {D : va_G} {k : Nat → ClassId} {Q : State → Prop} (C0 : LC p s m c b L xs D k) {h0 hm ao i cells slots : Nat} {INV : va_W → va_W → Prop} {R M : va_W} (hinv : ∀ R M, INV R M → ∃ q1 q2 : List Value, R[0]? = some (h0, .inr (0, q1)) ∧ M[0]? = some (hm, .inr (8, q2))) (hRM : INV R M) (hi : i + 5 ≤ L) (hcs : cells + 1 ≤ room_1.cells ∧ slots + 6 ≤ room_1.slots) (hst : ST_shifts l D k h0 hm ao INV R M (xs (i + 1)))
    (kt : ∀ (R' M' : va_W) (f1 : Nat → Int64) (ls : Array Slot) (H : Heap) (locs : List Loc), INV R' M' → lv_has ls 7 [(0, .ref b), (1, .ref h0), (2, .ref hm), (3, .ref ao), (4, .int (iI (i : Int)))] → va_P D classes (OUT k ao f1 :: (R' ++ M')) H → va_D (va_A [] s.heap.size) (OUT k ao f1 :: (R' ++ M')) → va_S (va_A [] s.heap.size) s.heap H locs → W p l e room_1 s m #[Value.ref b] below meth c H locs (cells + 1) (slots + 6) Q (F0 m 1122 ls []))
    {f0 : Nat → Int64} {ls : Array Slot} {H : Heap} {locs : List Loc} (hl : lv_has ls 7 [(0, .ref b), (1, .ref h0), (2, .ref hm), (3, .ref ao), (4, .int (iI (i : Int)))]) (hP : va_P D classes (OUT k ao f0 :: (R ++ M)) H) (hD : va_D (va_A [] s.heap.size) (OUT k ao f0 :: (R ++ M))) (hS : va_S (va_A [] s.heap.size) s.heap H locs) : W p l e room_1 s m #[Value.ref b] below meth c H locs cells slots Q (F0 m 216 ls []) := by
  obtain ⟨hx, hb, hml, hown, hts, hXs, hbl, hL, hK, hX, hTX⟩ := C0
  obtain ⟨q1, q2, hR0, hM0⟩ := hinv _ _ hRM
  have hA : ∀ q : Nat, s.heap.size ≤ q → (va_A [] s.heap.size) q := fun q h => Or.inr h
  obtain ⟨R', M', hI', hC, hB⟩ := hst
  refine lv_aload_n hx hb d_law_216 rfl (lv_at hl 1 rfl) ?_
  refine lv_aload_n hx hb d_law_217 rfl (lv_at hl 0 rfl) ?_
  refine lv_iload hx hb d_law_218 (lv_at hl 4 rfl) ?_
  refine z_iconst hx hb d_law_220 ?_
  refine z_iadd hx hb d_law_221 ?_
  refine s_ld hx hb hXs hbl (nA0 hbl) hS (i + 1) (by omega) (by omega) (by omega) d_law_222 ?_
  by_cases hz1 : xs (i + 1) = 0
  · refine lv_if_eq (tgt := 230) hx hb d_law_223 (by decide) (fun h9 => ?_) (fun h9 => absurd hz1 h9)
    refine z_iconst hx hb d_law_230 ?_
    refine z_top (nz_0 hz1) ?_
    have hPc := pL (a := R) (c := M) (pR (a := [OUT k ao f0]) hP)
    have hDc := dL (a := R) (c := M) (dR (a := [OUT k ao f0]) hD)
    have hFc := fr hDc hS hA
    refine va_callv (va_runV (As := [.int (bI (nz (xs (i + 1))))]) (rest := []) (b := h0) ⟨hx, hb, hml, hown, hts⟩ (hC H.size) ⟨callB_of 1 hts (good_RC_shifts) rfl rfl rfl (hts _ k_59) (hts _ k_267) (by decide +kernel) ⟨(Nat.le_of_ble_eq_true rfl), (Nat.le_of_ble_eq_true rfl)⟩, (hts _ k_268), (hts _ k_269)⟩ ⟨fun a U g mk q => ⟨q.1, q.2.1, q.2.2.1, va_K.moved (u := U) (U := U.calling g mk a) (Vm.Alike.refl U.vm) q.2.2.2.1, q.2.2.2.2.1, q.2.2.2.2.2.calling⟩, (va_recv (q0 := 0) hK hPc rfl hR0), fun U hU hW => ⟨rfl, by rw [hU], by rw [hU]; exact hPc, va_K.moved hW.alike hK, hDc.weaken (fun _ _ _ _ => trivial), by rw [hU]; exact (hX.mono hS hFc).warm hW⟩⟩ rfl rfl hl.1 rfl (lv_room (Nat.le_of_ble_eq_true rfl)) d_law_231 ⟨by omega, by omega⟩) hS (fun q _ h => hFc q h) hFc (fun u9 t H1 locs ht hvm h9 hB1 hz1 hk1 hS => ?_)
    obtain ⟨hP1, hD1⟩ := hB1
    rw [ht] at hP1
    obtain ⟨hP, hD⟩ := jM (a := [OUT k ao f0]) (c := M) hP hD hk1 hFc hP1 hD1
    clear hk1 hz1 hPc hDc hFc
    have hP : va_P D classes (OUT k ao f0 :: (R' ++ M)) H1 := hP
    have hD : va_D (va_A [] s.heap.size) (OUT k ao f0 :: (R' ++ M)) := hD
    clear ht
    generalize H1 = H at hP hS ⊢
    refine lv_aload_n hx hb d_law_234 rfl (lv_at hl 2 rfl) ?_
    refine lv_aload_n hx hb d_law_235 rfl (lv_at hl 0 rfl) ?_
    refine lv_iload hx hb d_law_236 (lv_at hl 4 rfl) ?_
    refine z_iconst hx hb d_law_238 ?_
    refine z_iadd hx hb d_law_239 ?_
    refine s_ld hx hb hXs hbl (nA0 hbl) hS (i + 1) (by omega) (by omega) (by omega) d_law_240 ?_
    refine lv_if_eq (tgt := 248) hx hb d_law_241 (by decide) (fun h9 => ?_) (fun h9 => absurd hz1 h9)
    refine z_iconst hx hb d_law_248 ?_
    refine z_top (nz_0 hz1) ?_
    have hPc := pR (a := OUT k ao f0 :: R') (c := M) hP
    have hDc := dR (a := OUT k ao f0 :: R') (c := M) hD
    have hFc := fr hDc hS hA
    refine va_callv (va_runV (As := [.int (bI (nz (xs (i + 1))))]) (rest := []) (b := hm) ⟨hx, hb, hml, hown, hts⟩ (hB H.size) ⟨callB_of 1 hts (good_MD_shifts) rfl rfl rfl (hts _ k_67) (hts _ k_898) (by decide +kernel) ⟨(Nat.le_of_ble_eq_true rfl), (Nat.le_of_ble_eq_true rfl)⟩, (hts _ k_899), (hts _ k_900)⟩ ⟨fun a U g mk q => ⟨q.1, q.2.1, q.2.2.1, va_K.moved (u := U) (U := U.calling g mk a) (Vm.Alike.refl U.vm) q.2.2.2.1, q.2.2.2.2.1, q.2.2.2.2.2.calling⟩, (va_recv (q0 := 0) hK hPc rfl hM0), fun U hU hW => ⟨rfl, by rw [hU], by rw [hU]; exact hPc, va_K.moved hW.alike hK, hDc.weaken (fun _ _ _ _ => trivial), by rw [hU]; exact (hX.mono hS hFc).warm hW⟩⟩ rfl rfl hl.1 rfl (lv_room (Nat.le_of_ble_eq_true rfl)) d_law_249 ⟨by omega, by omega⟩) hS (fun q _ h => hFc q h) hFc (fun u9 t H1 locs ht hvm h9 hB1 hz1 hk1 hS => ?_)
    obtain ⟨hP1, hD1⟩ := hB1
    rw [ht] at hP1
    obtain ⟨hP, hD⟩ := jR (a := OUT k ao f0 :: R') hP hD hk1 hFc hP1 hD1
    clear hk1 hz1 hPc hDc hFc
    have hP : va_P D classes (OUT k ao f0 :: (R' ++ M')) H1 := hP
    have hD : va_D (va_A [] s.heap.size) (OUT k ao f0 :: (R' ++ M')) := hD
    clear ht
    generalize H1 = H at hP hS ⊢
    obtain ⟨q3, q4, hR1, hM1⟩ := hinv _ _ hI'
    refine lv_goto (tgt := 1122) hx hb d_law_252 (by decide) ?_
    exact W.widen (by omega) (by omega) (kt _ _ _ _ _ _ hI' (lv_sub hl [0, 1, 2, 3, 4] rfl) hP hD hS)
  · refine lv_if_eq (tgt := 230) hx hb d_law_223 (by decide) (fun h9 => absurd h9 hz1) (fun h9 => ?_)
    refine z_iconst hx hb d_law_226 ?_
    refine z_top (nz_1 hz1) ?_
    refine lv_goto (tgt := 231) hx hb d_law_227 (by decide) ?_
    have hPc := pL (a := R) (c := M) (pR (a := [OUT k ao f0]) hP)
    have hDc := dL (a := R) (c := M) (dR (a := [OUT k ao f0]) hD)
    have hFc := fr hDc hS hA
    refine va_callv (va_runV (As := [.int (bI (nz (xs (i + 1))))]) (rest := []) (b := h0) ⟨hx, hb, hml, hown, hts⟩ (hC H.size) ⟨callB_of 1 hts (good_RC_shifts) rfl rfl rfl (hts _ k_59) (hts _ k_267) (by decide +kernel) ⟨(Nat.le_of_ble_eq_true rfl), (Nat.le_of_ble_eq_true rfl)⟩, (hts _ k_268), (hts _ k_269)⟩ ⟨fun a U g mk q => ⟨q.1, q.2.1, q.2.2.1, va_K.moved (u := U) (U := U.calling g mk a) (Vm.Alike.refl U.vm) q.2.2.2.1, q.2.2.2.2.1, q.2.2.2.2.2.calling⟩, (va_recv (q0 := 0) hK hPc rfl hR0), fun U hU hW => ⟨rfl, by rw [hU], by rw [hU]; exact hPc, va_K.moved hW.alike hK, hDc.weaken (fun _ _ _ _ => trivial), by rw [hU]; exact (hX.mono hS hFc).warm hW⟩⟩ rfl rfl hl.1 rfl (lv_room (Nat.le_of_ble_eq_true rfl)) d_law_231 ⟨by omega, by omega⟩) hS (fun q _ h => hFc q h) hFc (fun u9 t H1 locs ht hvm h9 hB1 hz1 hk1 hS => ?_)
    obtain ⟨hP1, hD1⟩ := hB1
    rw [ht] at hP1
    obtain ⟨hP, hD⟩ := jM (a := [OUT k ao f0]) (c := M) hP hD hk1 hFc hP1 hD1
    clear hk1 hz1 hPc hDc hFc
    have hP : va_P D classes (OUT k ao f0 :: (R' ++ M)) H1 := hP
    have hD : va_D (va_A [] s.heap.size) (OUT k ao f0 :: (R' ++ M)) := hD
    clear ht
    generalize H1 = H at hP hS ⊢
    refine lv_aload_n hx hb d_law_234 rfl (lv_at hl 2 rfl) ?_
    refine lv_aload_n hx hb d_law_235 rfl (lv_at hl 0 rfl) ?_
    refine lv_iload hx hb d_law_236 (lv_at hl 4 rfl) ?_
    refine z_iconst hx hb d_law_238 ?_
    refine z_iadd hx hb d_law_239 ?_
    refine s_ld hx hb hXs hbl (nA0 hbl) hS (i + 1) (by omega) (by omega) (by omega) d_law_240 ?_
    refine lv_if_eq (tgt := 248) hx hb d_law_241 (by decide) (fun h9 => absurd h9 hz1) (fun h9 => ?_)
    refine z_iconst hx hb d_law_244 ?_
    refine z_top (nz_1 hz1) ?_
    refine lv_goto (tgt := 249) hx hb d_law_245 (by decide) ?_
    have hPc := pR (a := OUT k ao f0 :: R') (c := M) hP
    have hDc := dR (a := OUT k ao f0 :: R') (c := M) hD
    have hFc := fr hDc hS hA
    refine va_callv (va_runV (As := [.int (bI (nz (xs (i + 1))))]) (rest := []) (b := hm) ⟨hx, hb, hml, hown, hts⟩ (hB H.size) ⟨callB_of 1 hts (good_MD_shifts) rfl rfl rfl (hts _ k_67) (hts _ k_898) (by decide +kernel) ⟨(Nat.le_of_ble_eq_true rfl), (Nat.le_of_ble_eq_true rfl)⟩, (hts _ k_899), (hts _ k_900)⟩ ⟨fun a U g mk q => ⟨q.1, q.2.1, q.2.2.1, va_K.moved (u := U) (U := U.calling g mk a) (Vm.Alike.refl U.vm) q.2.2.2.1, q.2.2.2.2.1, q.2.2.2.2.2.calling⟩, (va_recv (q0 := 0) hK hPc rfl hM0), fun U hU hW => ⟨rfl, by rw [hU], by rw [hU]; exact hPc, va_K.moved hW.alike hK, hDc.weaken (fun _ _ _ _ => trivial), by rw [hU]; exact (hX.mono hS hFc).warm hW⟩⟩ rfl rfl hl.1 rfl (lv_room (Nat.le_of_ble_eq_true rfl)) d_law_249 ⟨by omega, by omega⟩) hS (fun q _ h => hFc q h) hFc (fun u9 t H1 locs ht hvm h9 hB1 hz1 hk1 hS => ?_)
    obtain ⟨hP1, hD1⟩ := hB1
    rw [ht] at hP1
    obtain ⟨hP, hD⟩ := jR (a := OUT k ao f0 :: R') hP hD hk1 hFc hP1 hD1
    clear hk1 hz1 hPc hDc hFc
    have hP : va_P D classes (OUT k ao f0 :: (R' ++ M')) H1 := hP
    have hD : va_D (va_A [] s.heap.size) (OUT k ao f0 :: (R' ++ M')) := hD
    clear ht
    generalize H1 = H at hP hS ⊢
    obtain ⟨q3, q4, hR1, hM1⟩ := hinv _ _ hI'
    refine lv_goto (tgt := 1122) hx hb d_law_252 (by decide) ?_
    exact W.widen (by omega) (by omega) (kt _ _ _ _ _ _ hI' (lv_sub hl [0, 1, 2, 3, 4] rfl) hP hD hS)

set_option maxHeartbeats 4000000 in
set_option maxRecDepth 20000 in
theorem lc_at {p : Program} {l : Launch} {e : Env} {s : State} {m : MethodId} {below : List Frame} {meth : Method} {c : Code} {b L : Nat} {xs : Nat → Int32} {D : va_G} {k : Nat → ClassId} {Q : State → Prop} (C0 : LC p s m c b L xs D k) {h0 hm ao i cells slots : Nat} {INV : va_W → va_W → Prop} {R M : va_W} (hinv : ∀ R M, INV R M → ∃ q1 q2 : List Value, R[0]? = some (h0, .inr (0, q1)) ∧ M[0]? = some (hm, .inr (8, q2))) (hRM : INV R M) (hi : i + 5 ≤ L) (hcs : cells + 1 ≤ room_1.cells ∧ slots + 6 ≤ room_1.slots) (hst : ST_at l D k h0 hm ao INV R M (xs (i + 1)) (xs (i + 2)) (xs (i + 3)))
    (kt : ∀ (R' M' : va_W) (f1 : Nat → Int64) (ls : Array Slot) (H : Heap) (locs : List Loc), INV R' M' → lv_has ls 7 [(0, .ref b), (1, .ref h0), (2, .ref hm), (3, .ref ao), (4, .int (iI (i : Int)))] → va_P D classes (OUT k ao f1 :: (R' ++ M')) H → va_D (va_A [] s.heap.size) (OUT k ao f1 :: (R' ++ M')) → va_S (va_A [] s.heap.size) s.heap H locs → W p l e room_1 s m #[Value.ref b] below meth c H locs (cells + 1) (slots + 6) Q (F0 m 1122 ls []))
    {f0 : Nat → Int64} {ls : Array Slot} {H : Heap} {locs : List Loc} (hl : lv_has ls 7 [(0, .ref b), (1, .ref h0), (2, .ref hm), (3, .ref ao), (4, .int (iI (i : Int)))]) (hP : va_P D classes (OUT k ao f0 :: (R ++ M)) H) (hD : va_D (va_A [] s.heap.size) (OUT k ao f0 :: (R ++ M))) (hS : va_S (va_A [] s.heap.size) s.heap H locs) : W p l e room_1 s m #[Value.ref b] below meth c H locs cells slots Q (F0 m 255 ls []) := by
  obtain ⟨hx, hb, hml, hown, hts, hXs, hbl, hL, hK, hX, hTX⟩ := C0
  obtain ⟨q1, q2, hR0, hM0⟩ := hinv _ _ hRM
  have hA : ∀ q : Nat, s.heap.size ≤ q → (va_A [] s.heap.size) q := fun q h => Or.inr h
  obtain ⟨R', M', kk, bb, rm, mc, ms, hI', hrm, hmc, hC, hB, hT⟩ := hst
  obtain ⟨f1, hf1, hC⟩ := hC H.size f0
  refine lv_aload_n hx hb d_law_255 rfl (lv_at hl 1 rfl) ?_
  refine lv_aload_n hx hb d_law_256 rfl (lv_at hl 0 rfl) ?_
  refine lv_iload hx hb d_law_257 (lv_at hl 4 rfl) ?_
  refine z_iconst hx hb d_law_259 ?_
  refine z_iadd hx hb d_law_260 ?_
  refine s_ld hx hb hXs hbl (nA0 hbl) hS (i + 1) (by omega) (by omega) (by omega) d_law_261 ?_
  refine lv_aload_n hx hb d_law_262 rfl (lv_at hl 0 rfl) ?_
  refine lv_iload hx hb d_law_263 (lv_at hl 4 rfl) ?_
  refine z_iconst hx hb d_law_265 ?_
  refine z_iadd hx hb d_law_266 ?_
  refine s_ld hx hb hXs hbl (nA0 hbl) hS (i + 2) (by omega) (by omega) (by omega) d_law_267 ?_
  refine lv_aload_n hx hb d_law_268 rfl (lv_at hl 0 rfl) ?_
  refine lv_iload hx hb d_law_269 (lv_at hl 4 rfl) ?_
  refine z_iconst hx hb d_law_271 ?_
  refine z_iadd hx hb d_law_272 ?_
  refine s_ld hx hb hXs hbl (nA0 hbl) hS (i + 3) (by omega) (by omega) (by omega) d_law_273 ?_
  refine lv_aload_n hx hb d_law_274 rfl (lv_at hl 3 rfl) ?_
  have hPa := pL (a := OUT k ao f0 :: R) (c := M) hP
  have hDa := dL (a := OUT k ao f0 :: R) (c := M) hD
  have hFa := fr hDa hS hA
  refine va_calli (runSW (n := 5) (As := [.ref h0, .int (xs (i + 1)), .int (xs (i + 2)), .int (xs (i + 3)), .ref ao]) (rest := []) ⟨hx, hb, hml, hown, hts⟩ hC good_LW_at rfl (hts _ k_58) (hts _ k_561) (hts _ k_562) (by decide +kernel) hrm ⟨fun a U g mk q => ⟨q.1, ⟨q.2.1.1, q.2.1.2.1, va_K.moved (u := U) (U := U.calling g mk a) (Vm.Alike.refl U.vm) q.2.1.2.2.1, q.2.1.2.2.2.1, q.2.1.2.2.2.2.calling⟩, q.2.2.calling⟩, fun U hU hW => ⟨rfl, ⟨by rw [hU], by rw [hU]; exact hPa, va_K.moved hW.alike hK, hDa.weaken (fun _ _ _ _ => trivial), by rw [hU]; exact (hX.mono hS hFa).warm hW⟩, by rw [hU]; exact (hTX.mono hS hFa).warm hW⟩⟩ rfl rfl hl.1 rfl (lv_room (Nat.le_of_ble_eq_true rfl)) d_law_275 ⟨by omega, by omega⟩) hS (fun q _ h => hFa q h) hFa (fun r9 u9 t H1 locs ht hvm h9 hB1 hz1 hk1 hS => ?_)
  obtain ⟨hP1, hD1⟩ := hB1
  rw [ht] at hP1
  obtain ⟨hP, hD⟩ := jL (c := M) hP hD hk1 hFa hP1 hD1
  refine z_top h9 ?_
  clear hk1 hz1 hPa hDa hFa hC
  have hP : va_P D classes (OUT k ao f1 :: (R' ++ M)) H1 := hP
  have hD : va_D (va_A [] s.heap.size) (OUT k ao f1 :: (R' ++ M)) := hD
  clear ht
  generalize H1 = H at hP hS ⊢
  refine lv_istore (lv' := [(5, .int kk), (0, .ref b), (1, .ref h0), (2, .ref hm), (3, .ref ao), (4, .int (iI (i : Int)))]) hx hb d_law_278 hl (by decide) rfl (fun ls hl => ?_)
  refine lv_aload_n hx hb d_law_280 rfl (lv_at hl 3 rfl) ?_
  refine lv_aload_n hx hb d_law_281 rfl (lv_at hl 1 rfl) ?_
  refine lv_iload hx hb d_law_282 (lv_at hl 5 rfl) ?_
  refine z_iconst hx hb d_law_284 ?_
  refine z_iadd hx hb d_law_285 ?_
  refine s_ld hx hb hXs hbl (nA0 hbl) hS (i + 1) (by omega) (by omega) (by omega) d_law_286 ?_
  refine lv_aload_n hx hb d_law_287 rfl (lv_at hl 1 rfl) ?_
  refine lv_iload hx hb d_law_288 (lv_at hl 5 rfl) ?_
  refine z_iconst hx hb d_law_290 ?_
  refine z_iadd hx hb d_law_291 ?_
  refine s_ld hx hb hXs hbl (nA0 hbl) hS (i + 2) (by omega) (by omega) (by omega) d_law_292 ?_
  refine lv_aload_n hx hb d_law_293 rfl (lv_at hl 1 rfl) ?_
  refine lv_iload hx hb d_law_294 (lv_at hl 5 rfl) ?_
  refine z_iconst hx hb d_law_296 ?_
  refine z_iadd hx hb d_law_297 ?_
  refine s_ld hx hb hXs hbl (nA0 hbl) hS (i + 3) (by omega) (by omega) (by omega) d_law_298 ?_
  have hPc := pR (a := OUT k ao f1 :: R') (c := M) hP
  have hDc := dR (a := OUT k ao f1 :: R') (c := M) hD
  have hFc := fr hDc hS hA
  refine va_calli (va_runV (As := [.int (xs (i + 1)), .int (xs (i + 2)), .int (xs (i + 3))]) (rest := []) (b := hm) ⟨hx, hb, hml, hown, hts⟩ (hB H.size) ⟨callB_of 3 hts (good_MD_at) rfl rfl rfl (hts _ k_67) (hts _ k_910) (by decide +kernel) ⟨(Nat.le_of_ble_eq_true rfl), (Nat.le_of_ble_eq_true rfl)⟩, (hts _ k_911), (hts _ k_912)⟩ ⟨fun a U g mk q => ⟨q.1, q.2.1, q.2.2.1, va_K.moved (u := U) (U := U.calling g mk a) (Vm.Alike.refl U.vm) q.2.2.2.1, q.2.2.2.2.1, q.2.2.2.2.2.calling⟩, (va_recv (q0 := 0) hK hPc rfl hM0), fun U hU hW => ⟨rfl, by rw [hU], by rw [hU]; exact hPc, va_K.moved hW.alike hK, hDc.weaken (fun _ _ _ _ => trivial), by rw [hU]; exact (hX.mono hS hFc).warm hW⟩⟩ rfl rfl hl.1 rfl (lv_room (Nat.le_of_ble_eq_true rfl)) d_law_299 ⟨by omega, by omega⟩) hS (fun q _ h => hFc q h) hFc (fun r9 u9 t H1 locs ht hvm h9 hB1 hz1 hk1 hS => ?_)
  obtain ⟨hP1, hD1⟩ := hB1
  rw [ht] at hP1
  obtain ⟨hP, hD⟩ := jR (a := OUT k ao f1 :: R') hP hD hk1 hFc hP1 hD1
  refine z_top h9 ?_
  clear hk1 hz1 hPc hDc hFc
  have hP : va_P D classes (OUT k ao f1 :: (R' ++ M')) H1 := hP
  have hD : va_D (va_A [] s.heap.size) (OUT k ao f1 :: (R' ++ M')) := hD
  clear ht
  generalize H1 = H at hP hS ⊢
  obtain ⟨q3, q4, hR1, hM1⟩ := hinv _ _ hI'
  refine lv_istore (lv' := [(6, .int bb), (5, .int kk), (0, .ref b), (1, .ref h0), (2, .ref hm), (3, .ref ao), (4, .int (iI (i : Int)))]) hx hb d_law_302 hl (by decide) rfl (fun ls hl => ?_)
  refine lv_aload_n hx hb d_law_304 rfl (lv_at hl 4 rfl) ?_
  have hPc := pR (a := OUT k ao f1 :: R') (c := M') hP
  have hDc := dR (a := OUT k ao f1 :: R') (c := M') hD
  refine rc_i (va_runV (As := []) (rest := []) (b := hm) ⟨hx, hb, hml, hown, hts⟩ hT ⟨callB_of 0 hts (good_MD_thrown) rfl rfl rfl (hts _ k_67) (hts _ k_812) (by decide +kernel) ⟨(Nat.le_of_ble_eq_true rfl), (Nat.le_of_ble_eq_true rfl)⟩, (hts _ k_813), (hts _ k_814)⟩ ⟨fun a U g mk q => ⟨q.1, q.2.1, va_K.moved (u := U) (U := U.calling g mk a) (Vm.Alike.refl U.vm) q.2.2.1, q.2.2.2.calling⟩, (va_recv (q0 := 0) hK hPc rfl hM1), fun U hU hW => ⟨rfl, by rw [hU]; exact hPc, va_K.moved hW.alike hK, by rw [hU]; exact (hX.mono (B := nA) hS (fun _ h => absurd h id)).warm hW⟩⟩ rfl rfl hl.1 rfl (lv_room (Nat.le_of_ble_eq_true rfl)) d_law_305 ⟨by omega, by omega⟩) (fun r9 h9 => ?_)
  refine z_top h9 ?_
  clear hPc hDc
  refine lv_iload hx hb d_law_308 (lv_at hl 1 rfl) ?_
  refine lv_icmp_eq (tgt := 315) hx hb d_law_310 (by decide) (fun h9 => ?_) (fun h9 => absurd rfl h9)
  refine lv_iload hx hb d_law_315 (lv_at hl 1 rfl) ?_
  refine lv_if_ne (tgt := 332) hx hb d_law_317 (by decide) (fun h9 => ?_) (fun h9 => ?_)
  · refine lv_goto (tgt := 1122) hx hb d_law_332 (by decide) ?_
    exact W.widen (by omega) (by omega) (kt _ _ _ _ _ _ hI' (lv_sub hl [2, 3, 4, 5, 6] rfl) hP hD hS)
  · refine lv_aload_n hx hb d_law_320 rfl (lv_at hl 5 rfl) ?_
    refine z_iconst hx hb d_law_321 ?_
    refine x_lald hx hb hK hP 0 1 rfl rfl (0) rfl (by decide) (by omega) d_law_322 ?_
    refine lv_iload hx hb d_law_323 (lv_at hl 0 rfl) ?_
    refine lv_i2l hx hb d_law_325 rfl ?_
    refine l_eq (tgt := 332) hx hb d_law_326 d_law_327 (by decide) (fun h7 => ?_) (fun h7 => absurd (hf1 h9) h7)
    refine lv_goto (tgt := 1122) hx hb d_law_332 (by decide) ?_
    exact W.widen (by omega) (by omega) (kt _ _ _ _ _ _ hI' (lv_sub hl [2, 3, 4, 5, 6] rfl) hP hD hS)

set_option maxHeartbeats 4000000 in
set_option maxRecDepth 20000 in
theorem lc_which {p : Program} {l : Launch} {e : Env} {s : State} {m : MethodId} {below : List Frame} {meth : Method} {c : Code} {b L : Nat} {xs : Nat → Int32} {D : va_G} {k : Nat → ClassId} {Q : State → Prop} (C0 : LC p s m c b L xs D k) {h0 hm ao i cells slots : Nat} {INV : va_W → va_W → Prop} {R M : va_W} (hinv : ∀ R M, INV R M → ∃ q1 q2 : List Value, R[0]? = some (h0, .inr (0, q1)) ∧ M[0]? = some (hm, .inr (8, q2))) (hRM : INV R M) (hi : i + 5 ≤ L) (hcs : cells + 1 ≤ room_1.cells ∧ slots + 6 ≤ room_1.slots) (hst : ST_which l D k h0 hm ao INV R M (xs (i + 1)) (xs (i + 2)) (xs (i + 3)))
    (kt : ∀ (R' M' : va_W) (f1 : Nat → Int64) (ls : Array Slot) (H : Heap) (locs : List Loc), INV R' M' → lv_has ls 7 [(0, .ref b), (1, .ref h0), (2, .ref hm), (3, .ref ao), (4, .int (iI (i : Int)))] → va_P D classes (OUT k ao f1 :: (R' ++ M')) H → va_D (va_A [] s.heap.size) (OUT k ao f1 :: (R' ++ M')) → va_S (va_A [] s.heap.size) s.heap H locs → W p l e room_1 s m #[Value.ref b] below meth c H locs (cells + 1) (slots + 6) Q (F0 m 1122 ls []))
    {f0 : Nat → Int64} {ls : Array Slot} {H : Heap} {locs : List Loc} (hl : lv_has ls 7 [(0, .ref b), (1, .ref h0), (2, .ref hm), (3, .ref ao), (4, .int (iI (i : Int)))]) (hP : va_P D classes (OUT k ao f0 :: (R ++ M)) H) (hD : va_D (va_A [] s.heap.size) (OUT k ao f0 :: (R ++ M))) (hS : va_S (va_A [] s.heap.size) s.heap H locs) : W p l e room_1 s m #[Value.ref b] below meth c H locs cells slots Q (F0 m 335 ls []) := by
  obtain ⟨hx, hb, hml, hown, hts, hXs, hbl, hL, hK, hX, hTX⟩ := C0
  obtain ⟨q1, q2, hR0, hM0⟩ := hinv _ _ hRM
  have hA : ∀ q : Nat, s.heap.size ≤ q → (va_A [] s.heap.size) q := fun q h => Or.inr h
  obtain ⟨R', M', kk, bb, rm, mc, ms, hI', hrm, hmc, hC, hB, hT⟩ := hst
  obtain ⟨f1, hf1, hC⟩ := hC H.size f0
  refine lv_aload_n hx hb d_law_335 rfl (lv_at hl 1 rfl) ?_
  refine lv_aload_n hx hb d_law_336 rfl (lv_at hl 0 rfl) ?_
  refine lv_iload hx hb d_law_337 (lv_at hl 4 rfl) ?_
  refine z_iconst hx hb d_law_339 ?_
  refine z_iadd hx hb d_law_340 ?_
  refine s_ld hx hb hXs hbl (nA0 hbl) hS (i + 1) (by omega) (by omega) (by omega) d_law_341 ?_
  refine lv_aload_n hx hb d_law_342 rfl (lv_at hl 0 rfl) ?_
  refine lv_iload hx hb d_law_343 (lv_at hl 4 rfl) ?_
  refine z_iconst hx hb d_law_345 ?_
  refine z_iadd hx hb d_law_346 ?_
  refine s_ld hx hb hXs hbl (nA0 hbl) hS (i + 2) (by omega) (by omega) (by omega) d_law_347 ?_
  refine lv_aload_n hx hb d_law_348 rfl (lv_at hl 0 rfl) ?_
  refine lv_iload hx hb d_law_349 (lv_at hl 4 rfl) ?_
  refine z_iconst hx hb d_law_351 ?_
  refine z_iadd hx hb d_law_352 ?_
  refine s_ld hx hb hXs hbl (nA0 hbl) hS (i + 3) (by omega) (by omega) (by omega) d_law_353 ?_
  refine lv_aload_n hx hb d_law_354 rfl (lv_at hl 3 rfl) ?_
  have hPa := pL (a := OUT k ao f0 :: R) (c := M) hP
  have hDa := dL (a := OUT k ao f0 :: R) (c := M) hD
  have hFa := fr hDa hS hA
  refine va_calli (runSW (n := 5) (As := [.ref h0, .int (xs (i + 1)), .int (xs (i + 2)), .int (xs (i + 3)), .ref ao]) (rest := []) ⟨hx, hb, hml, hown, hts⟩ hC good_LW_which rfl (hts _ k_58) (hts _ k_606) (hts _ k_607) (by decide +kernel) hrm ⟨fun a U g mk q => ⟨q.1, ⟨q.2.1.1, q.2.1.2.1, va_K.moved (u := U) (U := U.calling g mk a) (Vm.Alike.refl U.vm) q.2.1.2.2.1, q.2.1.2.2.2.1, q.2.1.2.2.2.2.calling⟩, q.2.2.calling⟩, fun U hU hW => ⟨rfl, ⟨by rw [hU], by rw [hU]; exact hPa, va_K.moved hW.alike hK, hDa.weaken (fun _ _ _ _ => trivial), by rw [hU]; exact (hX.mono hS hFa).warm hW⟩, by rw [hU]; exact (hTX.mono hS hFa).warm hW⟩⟩ rfl rfl hl.1 rfl (lv_room (Nat.le_of_ble_eq_true rfl)) d_law_355 ⟨by omega, by omega⟩) hS (fun q _ h => hFa q h) hFa (fun r9 u9 t H1 locs ht hvm h9 hB1 hz1 hk1 hS => ?_)
  obtain ⟨hP1, hD1⟩ := hB1
  rw [ht] at hP1
  obtain ⟨hP, hD⟩ := jL (c := M) hP hD hk1 hFa hP1 hD1
  refine z_top h9 ?_
  clear hk1 hz1 hPa hDa hFa hC
  have hP : va_P D classes (OUT k ao f1 :: (R' ++ M)) H1 := hP
  have hD : va_D (va_A [] s.heap.size) (OUT k ao f1 :: (R' ++ M)) := hD
  clear ht
  generalize H1 = H at hP hS ⊢
  refine lv_istore (lv' := [(5, .int kk), (0, .ref b), (1, .ref h0), (2, .ref hm), (3, .ref ao), (4, .int (iI (i : Int)))]) hx hb d_law_358 hl (by decide) rfl (fun ls hl => ?_)
  refine lv_aload_n hx hb d_law_360 rfl (lv_at hl 3 rfl) ?_
  refine lv_aload_n hx hb d_law_361 rfl (lv_at hl 1 rfl) ?_
  refine lv_iload hx hb d_law_362 (lv_at hl 5 rfl) ?_
  refine z_iconst hx hb d_law_364 ?_
  refine z_iadd hx hb d_law_365 ?_
  refine s_ld hx hb hXs hbl (nA0 hbl) hS (i + 1) (by omega) (by omega) (by omega) d_law_366 ?_
  refine lv_aload_n hx hb d_law_367 rfl (lv_at hl 1 rfl) ?_
  refine lv_iload hx hb d_law_368 (lv_at hl 5 rfl) ?_
  refine z_iconst hx hb d_law_370 ?_
  refine z_iadd hx hb d_law_371 ?_
  refine s_ld hx hb hXs hbl (nA0 hbl) hS (i + 2) (by omega) (by omega) (by omega) d_law_372 ?_
  refine lv_aload_n hx hb d_law_373 rfl (lv_at hl 1 rfl) ?_
  refine lv_iload hx hb d_law_374 (lv_at hl 5 rfl) ?_
  refine z_iconst hx hb d_law_376 ?_
  refine z_iadd hx hb d_law_377 ?_
  refine s_ld hx hb hXs hbl (nA0 hbl) hS (i + 3) (by omega) (by omega) (by omega) d_law_378 ?_
  have hPc := pR (a := OUT k ao f1 :: R') (c := M) hP
  have hDc := dR (a := OUT k ao f1 :: R') (c := M) hD
  have hFc := fr hDc hS hA
  refine va_calli (va_runV (As := [.int (xs (i + 1)), .int (xs (i + 2)), .int (xs (i + 3))]) (rest := []) (b := hm) ⟨hx, hb, hml, hown, hts⟩ (hB H.size) ⟨callB_of 3 hts (good_MD_which) rfl rfl rfl (hts _ k_67) (hts _ k_942) (by decide +kernel) ⟨(Nat.le_of_ble_eq_true rfl), (Nat.le_of_ble_eq_true rfl)⟩, (hts _ k_943), (hts _ k_944)⟩ ⟨fun a U g mk q => ⟨q.1, q.2.1, q.2.2.1, va_K.moved (u := U) (U := U.calling g mk a) (Vm.Alike.refl U.vm) q.2.2.2.1, q.2.2.2.2.1, q.2.2.2.2.2.calling⟩, (va_recv (q0 := 0) hK hPc rfl hM0), fun U hU hW => ⟨rfl, by rw [hU], by rw [hU]; exact hPc, va_K.moved hW.alike hK, hDc.weaken (fun _ _ _ _ => trivial), by rw [hU]; exact (hX.mono hS hFc).warm hW⟩⟩ rfl rfl hl.1 rfl (lv_room (Nat.le_of_ble_eq_true rfl)) d_law_379 ⟨by omega, by omega⟩) hS (fun q _ h => hFc q h) hFc (fun r9 u9 t H1 locs ht hvm h9 hB1 hz1 hk1 hS => ?_)
  obtain ⟨hP1, hD1⟩ := hB1
  rw [ht] at hP1
  obtain ⟨hP, hD⟩ := jR (a := OUT k ao f1 :: R') hP hD hk1 hFc hP1 hD1
  refine z_top h9 ?_
  clear hk1 hz1 hPc hDc hFc
  have hP : va_P D classes (OUT k ao f1 :: (R' ++ M')) H1 := hP
  have hD : va_D (va_A [] s.heap.size) (OUT k ao f1 :: (R' ++ M')) := hD
  clear ht
  generalize H1 = H at hP hS ⊢
  obtain ⟨q3, q4, hR1, hM1⟩ := hinv _ _ hI'
  refine lv_istore (lv' := [(6, .int bb), (5, .int kk), (0, .ref b), (1, .ref h0), (2, .ref hm), (3, .ref ao), (4, .int (iI (i : Int)))]) hx hb d_law_382 hl (by decide) rfl (fun ls hl => ?_)
  refine lv_aload_n hx hb d_law_384 rfl (lv_at hl 4 rfl) ?_
  have hPc := pR (a := OUT k ao f1 :: R') (c := M') hP
  have hDc := dR (a := OUT k ao f1 :: R') (c := M') hD
  refine rc_i (va_runV (As := []) (rest := []) (b := hm) ⟨hx, hb, hml, hown, hts⟩ hT ⟨callB_of 0 hts (good_MD_thrown) rfl rfl rfl (hts _ k_67) (hts _ k_812) (by decide +kernel) ⟨(Nat.le_of_ble_eq_true rfl), (Nat.le_of_ble_eq_true rfl)⟩, (hts _ k_813), (hts _ k_814)⟩ ⟨fun a U g mk q => ⟨q.1, q.2.1, va_K.moved (u := U) (U := U.calling g mk a) (Vm.Alike.refl U.vm) q.2.2.1, q.2.2.2.calling⟩, (va_recv (q0 := 0) hK hPc rfl hM1), fun U hU hW => ⟨rfl, by rw [hU]; exact hPc, va_K.moved hW.alike hK, by rw [hU]; exact (hX.mono (B := nA) hS (fun _ h => absurd h id)).warm hW⟩⟩ rfl rfl hl.1 rfl (lv_room (Nat.le_of_ble_eq_true rfl)) d_law_385 ⟨by omega, by omega⟩) (fun r9 h9 => ?_)
  refine z_top h9 ?_
  clear hPc hDc
  refine lv_iload hx hb d_law_388 (lv_at hl 1 rfl) ?_
  refine lv_icmp_eq (tgt := 395) hx hb d_law_390 (by decide) (fun h9 => ?_) (fun h9 => absurd rfl h9)
  refine lv_iload hx hb d_law_395 (lv_at hl 1 rfl) ?_
  refine lv_if_ne (tgt := 412) hx hb d_law_397 (by decide) (fun h9 => ?_) (fun h9 => ?_)
  · refine lv_goto (tgt := 1122) hx hb d_law_412 (by decide) ?_
    exact W.widen (by omega) (by omega) (kt _ _ _ _ _ _ hI' (lv_sub hl [2, 3, 4, 5, 6] rfl) hP hD hS)
  · refine lv_aload_n hx hb d_law_400 rfl (lv_at hl 5 rfl) ?_
    refine z_iconst hx hb d_law_401 ?_
    refine x_lald hx hb hK hP 0 1 rfl rfl (0) rfl (by decide) (by omega) d_law_402 ?_
    refine lv_iload hx hb d_law_403 (lv_at hl 0 rfl) ?_
    refine lv_i2l hx hb d_law_405 rfl ?_
    refine l_eq (tgt := 412) hx hb d_law_406 d_law_407 (by decide) (fun h7 => ?_) (fun h7 => absurd (hf1 h9) h7)
    refine lv_goto (tgt := 1122) hx hb d_law_412 (by decide) ?_
    exact W.widen (by omega) (by omega) (kt _ _ _ _ _ _ hI' (lv_sub hl [2, 3, 4, 5, 6] rfl) hP hD hS)

set_option maxHeartbeats 4000000 in
set_option maxRecDepth 20000 in
theorem lc_next {p : Program} {l : Launch} {e : Env} {s : State} {m : MethodId} {below : List Frame} {meth : Method} {c : Code} {b L : Nat} {xs : Nat → Int32} {D : va_G} {k : Nat → ClassId} {Q : State → Prop} (C0 : LC p s m c b L xs D k) {h0 hm ao i cells slots : Nat} {INV : va_W → va_W → Prop} {R M : va_W} (hinv : ∀ R M, INV R M → ∃ q1 q2 : List Value, R[0]? = some (h0, .inr (0, q1)) ∧ M[0]? = some (hm, .inr (8, q2))) (hRM : INV R M) (hi : i + 5 ≤ L) (hcs : cells + 1 ≤ room_1.cells ∧ slots + 6 ≤ room_1.slots) (hst : ST_next l D k h0 hm ao INV R M (xs (i + 1)) (xs (i + 2)) (xs (i + 3)))
    (kt : ∀ (R' M' : va_W) (f1 : Nat → Int64) (ls : Array Slot) (H : Heap) (locs : List Loc), INV R' M' → lv_has ls 7 [(0, .ref b), (1, .ref h0), (2, .ref hm), (3, .ref ao), (4, .int (iI (i : Int)))] → va_P D classes (OUT k ao f1 :: (R' ++ M')) H → va_D (va_A [] s.heap.size) (OUT k ao f1 :: (R' ++ M')) → va_S (va_A [] s.heap.size) s.heap H locs → W p l e room_1 s m #[Value.ref b] below meth c H locs (cells + 1) (slots + 6) Q (F0 m 1122 ls []))
    {f0 : Nat → Int64} {ls : Array Slot} {H : Heap} {locs : List Loc} (hl : lv_has ls 7 [(0, .ref b), (1, .ref h0), (2, .ref hm), (3, .ref ao), (4, .int (iI (i : Int)))]) (hP : va_P D classes (OUT k ao f0 :: (R ++ M)) H) (hD : va_D (va_A [] s.heap.size) (OUT k ao f0 :: (R ++ M))) (hS : va_S (va_A [] s.heap.size) s.heap H locs) : W p l e room_1 s m #[Value.ref b] below meth c H locs cells slots Q (F0 m 415 ls []) := by
  obtain ⟨hx, hb, hml, hown, hts, hXs, hbl, hL, hK, hX, hTX⟩ := C0
  obtain ⟨q1, q2, hR0, hM0⟩ := hinv _ _ hRM
  have hA : ∀ q : Nat, s.heap.size ≤ q → (va_A [] s.heap.size) q := fun q h => Or.inr h
  obtain ⟨R', M', kk, bb, rm, mc, ms, hI', hrm, hmc, hC, hB, hT⟩ := hst
  obtain ⟨f1, hf1, hC⟩ := hC H.size f0
  refine lv_aload_n hx hb d_law_415 rfl (lv_at hl 1 rfl) ?_
  refine lv_aload_n hx hb d_law_416 rfl (lv_at hl 0 rfl) ?_
  refine lv_iload hx hb d_law_417 (lv_at hl 4 rfl) ?_
  refine z_iconst hx hb d_law_419 ?_
  refine z_iadd hx hb d_law_420 ?_
  refine s_ld hx hb hXs hbl (nA0 hbl) hS (i + 1) (by omega) (by omega) (by omega) d_law_421 ?_
  refine lv_aload_n hx hb d_law_422 rfl (lv_at hl 0 rfl) ?_
  refine lv_iload hx hb d_law_423 (lv_at hl 4 rfl) ?_
  refine z_iconst hx hb d_law_425 ?_
  refine z_iadd hx hb d_law_426 ?_
  refine s_ld hx hb hXs hbl (nA0 hbl) hS (i + 2) (by omega) (by omega) (by omega) d_law_427 ?_
  refine lv_aload_n hx hb d_law_428 rfl (lv_at hl 0 rfl) ?_
  refine lv_iload hx hb d_law_429 (lv_at hl 4 rfl) ?_
  refine z_iconst hx hb d_law_431 ?_
  refine z_iadd hx hb d_law_432 ?_
  refine s_ld hx hb hXs hbl (nA0 hbl) hS (i + 3) (by omega) (by omega) (by omega) d_law_433 ?_
  refine lv_aload_n hx hb d_law_434 rfl (lv_at hl 3 rfl) ?_
  have hPa := pL (a := OUT k ao f0 :: R) (c := M) hP
  have hDa := dL (a := OUT k ao f0 :: R) (c := M) hD
  have hFa := fr hDa hS hA
  refine va_calli (runSW (n := 5) (As := [.ref h0, .int (xs (i + 1)), .int (xs (i + 2)), .int (xs (i + 3)), .ref ao]) (rest := []) ⟨hx, hb, hml, hown, hts⟩ hC good_LW_next rfl (hts _ k_58) (hts _ k_613) (hts _ k_614) (by decide +kernel) hrm ⟨fun a U g mk q => ⟨q.1, ⟨q.2.1.1, q.2.1.2.1, va_K.moved (u := U) (U := U.calling g mk a) (Vm.Alike.refl U.vm) q.2.1.2.2.1, q.2.1.2.2.2.1, q.2.1.2.2.2.2.calling⟩, q.2.2.calling⟩, fun U hU hW => ⟨rfl, ⟨by rw [hU], by rw [hU]; exact hPa, va_K.moved hW.alike hK, hDa.weaken (fun _ _ _ _ => trivial), by rw [hU]; exact (hX.mono hS hFa).warm hW⟩, by rw [hU]; exact (hTX.mono hS hFa).warm hW⟩⟩ rfl rfl hl.1 rfl (lv_room (Nat.le_of_ble_eq_true rfl)) d_law_435 ⟨by omega, by omega⟩) hS (fun q _ h => hFa q h) hFa (fun r9 u9 t H1 locs ht hvm h9 hB1 hz1 hk1 hS => ?_)
  obtain ⟨hP1, hD1⟩ := hB1
  rw [ht] at hP1
  obtain ⟨hP, hD⟩ := jL (c := M) hP hD hk1 hFa hP1 hD1
  refine z_top h9 ?_
  clear hk1 hz1 hPa hDa hFa hC
  have hP : va_P D classes (OUT k ao f1 :: (R' ++ M)) H1 := hP
  have hD : va_D (va_A [] s.heap.size) (OUT k ao f1 :: (R' ++ M)) := hD
  clear ht
  generalize H1 = H at hP hS ⊢
  refine lv_istore (lv' := [(5, .int kk), (0, .ref b), (1, .ref h0), (2, .ref hm), (3, .ref ao), (4, .int (iI (i : Int)))]) hx hb d_law_438 hl (by decide) rfl (fun ls hl => ?_)
  refine lv_aload_n hx hb d_law_440 rfl (lv_at hl 3 rfl) ?_
  refine lv_aload_n hx hb d_law_441 rfl (lv_at hl 1 rfl) ?_
  refine lv_iload hx hb d_law_442 (lv_at hl 5 rfl) ?_
  refine z_iconst hx hb d_law_444 ?_
  refine z_iadd hx hb d_law_445 ?_
  refine s_ld hx hb hXs hbl (nA0 hbl) hS (i + 1) (by omega) (by omega) (by omega) d_law_446 ?_
  refine lv_aload_n hx hb d_law_447 rfl (lv_at hl 1 rfl) ?_
  refine lv_iload hx hb d_law_448 (lv_at hl 5 rfl) ?_
  refine z_iconst hx hb d_law_450 ?_
  refine z_iadd hx hb d_law_451 ?_
  refine s_ld hx hb hXs hbl (nA0 hbl) hS (i + 2) (by omega) (by omega) (by omega) d_law_452 ?_
  refine lv_aload_n hx hb d_law_453 rfl (lv_at hl 1 rfl) ?_
  refine lv_iload hx hb d_law_454 (lv_at hl 5 rfl) ?_
  refine z_iconst hx hb d_law_456 ?_
  refine z_iadd hx hb d_law_457 ?_
  refine s_ld hx hb hXs hbl (nA0 hbl) hS (i + 3) (by omega) (by omega) (by omega) d_law_458 ?_
  have hPc := pR (a := OUT k ao f1 :: R') (c := M) hP
  have hDc := dR (a := OUT k ao f1 :: R') (c := M) hD
  have hFc := fr hDc hS hA
  refine va_calli (va_runV (As := [.int (xs (i + 1)), .int (xs (i + 2)), .int (xs (i + 3))]) (rest := []) (b := hm) ⟨hx, hb, hml, hown, hts⟩ (hB H.size) ⟨callB_of 3 hts (good_MD_next) rfl rfl rfl (hts _ k_67) (hts _ k_946) (by decide +kernel) ⟨(Nat.le_of_ble_eq_true rfl), (Nat.le_of_ble_eq_true rfl)⟩, (hts _ k_947), (hts _ k_948)⟩ ⟨fun a U g mk q => ⟨q.1, q.2.1, q.2.2.1, va_K.moved (u := U) (U := U.calling g mk a) (Vm.Alike.refl U.vm) q.2.2.2.1, q.2.2.2.2.1, q.2.2.2.2.2.calling⟩, (va_recv (q0 := 0) hK hPc rfl hM0), fun U hU hW => ⟨rfl, by rw [hU], by rw [hU]; exact hPc, va_K.moved hW.alike hK, hDc.weaken (fun _ _ _ _ => trivial), by rw [hU]; exact (hX.mono hS hFc).warm hW⟩⟩ rfl rfl hl.1 rfl (lv_room (Nat.le_of_ble_eq_true rfl)) d_law_459 ⟨by omega, by omega⟩) hS (fun q _ h => hFc q h) hFc (fun r9 u9 t H1 locs ht hvm h9 hB1 hz1 hk1 hS => ?_)
  obtain ⟨hP1, hD1⟩ := hB1
  rw [ht] at hP1
  obtain ⟨hP, hD⟩ := jR (a := OUT k ao f1 :: R') hP hD hk1 hFc hP1 hD1
  refine z_top h9 ?_
  clear hk1 hz1 hPc hDc hFc
  have hP : va_P D classes (OUT k ao f1 :: (R' ++ M')) H1 := hP
  have hD : va_D (va_A [] s.heap.size) (OUT k ao f1 :: (R' ++ M')) := hD
  clear ht
  generalize H1 = H at hP hS ⊢
  obtain ⟨q3, q4, hR1, hM1⟩ := hinv _ _ hI'
  refine lv_istore (lv' := [(6, .int bb), (5, .int kk), (0, .ref b), (1, .ref h0), (2, .ref hm), (3, .ref ao), (4, .int (iI (i : Int)))]) hx hb d_law_462 hl (by decide) rfl (fun ls hl => ?_)
  refine lv_aload_n hx hb d_law_464 rfl (lv_at hl 4 rfl) ?_
  have hPc := pR (a := OUT k ao f1 :: R') (c := M') hP
  have hDc := dR (a := OUT k ao f1 :: R') (c := M') hD
  refine rc_i (va_runV (As := []) (rest := []) (b := hm) ⟨hx, hb, hml, hown, hts⟩ hT ⟨callB_of 0 hts (good_MD_thrown) rfl rfl rfl (hts _ k_67) (hts _ k_812) (by decide +kernel) ⟨(Nat.le_of_ble_eq_true rfl), (Nat.le_of_ble_eq_true rfl)⟩, (hts _ k_813), (hts _ k_814)⟩ ⟨fun a U g mk q => ⟨q.1, q.2.1, va_K.moved (u := U) (U := U.calling g mk a) (Vm.Alike.refl U.vm) q.2.2.1, q.2.2.2.calling⟩, (va_recv (q0 := 0) hK hPc rfl hM1), fun U hU hW => ⟨rfl, by rw [hU]; exact hPc, va_K.moved hW.alike hK, by rw [hU]; exact (hX.mono (B := nA) hS (fun _ h => absurd h id)).warm hW⟩⟩ rfl rfl hl.1 rfl (lv_room (Nat.le_of_ble_eq_true rfl)) d_law_465 ⟨by omega, by omega⟩) (fun r9 h9 => ?_)
  refine z_top h9 ?_
  clear hPc hDc
  refine lv_iload hx hb d_law_468 (lv_at hl 1 rfl) ?_
  refine lv_icmp_eq (tgt := 475) hx hb d_law_470 (by decide) (fun h9 => ?_) (fun h9 => absurd rfl h9)
  refine lv_iload hx hb d_law_475 (lv_at hl 1 rfl) ?_
  refine lv_if_ne (tgt := 492) hx hb d_law_477 (by decide) (fun h9 => ?_) (fun h9 => ?_)
  · refine lv_goto (tgt := 1122) hx hb d_law_492 (by decide) ?_
    exact W.widen (by omega) (by omega) (kt _ _ _ _ _ _ hI' (lv_sub hl [2, 3, 4, 5, 6] rfl) hP hD hS)
  · refine lv_aload_n hx hb d_law_480 rfl (lv_at hl 5 rfl) ?_
    refine z_iconst hx hb d_law_481 ?_
    refine x_lald hx hb hK hP 0 1 rfl rfl (0) rfl (by decide) (by omega) d_law_482 ?_
    refine lv_iload hx hb d_law_483 (lv_at hl 0 rfl) ?_
    refine lv_i2l hx hb d_law_485 rfl ?_
    refine l_eq (tgt := 492) hx hb d_law_486 d_law_487 (by decide) (fun h7 => ?_) (fun h7 => absurd (hf1 h9) h7)
    refine lv_goto (tgt := 1122) hx hb d_law_492 (by decide) ?_
    exact W.widen (by omega) (by omega) (kt _ _ _ _ _ _ hI' (lv_sub hl [2, 3, 4, 5, 6] rfl) hP hD hS)

set_option maxHeartbeats 4000000 in
set_option maxRecDepth 20000 in
theorem lc_total {p : Program} {l : Launch} {e : Env} {s : State} {m : MethodId} {below : List Frame} {meth : Method} {c : Code} {b L : Nat} {xs : Nat → Int32} {D : va_G} {k : Nat → ClassId} {Q : State → Prop} (C0 : LC p s m c b L xs D k) {h0 hm ao i cells slots : Nat} {INV : va_W → va_W → Prop} {R M : va_W} (hinv : ∀ R M, INV R M → ∃ q1 q2 : List Value, R[0]? = some (h0, .inr (0, q1)) ∧ M[0]? = some (hm, .inr (8, q2))) (hRM : INV R M) (hi : i + 5 ≤ L) (hcs : cells + 1 ≤ room_1.cells ∧ slots + 6 ≤ room_1.slots) (hst : ST_total l D k h0 hm ao INV R M (xs (i + 1)) (xs (i + 2)) (xs (i + 3)) (xs (i + 4)))
    (kt : ∀ (R' M' : va_W) (f1 : Nat → Int64) (ls : Array Slot) (H : Heap) (locs : List Loc), INV R' M' → lv_has ls 7 [(0, .ref b), (1, .ref h0), (2, .ref hm), (3, .ref ao), (4, .int (iI (i : Int)))] → va_P D classes (OUT k ao f1 :: (R' ++ M')) H → va_D (va_A [] s.heap.size) (OUT k ao f1 :: (R' ++ M')) → va_S (va_A [] s.heap.size) s.heap H locs → W p l e room_1 s m #[Value.ref b] below meth c H locs (cells + 1) (slots + 6) Q (F0 m 1122 ls []))
    {f0 : Nat → Int64} {ls : Array Slot} {H : Heap} {locs : List Loc} (hl : lv_has ls 7 [(0, .ref b), (1, .ref h0), (2, .ref hm), (3, .ref ao), (4, .int (iI (i : Int)))]) (hP : va_P D classes (OUT k ao f0 :: (R ++ M)) H) (hD : va_D (va_A [] s.heap.size) (OUT k ao f0 :: (R ++ M))) (hS : va_S (va_A [] s.heap.size) s.heap H locs) : W p l e room_1 s m #[Value.ref b] below meth c H locs cells slots Q (F0 m 495 ls []) := by
  obtain ⟨hx, hb, hml, hown, hts, hXs, hbl, hL, hK, hX, hTX⟩ := C0
  obtain ⟨q1, q2, hR0, hM0⟩ := hinv _ _ hRM
  have hA : ∀ q : Nat, s.heap.size ≤ q → (va_A [] s.heap.size) q := fun q h => Or.inr h
  obtain ⟨R', M', kk, bb, rm, mc, ms, hI', hrm, hmc, hC, hB, hT⟩ := hst
  obtain ⟨f1, hf1, hC⟩ := hC H.size f0
  refine lv_aload_n hx hb d_law_495 rfl (lv_at hl 1 rfl) ?_
  refine lv_aload_n hx hb d_law_496 rfl (lv_at hl 0 rfl) ?_
  refine lv_iload hx hb d_law_497 (lv_at hl 4 rfl) ?_
  refine z_iconst hx hb d_law_499 ?_
  refine z_iadd hx hb d_law_500 ?_
  refine s_ld hx hb hXs hbl (nA0 hbl) hS (i + 1) (by omega) (by omega) (by omega) d_law_501 ?_
  refine lv_aload_n hx hb d_law_502 rfl (lv_at hl 0 rfl) ?_
  refine lv_iload hx hb d_law_503 (lv_at hl 4 rfl) ?_
  refine z_iconst hx hb d_law_505 ?_
  refine z_iadd hx hb d_law_506 ?_
  refine s_ld hx hb hXs hbl (nA0 hbl) hS (i + 2) (by omega) (by omega) (by omega) d_law_507 ?_
  refine lv_aload_n hx hb d_law_508 rfl (lv_at hl 0 rfl) ?_
  refine lv_iload hx hb d_law_509 (lv_at hl 4 rfl) ?_
  refine z_iconst hx hb d_law_511 ?_
  refine z_iadd hx hb d_law_512 ?_
  refine s_ld hx hb hXs hbl (nA0 hbl) hS (i + 3) (by omega) (by omega) (by omega) d_law_513 ?_
  refine lv_aload_n hx hb d_law_514 rfl (lv_at hl 0 rfl) ?_
  refine lv_iload hx hb d_law_515 (lv_at hl 4 rfl) ?_
  refine z_iconst hx hb d_law_517 ?_
  refine z_iadd hx hb d_law_518 ?_
  refine s_ld hx hb hXs hbl (nA0 hbl) hS (i + 4) (by omega) (by omega) (by omega) d_law_519 ?_
  refine lv_aload_n hx hb d_law_520 rfl (lv_at hl 3 rfl) ?_
  have hPa := pL (a := OUT k ao f0 :: R) (c := M) hP
  have hDa := dL (a := OUT k ao f0 :: R) (c := M) hD
  have hFa := fr hDa hS hA
  refine va_calli (runSW (n := 6) (As := [.ref h0, .int (xs (i + 1)), .int (xs (i + 2)), .int (xs (i + 3)), .int (xs (i + 4)), .ref ao]) (rest := []) ⟨hx, hb, hml, hown, hts⟩ hC good_LW_total rfl (hts _ k_58) (hts _ k_653) (hts _ k_654) (by decide +kernel) hrm ⟨fun a U g mk q => ⟨q.1, ⟨q.2.1.1, q.2.1.2.1, va_K.moved (u := U) (U := U.calling g mk a) (Vm.Alike.refl U.vm) q.2.1.2.2.1, q.2.1.2.2.2.1, q.2.1.2.2.2.2.calling⟩, q.2.2.calling⟩, fun U hU hW => ⟨rfl, ⟨by rw [hU], by rw [hU]; exact hPa, va_K.moved hW.alike hK, hDa.weaken (fun _ _ _ _ => trivial), by rw [hU]; exact (hX.mono hS hFa).warm hW⟩, by rw [hU]; exact (hTX.mono hS hFa).warm hW⟩⟩ rfl rfl hl.1 rfl (lv_room (Nat.le_of_ble_eq_true rfl)) d_law_521 ⟨by omega, by omega⟩) hS (fun q _ h => hFa q h) hFa (fun r9 u9 t H1 locs ht hvm h9 hB1 hz1 hk1 hS => ?_)
  obtain ⟨hP1, hD1⟩ := hB1
  rw [ht] at hP1
  obtain ⟨hP, hD⟩ := jL (c := M) hP hD hk1 hFa hP1 hD1
  refine z_top h9 ?_
  clear hk1 hz1 hPa hDa hFa hC
  have hP : va_P D classes (OUT k ao f1 :: (R' ++ M)) H1 := hP
  have hD : va_D (va_A [] s.heap.size) (OUT k ao f1 :: (R' ++ M)) := hD
  clear ht
  generalize H1 = H at hP hS ⊢
  refine lv_istore (lv' := [(5, .int kk), (0, .ref b), (1, .ref h0), (2, .ref hm), (3, .ref ao), (4, .int (iI (i : Int)))]) hx hb d_law_524 hl (by decide) rfl (fun ls hl => ?_)
  refine lv_aload_n hx hb d_law_526 rfl (lv_at hl 3 rfl) ?_
  refine lv_aload_n hx hb d_law_527 rfl (lv_at hl 1 rfl) ?_
  refine lv_iload hx hb d_law_528 (lv_at hl 5 rfl) ?_
  refine z_iconst hx hb d_law_530 ?_
  refine z_iadd hx hb d_law_531 ?_
  refine s_ld hx hb hXs hbl (nA0 hbl) hS (i + 1) (by omega) (by omega) (by omega) d_law_532 ?_
  refine lv_aload_n hx hb d_law_533 rfl (lv_at hl 1 rfl) ?_
  refine lv_iload hx hb d_law_534 (lv_at hl 5 rfl) ?_
  refine z_iconst hx hb d_law_536 ?_
  refine z_iadd hx hb d_law_537 ?_
  refine s_ld hx hb hXs hbl (nA0 hbl) hS (i + 2) (by omega) (by omega) (by omega) d_law_538 ?_
  refine lv_aload_n hx hb d_law_539 rfl (lv_at hl 1 rfl) ?_
  refine lv_iload hx hb d_law_540 (lv_at hl 5 rfl) ?_
  refine z_iconst hx hb d_law_542 ?_
  refine z_iadd hx hb d_law_543 ?_
  refine s_ld hx hb hXs hbl (nA0 hbl) hS (i + 3) (by omega) (by omega) (by omega) d_law_544 ?_
  refine lv_aload_n hx hb d_law_545 rfl (lv_at hl 1 rfl) ?_
  refine lv_iload hx hb d_law_546 (lv_at hl 5 rfl) ?_
  refine z_iconst hx hb d_law_548 ?_
  refine z_iadd hx hb d_law_549 ?_
  refine s_ld hx hb hXs hbl (nA0 hbl) hS (i + 4) (by omega) (by omega) (by omega) d_law_550 ?_
  have hPc := pR (a := OUT k ao f1 :: R') (c := M) hP
  have hDc := dR (a := OUT k ao f1 :: R') (c := M) hD
  have hFc := fr hDc hS hA
  refine va_calli (va_runV (As := [.int (xs (i + 1)), .int (xs (i + 2)), .int (xs (i + 3)), .int (xs (i + 4))]) (rest := []) (b := hm) ⟨hx, hb, hml, hown, hts⟩ (hB H.size) ⟨callB_of 4 hts (good_MD_total) rfl rfl rfl (hts _ k_67) (hts _ k_954) (by decide +kernel) ⟨(Nat.le_of_ble_eq_true rfl), (Nat.le_of_ble_eq_true rfl)⟩, (hts _ k_955), (hts _ k_956)⟩ ⟨fun a U g mk q => ⟨q.1, q.2.1, q.2.2.1, va_K.moved (u := U) (U := U.calling g mk a) (Vm.Alike.refl U.vm) q.2.2.2.1, q.2.2.2.2.1, q.2.2.2.2.2.calling⟩, (va_recv (q0 := 0) hK hPc rfl hM0), fun U hU hW => ⟨rfl, by rw [hU], by rw [hU]; exact hPc, va_K.moved hW.alike hK, hDc.weaken (fun _ _ _ _ => trivial), by rw [hU]; exact (hX.mono hS hFc).warm hW⟩⟩ rfl rfl hl.1 rfl (lv_room (Nat.le_of_ble_eq_true rfl)) d_law_551 ⟨by omega, by omega⟩) hS (fun q _ h => hFc q h) hFc (fun r9 u9 t H1 locs ht hvm h9 hB1 hz1 hk1 hS => ?_)
  obtain ⟨hP1, hD1⟩ := hB1
  rw [ht] at hP1
  obtain ⟨hP, hD⟩ := jR (a := OUT k ao f1 :: R') hP hD hk1 hFc hP1 hD1
  refine z_top h9 ?_
  clear hk1 hz1 hPc hDc hFc
  have hP : va_P D classes (OUT k ao f1 :: (R' ++ M')) H1 := hP
  have hD : va_D (va_A [] s.heap.size) (OUT k ao f1 :: (R' ++ M')) := hD
  clear ht
  generalize H1 = H at hP hS ⊢
  obtain ⟨q3, q4, hR1, hM1⟩ := hinv _ _ hI'
  refine lv_istore (lv' := [(6, .int bb), (5, .int kk), (0, .ref b), (1, .ref h0), (2, .ref hm), (3, .ref ao), (4, .int (iI (i : Int)))]) hx hb d_law_554 hl (by decide) rfl (fun ls hl => ?_)
  refine lv_aload_n hx hb d_law_556 rfl (lv_at hl 4 rfl) ?_
  have hPc := pR (a := OUT k ao f1 :: R') (c := M') hP
  have hDc := dR (a := OUT k ao f1 :: R') (c := M') hD
  refine rc_i (va_runV (As := []) (rest := []) (b := hm) ⟨hx, hb, hml, hown, hts⟩ hT ⟨callB_of 0 hts (good_MD_thrown) rfl rfl rfl (hts _ k_67) (hts _ k_812) (by decide +kernel) ⟨(Nat.le_of_ble_eq_true rfl), (Nat.le_of_ble_eq_true rfl)⟩, (hts _ k_813), (hts _ k_814)⟩ ⟨fun a U g mk q => ⟨q.1, q.2.1, va_K.moved (u := U) (U := U.calling g mk a) (Vm.Alike.refl U.vm) q.2.2.1, q.2.2.2.calling⟩, (va_recv (q0 := 0) hK hPc rfl hM1), fun U hU hW => ⟨rfl, by rw [hU]; exact hPc, va_K.moved hW.alike hK, by rw [hU]; exact (hX.mono (B := nA) hS (fun _ h => absurd h id)).warm hW⟩⟩ rfl rfl hl.1 rfl (lv_room (Nat.le_of_ble_eq_true rfl)) d_law_557 ⟨by omega, by omega⟩) (fun r9 h9 => ?_)
  refine z_top h9 ?_
  clear hPc hDc
  refine lv_iload hx hb d_law_560 (lv_at hl 1 rfl) ?_
  refine lv_icmp_eq (tgt := 567) hx hb d_law_562 (by decide) (fun h9 => ?_) (fun h9 => absurd rfl h9)
  refine lv_iload hx hb d_law_567 (lv_at hl 1 rfl) ?_
  refine lv_if_ne (tgt := 584) hx hb d_law_569 (by decide) (fun h9 => ?_) (fun h9 => ?_)
  · refine lv_goto (tgt := 1122) hx hb d_law_584 (by decide) ?_
    exact W.widen (by omega) (by omega) (kt _ _ _ _ _ _ hI' (lv_sub hl [2, 3, 4, 5, 6] rfl) hP hD hS)
  · refine lv_aload_n hx hb d_law_572 rfl (lv_at hl 5 rfl) ?_
    refine z_iconst hx hb d_law_573 ?_
    refine x_lald hx hb hK hP 0 1 rfl rfl (0) rfl (by decide) (by omega) d_law_574 ?_
    refine lv_iload hx hb d_law_575 (lv_at hl 0 rfl) ?_
    refine lv_i2l hx hb d_law_577 rfl ?_
    refine l_eq (tgt := 584) hx hb d_law_578 d_law_579 (by decide) (fun h7 => ?_) (fun h7 => absurd (hf1 h9) h7)
    refine lv_goto (tgt := 1122) hx hb d_law_584 (by decide) ?_
    exact W.widen (by omega) (by omega) (kt _ _ _ _ _ _ hI' (lv_sub hl [2, 3, 4, 5, 6] rfl) hP hD hS)

set_option maxHeartbeats 4000000 in
set_option maxRecDepth 20000 in
theorem lc_dayOf {p : Program} {l : Launch} {e : Env} {s : State} {m : MethodId} {below : List Frame} {meth : Method} {c : Code} {b L : Nat} {xs : Nat → Int32} {D : va_G} {k : Nat → ClassId} {Q : State → Prop} (C0 : LC p s m c b L xs D k) {h0 hm ao i cells slots : Nat} {INV : va_W → va_W → Prop} {R M : va_W} (hinv : ∀ R M, INV R M → ∃ q1 q2 : List Value, R[0]? = some (h0, .inr (0, q1)) ∧ M[0]? = some (hm, .inr (8, q2))) (hRM : INV R M) (hi : i + 5 ≤ L) (hcs : cells + 1 ≤ room_1.cells ∧ slots + 6 ≤ room_1.slots) (hst : ST_dayOf l D k h0 hm ao INV R M (xs (i + 1)) (xs (i + 2)) (xs (i + 3)))
    (kt : ∀ (R' M' : va_W) (f1 : Nat → Int64) (ls : Array Slot) (H : Heap) (locs : List Loc), INV R' M' → lv_has ls 7 [(0, .ref b), (1, .ref h0), (2, .ref hm), (3, .ref ao), (4, .int (iI (i : Int)))] → va_P D classes (OUT k ao f1 :: (R' ++ M')) H → va_D (va_A [] s.heap.size) (OUT k ao f1 :: (R' ++ M')) → va_S (va_A [] s.heap.size) s.heap H locs → W p l e room_1 s m #[Value.ref b] below meth c H locs (cells + 1) (slots + 6) Q (F0 m 1122 ls []))
    {f0 : Nat → Int64} {ls : Array Slot} {H : Heap} {locs : List Loc} (hl : lv_has ls 7 [(0, .ref b), (1, .ref h0), (2, .ref hm), (3, .ref ao), (4, .int (iI (i : Int)))]) (hP : va_P D classes (OUT k ao f0 :: (R ++ M)) H) (hD : va_D (va_A [] s.heap.size) (OUT k ao f0 :: (R ++ M))) (hS : va_S (va_A [] s.heap.size) s.heap H locs) : W p l e room_1 s m #[Value.ref b] below meth c H locs cells slots Q (F0 m 587 ls []) := by
  obtain ⟨hx, hb, hml, hown, hts, hXs, hbl, hL, hK, hX, hTX⟩ := C0
  obtain ⟨q1, q2, hR0, hM0⟩ := hinv _ _ hRM
  have hA : ∀ q : Nat, s.heap.size ≤ q → (va_A [] s.heap.size) q := fun q h => Or.inr h
  obtain ⟨M', w, hI', hC, hB⟩ := hst
  refine lv_aload_n hx hb d_law_587 rfl (lv_at hl 1 rfl) ?_
  refine lv_aload_n hx hb d_law_588 rfl (lv_at hl 0 rfl) ?_
  refine lv_iload hx hb d_law_589 (lv_at hl 4 rfl) ?_
  refine z_iconst hx hb d_law_591 ?_
  refine z_iadd hx hb d_law_592 ?_
  refine s_ld hx hb hXs hbl (nA0 hbl) hS (i + 1) (by omega) (by omega) (by omega) d_law_593 ?_
  refine lv_aload_n hx hb d_law_594 rfl (lv_at hl 0 rfl) ?_
  refine lv_iload hx hb d_law_595 (lv_at hl 4 rfl) ?_
  refine z_iconst hx hb d_law_597 ?_
  refine z_iadd hx hb d_law_598 ?_
  refine s_ld hx hb hXs hbl (nA0 hbl) hS (i + 2) (by omega) (by omega) (by omega) d_law_599 ?_
  refine lv_aload_n hx hb d_law_600 rfl (lv_at hl 0 rfl) ?_
  refine lv_iload hx hb d_law_601 (lv_at hl 4 rfl) ?_
  refine z_iconst hx hb d_law_603 ?_
  refine z_iadd hx hb d_law_604 ?_
  refine s_ld hx hb hXs hbl (nA0 hbl) hS (i + 3) (by omega) (by omega) (by omega) d_law_605 ?_
  have hPc := pL (a := R) (c := M) (pR (a := [OUT k ao f0]) hP)
  have hDc := dL (a := R) (c := M) (dR (a := [OUT k ao f0]) hD)
  refine rc_i (va_runV (As := [.int (xs (i + 1)), .int (xs (i + 2)), .int (xs (i + 3))]) (rest := []) (b := h0) ⟨hx, hb, hml, hown, hts⟩ hC ⟨callB_of 3 hts (good_RC_dayOf) rfl rfl rfl (hts _ k_59) (hts _ k_271) (by decide +kernel) ⟨(Nat.le_of_ble_eq_true rfl), (Nat.le_of_ble_eq_true rfl)⟩, (hts _ k_272), (hts _ k_273)⟩ ⟨fun a U g mk q => ⟨q.1, q.2.1, va_K.moved (u := U) (U := U.calling g mk a) (Vm.Alike.refl U.vm) q.2.2.1, q.2.2.2.calling⟩, (va_recv (q0 := 0) hK hPc rfl hR0), fun U hU hW => ⟨rfl, by rw [hU]; exact hPc, va_K.moved hW.alike hK, by rw [hU]; exact (hX.mono (B := nA) hS (fun _ h => absurd h id)).warm hW⟩⟩ rfl rfl hl.1 rfl (lv_room (Nat.le_of_ble_eq_true rfl)) d_law_606 ⟨by omega, by omega⟩) (fun r9 h9 => ?_)
  refine z_top h9 ?_
  clear hPc hDc
  refine lv_aload_n hx hb d_law_609 rfl (lv_at hl 2 rfl) ?_
  refine lv_aload_n hx hb d_law_610 rfl (lv_at hl 0 rfl) ?_
  refine lv_iload hx hb d_law_611 (lv_at hl 4 rfl) ?_
  refine z_iconst hx hb d_law_613 ?_
  refine z_iadd hx hb d_law_614 ?_
  refine s_ld hx hb hXs hbl (nA0 hbl) hS (i + 1) (by omega) (by omega) (by omega) d_law_615 ?_
  refine lv_aload_n hx hb d_law_616 rfl (lv_at hl 0 rfl) ?_
  refine lv_iload hx hb d_law_617 (lv_at hl 4 rfl) ?_
  refine z_iconst hx hb d_law_619 ?_
  refine z_iadd hx hb d_law_620 ?_
  refine s_ld hx hb hXs hbl (nA0 hbl) hS (i + 2) (by omega) (by omega) (by omega) d_law_621 ?_
  refine lv_aload_n hx hb d_law_622 rfl (lv_at hl 0 rfl) ?_
  refine lv_iload hx hb d_law_623 (lv_at hl 4 rfl) ?_
  refine z_iconst hx hb d_law_625 ?_
  refine z_iadd hx hb d_law_626 ?_
  refine s_ld hx hb hXs hbl (nA0 hbl) hS (i + 3) (by omega) (by omega) (by omega) d_law_627 ?_
  have hPc := pR (a := OUT k ao f0 :: R) (c := M) hP
  have hDc := dR (a := OUT k ao f0 :: R) (c := M) hD
  have hFc := fr hDc hS hA
  refine va_calli (va_runV (As := [.int (xs (i + 1)), .int (xs (i + 2)), .int (xs (i + 3))]) (rest := [.int w]) (b := hm) ⟨hx, hb, hml, hown, hts⟩ (hB H.size) ⟨callB_of 3 hts (good_MD_dayOf) rfl rfl rfl (hts _ k_67) (hts _ k_958) (by decide +kernel) ⟨(Nat.le_of_ble_eq_true rfl), (Nat.le_of_ble_eq_true rfl)⟩, (hts _ k_959), (hts _ k_960)⟩ ⟨fun a U g mk q => ⟨q.1, q.2.1, q.2.2.1, va_K.moved (u := U) (U := U.calling g mk a) (Vm.Alike.refl U.vm) q.2.2.2.1, q.2.2.2.2.1, q.2.2.2.2.2.calling⟩, (va_recv (q0 := 0) hK hPc rfl hM0), fun U hU hW => ⟨rfl, by rw [hU], by rw [hU]; exact hPc, va_K.moved hW.alike hK, hDc.weaken (fun _ _ _ _ => trivial), by rw [hU]; exact (hX.mono hS hFc).warm hW⟩⟩ rfl rfl hl.1 rfl (lv_room (Nat.le_of_ble_eq_true rfl)) d_law_628 ⟨by omega, by omega⟩) hS (fun q _ h => hFc q h) hFc (fun r9 u9 t H1 locs ht hvm h9 hB1 hz1 hk1 hS => ?_)
  obtain ⟨hP1, hD1⟩ := hB1
  rw [ht] at hP1
  obtain ⟨hP, hD⟩ := jR (a := OUT k ao f0 :: R) hP hD hk1 hFc hP1 hD1
  refine z_top h9 ?_
  clear hk1 hz1 hPc hDc hFc
  have hP : va_P D classes (OUT k ao f0 :: (R ++ M')) H1 := hP
  have hD : va_D (va_A [] s.heap.size) (OUT k ao f0 :: (R ++ M')) := hD
  clear ht
  generalize H1 = H at hP hS ⊢
  obtain ⟨q3, q4, hR1, hM1⟩ := hinv _ _ hI'
  refine lv_icmp_eq (tgt := 1122) hx hb d_law_631 (by decide) (fun h9 => ?_) (fun h9 => absurd rfl h9)
  exact W.widen (by omega) (by omega) (kt _ _ _ _ _ _ hI' (lv_sub hl [0, 1, 2, 3, 4] rfl) hP hD hS)

