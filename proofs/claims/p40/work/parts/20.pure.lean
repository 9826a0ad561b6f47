/-! what the methods reckon, as functions -/
/-! bundles: what the cells of an object hold -/
abbrev bX2 : Type := (Nat → Int64) × (Nat → Int32) × (Nat → Int32) × (Nat → Int32) × (Nat → Int32) × Int32
abbrev X2_names (b : bX2) : Nat → Int64 := b.1
abbrev X2_warm (b : bX2) : Nat → Int32 := b.2.1
abbrev X2_force (b : bX2) : Nat → Int32 := b.2.2.1
abbrev X2_from (b : bX2) : Nat → Int32 := b.2.2.2.1
abbrev X2_hours (b : bX2) : Nat → Int32 := b.2.2.2.2.1
abbrev X2_count (b : bX2) : Int32 := b.2.2.2.2.2
abbrev bX4 : Type := (Nat → Int64) × (Nat → Int32) × (Nat → Int32) × (Nat → Int32) × (Nat → Int32) × Int32
abbrev X4_names (b : bX4) : Nat → Int64 := b.1
abbrev X4_from (b : bX4) : Nat → Int32 := b.2.1
abbrev X4_weakest (b : bX4) : Nat → Int32 := b.2.2.1
abbrev X4_strongest (b : bX4) : Nat → Int32 := b.2.2.2.1
abbrev X4_nerve (b : bX4) : Nat → Int32 := b.2.2.2.2.1
abbrev X4_count (b : bX4) : Int32 := b.2.2.2.2.2
abbrev bX6 : Type := (Nat → Nat) × (Nat → Int32) × (Nat → Int32) × (Nat → Int32) × (Nat → Nat) × (Nat → Int32) × Int32 × Int32
abbrev X6_deeds (b : bX6) : Nat → Nat := b.1
abbrev X6_targets (b : bX6) : Nat → Int32 := b.2.1
abbrev X6_firstSteps (b : bX6) : Nat → Int32 := b.2.2.1
abbrev X6_endSteps (b : bX6) : Nat → Int32 := b.2.2.2.1
abbrev X6_stepKinds (b : bX6) : Nat → Nat := b.2.2.2.2.1
abbrev X6_stepValues (b : bX6) : Nat → Int32 := b.2.2.2.2.2.1
abbrev X6_count (b : bX6) : Int32 := b.2.2.2.2.2.2.1
abbrev X6_steps (b : bX6) : Int32 := b.2.2.2.2.2.2.2
abbrev bX7 : Type := Unit
abbrev bX8 : Type := Int32 × Int32 × Int32 × Int32 × Int32 × Int32 × Int32 × Int32 × (Nat → Int32) × (Nat → Int32) × (Nat → Int32)
abbrev X8_hour (b : bX8) : Int32 := b.1
abbrev X8_warmth (b : bX8) : Int32 := b.2.1
abbrev X8_strength (b : bX8) : Int32 := b.2.2.1
abbrev X8_charge (b : bX8) : Int32 := b.2.2.2.1
abbrev X8_lemons (b : bX8) : Int32 := b.2.2.2.2.1
abbrev X8_saucers (b : bX8) : Int32 := b.2.2.2.2.2.1
abbrev X8_coins (b : bX8) : Int32 := b.2.2.2.2.2.2.1
abbrev X8_storms (b : bX8) : Int32 := b.2.2.2.2.2.2.2.1
abbrev X8_frontSteeped (b : bX8) : Nat → Int32 := b.2.2.2.2.2.2.2.2.1
abbrev X8_guestServed (b : bX8) : Nat → Int32 := b.2.2.2.2.2.2.2.2.2.1
abbrev X8_guestStormed (b : bX8) : Nat → Int32 := b.2.2.2.2.2.2.2.2.2.2
abbrev bX9 : Type := (Nat → Int32) × Int32
abbrev X9_stack (b : bX9) : Nat → Int32 := b.1
abbrev X9_height (b : bX9) : Int32 := b.2
abbrev bX10 : Type := (Nat → Int32) × Int32
abbrev X10_bytes (b : bX10) : Nat → Int32 := b.1
abbrev X10_length (b : bX10) : Int32 := b.2
abbrev bX11 : Type := (Nat → Nat) × (Nat → Int32) × (Nat → Int64) × Int32 × Int32 × Int32 × Int32
abbrev X11_kinds (b : bX11) : Nat → Nat := b.1
abbrev X11_starts (b : bX11) : Nat → Int32 := b.2.1
abbrev X11_values (b : bX11) : Nat → Int64 := b.2.2.1
abbrev X11_count (b : bX11) : Int32 := b.2.2.2.1
abbrev X11_cursor (b : bX11) : Int32 := b.2.2.2.2.1
abbrev X11_error (b : bX11) : Int32 := b.2.2.2.2.2.1
abbrev X11_errorToken (b : bX11) : Int32 := b.2.2.2.2.2.2
abbrev bX12 : Type := Int32
abbrev X12_errorPosition (b : bX12) : Int32 := b
abbrev bX13 : Type := Int32
abbrev X13_state (b : bX13) : Int32 := b
abbrev bX14 : Type := Int32 × Int32 × Int32 × Int32 × Int32
abbrev X14_isWarm (b : bX14) : Int32 := b.1
abbrev X14_force (b : bX14) : Int32 := b.2.1
abbrev X14_at (b : bX14) : Int32 := b.2.2.1
abbrev X14_stays (b : bX14) : Int32 := b.2.2.2.1
abbrev X14_place (b : bX14) : Int32 := b.2.2.2.2
abbrev bX15 : Type := Int32 × Int32 × Int32 × Int32 × Int32
abbrev X15_at (b : bX15) : Int32 := b.1
abbrev X15_low (b : bX15) : Int32 := b.2.1
abbrev X15_high (b : bX15) : Int32 := b.2.2.1
abbrev X15_nerve (b : bX15) : Int32 := b.2.2.2.1
abbrev X15_place (b : bX15) : Int32 := b.2.2.2.2
abbrev bX16 : Type := Int32 × Int32
abbrev X16_sort (b : bX16) : Int32 := b.1
abbrev X16_n (b : bX16) : Int32 := b.2
abbrev bX17 : Type := Int32 × Int32
abbrev X17_does (b : bX17) : Int32 := b.1
abbrev X17_whom (b : bX17) : Int32 := b.2
abbrev bX18 : Type := Int32 × Int32 × Int32 × Int32 × Int32 × Int32 × Int32 × Int32
abbrev X18_hour (b : bX18) : Int32 := b.1
abbrev X18_warmth (b : bX18) : Int32 := b.2.1
abbrev X18_strength (b : bX18) : Int32 := b.2.2.1
abbrev X18_charge (b : bX18) : Int32 := b.2.2.2.1
abbrev X18_lemons (b : bX18) : Int32 := b.2.2.2.2.1
abbrev X18_saucers (b : bX18) : Int32 := b.2.2.2.2.2.1
abbrev X18_coins (b : bX18) : Int32 := b.2.2.2.2.2.2.1
abbrev X18_storms (b : bX18) : Int32 := b.2.2.2.2.2.2.2

def f_X1_beginsOrder (x0 : Nat) : Option (Int32) :=
  if x0 < 52 then
  if x0 = 11 then
  some 1 else
  if x0 < 52 then
  if x0 = 14 then
  some 1 else
  if x0 < 52 then
  if x0 = 12 then
  some 1 else
  if x0 < 52 then
  if x0 = 13 then
  some 1 else
  some 0 else none else none else none else none

def f_X11_has (x0 : Int32) (b_h : bX11) : Option (Int32) :=
  if x0 < 0 then
  some 0 else
  if (X11_count b_h) ≤ x0 then
  some 0 else
  if (400 : Int32) < x0 then
  some 0 else
  some 1

def f_X11_kindAt (x0 : Int32) (b_h : bX11) : Option (Nat) :=
  (f_X11_has x0 b_h).bind fun u1 =>
  if u1 = 0 then
  some 49 else
  if x0 < 0 ∨ 401 ≤ x0.toNatClampNeg then none else
  some ((X11_kinds b_h) x0.toNatClampNeg)

def f_X11_failUnless (x0 : Int32) (x1 : Int32) (x2 : Int32) (b_h : bX11) : Option (Int32 × Int32) :=
  if x0 = 0 then
  if (X11_error b_h) = 0 then
  some (x1, x2) else
  some ((X11_error b_h), (X11_errorToken b_h)) else
  some ((X11_error b_h), (X11_errorToken b_h))

def f_X11_valueAt (x0 : Int32) (b_h : bX11) : Option (Int64) :=
  (f_X11_has x0 b_h).bind fun u1 =>
  if u1 = 0 then
  some 0 else
  if x0 < 0 ∨ 401 ≤ x0.toNatClampNeg then none else
  some ((X11_values b_h) x0.toNatClampNeg)

def f_X2_find_L2 (n : Nat) (x0 : Int64) (b_h : bX2) (v1 : Int64) (v3 : Int32) : Option ((Int32) ⊕ (Int32)) :=
  if (X2_count b_h) ≤ v3 then
  some (Sum.inr (-1)) else
  if v3 < 0 ∨ 10 ≤ v3.toNatClampNeg then none else
  if (lg_cmp ((X2_names b_h) v3.toNatClampNeg) v1) = 0 then
  some (Sum.inr v3) else
  some (Sum.inl (v3 + 1))
def f_X2_find (n : Nat) (x0 : Int64) (b_h : bX2) : Option (Int32) :=
  iter (fun s : Int32 => f_X2_find_L2 n x0 b_h x0 s) n 0

def f_X1_numberIn_R26 (x1 : Int32) (x2 : Int32) (x3 : Int32) (b_a0 : bX11) (v1 : Int32) (v4 : Int32) (w_a0_error : Int32) (w_a0_errorToken : Int32) (t0 : Int32) : Option (Int32 × Int32 × Int32) :=
  (f_X11_failUnless t0 5 v1 ((X11_kinds b_a0), (X11_starts b_a0), (X11_values b_a0), (X11_count b_a0), (X11_cursor b_a0), w_a0_error, w_a0_errorToken)).bind fun u3 =>
  some (v4, u3.1, u3.2)
def f_X1_numberIn_R25 (x1 : Int32) (x2 : Int32) (x3 : Int32) (b_a0 : bX11) (v1 : Int32) (v4 : Int32) (w_a0_error : Int32) (w_a0_errorToken : Int32) : Option (Int32 × Int32 × Int32) :=
  f_X1_numberIn_R26 x1 x2 x3 b_a0 v1 v4 w_a0_error w_a0_errorToken 0
def f_X1_numberIn (x1 : Int32) (x2 : Int32) (x3 : Int32) (b_a0 : bX11) : Option (Int32 × Int32 × Int32) :=
  (f_X11_valueAt x1 b_a0).bind fun u1 =>
  if (Int64.toInt32 u1) < x2 then
  f_X1_numberIn_R25 x1 x2 x3 b_a0 x1 (Int64.toInt32 u1) (X11_error b_a0) (X11_errorToken b_a0) else
  if x3 < (Int64.toInt32 u1) then
  f_X1_numberIn_R25 x1 x2 x3 b_a0 x1 (Int64.toInt32 u1) (X11_error b_a0) (X11_errorToken b_a0) else
  f_X1_numberIn_R26 x1 x2 x3 b_a0 x1 (Int64.toInt32 u1) (X11_error b_a0) (X11_errorToken b_a0) 1

def f_X2_add (x0 : Int64) (x1 : Int32) (x2 : Int32) (x3 : Int32) (x4 : Int32) (b_h : bX2) : Option ((Nat → Int64) × (Nat → Int32) × (Nat → Int32) × (Nat → Int32) × (Nat → Int32) × Int32) :=
  if (10 : Int32) ≤ (X2_count b_h) then
  some ((X2_names b_h), (X2_warm b_h), (X2_force b_h), (X2_from b_h), (X2_hours b_h), (X2_count b_h)) else
  if (X2_count b_h) < 0 ∨ 10 ≤ (X2_count b_h).toNatClampNeg then none else
  if (X2_count b_h) < 0 ∨ 10 ≤ (X2_count b_h).toNatClampNeg then none else
  if (X2_count b_h) < 0 ∨ 10 ≤ (X2_count b_h).toNatClampNeg then none else
  if (X2_count b_h) < 0 ∨ 10 ≤ (X2_count b_h).toNatClampNeg then none else
  if (X2_count b_h) < 0 ∨ 10 ≤ (X2_count b_h).toNatClampNeg then none else
  some ((vp_updL (X2_names b_h) (X2_count b_h).toNatClampNeg x0), (upd (X2_warm b_h) (X2_count b_h).toNatClampNeg (vp_nar .boolean x1)), (upd (X2_force b_h) (X2_count b_h).toNatClampNeg x2), (upd (X2_from b_h) (X2_count b_h).toNatClampNeg x3), (upd (X2_hours b_h) (X2_count b_h).toNatClampNeg x4), ((X2_count b_h) + 1))

def f_X1_checkFront_R63 (n : Nat) (x1 : Int32) (b_a0 : bX11) (b_a2 : bX2) (v1 : Int32) (v3 : Int64) (w_a0_error : Int32) (w_a0_errorToken : Int32) (w_a2_names : Nat → Int64) (w_a2_warm : Nat → Int32) (w_a2_force : Nat → Int32) (w_a2_from : Nat → Int32) (w_a2_hours : Nat → Int32) (w_a2_count : Int32) (t0 : Int32) : Option (Int32 × Int32 × (Nat → Int64) × (Nat → Int32) × (Nat → Int32) × (Nat → Int32) × (Nat → Int32) × Int32) :=
  (f_X1_numberIn (v1 + 4) 1 9 ((X11_kinds b_a0), (X11_starts b_a0), (X11_values b_a0), (X11_count b_a0), (X11_cursor b_a0), w_a0_error, w_a0_errorToken)).bind fun u10 =>
  (f_X1_numberIn (v1 + 6) 0 60 ((X11_kinds b_a0), (X11_starts b_a0), (X11_values b_a0), (X11_count b_a0), (X11_cursor b_a0), u10.2.1, u10.2.2)).bind fun u11 =>
  (f_X1_numberIn (v1 + 8) 1 12 ((X11_kinds b_a0), (X11_starts b_a0), (X11_values b_a0), (X11_count b_a0), (X11_cursor b_a0), u11.2.1, u11.2.2)).bind fun u12 =>
  (f_X2_add v3 t0 u10.1 u11.1 u12.1 (w_a2_names, w_a2_warm, w_a2_force, w_a2_from, w_a2_hours, w_a2_count)).bind fun u13 =>
  some (u12.2.1, u12.2.2, u13.1, u13.2.1, u13.2.2.1, u13.2.2.2.1, u13.2.2.2.2.1, u13.2.2.2.2.2)
def f_X1_checkFront_R40 (n : Nat) (x1 : Int32) (b_a0 : bX11) (b_a2 : bX2) (v1 : Int32) (v3 : Int64) (w_a0_error : Int32) (w_a0_errorToken : Int32) (w_a2_names : Nat → Int64) (w_a2_warm : Nat → Int32) (w_a2_force : Nat → Int32) (w_a2_from : Nat → Int32) (w_a2_hours : Nat → Int32) (w_a2_count : Int32) (t0 : Int32) : Option (Int32 × Int32 × (Nat → Int64) × (Nat → Int32) × (Nat → Int32) × (Nat → Int32) × (Nat → Int32) × Int32) :=
  (f_X11_failUnless t0 4 v1 ((X11_kinds b_a0), (X11_starts b_a0), (X11_values b_a0), (X11_count b_a0), (X11_cursor b_a0), w_a0_error, w_a0_errorToken)).bind fun u6 =>
  (f_X11_kindAt (v1 + 2) ((X11_kinds b_a0), (X11_starts b_a0), (X11_values b_a0), (X11_count b_a0), (X11_cursor b_a0), u6.1, u6.2)).bind fun u7 =>
  if u7 < 52 then
  if u7 = 2 then
  f_X1_checkFront_R63 n x1 b_a0 b_a2 v1 v3 u6.1 u6.2 w_a2_names w_a2_warm w_a2_force w_a2_from w_a2_hours w_a2_count 1 else
  f_X1_checkFront_R63 n x1 b_a0 b_a2 v1 v3 u6.1 u6.2 w_a2_names w_a2_warm w_a2_force w_a2_from w_a2_hours w_a2_count 0 else none
def f_X1_checkFront_R20 (n : Nat) (x1 : Int32) (b_a0 : bX11) (b_a2 : bX2) (v1 : Int32) (v3 : Int64) (w_a0_error : Int32) (w_a0_errorToken : Int32) (w_a2_names : Nat → Int64) (w_a2_warm : Nat → Int32) (w_a2_force : Nat → Int32) (w_a2_from : Nat → Int32) (w_a2_hours : Nat → Int32) (w_a2_count : Int32) (t0 : Int32) : Option (Int32 × Int32 × (Nat → Int64) × (Nat → Int32) × (Nat → Int32) × (Nat → Int32) × (Nat → Int32) × Int32) :=
  (f_X11_failUnless t0 2 v1 ((X11_kinds b_a0), (X11_starts b_a0), (X11_values b_a0), (X11_count b_a0), (X11_cursor b_a0), w_a0_error, w_a0_errorToken)).bind fun u4 =>
  if (10 : Int32) ≤ w_a2_count then
  f_X1_checkFront_R40 n x1 b_a0 b_a2 v1 v3 u4.1 u4.2 w_a2_names w_a2_warm w_a2_force w_a2_from w_a2_hours w_a2_count 0 else
  f_X1_checkFront_R40 n x1 b_a0 b_a2 v1 v3 u4.1 u4.2 w_a2_names w_a2_warm w_a2_force w_a2_from w_a2_hours w_a2_count 1
def f_X1_checkFront (n : Nat) (x1 : Int32) (b_a0 : bX11) (b_a2 : bX2) : Option (Int32 × Int32 × (Nat → Int64) × (Nat → Int32) × (Nat → Int32) × (Nat → Int32) × (Nat → Int32) × Int32) :=
  (f_X11_valueAt x1 b_a0).bind fun u1 =>
  (f_X2_find n u1 b_a2).bind fun u2 =>
  if 0 ≤ u2 then
  f_X1_checkFront_R20 n x1 b_a0 b_a2 x1 u1 (X11_error b_a0) (X11_errorToken b_a0) (X2_names b_a2) (X2_warm b_a2) (X2_force b_a2) (X2_from b_a2) (X2_hours b_a2) (X2_count b_a2) 0 else
  f_X1_checkFront_R20 n x1 b_a0 b_a2 x1 u1 (X11_error b_a0) (X11_errorToken b_a0) (X2_names b_a2) (X2_warm b_a2) (X2_force b_a2) (X2_from b_a2) (X2_hours b_a2) (X2_count b_a2) 1

def f_X4_find_L2 (n : Nat) (x0 : Int64) (b_h : bX4) (v1 : Int64) (v3 : Int32) : Option ((Int32) ⊕ (Int32)) :=
  if (X4_count b_h) ≤ v3 then
  some (Sum.inr (-1)) else
  if v3 < 0 ∨ 10 ≤ v3.toNatClampNeg then none else
  if (lg_cmp ((X4_names b_h) v3.toNatClampNeg) v1) = 0 then
  some (Sum.inr v3) else
  some (Sum.inl (v3 + 1))
def f_X4_find (n : Nat) (x0 : Int64) (b_h : bX4) : Option (Int32) :=
  iter (fun s : Int32 => f_X4_find_L2 n x0 b_h x0 s) n 0

def f_X4_add (x0 : Int64) (x1 : Int32) (x2 : Int32) (x3 : Int32) (x4 : Int32) (b_h : bX4) : Option ((Nat → Int64) × (Nat → Int32) × (Nat → Int32) × (Nat → Int32) × (Nat → Int32) × Int32) :=
  if (10 : Int32) ≤ (X4_count b_h) then
  some ((X4_names b_h), (X4_from b_h), (X4_weakest b_h), (X4_strongest b_h), (X4_nerve b_h), (X4_count b_h)) else
  if (X4_count b_h) < 0 ∨ 10 ≤ (X4_count b_h).toNatClampNeg then none else
  if (X4_count b_h) < 0 ∨ 10 ≤ (X4_count b_h).toNatClampNeg then none else
  if (X4_count b_h) < 0 ∨ 10 ≤ (X4_count b_h).toNatClampNeg then none else
  if (X4_count b_h) < 0 ∨ 10 ≤ (X4_count b_h).toNatClampNeg then none else
  if (X4_count b_h) < 0 ∨ 10 ≤ (X4_count b_h).toNatClampNeg then none else
  some ((vp_updL (X4_names b_h) (X4_count b_h).toNatClampNeg x0), (upd (X4_from b_h) (X4_count b_h).toNatClampNeg x1), (upd (X4_weakest b_h) (X4_count b_h).toNatClampNeg x2), (upd (X4_strongest b_h) (X4_count b_h).toNatClampNeg x3), (upd (X4_nerve b_h) (X4_count b_h).toNatClampNeg x4), ((X4_count b_h) + 1))

def f_X1_checkGuest_R40 (n : Nat) (x1 : Int32) (b_a0 : bX11) (b_a2 : bX4) (v1 : Int32) (v3 : Int64) (w_a0_error : Int32) (w_a0_errorToken : Int32) (w_a2_names : Nat → Int64) (w_a2_from : Nat → Int32) (w_a2_weakest : Nat → Int32) (w_a2_strongest : Nat → Int32) (w_a2_nerve : Nat → Int32) (w_a2_count : Int32) (t0 : Int32) : Option (Int32 × Int32 × (Nat → Int64) × (Nat → Int32) × (Nat → Int32) × (Nat → Int32) × (Nat → Int32) × Int32) :=
  (f_X11_failUnless t0 4 v1 ((X11_kinds b_a0), (X11_starts b_a0), (X11_values b_a0), (X11_count b_a0), (X11_cursor b_a0), w_a0_error, w_a0_errorToken)).bind fun u6 =>
  (f_X1_numberIn (v1 + 2) 0 60 ((X11_kinds b_a0), (X11_starts b_a0), (X11_values b_a0), (X11_count b_a0), (X11_cursor b_a0), u6.1, u6.2)).bind fun u7 =>
  (f_X1_numberIn (v1 + 4) 0 30 ((X11_kinds b_a0), (X11_starts b_a0), (X11_values b_a0), (X11_count b_a0), (X11_cursor b_a0), u7.2.1, u7.2.2)).bind fun u8 =>
  (f_X1_numberIn (v1 + 6) u8.1 30 ((X11_kinds b_a0), (X11_starts b_a0), (X11_values b_a0), (X11_count b_a0), (X11_cursor b_a0), u8.2.1, u8.2.2)).bind fun u9 =>
  (f_X1_numberIn (v1 + 8) 0 20 ((X11_kinds b_a0), (X11_starts b_a0), (X11_values b_a0), (X11_count b_a0), (X11_cursor b_a0), u9.2.1, u9.2.2)).bind fun u10 =>
  (f_X4_add v3 u7.1 u8.1 u9.1 u10.1 (w_a2_names, w_a2_from, w_a2_weakest, w_a2_strongest, w_a2_nerve, w_a2_count)).bind fun u11 =>
  some (u10.2.1, u10.2.2, u11.1, u11.2.1, u11.2.2.1, u11.2.2.2.1, u11.2.2.2.2.1, u11.2.2.2.2.2)
def f_X1_checkGuest_R20 (n : Nat) (x1 : Int32) (b_a0 : bX11) (b_a2 : bX4) (v1 : Int32) (v3 : Int64) (w_a0_error : Int32) (w_a0_errorToken : Int32) (w_a2_names : Nat → Int64) (w_a2_from : Nat → Int32) (w_a2_weakest : Nat → Int32) (w_a2_strongest : Nat → Int32) (w_a2_nerve : Nat → Int32) (w_a2_count : Int32) (t0 : Int32) : Option (Int32 × Int32 × (Nat → Int64) × (Nat → Int32) × (Nat → Int32) × (Nat → Int32) × (Nat → Int32) × Int32) :=
  (f_X11_failUnless t0 2 v1 ((X11_kinds b_a0), (X11_starts b_a0), (X11_values b_a0), (X11_count b_a0), (X11_cursor b_a0), w_a0_error, w_a0_errorToken)).bind fun u4 =>
  if (10 : Int32) ≤ w_a2_count then
  f_X1_checkGuest_R40 n x1 b_a0 b_a2 v1 v3 u4.1 u4.2 w_a2_names w_a2_from w_a2_weakest w_a2_strongest w_a2_nerve w_a2_count 0 else
  f_X1_checkGuest_R40 n x1 b_a0 b_a2 v1 v3 u4.1 u4.2 w_a2_names w_a2_from w_a2_weakest w_a2_strongest w_a2_nerve w_a2_count 1
def f_X1_checkGuest (n : Nat) (x1 : Int32) (b_a0 : bX11) (b_a2 : bX4) : Option (Int32 × Int32 × (Nat → Int64) × (Nat → Int32) × (Nat → Int32) × (Nat → Int32) × (Nat → Int32) × Int32) :=
  (f_X11_valueAt x1 b_a0).bind fun u1 =>
  (f_X4_find n u1 b_a2).bind fun u2 =>
  if 0 ≤ u2 then
  f_X1_checkGuest_R20 n x1 b_a0 b_a2 x1 u1 (X11_error b_a0) (X11_errorToken b_a0) (X4_names b_a2) (X4_from b_a2) (X4_weakest b_a2) (X4_strongest b_a2) (X4_nerve b_a2) (X4_count b_a2) 0 else
  f_X1_checkGuest_R20 n x1 b_a0 b_a2 x1 u1 (X11_error b_a0) (X11_errorToken b_a0) (X4_names b_a2) (X4_from b_a2) (X4_weakest b_a2) (X4_strongest b_a2) (X4_nerve b_a2) (X4_count b_a2) 1

def f_X11_setValue (x0 : Int32) (x1 : Int32) (b_h : bX11) : Option ((Nat → Int64)) :=
  (f_X11_has x0 b_h).bind fun u1 =>
  if u1 = 0 then
  some (X11_values b_h) else
  if x0 < 0 ∨ 401 ≤ x0.toNatClampNeg then none else
  some (vp_updL (X11_values b_h) x0.toNatClampNeg (Int32.toInt64 x1))

def f_X1_checkNamed_R10 (x1 : Int32) (x2 : Int32) (b_a0 : bX11) (v1 : Int32) (v2 : Int32) (w_a0_values : Nat → Int64) (w_a0_error : Int32) (w_a0_errorToken : Int32) (t0 : Int32) : Option ((Nat → Int64) × Int32 × Int32) :=
  (f_X11_failUnless t0 3 v1 ((X11_kinds b_a0), (X11_starts b_a0), w_a0_values, (X11_count b_a0), (X11_cursor b_a0), w_a0_error, w_a0_errorToken)).bind fun u2 =>
  (f_X11_setValue v1 v2 ((X11_kinds b_a0), (X11_starts b_a0), w_a0_values, (X11_count b_a0), (X11_cursor b_a0), u2.1, u2.2)).bind fun u3 =>
  some (u3, u2.1, u2.2)
def f_X1_checkNamed (x1 : Int32) (x2 : Int32) (b_a0 : bX11) : Option ((Nat → Int64) × Int32 × Int32) :=
  if x2 < 0 then
  f_X1_checkNamed_R10 x1 x2 b_a0 x1 x2 (X11_values b_a0) (X11_error b_a0) (X11_errorToken b_a0) 0 else
  f_X1_checkNamed_R10 x1 x2 b_a0 x1 x2 (X11_values b_a0) (X11_error b_a0) (X11_errorToken b_a0) 1

def f_X1_checkBehind (n : Nat) (x1 : Int32) (b_a0 : bX11) (b_a2_fronts : bX2) (b_a2_guests : bX4) : Option ((Nat → Int64) × Int32 × Int32 × (Nat → Int64) × (Nat → Int32) × (Nat → Int32) × (Nat → Int32) × (Nat → Int32) × Int32 × (Nat → Int64) × (Nat → Int32) × (Nat → Int32) × (Nat → Int32) × (Nat → Int32) × Int32) :=
  (f_X11_kindAt x1 b_a0).bind fun u1 =>
  if u1 < 52 then
  if (smap u1) = 3 ∨ (smap u1) = 21 ∨ (smap u1) = 22 then
  (f_X11_valueAt (x1 + 1) b_a0).bind fun u4 =>
  (f_X2_find n u4 b_a2_fronts).bind fun u5 =>
  (f_X1_checkNamed (x1 + 1) u5 b_a0).bind fun u6 =>
  some (u6.1, u6.2.1, u6.2.2, (X2_names b_a2_fronts), (X2_warm b_a2_fronts), (X2_force b_a2_fronts), (X2_from b_a2_fronts), (X2_hours b_a2_fronts), (X2_count b_a2_fronts), (X4_names b_a2_guests), (X4_from b_a2_guests), (X4_weakest b_a2_guests), (X4_strongest b_a2_guests), (X4_nerve b_a2_guests), (X4_count b_a2_guests)) else
  if (smap u1) = 4 ∨ (smap u1) = 5 ∨ (smap u1) = 23 then
  (f_X11_valueAt (x1 + 1) b_a0).bind fun u8 =>
  (f_X4_find n u8 b_a2_guests).bind fun u9 =>
  (f_X1_checkNamed (x1 + 1) u9 b_a0).bind fun u10 =>
  some (u10.1, u10.2.1, u10.2.2, (X2_names b_a2_fronts), (X2_warm b_a2_fronts), (X2_force b_a2_fronts), (X2_from b_a2_fronts), (X2_hours b_a2_fronts), (X2_count b_a2_fronts), (X4_names b_a2_guests), (X4_from b_a2_guests), (X4_weakest b_a2_guests), (X4_strongest b_a2_guests), (X4_nerve b_a2_guests), (X4_count b_a2_guests)) else
  if (smap u1) = 19 then
  (f_X1_checkFront n (x1 + 1) b_a0 b_a2_fronts).bind fun u12 =>
  some ((X11_values b_a0), u12.1, u12.2.1, u12.2.2.1, u12.2.2.2.1, u12.2.2.2.2.1, u12.2.2.2.2.2.1, u12.2.2.2.2.2.2.1, u12.2.2.2.2.2.2.2, (X4_names b_a2_guests), (X4_from b_a2_guests), (X4_weakest b_a2_guests), (X4_strongest b_a2_guests), (X4_nerve b_a2_guests), (X4_count b_a2_guests)) else
  if (smap u1) = 20 then
  (f_X1_checkGuest n (x1 + 1) b_a0 b_a2_guests).bind fun u14 =>
  some ((X11_values b_a0), u14.1, u14.2.1, (X2_names b_a2_fronts), (X2_warm b_a2_fronts), (X2_force b_a2_fronts), (X2_from b_a2_fronts), (X2_hours b_a2_fronts), (X2_count b_a2_fronts), u14.2.2.1, u14.2.2.2.1, u14.2.2.2.2.1, u14.2.2.2.2.2.1, u14.2.2.2.2.2.2.1, u14.2.2.2.2.2.2.2) else
  some ((X11_values b_a0), (X11_error b_a0), (X11_errorToken b_a0), (X2_names b_a2_fronts), (X2_warm b_a2_fronts), (X2_force b_a2_fronts), (X2_from b_a2_fronts), (X2_hours b_a2_fronts), (X2_count b_a2_fronts), (X4_names b_a2_guests), (X4_from b_a2_guests), (X4_weakest b_a2_guests), (X4_strongest b_a2_guests), (X4_nerve b_a2_guests), (X4_count b_a2_guests)) else none

def f_X1_check_R50 (n : Nat) (b_a0 : bX11) (b_a1_fronts : bX2) (b_a1_guests : bX4) (v2 : Int32) (v3 : Int32) (w_a0_values : Nat → Int64) (w_a0_error : Int32) (w_a0_errorToken : Int32) (w_a1_fronts_names : Nat → Int64) (w_a1_fronts_warm : Nat → Int32) (w_a1_fronts_force : Nat → Int32) (w_a1_fronts_from : Nat → Int32) (w_a1_fronts_hours : Nat → Int32) (w_a1_fronts_count : Int32) (w_a1_guests_names : Nat → Int64) (w_a1_guests_from : Nat → Int32) (w_a1_guests_weakest : Nat → Int32) (w_a1_guests_strongest : Nat → Int32) (w_a1_guests_nerve : Nat → Int32) (w_a1_guests_count : Int32) : Option ((Int32 × Int32 × (Nat → Int64) × Int32 × Int32 × (Nat → Int64) × (Nat → Int32) × (Nat → Int32) × (Nat → Int32) × (Nat → Int32) × Int32 × (Nat → Int64) × (Nat → Int32) × (Nat → Int32) × (Nat → Int32) × (Nat → Int32) × Int32) ⊕ ((Nat → Int64) × Int32 × Int32 × (Nat → Int64) × (Nat → Int32) × (Nat → Int32) × (Nat → Int32) × (Nat → Int32) × Int32 × (Nat → Int64) × (Nat → Int32) × (Nat → Int32) × (Nat → Int32) × (Nat → Int32) × Int32)) :=
  (f_X1_checkBehind n v3 ((X11_kinds b_a0), (X11_starts b_a0), w_a0_values, (X11_count b_a0), (X11_cursor b_a0), w_a0_error, w_a0_errorToken) (w_a1_fronts_names, w_a1_fronts_warm, w_a1_fronts_force, w_a1_fronts_from, w_a1_fronts_hours, w_a1_fronts_count) (w_a1_guests_names, w_a1_guests_from, w_a1_guests_weakest, w_a1_guests_strongest, w_a1_guests_nerve, w_a1_guests_count)).bind fun u6 =>
  some (Sum.inl (v2, (v3 + 1), u6.1, u6.2.1, u6.2.2.1, u6.2.2.2.1, u6.2.2.2.2.1, u6.2.2.2.2.2.1, u6.2.2.2.2.2.2.1, u6.2.2.2.2.2.2.2.1, u6.2.2.2.2.2.2.2.2.1, u6.2.2.2.2.2.2.2.2.2.1, u6.2.2.2.2.2.2.2.2.2.2.1, u6.2.2.2.2.2.2.2.2.2.2.2.1, u6.2.2.2.2.2.2.2.2.2.2.2.2.1, u6.2.2.2.2.2.2.2.2.2.2.2.2.2.1, u6.2.2.2.2.2.2.2.2.2.2.2.2.2.2))
def f_X1_check_R45 (n : Nat) (b_a0 : bX11) (b_a1_fronts : bX2) (b_a1_guests : bX4) (v2 : Int32) (v3 : Int32) (w_a0_values : Nat → Int64) (w_a0_error : Int32) (w_a0_errorToken : Int32) (w_a1_fronts_names : Nat → Int64) (w_a1_fronts_warm : Nat → Int32) (w_a1_fronts_force : Nat → Int32) (w_a1_fronts_from : Nat → Int32) (w_a1_fronts_hours : Nat → Int32) (w_a1_fronts_count : Int32) (w_a1_guests_names : Nat → Int64) (w_a1_guests_from : Nat → Int32) (w_a1_guests_weakest : Nat → Int32) (w_a1_guests_strongest : Nat → Int32) (w_a1_guests_nerve : Nat → Int32) (w_a1_guests_count : Int32) (t0 : Int32) : Option ((Int32 × Int32 × (Nat → Int64) × Int32 × Int32 × (Nat → Int64) × (Nat → Int32) × (Nat → Int32) × (Nat → Int32) × (Nat → Int32) × Int32 × (Nat → Int64) × (Nat → Int32) × (Nat → Int32) × (Nat → Int32) × (Nat → Int32) × Int32) ⊕ ((Nat → Int64) × Int32 × Int32 × (Nat → Int64) × (Nat → Int32) × (Nat → Int32) × (Nat → Int32) × (Nat → Int32) × Int32 × (Nat → Int64) × (Nat → Int32) × (Nat → Int32) × (Nat → Int32) × (Nat → Int32) × Int32)) :=
  (f_X11_failUnless t0 4 v3 ((X11_kinds b_a0), (X11_starts b_a0), w_a0_values, (X11_count b_a0), (X11_cursor b_a0), w_a0_error, w_a0_errorToken)).bind fun u8 =>
  f_X1_check_R50 n b_a0 b_a1_fronts b_a1_guests v2 v3 w_a0_values u8.1 u8.2 w_a1_fronts_names w_a1_fronts_warm w_a1_fronts_force w_a1_fronts_from w_a1_fronts_hours w_a1_fronts_count w_a1_guests_names w_a1_guests_from w_a1_guests_weakest w_a1_guests_strongest w_a1_guests_nerve w_a1_guests_count
def f_X1_check_L4 (n : Nat) (b_a0 : bX11) (b_a1_fronts : bX2) (b_a1_guests : bX4) (v2 : Int32) (v3 : Int32) (w_a0_values : Nat → Int64) (w_a0_error : Int32) (w_a0_errorToken : Int32) (w_a1_fronts_names : Nat → Int64) (w_a1_fronts_warm : Nat → Int32) (w_a1_fronts_force : Nat → Int32) (w_a1_fronts_from : Nat → Int32) (w_a1_fronts_hours : Nat → Int32) (w_a1_fronts_count : Int32) (w_a1_guests_names : Nat → Int64) (w_a1_guests_from : Nat → Int32) (w_a1_guests_weakest : Nat → Int32) (w_a1_guests_strongest : Nat → Int32) (w_a1_guests_nerve : Nat → Int32) (w_a1_guests_count : Int32) : Option ((Int32 × Int32 × (Nat → Int64) × Int32 × Int32 × (Nat → Int64) × (Nat → Int32) × (Nat → Int32) × (Nat → Int32) × (Nat → Int32) × Int32 × (Nat → Int64) × (Nat → Int32) × (Nat → Int32) × (Nat → Int32) × (Nat → Int32) × Int32) ⊕ ((Nat → Int64) × Int32 × Int32 × (Nat → Int64) × (Nat → Int32) × (Nat → Int32) × (Nat → Int32) × (Nat → Int32) × Int32 × (Nat → Int64) × (Nat → Int32) × (Nat → Int32) × (Nat → Int32) × (Nat → Int32) × Int32)) :=
  if (X11_count b_a0) ≤ v3 then
  some (Sum.inr (w_a0_values, w_a0_error, w_a0_errorToken, w_a1_fronts_names, w_a1_fronts_warm, w_a1_fronts_force, w_a1_fronts_from, w_a1_fronts_hours, w_a1_fronts_count, w_a1_guests_names, w_a1_guests_from, w_a1_guests_weakest, w_a1_guests_strongest, w_a1_guests_nerve, w_a1_guests_count)) else
  if w_a0_error = 0 then
  (f_X11_kindAt v3 ((X11_kinds b_a0), (X11_starts b_a0), w_a0_values, (X11_count b_a0), (X11_cursor b_a0), w_a0_error, w_a0_errorToken)).bind fun u3 =>
  (f_X1_beginsOrder u3).bind fun u4 =>
  if u4 = 0 then
  f_X1_check_R50 n b_a0 b_a1_fronts b_a1_guests v2 v3 w_a0_values w_a0_error w_a0_errorToken w_a1_fronts_names w_a1_fronts_warm w_a1_fronts_force w_a1_fronts_from w_a1_fronts_hours w_a1_fronts_count w_a1_guests_names w_a1_guests_from w_a1_guests_weakest w_a1_guests_strongest w_a1_guests_nerve w_a1_guests_count else
  if (16 : Int32) < (v2 + 1) then
  f_X1_check_R45 n b_a0 b_a1_fronts b_a1_guests (v2 + 1) v3 w_a0_values w_a0_error w_a0_errorToken w_a1_fronts_names w_a1_fronts_warm w_a1_fronts_force w_a1_fronts_from w_a1_fronts_hours w_a1_fronts_count w_a1_guests_names w_a1_guests_from w_a1_guests_weakest w_a1_guests_strongest w_a1_guests_nerve w_a1_guests_count 0 else
  f_X1_check_R45 n b_a0 b_a1_fronts b_a1_guests (v2 + 1) v3 w_a0_values w_a0_error w_a0_errorToken w_a1_fronts_names w_a1_fronts_warm w_a1_fronts_force w_a1_fronts_from w_a1_fronts_hours w_a1_fronts_count w_a1_guests_names w_a1_guests_from w_a1_guests_weakest w_a1_guests_strongest w_a1_guests_nerve w_a1_guests_count 1 else
  some (Sum.inr (w_a0_values, w_a0_error, w_a0_errorToken, w_a1_fronts_names, w_a1_fronts_warm, w_a1_fronts_force, w_a1_fronts_from, w_a1_fronts_hours, w_a1_fronts_count, w_a1_guests_names, w_a1_guests_from, w_a1_guests_weakest, w_a1_guests_strongest, w_a1_guests_nerve, w_a1_guests_count))
def f_X1_check (n : Nat) (b_a0 : bX11) (b_a1_fronts : bX2) (b_a1_guests : bX4) : Option ((Nat → Int64) × Int32 × Int32 × (Nat → Int64) × (Nat → Int32) × (Nat → Int32) × (Nat → Int32) × (Nat → Int32) × Int32 × (Nat → Int64) × (Nat → Int32) × (Nat → Int32) × (Nat → Int32) × (Nat → Int32) × Int32) :=
  iter (fun s : Int32 × Int32 × (Nat → Int64) × Int32 × Int32 × (Nat → Int64) × (Nat → Int32) × (Nat → Int32) × (Nat → Int32) × (Nat → Int32) × Int32 × (Nat → Int64) × (Nat → Int32) × (Nat → Int32) × (Nat → Int32) × (Nat → Int32) × Int32 => f_X1_check_L4 n b_a0 b_a1_fronts b_a1_guests s.1 s.2.1 s.2.2.1 s.2.2.2.1 s.2.2.2.2.1 s.2.2.2.2.2.1 s.2.2.2.2.2.2.1 s.2.2.2.2.2.2.2.1 s.2.2.2.2.2.2.2.2.1 s.2.2.2.2.2.2.2.2.2.1 s.2.2.2.2.2.2.2.2.2.2.1 s.2.2.2.2.2.2.2.2.2.2.2.1 s.2.2.2.2.2.2.2.2.2.2.2.2.1 s.2.2.2.2.2.2.2.2.2.2.2.2.2.1 s.2.2.2.2.2.2.2.2.2.2.2.2.2.2.1 s.2.2.2.2.2.2.2.2.2.2.2.2.2.2.2.1 s.2.2.2.2.2.2.2.2.2.2.2.2.2.2.2.2) n (0, 0, (X11_values b_a0), (X11_error b_a0), (X11_errorToken b_a0), (X2_names b_a1_fronts), (X2_warm b_a1_fronts), (X2_force b_a1_fronts), (X2_from b_a1_fronts), (X2_hours b_a1_fronts), (X2_count b_a1_fronts), (X4_names b_a1_guests), (X4_from b_a1_guests), (X4_weakest b_a1_guests), (X4_strongest b_a1_guests), (X4_nerve b_a1_guests), (X4_count b_a1_guests))

def f_X10_append_L3 (n : Nat) (x0 : Int32) (b_h : bX10) (v1 : Int32) (v2 : Int32) (w_h_bytes : Nat → Int32) (w_h_length : Int32) : Option ((Int32 × (Nat → Int32) × Int32) ⊕ ((Nat → Int32) × Int32)) :=
  if v2 < 0 then
  some (Sum.inr (w_h_bytes, w_h_length)) else
  if (2000 : Int32) ≤ w_h_length then
  some (Sum.inr (w_h_bytes, w_h_length)) else
  if w_h_length < 0 ∨ 2000 ≤ w_h_length.toNatClampNeg then none else
  some (Sum.inl ((v2 + (-8)), (upd w_h_bytes w_h_length.toNatClampNeg (vp_nar .byte (Int8.toInt32 (Int32.toInt8 (v1 >>> (v2 &&& 31)))))), (w_h_length + 1)))
def f_X10_append (n : Nat) (x0 : Int32) (b_h : bX10) : Option ((Nat → Int32) × Int32) :=
  iter (fun s : Int32 × (Nat → Int32) × Int32 => f_X10_append_L3 n x0 b_h x0 s.1 s.2.1 s.2.2) n (24, (X10_bytes b_h), (X10_length b_h))

def f_X10_byteAt (x0 : Int32) (b_h : bX10) : Option (Int32) :=
  if x0 < 0 then
  some 0 else
  if (X10_length b_h) ≤ x0 then
  some 0 else
  if (2000 : Int32) ≤ x0 then
  some 0 else
  if x0 < 0 ∨ 2000 ≤ x0.toNatClampNeg then none else
  some ((X10_bytes b_h) x0.toNatClampNeg)

def f_X10_hasText_L13 (n : Nat) (x0 : Int32) (x1 : Int32) (x2 : Nat) (b_h : bX10) (v1 : Int32) (v2 : Int32) (v3 : Nat) (v4 : Int32) : Option ((Int32) ⊕ (Int32)) :=
  if v2 ≤ v4 then
  some (Sum.inr 1) else
  (f_X10_byteAt (v1 + v4) b_h).bind fun u4 =>
  if v3 < 52 then
  if v4 < 0 ∨ kln v3 ≤ v4.toNatClampNeg then none else
  if u4 = (kby v3 v4.toNatClampNeg) then
  some (Sum.inl (v4 + 1)) else
  some (Sum.inr 0) else none
def f_X10_hasText (n : Nat) (x0 : Int32) (x1 : Int32) (x2 : Nat) (b_h : bX10) : Option (Int32) :=
  if x2 < 52 then
  if (nI (kln x2)) = x1 then
  iter (fun s : Int32 => f_X10_hasText_L13 n x0 x1 x2 b_h x0 x1 x2 s) n 0 else
  some 0 else none

def f_X11_add (x0 : Nat) (x1 : Int32) (x2 : Int64) (b_h : bX11) : Option ((Nat → Nat) × (Nat → Int32) × (Nat → Int64) × Int32) :=
  if (400 : Int32) < (X11_count b_h) then
  some ((X11_kinds b_h), (X11_starts b_h), (X11_values b_h), (X11_count b_h)) else
  if (X11_count b_h) < 0 ∨ 401 ≤ (X11_count b_h).toNatClampNeg then none else
  if x0 < 52 then
  if (X11_count b_h) < 0 ∨ 401 ≤ (X11_count b_h).toNatClampNeg then none else
  if (X11_count b_h) < 0 ∨ 401 ≤ (X11_count b_h).toNatClampNeg then none else
  some ((va_up (X11_kinds b_h) (X11_count b_h).toNatClampNeg x0), (upd (X11_starts b_h) (X11_count b_h).toNatClampNeg x1), (vp_updL (X11_values b_h) (X11_count b_h).toNatClampNeg x2), ((X11_count b_h) + 1)) else none

def f_X11_behindBlanks_L2 (n : Nat) (x1 : Int32) (b_a0 : bX10) (v2 : Int32) : Option ((Int32) ⊕ (Int32)) :=
  if (X10_length b_a0) ≤ v2 then
  some (Sum.inr v2) else
  (f_X10_byteAt v2 b_a0).bind fun u2 =>
  if u2 = (32 : Int32) then
  some (Sum.inl (v2 + 1)) else
  (f_X10_byteAt v2 b_a0).bind fun u4 =>
  if u4 = (10 : Int32) then
  some (Sum.inl (v2 + 1)) else
  some (Sum.inr v2)
def f_X11_behindBlanks (n : Nat) (x1 : Int32) (b_a0 : bX10) : Option (Int32) :=
  iter (fun s : Int32 => f_X11_behindBlanks_L2 n x1 b_a0 s) n x1

def f_X11_isDigit (x0 : Int32) : Option (Int32) :=
  if x0 < (48 : Int32) then
  some 0 else
  if (57 : Int32) < x0 then
  some 0 else
  some 1

def f_X11_isLetter (x0 : Int32) : Option (Int32) :=
  if x0 < (97 : Int32) then
  some 0 else
  if (122 : Int32) < x0 then
  some 0 else
  some 1

def f_X11_kindOf_L49 (n : Nat) (x1 : Int32) (x2 : Int32) (b_a0 : bX10) (v1 : Int32) (v2 : Int32) (v3 : Int32) (v4 : Int32) : Option ((Int32) ⊕ (Nat)) :=
  if (52 : Int32) ≤ v4 then
  (f_X11_isLetter v3).bind fun u7 =>
  if u7 = 0 then
  some (Sum.inr 50) else
  some (Sum.inr 47) else
  if v4 < 0 ∨ 52 ≤ v4.toNatClampNeg then none else
  if v4.toNatClampNeg < 52 then
  (f_X10_hasText n v1 v2 v4.toNatClampNeg b_a0).bind fun u11 =>
  if u11 = 0 then
  some (Sum.inl (v4 + 1)) else
  if v4 < 0 ∨ 52 ≤ v4.toNatClampNeg then none else
  some (Sum.inr v4.toNatClampNeg) else none
def f_X11_kindOf (n : Nat) (x1 : Int32) (x2 : Int32) (b_a0 : bX10) : Option (Nat) :=
  (f_X10_byteAt x1 b_a0).bind fun u1 =>
  (f_X11_isDigit u1).bind fun u2 =>
  if u2 = 0 then
  (f_X11_isLetter u1).bind fun u4 =>
  if u4 = 0 then
  iter (fun s : Int32 => f_X11_kindOf_L49 n x1 x2 b_a0 x1 x2 u1 s) n 0 else
  if x2 ≤ (10 : Int32) then
  iter (fun s : Int32 => f_X11_kindOf_L49 n x1 x2 b_a0 x1 x2 u1 s) n 0 else
  some 50 else
  if x2 ≤ (6 : Int32) then
  some 48 else
  some 50

def f_X11_next (b_h : bX11) : Option (Nat) :=
  if (X11_count b_h) ≤ (X11_cursor b_h) then
  some 49 else
  if (X11_cursor b_h) < 0 ∨ 401 ≤ (X11_cursor b_h).toNatClampNeg then none else
  some ((X11_kinds b_h) (X11_cursor b_h).toNatClampNeg)

def f_X11_sizeOf_L54 (n : Nat) (x1 : Int32) (b_a0 : bX10) (v1 : Int32) (v2 : Int32) (v3 : Int32) : Option ((Int32) ⊕ (Int32)) :=
  if (X10_length b_a0) ≤ v3 then
  some (Sum.inr (v3 - v1)) else
  (f_X10_byteAt v3 b_a0).bind fun u5 =>
  (f_X11_isDigit u5).bind fun u6 =>
  if u6 = 0 then
  (f_X11_isLetter v2).bind fun u8 =>
  if u8 = 0 then
  some (Sum.inr (v3 - v1)) else
  (f_X10_byteAt v3 b_a0).bind fun u10 =>
  (f_X11_isLetter u10).bind fun u11 =>
  if u11 = 0 then
  some (Sum.inr (v3 - v1)) else
  some (Sum.inl (v3 + 1)) else
  some (Sum.inl (v3 + 1))
def f_X11_sizeOf_R32 (n : Nat) (x1 : Int32) (b_a0 : bX10) (v1 : Int32) : Option (Int32) :=
  (f_X10_byteAt (v1 + 1) b_a0).bind fun u16 =>
  if u16 = (61 : Int32) then
  some 2 else
  some 1
def f_X11_sizeOf (n : Nat) (x1 : Int32) (b_a0 : bX10) : Option (Int32) :=
  (f_X10_byteAt x1 b_a0).bind fun u1 =>
  (f_X11_isLetter u1).bind fun u2 =>
  if u2 = 0 then
  (f_X11_isDigit u1).bind fun u13 =>
  if u13 = 0 then
  if u1 = (60 : Int32) then
  f_X11_sizeOf_R32 n x1 b_a0 x1 else
  if u1 = (62 : Int32) then
  f_X11_sizeOf_R32 n x1 b_a0 x1 else
  some 1 else
  iter (fun s : Int32 => f_X11_sizeOf_L54 n x1 b_a0 x1 u1 s) n (x1 + 1) else
  iter (fun s : Int32 => f_X11_sizeOf_L54 n x1 b_a0 x1 u1 s) n (x1 + 1)

def f_X11_wordSign (x0 : Int32) : Option (Int32) :=
  (f_X11_isDigit x0).bind fun u1 =>
  if u1 = 0 then
  some ((x0 - 97) + 11) else
  some ((x0 - 48) + 1)

def f_X11_valueOf_L15 (n : Nat) (x1 : Int32) (x2 : Int32) (b_a0 : bX10) (v1 : Int32) (v2 : Int32) (v3 : Int32) (v4 : Int64) (v6 : Int32) : Option ((Int64 × Int32) ⊕ (Int64)) :=
  if v2 ≤ v6 then
  some (Sum.inr v4) else
  (f_X10_byteAt (v1 + v6) b_a0).bind fun u4 =>
  if v3 = 0 then
  (f_X11_wordSign u4).bind fun u6 =>
  some (Sum.inl (((v4 * 37) + (Int32.toInt64 u6)), (v6 + 1))) else
  some (Sum.inl (((v4 * 10) + (Int32.toInt64 (u4 - 48))), (v6 + 1)))
def f_X11_valueOf (n : Nat) (x1 : Int32) (x2 : Int32) (b_a0 : bX10) : Option (Int64) :=
  (f_X10_byteAt x1 b_a0).bind fun u1 =>
  (f_X11_isDigit u1).bind fun u2 =>
  iter (fun s : Int64 × Int32 => f_X11_valueOf_L15 n x1 x2 b_a0 x1 x2 u2 s.1 s.2) n (0, 0)

def f_X11_readAll_R117 (n : Nat) (b_h : bX11) (b_a0 : bX10) (v2 : Int32) (w_h_kinds : Nat → Nat) (w_h_starts : Nat → Int32) (w_h_values : Nat → Int64) (w_h_count : Int32) (w_h_cursor : Int32) (w_h_error : Int32) (w_h_errorToken : Int32) (t0 : Nat) : Option ((Nat → Nat) × (Nat → Int32) × (Nat → Int64) × Int32 × Int32 × Int32 × Int32) :=
  (f_X11_add t0 v2 0 (w_h_kinds, w_h_starts, w_h_values, w_h_count, w_h_cursor, w_h_error, w_h_errorToken)).bind fun u4 =>
  some (u4.1, u4.2.1, u4.2.2.1, u4.2.2.2, w_h_cursor, w_h_error, w_h_errorToken)
def f_X11_readAll_R99 (n : Nat) (b_h : bX11) (b_a0 : bX10) (v2 : Int32) (w_h_kinds : Nat → Nat) (w_h_starts : Nat → Int32) (w_h_values : Nat → Int64) (w_h_count : Int32) (w_h_cursor : Int32) (w_h_error : Int32) (w_h_errorToken : Int32) : Option ((Nat → Nat) × (Nat → Int32) × (Nat → Int64) × Int32 × Int32 × Int32 × Int32) :=
  if (X10_length b_a0) ≤ v2 then
  f_X11_readAll_R117 n b_h b_a0 v2 w_h_kinds w_h_starts w_h_values w_h_count w_h_cursor w_h_error w_h_errorToken 49 else
  f_X11_readAll_R117 n b_h b_a0 v2 w_h_kinds w_h_starts w_h_values w_h_count w_h_cursor w_h_error w_h_errorToken 50
def f_X11_readAll_L28 (n : Nat) (b_h : bX11) (b_a0 : bX10) (v2 : Int32) (v3 : Int32) (w_h_kinds : Nat → Nat) (w_h_starts : Nat → Int32) (w_h_values : Nat → Int64) (w_h_count : Int32) (w_h_cursor : Int32) (w_h_error : Int32) (w_h_errorToken : Int32) : Option ((Int32 × Int32 × (Nat → Nat) × (Nat → Int32) × (Nat → Int64) × Int32) ⊕ ((Nat → Nat) × (Nat → Int32) × (Nat → Int64) × Int32 × Int32 × Int32 × Int32)) :=
  if (400 : Int32) ≤ v3 then
  (f_X11_readAll_R99 n b_h b_a0 v2 w_h_kinds w_h_starts w_h_values w_h_count w_h_cursor w_h_error w_h_errorToken).bind (fun x => some (Sum.inr x)) else
  if (X10_length b_a0) ≤ v2 then
  (f_X11_readAll_R99 n b_h b_a0 v2 w_h_kinds w_h_starts w_h_values w_h_count w_h_cursor w_h_error w_h_errorToken).bind (fun x => some (Sum.inr x)) else
  (f_X11_sizeOf n v2 b_a0).bind fun u6 =>
  (f_X11_kindOf n v2 u6 b_a0).bind fun u7 =>
  if u7 < 52 then
  if u7 = 50 then
  (f_X11_readAll_R99 n b_h b_a0 v2 w_h_kinds w_h_starts w_h_values w_h_count w_h_cursor w_h_error w_h_errorToken).bind (fun x => some (Sum.inr x)) else
  (f_X11_valueOf n v2 u6 b_a0).bind fun u10 =>
  (f_X11_add u7 v2 u10 (w_h_kinds, w_h_starts, w_h_values, w_h_count, w_h_cursor, w_h_error, w_h_errorToken)).bind fun u11 =>
  (f_X11_behindBlanks n (v2 + u6) b_a0).bind fun u12 =>
  some (Sum.inl (u12, (v3 + 1), u11.1, u11.2.1, u11.2.2.1, u11.2.2.2)) else none
def f_X11_readAll (n : Nat) (b_h : bX11) (b_a0 : bX10) : Option ((Nat → Nat) × (Nat → Int32) × (Nat → Int64) × Int32 × Int32 × Int32 × Int32) :=
  (f_X11_behindBlanks n 0 b_a0).bind fun u1 =>
  iter (fun s : Int32 × Int32 × (Nat → Nat) × (Nat → Int32) × (Nat → Int64) × Int32 => f_X11_readAll_L28 n b_h b_a0 s.1 s.2.1 s.2.2.1 s.2.2.2.1 s.2.2.2.2.1 s.2.2.2.2.2 0 0 0) n (u1, 0, (X11_kinds b_h), (X11_starts b_h), (X11_values b_h), 0)

def f_X11_startAt (x0 : Int32) (b_h : bX11) : Option (Int32) :=
  (f_X11_has x0 b_h).bind fun u1 =>
  if u1 = 0 then
  some 0 else
  if x0 < 0 ∨ 401 ≤ x0.toNatClampNeg then none else
  some ((X11_starts b_h) x0.toNatClampNeg)

def f_X11_take (x0 : Nat) (b_h : bX11) : Option (Int32 × Int32) :=
  if (X11_count b_h) ≤ (X11_cursor b_h) then
  some (0, (X11_cursor b_h)) else
  if (X11_cursor b_h) < 0 ∨ 401 ≤ (X11_cursor b_h).toNatClampNeg then none else
  if ((X11_kinds b_h) (X11_cursor b_h).toNatClampNeg) < 52 then
  if x0 < 52 then
  if ((X11_kinds b_h) (X11_cursor b_h).toNatClampNeg) = x0 then
  some (1, ((X11_cursor b_h) + 1)) else
  some (0, (X11_cursor b_h)) else none else none

def f_X11_takeNumber (x0 : Nat) (b_h : bX11) : Option (Int32 × Int32) :=
  (f_X11_take x0 b_h).bind fun u1 =>
  if u1.1 = 0 then
  some (0, u1.2) else
  (f_X11_take 48 ((X11_kinds b_h), (X11_starts b_h), (X11_values b_h), (X11_count b_h), u1.2, (X11_error b_h), (X11_errorToken b_h))).bind fun u3 =>
  if u3.1 = 0 then
  some (0, u3.2) else
  some (1, u3.2)

def f_X2_has (x0 : Int32) (b_h : bX2) : Option (Int32) :=
  if x0 < 0 then
  some 0 else
  if (X2_count b_h) ≤ x0 then
  some 0 else
  if (10 : Int32) ≤ x0 then
  some 0 else
  some 1

def f_X8_hangsOver (x0 : Int32) (b_h : bX8) (b_h_plan_fronts : bX2) : Option (Int32) :=
  (f_X2_has x0 b_h_plan_fronts).bind fun u1 =>
  if u1 = 0 then
  some 0 else
  if x0 < 0 ∨ 10 ≤ x0.toNatClampNeg then none else
  if ((X8_frontSteeped b_h) x0.toNatClampNeg) = 0 then
  if x0 < 0 ∨ 10 ≤ x0.toNatClampNeg then none else
  if (X8_hour b_h) < ((X2_from b_h_plan_fronts) x0.toNatClampNeg) then
  some 0 else
  if x0 < 0 ∨ 10 ≤ x0.toNatClampNeg then none else
  if x0 < 0 ∨ 10 ≤ x0.toNatClampNeg then none else
  if (((X2_from b_h_plan_fronts) x0.toNatClampNeg) + ((X2_hours b_h_plan_fronts) x0.toNatClampNeg)) ≤ (X8_hour b_h) then
  some 0 else
  some 1 else
  some 0

def f_X8_strengthWith_R30 (x0 : Int32) (b_h : bX8) (b_h_plan_fronts : bX2) (t0 : Int32) : Option (Int32) :=
  some (if ((X8_strength b_h) + t0) < 30 then ((X8_strength b_h) + t0) else 30)
def f_X8_strengthWith (x0 : Int32) (b_h : bX8) (b_h_plan_fronts : bX2) : Option (Int32) :=
  (f_X2_has x0 b_h_plan_fronts).bind fun u1 =>
  if u1 = 0 then
  f_X8_strengthWith_R30 x0 b_h b_h_plan_fronts 0 else
  if x0 < 0 ∨ 10 ≤ x0.toNatClampNeg then none else
  f_X8_strengthWith_R30 x0 b_h b_h_plan_fronts ((X2_force b_h_plan_fronts) x0.toNatClampNeg)

def f_X4_has (x0 : Int32) (b_h : bX4) : Option (Int32) :=
  if x0 < 0 then
  some 0 else
  if (X4_count b_h) ≤ x0 then
  some 0 else
  if (10 : Int32) ≤ x0 then
  some 0 else
  some 1

def f_X8_sits (x0 : Int32) (b_h : bX8) (b_h_plan_guests : bX4) : Option (Int32) :=
  (f_X4_has x0 b_h_plan_guests).bind fun u1 =>
  if u1 = 0 then
  some 0 else
  if x0 < 0 ∨ 10 ≤ x0.toNatClampNeg then none else
  if ((X8_guestServed b_h) x0.toNatClampNeg) = 0 then
  if x0 < 0 ∨ 10 ≤ x0.toNatClampNeg then none else
  if ((X8_guestStormed b_h) x0.toNatClampNeg) = 0 then
  if x0 < 0 ∨ 10 ≤ x0.toNatClampNeg then none else
  if (X8_hour b_h) < ((X4_from b_h_plan_guests) x0.toNatClampNeg) then
  some 0 else
  if x0 < 0 ∨ 10 ≤ x0.toNatClampNeg then none else
  if (((X4_from b_h_plan_guests) x0.toNatClampNeg) + 8) ≤ (X8_hour b_h) then
  some 0 else
  some 1 else
  some 0 else
  some 0

def f_X8_wouldLike (x0 : Int32) (x1 : Int32) (b_h : bX8) (b_h_plan_guests : bX4) : Option (Int32) :=
  (f_X8_sits x0 b_h b_h_plan_guests).bind fun u1 =>
  if u1 = 0 then
  some 0 else
  if (X8_warmth b_h) < (15 : Int32) then
  some 0 else
  if x0 < 0 ∨ 10 ≤ x0.toNatClampNeg then none else
  if x1 < ((X4_weakest b_h_plan_guests) x0.toNatClampNeg) then
  some 0 else
  if x0 < 0 ∨ 10 ≤ x0.toNatClampNeg then none else
  if ((X4_strongest b_h_plan_guests) x0.toNatClampNeg) < x1 then
  some 0 else
  some 1

def f_X12_oneIf (x0 : Int32) : Option (Int32) :=
  if x0 = 0 then
  some 0 else
  some 1

def f_X8_contentIfSteeped_L11 (n : Nat) (x0 : Int32) (b_h : bX8) (b_h_plan_fronts : bX2) (b_h_plan_guests : bX4) (v2 : Int32) (v3 : Int32) (v4 : Int32) : Option ((Int32 × Int32) ⊕ (Int32)) :=
  if (X4_count b_h_plan_guests) ≤ v4 then
  some (Sum.inr v3) else
  (f_X8_wouldLike v4 v2 b_h b_h_plan_guests).bind fun u3 =>
  (f_X12_oneIf u3).bind fun u4 =>
  some (Sum.inl ((v3 + u4), (v4 + 1)))
def f_X8_contentIfSteeped (n : Nat) (x0 : Int32) (b_h : bX8) (b_h_plan_fronts : bX2) (b_h_plan_guests : bX4) : Option (Int32) :=
  (f_X8_strengthWith x0 b_h b_h_plan_fronts).bind fun u1 =>
  iter (fun s : Int32 × Int32 => f_X8_contentIfSteeped_L11 n x0 b_h b_h_plan_fronts b_h_plan_guests u1 s.1 s.2) n (0, 0)

def f_X12_bestToSteep_L6 (n : Nat) (b_h : bX12) (b_h_pot : bX8) (b_h_pot_plan_fronts : bX2) (b_h_pot_plan_guests : bX4) (v1 : Int32) (v2 : Int32) (v3 : Int32) : Option ((Int32 × Int32 × Int32) ⊕ (Int32)) :=
  if (X2_count b_h_pot_plan_fronts) ≤ v3 then
  some (Sum.inr v1) else
  (f_X8_hangsOver v3 b_h_pot b_h_pot_plan_fronts).bind fun u2 =>
  if u2 = 0 then
  some (Sum.inl (v1, v2, (v3 + 1))) else
  (f_X8_contentIfSteeped n v3 b_h_pot b_h_pot_plan_fronts b_h_pot_plan_guests).bind fun u4 =>
  if u4 ≤ v2 then
  some (Sum.inl (v1, v2, (v3 + 1))) else
  some (Sum.inl (v3, u4, (v3 + 1)))
def f_X12_bestToSteep (n : Nat) (b_h : bX12) (b_h_pot : bX8) (b_h_pot_plan_fronts : bX2) (b_h_pot_plan_guests : bX4) : Option (Int32) :=
  iter (fun s : Int32 × Int32 × Int32 => f_X12_bestToSteep_L6 n b_h b_h_pot b_h_pot_plan_fronts b_h_pot_plan_guests s.1 s.2.1 s.2.2) n ((-1), (-1), 0)

def f_X12_charge (b_h : bX12) (b_h_pot : bX8) : Option (Int32) :=
  some (X8_charge b_h_pot)

def f_X12_coins (b_h : bX12) (b_h_pot : bX8) : Option (Int32) :=
  some (X8_coins b_h_pot)

def f_X12_countTrue_L4 (n : Nat) (x1 : Int32) (m_a0 : Nat) (f_a0 : Nat → Int32) (v1 : Int32) (v2 : Int32) (v3 : Int32) : Option ((Int32 × Int32) ⊕ (Int32)) :=
  if v1 ≤ v3 then
  some (Sum.inr v2) else
  if (Int32.ofNat m_a0) ≤ v3 then
  some (Sum.inr v2) else
  if v3 < 0 ∨ m_a0 ≤ v3.toNatClampNeg then none else
  (f_X12_oneIf (f_a0 v3.toNatClampNeg)).bind fun u4 =>
  some (Sum.inl ((v2 + u4), (v3 + 1)))
def f_X12_countTrue (n : Nat) (x1 : Int32) (m_a0 : Nat) (f_a0 : Nat → Int32) : Option (Int32) :=
  iter (fun s : Int32 × Int32 => f_X12_countTrue_L4 n x1 m_a0 f_a0 x1 s.1 s.2) n (0, 0)

def f_X12_fronts (b_h : bX12) (b_h_pot : bX8) (b_h_pot_plan_fronts : bX2) : Option (Int32) :=
  some (X2_count b_h_pot_plan_fronts)

def f_X12_guests (b_h : bX12) (b_h_pot : bX8) (b_h_pot_plan_guests : bX4) : Option (Int32) :=
  some (X4_count b_h_pot_plan_guests)

def f_X12_hour (b_h : bX12) (b_h_pot : bX8) : Option (Int32) :=
  some (X8_hour b_h_pot)

def f_X12_warmth (b_h : bX12) (b_h_pot : bX8) : Option (Int32) :=
  some (X8_warmth b_h_pot)

def f_X12_strength (b_h : bX12) (b_h_pot : bX8) : Option (Int32) :=
  some (X8_strength b_h_pot)

def f_X12_lemons (b_h : bX12) (b_h_pot : bX8) : Option (Int32) :=
  some (X8_lemons b_h_pot)

def f_X12_saucers (b_h : bX12) (b_h_pot : bX8) : Option (Int32) :=
  some (X8_saucers b_h_pot)

def f_X12_storms (b_h : bX12) (b_h_pot : bX8) : Option (Int32) :=
  some (X8_storms b_h_pot)

def f_X12_seatedGuests_L4 (n : Nat) (b_h : bX12) (b_h_pot : bX8) (b_h_pot_plan_guests : bX4) (v1 : Int32) (v2 : Int32) : Option ((Int32 × Int32) ⊕ (Int32)) :=
  if (X4_count b_h_pot_plan_guests) ≤ v2 then
  some (Sum.inr v1) else
  (f_X8_sits v2 b_h_pot b_h_pot_plan_guests).bind fun u2 =>
  (f_X12_oneIf u2).bind fun u3 =>
  some (Sum.inl ((v1 + u3), (v2 + 1)))
def f_X12_seatedGuests (n : Nat) (b_h : bX12) (b_h_pot : bX8) (b_h_pot_plan_guests : bX4) : Option (Int32) :=
  iter (fun s : Int32 × Int32 => f_X12_seatedGuests_L4 n b_h b_h_pot b_h_pot_plan_guests s.1 s.2) n (0, 0)

def f_X12_served (n : Nat) (b_h : bX12) (b_h_pot : bX8) (b_h_pot_plan_guests : bX4) : Option (Int32) :=
  (f_X12_countTrue n (X4_count b_h_pot_plan_guests) 10 (X8_guestServed b_h_pot)).bind fun u1 =>
  some u1

def f_X12_stormed (n : Nat) (b_h : bX12) (b_h_pot : bX8) (b_h_pot_plan_guests : bX4) : Option (Int32) :=
  (f_X12_countTrue n (X4_count b_h_pot_plan_guests) 10 (X8_guestStormed b_h_pot)).bind fun u1 =>
  some u1

def f_X12_digest_L238 (n : Nat) (b_h : bX12) (b_h_pot : bX8) (b_h_pot_plan_fronts : bX2) (b_h_pot_plan_guests : bX4) (v1 : Int64) (v3 : Int32) : Option ((Int64 × Int32) ⊕ (Int64)) :=
  if (X4_count b_h_pot_plan_guests) ≤ v3 then
  some (Sum.inr v1) else
  (f_X8_sits v3 b_h_pot b_h_pot_plan_guests).bind fun u17 =>
  (f_X12_oneIf u17).bind fun u18 =>
  (f_X8_wouldLike v3 (X8_strength b_h_pot) b_h_pot b_h_pot_plan_guests).bind fun u19 =>
  (f_X12_oneIf u19).bind fun u20 =>
  if v3 < 0 ∨ 10 ≤ v3.toNatClampNeg then none else
  (f_X12_oneIf ((X8_guestServed b_h_pot) v3.toNatClampNeg)).bind fun u22 =>
  if v3 < 0 ∨ 10 ≤ v3.toNatClampNeg then none else
  (f_X12_oneIf ((X8_guestStormed b_h_pot) v3.toNatClampNeg)).bind fun u24 =>
  some (Sum.inl (((((((((v1 * 31) + (Int32.toInt64 u18)) * 31) + (Int32.toInt64 u20)) * 31) + (Int32.toInt64 u22)) * 31) + (Int32.toInt64 u24)), (v3 + 1)))
def f_X12_digest_L174 (n : Nat) (b_h : bX12) (b_h_pot : bX8) (b_h_pot_plan_fronts : bX2) (b_h_pot_plan_guests : bX4) (v1 : Int64) (v3 : Int32) : Option ((Int64 × Int32) ⊕ (Int64)) :=
  if (X2_count b_h_pot_plan_fronts) ≤ v3 then
  (iter (fun s : Int64 × Int32 => f_X12_digest_L238 n b_h b_h_pot b_h_pot_plan_fronts b_h_pot_plan_guests s.1 s.2) n (v1, 0)).bind (fun x => some (Sum.inr x)) else
  (f_X8_hangsOver v3 b_h_pot b_h_pot_plan_fronts).bind fun u25 =>
  (f_X12_oneIf u25).bind fun u26 =>
  if v3 < 0 ∨ 10 ≤ v3.toNatClampNeg then none else
  (f_X12_oneIf ((X8_frontSteeped b_h_pot) v3.toNatClampNeg)).bind fun u28 =>
  some (Sum.inl (((((v1 * 31) + (Int32.toInt64 u26)) * 31) + (Int32.toInt64 u28)), (v3 + 1)))
def f_X12_digest (n : Nat) (b_h : bX12) (b_h_pot : bX8) (b_h_pot_plan_fronts : bX2) (b_h_pot_plan_guests : bX4) : Option (Int64) :=
  (f_X12_fronts b_h b_h_pot b_h_pot_plan_fronts).bind fun u1 =>
  (f_X12_guests b_h b_h_pot b_h_pot_plan_guests).bind fun u2 =>
  (f_X12_hour b_h b_h_pot).bind fun u3 =>
  (f_X12_warmth b_h b_h_pot).bind fun u4 =>
  (f_X12_strength b_h b_h_pot).bind fun u5 =>
  (f_X12_charge b_h b_h_pot).bind fun u6 =>
  (f_X12_lemons b_h b_h_pot).bind fun u7 =>
  (f_X12_saucers b_h b_h_pot).bind fun u8 =>
  (f_X12_coins b_h b_h_pot).bind fun u9 =>
  (f_X12_storms b_h b_h_pot).bind fun u10 =>
  (f_X12_seatedGuests n b_h b_h_pot b_h_pot_plan_guests).bind fun u11 =>
  (f_X12_served n b_h b_h_pot b_h_pot_plan_guests).bind fun u12 =>
  (f_X12_stormed n b_h b_h_pot b_h_pot_plan_guests).bind fun u13 =>
  (f_X12_bestToSteep n b_h b_h_pot b_h_pot_plan_fronts b_h_pot_plan_guests).bind fun u14 =>
  iter (fun s : Int64 × Int32 => f_X12_digest_L174 n b_h b_h_pot b_h_pot_plan_fronts b_h_pot_plan_guests s.1 s.2) n (((((((((((((((((((((((((((((1033 * 31) + (Int32.toInt64 u1)) * 31) + (Int32.toInt64 u2)) * 31) + (Int32.toInt64 u3)) * 31) + (Int32.toInt64 u4)) * 31) + (Int32.toInt64 u5)) * 31) + (Int32.toInt64 u6)) * 31) + (Int32.toInt64 u7)) * 31) + (Int32.toInt64 u8)) * 31) + (Int32.toInt64 u9)) * 31) + (Int32.toInt64 u10)) * 31) + (Int32.toInt64 u11)) * 31) + (Int32.toInt64 u12)) * 31) + (Int32.toInt64 u13)) * 31) + (Int32.toInt64 u14)), 0)

def f_X8_copyFrom_L100 (n : Nat) (b_h : bX8) (b_a0 : bX8) (v2 : Int32) (w_h_hour : Int32) (w_h_warmth : Int32) (w_h_strength : Int32) (w_h_charge : Int32) (w_h_lemons : Int32) (w_h_saucers : Int32) (w_h_coins : Int32) (w_h_storms : Int32) (w_h_frontSteeped : Nat → Int32) (w_h_guestServed : Nat → Int32) (w_h_guestStormed : Nat → Int32) : Option ((Int32 × (Nat → Int32) × (Nat → Int32)) ⊕ (Int32 × Int32 × Int32 × Int32 × Int32 × Int32 × Int32 × Int32 × (Nat → Int32) × (Nat → Int32) × (Nat → Int32))) :=
  if (10 : Int32) ≤ v2 then
  some (Sum.inr (w_h_hour, w_h_warmth, w_h_strength, w_h_charge, w_h_lemons, w_h_saucers, w_h_coins, w_h_storms, w_h_frontSteeped, w_h_guestServed, w_h_guestStormed)) else
  if v2 < 0 ∨ 10 ≤ v2.toNatClampNeg then none else
  if v2 < 0 ∨ 10 ≤ v2.toNatClampNeg then none else
  if v2 < 0 ∨ 10 ≤ v2.toNatClampNeg then none else
  if v2 < 0 ∨ 10 ≤ v2.toNatClampNeg then none else
  some (Sum.inl ((v2 + 1), (upd w_h_guestServed v2.toNatClampNeg (vp_nar .boolean ((X8_guestServed b_a0) v2.toNatClampNeg))), (upd w_h_guestStormed v2.toNatClampNeg (vp_nar .boolean ((X8_guestStormed b_a0) v2.toNatClampNeg)))))
def f_X8_copyFrom_L74 (n : Nat) (b_h : bX8) (b_a0 : bX8) (v2 : Int32) (w_h_hour : Int32) (w_h_warmth : Int32) (w_h_strength : Int32) (w_h_charge : Int32) (w_h_lemons : Int32) (w_h_saucers : Int32) (w_h_coins : Int32) (w_h_storms : Int32) (w_h_frontSteeped : Nat → Int32) (w_h_guestServed : Nat → Int32) (w_h_guestStormed : Nat → Int32) : Option ((Int32 × (Nat → Int32)) ⊕ (Int32 × Int32 × Int32 × Int32 × Int32 × Int32 × Int32 × Int32 × (Nat → Int32) × (Nat → Int32) × (Nat → Int32))) :=
  if (10 : Int32) ≤ v2 then
  (iter (fun s : Int32 × (Nat → Int32) × (Nat → Int32) => f_X8_copyFrom_L100 n b_h b_a0 s.1 w_h_hour w_h_warmth w_h_strength w_h_charge w_h_lemons w_h_saucers w_h_coins w_h_storms w_h_frontSteeped s.2.1 s.2.2) n (0, w_h_guestServed, w_h_guestStormed)).bind (fun x => some (Sum.inr x)) else
  if v2 < 0 ∨ 10 ≤ v2.toNatClampNeg then none else
  if v2 < 0 ∨ 10 ≤ v2.toNatClampNeg then none else
  some (Sum.inl ((v2 + 1), (upd w_h_frontSteeped v2.toNatClampNeg (vp_nar .boolean ((X8_frontSteeped b_a0) v2.toNatClampNeg)))))
def f_X8_copyFrom (n : Nat) (b_h : bX8) (b_a0 : bX8) : Option (Int32 × Int32 × Int32 × Int32 × Int32 × Int32 × Int32 × Int32 × (Nat → Int32) × (Nat → Int32) × (Nat → Int32)) :=
  iter (fun s : Int32 × (Nat → Int32) => f_X8_copyFrom_L74 n b_h b_a0 s.1 (X8_hour b_a0) (X8_warmth b_a0) (X8_strength b_a0) (X8_charge b_a0) (X8_lemons b_a0) (X8_saucers b_a0) (X8_coins b_a0) (X8_storms b_a0) s.2 (X8_guestServed b_h) (X8_guestStormed b_h)) n (0, (X8_frontSteeped b_h))

def f_X9_push (x0 : Int32) (b_h : bX9) : Option ((Nat → Int32) × Int32) :=
  if (400 : Int32) ≤ (X9_height b_h) then
  some ((X9_stack b_h), (X9_height b_h)) else
  if (X9_height b_h) < 0 ∨ 400 ≤ (X9_height b_h).toNatClampNeg then none else
  some ((upd (X9_stack b_h) (X9_height b_h).toNatClampNeg x0), ((X9_height b_h) + 1))

def f_X8_standsFor (x0 : Nat) (x1 : Int32) (b_h : bX8) (b_h_plan_fronts : bX2) (b_h_plan_guests : bX4) : Option (Int32) :=
  if x0 < 52 then
  if (smap x0) = 3 then
  (f_X8_hangsOver x1 b_h b_h_plan_fronts).bind fun u3 =>
  (f_X12_oneIf u3).bind fun u4 =>
  some u4 else
  if (smap x0) = 4 then
  (f_X8_sits x1 b_h b_h_plan_guests).bind fun u6 =>
  (f_X12_oneIf u6).bind fun u7 =>
  some u7 else
  if (smap x0) = 5 then
  (f_X8_wouldLike x1 (X8_strength b_h) b_h b_h_plan_guests).bind fun u9 =>
  (f_X12_oneIf u9).bind fun u10 =>
  some u10 else
  if (smap x0) = 7 then
  some (X8_hour b_h) else
  if (smap x0) = 8 then
  some (X8_warmth b_h) else
  if (smap x0) = 9 then
  some (X8_strength b_h) else
  if (smap x0) = 10 then
  some (X8_charge b_h) else
  if (smap x0) = 11 then
  some (X8_lemons b_h) else
  if (smap x0) = 12 then
  some (X8_saucers b_h) else
  if (smap x0) = 13 then
  some (X8_storms b_h) else
  if (smap x0) = 14 then
  (f_X2_has x1 b_h_plan_fronts).bind fun u19 =>
  if u19 = 0 then
  some 0 else
  if x1 < 0 ∨ 10 ≤ x1.toNatClampNeg then none else
  some ((X2_force b_h_plan_fronts) x1.toNatClampNeg) else
  some 0 else none

def f_X9_pop (b_h : bX9) : Option (Int32 × Int32) :=
  if 0 < (X9_height b_h) then
  if ((X9_height b_h) - 1) < 0 ∨ 400 ≤ ((X9_height b_h) - 1).toNatClampNeg then none else
  some (((X9_stack b_h) ((X9_height b_h) - 1).toNatClampNeg), ((X9_height b_h) - 1)) else
  some (0, (X9_height b_h))

def f_X9_join_R150 (x0 : Nat) (x1 : Int32) (x2 : Int32) (t0 : Int32) : Option (Int32) :=
  (f_X12_oneIf t0).bind fun u12 =>
  some u12
def f_X9_join_R164 (x0 : Nat) (x1 : Int32) (x2 : Int32) (t0 : Int32) : Option (Int32) :=
  (f_X12_oneIf t0).bind fun u15 =>
  some u15
def f_X9_join_R178 (x0 : Nat) (x1 : Int32) (x2 : Int32) (t0 : Int32) : Option (Int32) :=
  (f_X12_oneIf t0).bind fun u18 =>
  some u18
def f_X9_join_R192 (x0 : Nat) (x1 : Int32) (x2 : Int32) (t0 : Int32) : Option (Int32) :=
  (f_X12_oneIf t0).bind fun u21 =>
  some u21
def f_X9_join_R206 (x0 : Nat) (x1 : Int32) (x2 : Int32) (t0 : Int32) : Option (Int32) :=
  (f_X12_oneIf t0).bind fun u24 =>
  some u24
def f_X9_join (x0 : Nat) (x1 : Int32) (x2 : Int32) : Option (Int32) :=
  if x0 < 52 then
  if (smap x0) = 15 then
  some (x1 - x2) else
  if (smap x0) = 17 then
  some (if x2 < x1 then x2 else x1) else
  if (smap x0) = 18 then
  some (if x1 < x2 then x2 else x1) else
  if (smap x0) = 25 then
  some (x1 + x2) else
  if (smap x0) = 26 then
  some (x1 * x2) else
  if (smap x0) = 27 then
  if x2 = 0 then
  some 0 else
  if x2 = 0 then none else
  some (x1 / x2) else
  if (smap x0) = 28 then
  if x2 ≤ x1 then
  f_X9_join_R150 x0 x1 x2 0 else
  f_X9_join_R150 x0 x1 x2 1 else
  if (smap x0) = 29 then
  if x1 ≤ x2 then
  f_X9_join_R164 x0 x1 x2 0 else
  f_X9_join_R164 x0 x1 x2 1 else
  if (smap x0) = 30 then
  if x1 = x2 then
  f_X9_join_R178 x0 x1 x2 1 else
  f_X9_join_R178 x0 x1 x2 0 else
  if (smap x0) = 31 then
  if x2 < x1 then
  f_X9_join_R192 x0 x1 x2 0 else
  f_X9_join_R192 x0 x1 x2 1 else
  if (smap x0) = 32 then
  if x1 < x2 then
  f_X9_join_R206 x0 x1 x2 0 else
  f_X9_join_R206 x0 x1 x2 1 else
  if (smap x0) = 33 then
  some (x1 &&& x2) else
  if (smap x0) = 34 then
  some (x1 ||| x2) else
  some 0 else none

def f_X9_joinTwo (x0 : Nat) (b_h : bX9) : Option ((Nat → Int32) × Int32) :=
  (f_X9_pop b_h).bind fun u1 =>
  (f_X9_pop ((X9_stack b_h), u1.2)).bind fun u2 =>
  (f_X9_join x0 u2.1 u1.1).bind fun u3 =>
  (f_X9_push u3 ((X9_stack b_h), u2.2)).bind fun u4 =>
  some (u4.1, u4.2)

def f_X9_step_R154 (x0 : Nat) (x1 : Int32) (b_h : bX9) (b_a2 : bX8) (b_a2_plan_fronts : bX2) (b_a2_plan_guests : bX4) (w_h_stack : Nat → Int32) (w_h_height : Int32) (t0 : Int32) : Option ((Nat → Int32) × Int32) :=
  (f_X12_oneIf t0).bind fun u5 =>
  (f_X9_push u5 (w_h_stack, w_h_height)).bind fun u6 =>
  some (u6.1, u6.2)
def f_X9_step (x0 : Nat) (x1 : Int32) (b_h : bX9) (b_a2 : bX8) (b_a2_plan_fronts : bX2) (b_a2_plan_guests : bX4) : Option ((Nat → Int32) × Int32) :=
  if x0 < 52 then
  if (smap x0) = 1 then
  (f_X9_pop b_h).bind fun u3 =>
  if u3.1 = 0 then
  f_X9_step_R154 x0 x1 b_h b_a2 b_a2_plan_fronts b_a2_plan_guests (X9_stack b_h) u3.2 1 else
  f_X9_step_R154 x0 x1 b_h b_a2 b_a2_plan_fronts b_a2_plan_guests (X9_stack b_h) u3.2 0 else
  if (smap x0) = 3 ∨ (smap x0) = 4 ∨ (smap x0) = 5 ∨ (smap x0) = 7 ∨ (smap x0) = 8 ∨ (smap x0) = 9 ∨ (smap x0) = 10 ∨ (smap x0) = 11 ∨ (smap x0) = 12 ∨ (smap x0) = 13 ∨ (smap x0) = 14 then
  (f_X8_standsFor x0 x1 b_a2 b_a2_plan_fronts b_a2_plan_guests).bind fun u8 =>
  (f_X9_push u8 b_h).bind fun u9 =>
  some (u9.1, u9.2) else
  if (smap x0) = 6 then
  (f_X9_push x1 b_h).bind fun u11 =>
  some (u11.1, u11.2) else
  if (smap x0) = 24 then
  (f_X9_pop b_h).bind fun u13 =>
  (f_X9_push (-u13.1) ((X9_stack b_h), u13.2)).bind fun u14 =>
  some (u14.1, u14.2) else
  (f_X9_joinTwo x0 b_h).bind fun u15 =>
  some (u15.1, u15.2) else none

def f_X9_holds_L13 (n : Nat) (x1 : Int32) (b_h : bX9) (b_a0 : bX6) (b_a2 : bX8) (b_a2_plan_fronts : bX2) (b_a2_plan_guests : bX4) (v2 : Int32) (v4 : Int32) (w_h_stack : Nat → Int32) (w_h_height : Int32) : Option ((Int32 × (Nat → Int32) × Int32) ⊕ (Int32 × (Nat → Int32) × Int32)) :=
  if v2 < 0 ∨ 16 ≤ v2.toNatClampNeg then none else
  if ((X6_endSteps b_a0) v2.toNatClampNeg) ≤ v4 then
  if w_h_height = 0 then
  some (Sum.inr (1, w_h_stack, w_h_height)) else
  (f_X9_pop (w_h_stack, w_h_height)).bind fun u5 =>
  if u5.1 = 0 then
  some (Sum.inr (0, w_h_stack, u5.2)) else
  some (Sum.inr (1, w_h_stack, u5.2)) else
  if v4 < 0 ∨ 400 ≤ v4.toNatClampNeg then none else
  if v4 < 0 ∨ 400 ≤ v4.toNatClampNeg then none else
  (f_X9_step ((X6_stepKinds b_a0) v4.toNatClampNeg) ((X6_stepValues b_a0) v4.toNatClampNeg) (w_h_stack, w_h_height) b_a2 b_a2_plan_fronts b_a2_plan_guests).bind fun u9 =>
  some (Sum.inl ((v4 + 1), u9.1, u9.2))
def f_X9_holds (n : Nat) (x1 : Int32) (b_h : bX9) (b_a0 : bX6) (b_a2 : bX8) (b_a2_plan_fronts : bX2) (b_a2_plan_guests : bX4) : Option (Int32 × (Nat → Int32) × Int32) :=
  if x1 < 0 ∨ 16 ≤ x1.toNatClampNeg then none else
  iter (fun s : Int32 × (Nat → Int32) × Int32 => f_X9_holds_L13 n x1 b_h b_a0 b_a2 b_a2_plan_fronts b_a2_plan_guests x1 s.1 s.2.1 s.2.2) n (((X6_firstSteps b_a0) x1.toNatClampNeg), (X9_stack b_h), 0)

def f_X8_steepFront (x0 : Int32) (b_h : bX8) (b_h_plan_fronts : bX2) : Option (Int32 × Int32 × (Nat → Int32)) :=
  (f_X8_hangsOver x0 b_h b_h_plan_fronts).bind fun u1 =>
  if u1 = 0 then
  some (0, (X8_strength b_h), (X8_frontSteeped b_h)) else
  (f_X8_strengthWith x0 b_h b_h_plan_fronts).bind fun u3 =>
  if x0 < 0 ∨ 10 ≤ x0.toNatClampNeg then none else
  some (1, u3, (upd (X8_frontSteeped b_h) x0.toNatClampNeg 1))

def f_X8_squeezeLemon (b_h : bX8) : Option (Int32 × Int32 × Int32) :=
  if 0 < (X8_lemons b_h) then
  some (1, (if ((X8_charge b_h) + 6) < 30 then ((X8_charge b_h) + 6) else 30), ((X8_lemons b_h) - 1)) else
  some (0, (X8_charge b_h), (X8_lemons b_h))

def f_X8_putSaucer (b_h : bX8) : Option (Int32 × Int32 × Int32) :=
  if 0 < (X8_saucers b_h) then
  some (1, (if 0 < ((X8_charge b_h) - 5) then ((X8_charge b_h) - 5) else 0), ((X8_saucers b_h) - 1)) else
  some (0, (X8_charge b_h), (X8_saucers b_h))

def f_X8_serveGuest (x0 : Int32) (b_h : bX8) (b_h_plan_guests : bX4) : Option (Int32 × Int32 × Int32 × (Nat → Int32)) :=
  (f_X8_wouldLike x0 (X8_strength b_h) b_h b_h_plan_guests).bind fun u1 =>
  if u1 = 0 then
  some (0, (X8_strength b_h), (X8_coins b_h), (X8_guestServed b_h)) else
  if x0 < 0 ∨ 10 ≤ x0.toNatClampNeg then none else
  some (1, (if 0 < ((X8_strength b_h) - 3) then ((X8_strength b_h) - 3) else 0), ((X8_coins b_h) + (X8_strength b_h)), (upd (X8_guestServed b_h) x0.toNatClampNeg 1))

def f_X8_follow (x0 : Nat) (x1 : Int32) (b_h : bX8) (b_h_plan_fronts : bX2) (b_h_plan_guests : bX4) : Option (Int32 × Int32 × Int32 × Int32 × Int32 × (Nat → Int32) × (Nat → Int32)) :=
  if x0 < 52 then
  if (smap x0) = 21 then
  (f_X8_steepFront x1 b_h b_h_plan_fronts).bind fun u3 =>
  some (u3.2.1, (X8_charge b_h), (X8_lemons b_h), (X8_saucers b_h), (X8_coins b_h), u3.2.2, (X8_guestServed b_h)) else
  if (smap x0) = 23 then
  (f_X8_serveGuest x1 b_h b_h_plan_guests).bind fun u5 =>
  some (u5.2.1, (X8_charge b_h), (X8_lemons b_h), (X8_saucers b_h), u5.2.2.1, (X8_frontSteeped b_h), u5.2.2.2) else
  if (smap x0) = 35 then
  (f_X8_squeezeLemon b_h).bind fun u7 =>
  some ((X8_strength b_h), u7.2.1, u7.2.2, (X8_saucers b_h), (X8_coins b_h), (X8_frontSteeped b_h), (X8_guestServed b_h)) else
  if (smap x0) = 36 then
  (f_X8_putSaucer b_h).bind fun u9 =>
  some ((X8_strength b_h), u9.2.1, (X8_lemons b_h), u9.2.2, (X8_coins b_h), (X8_frontSteeped b_h), (X8_guestServed b_h)) else
  some ((X8_strength b_h), (X8_charge b_h), (X8_lemons b_h), (X8_saucers b_h), (X8_coins b_h), (X8_frontSteeped b_h), (X8_guestServed b_h)) else none

def f_J6_compare_7cf53 (x0 : Int32) (x1 : Int32) : Option (Int32) :=
  if x1 ≤ x0 then
  if x0 = x1 then
  some 0 else
  some 1 else
  some (-1)

def f_X8_blow_R138 (n : Nat) (b_h : bX8) (b_h_plan_fronts : bX2) (v1 : Int32) (v2 : Int32) (w_h_warmth : Int32) (w_h_charge : Int32) : Option (Int32 × Int32) :=
  some (w_h_warmth, (if (w_h_charge + (if v2 < v1 then v2 else v1)) < 30 then (w_h_charge + (if v2 < v1 then v2 else v1)) else 30))
def f_X8_blow_R61 (n : Nat) (b_h : bX8) (b_h_plan_fronts : bX2) (v1 : Int32) (v2 : Int32) (v3 : Int32) (w_h_warmth : Int32) (w_h_charge : Int32) : Option ((Int32 × Int32 × Int32) ⊕ (Int32 × Int32)) :=
  (f_X8_hangsOver v3 ((X8_hour b_h), w_h_warmth, (X8_strength b_h), w_h_charge, (X8_lemons b_h), (X8_saucers b_h), (X8_coins b_h), (X8_storms b_h), (X8_frontSteeped b_h), (X8_guestServed b_h), (X8_guestStormed b_h)) b_h_plan_fronts).bind fun u6 =>
  if u6 = 0 then
  some (Sum.inl (v1, v2, (v3 + 1))) else
  if v3 < 0 ∨ 10 ≤ v3.toNatClampNeg then none else
  some (Sum.inl (v1, (v2 + ((X2_force b_h_plan_fronts) v3.toNatClampNeg)), (v3 + 1)))
def f_X8_blow_L6 (n : Nat) (b_h : bX8) (b_h_plan_fronts : bX2) (v1 : Int32) (v2 : Int32) (v3 : Int32) (w_h_warmth : Int32) (w_h_charge : Int32) : Option ((Int32 × Int32 × Int32) ⊕ (Int32 × Int32)) :=
  if (X2_count b_h_plan_fronts) ≤ v3 then
  if (v1 + v2) ≤ 0 then
  (f_J6_compare_7cf53 20 w_h_warmth).bind fun u3 =>
  (f_X8_blow_R138 n b_h b_h_plan_fronts v1 v2 (w_h_warmth + u3) w_h_charge).bind (fun x => some (Sum.inr x)) else
  (f_X8_blow_R138 n b_h b_h_plan_fronts v1 v2 (if 0 < (if ((w_h_warmth + v1) - v2) < 40 then ((w_h_warmth + v1) - v2) else 40) then (if ((w_h_warmth + v1) - v2) < 40 then ((w_h_warmth + v1) - v2) else 40) else 0) w_h_charge).bind (fun x => some (Sum.inr x)) else
  (f_X8_hangsOver v3 ((X8_hour b_h), w_h_warmth, (X8_strength b_h), w_h_charge, (X8_lemons b_h), (X8_saucers b_h), (X8_coins b_h), (X8_storms b_h), (X8_frontSteeped b_h), (X8_guestServed b_h), (X8_guestStormed b_h)) b_h_plan_fronts).bind fun u4 =>
  if u4 = 0 then
  f_X8_blow_R61 n b_h b_h_plan_fronts v1 v2 v3 w_h_warmth w_h_charge else
  if v3 < 0 ∨ 10 ≤ v3.toNatClampNeg then none else
  if ((X2_warm b_h_plan_fronts) v3.toNatClampNeg) = 0 then
  f_X8_blow_R61 n b_h b_h_plan_fronts v1 v2 v3 w_h_warmth w_h_charge else
  if v3 < 0 ∨ 10 ≤ v3.toNatClampNeg then none else
  some (Sum.inl ((v1 + ((X2_force b_h_plan_fronts) v3.toNatClampNeg)), v2, (v3 + 1)))
def f_X8_blow (n : Nat) (b_h : bX8) (b_h_plan_fronts : bX2) : Option (Int32 × Int32) :=
  iter (fun s : Int32 × Int32 × Int32 => f_X8_blow_L6 n b_h b_h_plan_fronts s.1 s.2.1 s.2.2 (X8_warmth b_h) (X8_charge b_h)) n (0, 0, 0)

def f_X8_storm_L2 (n : Nat) (b_h : bX8) (b_h_plan_guests : bX4) (v1 : Int32) (w_h_strength : Int32) (w_h_charge : Int32) (w_h_storms : Int32) (w_h_guestStormed : Nat → Int32) : Option ((Int32 × (Nat → Int32)) ⊕ (Int32 × Int32 × Int32 × (Nat → Int32))) :=
  if (X4_count b_h_plan_guests) ≤ v1 then
  some (Sum.inr ((w_h_strength / 2), (w_h_charge - 12), (w_h_storms + 1), w_h_guestStormed)) else
  (f_X8_sits v1 ((X8_hour b_h), (X8_warmth b_h), w_h_strength, w_h_charge, (X8_lemons b_h), (X8_saucers b_h), (X8_coins b_h), w_h_storms, (X8_frontSteeped b_h), (X8_guestServed b_h), w_h_guestStormed) b_h_plan_guests).bind fun u3 =>
  if u3 = 0 then
  some (Sum.inl ((v1 + 1), w_h_guestStormed)) else
  if v1 < 0 ∨ 10 ≤ v1.toNatClampNeg then none else
  if w_h_charge ≤ ((X4_nerve b_h_plan_guests) v1.toNatClampNeg) then
  some (Sum.inl ((v1 + 1), w_h_guestStormed)) else
  if v1 < 0 ∨ 10 ≤ v1.toNatClampNeg then none else
  some (Sum.inl ((v1 + 1), (upd w_h_guestStormed v1.toNatClampNeg 1)))
def f_X8_storm (n : Nat) (b_h : bX8) (b_h_plan_guests : bX4) : Option (Int32 × Int32 × Int32 × (Nat → Int32)) :=
  iter (fun s : Int32 × (Nat → Int32) => f_X8_storm_L2 n b_h b_h_plan_guests s.1 (X8_strength b_h) (X8_charge b_h) (X8_storms b_h) s.2) n (0, (X8_guestStormed b_h))

def f_X8_passHour_R86 (n : Nat) (b_h : bX8) (b_h_reckoner : bX9) (b_h_plan_fronts : bX2) (b_h_plan_guests : bX4) (b_h_plan_orders : bX6) (w_h_hour : Int32) (w_h_warmth : Int32) (w_h_strength : Int32) (w_h_charge : Int32) (w_h_lemons : Int32) (w_h_saucers : Int32) (w_h_coins : Int32) (w_h_storms : Int32) (w_h_frontSteeped : Nat → Int32) (w_h_guestServed : Nat → Int32) (w_h_guestStormed : Nat → Int32) (w_h_reckoner_stack : Nat → Int32) (w_h_reckoner_height : Int32) : Option (Int32 × Int32 × Int32 × Int32 × Int32 × Int32 × Int32 × Int32 × (Nat → Int32) × (Nat → Int32) × (Nat → Int32) × (Nat → Int32) × Int32) :=
  some ((w_h_hour + 1), w_h_warmth, w_h_strength, w_h_charge, w_h_lemons, w_h_saucers, w_h_coins, w_h_storms, w_h_frontSteeped, w_h_guestServed, w_h_guestStormed, w_h_reckoner_stack, w_h_reckoner_height)
def f_X8_passHour_L2 (n : Nat) (b_h : bX8) (b_h_reckoner : bX9) (b_h_plan_fronts : bX2) (b_h_plan_guests : bX4) (b_h_plan_orders : bX6) (v1 : Int32) (w_h_hour : Int32) (w_h_warmth : Int32) (w_h_strength : Int32) (w_h_charge : Int32) (w_h_lemons : Int32) (w_h_saucers : Int32) (w_h_coins : Int32) (w_h_storms : Int32) (w_h_frontSteeped : Nat → Int32) (w_h_guestServed : Nat → Int32) (w_h_guestStormed : Nat → Int32) (w_h_reckoner_stack : Nat → Int32) (w_h_reckoner_height : Int32) : Option ((Int32 × Int32 × Int32 × Int32 × Int32 × Int32 × (Nat → Int32) × (Nat → Int32) × (Nat → Int32) × Int32) ⊕ (Int32 × Int32 × Int32 × Int32 × Int32 × Int32 × Int32 × Int32 × (Nat → Int32) × (Nat → Int32) × (Nat → Int32) × (Nat → Int32) × Int32)) :=
  if (X6_count b_h_plan_orders) ≤ v1 then
  (f_X8_blow n (w_h_hour, w_h_warmth, w_h_strength, w_h_charge, w_h_lemons, w_h_saucers, w_h_coins, w_h_storms, w_h_frontSteeped, w_h_guestServed, w_h_guestStormed) b_h_plan_fronts).bind fun u2 =>
  if u2.2 < (12 : Int32) then
  (f_X8_passHour_R86 n b_h b_h_reckoner b_h_plan_fronts b_h_plan_guests b_h_plan_orders w_h_hour u2.1 w_h_strength u2.2 w_h_lemons w_h_saucers w_h_coins w_h_storms w_h_frontSteeped w_h_guestServed w_h_guestStormed w_h_reckoner_stack w_h_reckoner_height).bind (fun x => some (Sum.inr x)) else
  (f_X8_storm n (w_h_hour, u2.1, w_h_strength, u2.2, w_h_lemons, w_h_saucers, w_h_coins, w_h_storms, w_h_frontSteeped, w_h_guestServed, w_h_guestStormed) b_h_plan_guests).bind fun u4 =>
  (f_X8_passHour_R86 n b_h b_h_reckoner b_h_plan_fronts b_h_plan_guests b_h_plan_orders w_h_hour u2.1 u4.1 u4.2.1 w_h_lemons w_h_saucers w_h_coins u4.2.2.1 w_h_frontSteeped w_h_guestServed u4.2.2.2 w_h_reckoner_stack w_h_reckoner_height).bind (fun x => some (Sum.inr x)) else
  (f_X9_holds n v1 (w_h_reckoner_stack, w_h_reckoner_height) b_h_plan_orders (w_h_hour, w_h_warmth, w_h_strength, w_h_charge, w_h_lemons, w_h_saucers, w_h_coins, w_h_storms, w_h_frontSteeped, w_h_guestServed, w_h_guestStormed) b_h_plan_fronts b_h_plan_guests).bind fun u5 =>
  if u5.1 = 0 then
  some (Sum.inl ((v1 + 1), w_h_strength, w_h_charge, w_h_lemons, w_h_saucers, w_h_coins, w_h_frontSteeped, w_h_guestServed, u5.2.1, u5.2.2)) else
  if v1 < 0 ∨ 16 ≤ v1.toNatClampNeg then none else
  if v1 < 0 ∨ 16 ≤ v1.toNatClampNeg then none else
  (f_X8_follow ((X6_deeds b_h_plan_orders) v1.toNatClampNeg) ((X6_targets b_h_plan_orders) v1.toNatClampNeg) (w_h_hour, w_h_warmth, w_h_strength, w_h_charge, w_h_lemons, w_h_saucers, w_h_coins, w_h_storms, w_h_frontSteeped, w_h_guestServed, w_h_guestStormed) b_h_plan_fronts b_h_plan_guests).bind fun u9 =>
  some (Sum.inl ((v1 + 1), u9.1, u9.2.1, u9.2.2.1, u9.2.2.2.1, u9.2.2.2.2.1, u9.2.2.2.2.2.1, u9.2.2.2.2.2.2, u5.2.1, u5.2.2))
def f_X8_passHour (n : Nat) (b_h : bX8) (b_h_reckoner : bX9) (b_h_plan_fronts : bX2) (b_h_plan_guests : bX4) (b_h_plan_orders : bX6) : Option (Int32 × Int32 × Int32 × Int32 × Int32 × Int32 × Int32 × Int32 × (Nat → Int32) × (Nat → Int32) × (Nat → Int32) × (Nat → Int32) × Int32) :=
  iter (fun s : Int32 × Int32 × Int32 × Int32 × Int32 × Int32 × (Nat → Int32) × (Nat → Int32) × (Nat → Int32) × Int32 => f_X8_passHour_L2 n b_h b_h_reckoner b_h_plan_fronts b_h_plan_guests b_h_plan_orders s.1 (X8_hour b_h) (X8_warmth b_h) s.2.1 s.2.2.1 s.2.2.2.1 s.2.2.2.2.1 s.2.2.2.2.2.1 (X8_storms b_h) s.2.2.2.2.2.2.1 s.2.2.2.2.2.2.2.1 (X8_guestStormed b_h) s.2.2.2.2.2.2.2.2.1 s.2.2.2.2.2.2.2.2.2) n (0, (X8_strength b_h), (X8_charge b_h), (X8_lemons b_h), (X8_saucers b_h), (X8_coins b_h), (X8_frontSteeped b_h), (X8_guestServed b_h), (X9_stack b_h_reckoner), (X9_height b_h_reckoner))

def f_X12_hoursUntilStorm_L13 (n : Nat) (b_h : bX12) (b_h_pot : bX8) (b_h_pot_plan_fronts : bX2) (b_h_pot_plan_guests : bX4) (b_h_pot_plan_orders : bX6) (b_h_trial : bX8) (b_h_trial_reckoner : bX9) (v1 : Int32) (w_h_trial_hour : Int32) (w_h_trial_warmth : Int32) (w_h_trial_strength : Int32) (w_h_trial_charge : Int32) (w_h_trial_lemons : Int32) (w_h_trial_saucers : Int32) (w_h_trial_coins : Int32) (w_h_trial_storms : Int32) (w_h_trial_frontSteeped : Nat → Int32) (w_h_trial_guestServed : Nat → Int32) (w_h_trial_guestStormed : Nat → Int32) (w_h_trial_reckoner_stack : Nat → Int32) (w_h_trial_reckoner_height : Int32) : Option ((Int32 × Int32 × Int32 × Int32 × Int32 × Int32 × Int32 × Int32 × Int32 × (Nat → Int32) × (Nat → Int32) × (Nat → Int32) × (Nat → Int32) × Int32) ⊕ (Int32 × Int32 × Int32 × Int32 × Int32 × Int32 × Int32 × Int32 × Int32 × (Nat → Int32) × (Nat → Int32) × (Nat → Int32) × (Nat → Int32) × Int32)) :=
  if (60 : Int32) < v1 then
  some (Sum.inr ((-1), w_h_trial_hour, w_h_trial_warmth, w_h_trial_strength, w_h_trial_charge, w_h_trial_lemons, w_h_trial_saucers, w_h_trial_coins, w_h_trial_storms, w_h_trial_frontSteeped, w_h_trial_guestServed, w_h_trial_guestStormed, w_h_trial_reckoner_stack, w_h_trial_reckoner_height)) else
  (f_X8_passHour n (w_h_trial_hour, w_h_trial_warmth, w_h_trial_strength, w_h_trial_charge, w_h_trial_lemons, w_h_trial_saucers, w_h_trial_coins, w_h_trial_storms, w_h_trial_frontSteeped, w_h_trial_guestServed, w_h_trial_guestStormed) (w_h_trial_reckoner_stack, w_h_trial_reckoner_height) b_h_pot_plan_fronts b_h_pot_plan_guests b_h_pot_plan_orders).bind fun u3 =>
  if u3.2.2.2.2.2.2.2.1 ≤ (X8_storms b_h_pot) then
  some (Sum.inl ((v1 + 1), u3.1, u3.2.1, u3.2.2.1, u3.2.2.2.1, u3.2.2.2.2.1, u3.2.2.2.2.2.1, u3.2.2.2.2.2.2.1, u3.2.2.2.2.2.2.2.1, u3.2.2.2.2.2.2.2.2.1, u3.2.2.2.2.2.2.2.2.2.1, u3.2.2.2.2.2.2.2.2.2.2.1, u3.2.2.2.2.2.2.2.2.2.2.2.1, u3.2.2.2.2.2.2.2.2.2.2.2.2)) else
  some (Sum.inr (v1, u3.1, u3.2.1, u3.2.2.1, u3.2.2.2.1, u3.2.2.2.2.1, u3.2.2.2.2.2.1, u3.2.2.2.2.2.2.1, u3.2.2.2.2.2.2.2.1, u3.2.2.2.2.2.2.2.2.1, u3.2.2.2.2.2.2.2.2.2.1, u3.2.2.2.2.2.2.2.2.2.2.1, u3.2.2.2.2.2.2.2.2.2.2.2.1, u3.2.2.2.2.2.2.2.2.2.2.2.2))
def f_X12_hoursUntilStorm (n : Nat) (b_h : bX12) (b_h_pot : bX8) (b_h_pot_plan_fronts : bX2) (b_h_pot_plan_guests : bX4) (b_h_pot_plan_orders : bX6) (b_h_trial : bX8) (b_h_trial_reckoner : bX9) : Option (Int32 × Int32 × Int32 × Int32 × Int32 × Int32 × Int32 × Int32 × Int32 × (Nat → Int32) × (Nat → Int32) × (Nat → Int32) × (Nat → Int32) × Int32) :=
  (f_X8_copyFrom n b_h_trial b_h_pot).bind fun u1 =>
  iter (fun s : Int32 × Int32 × Int32 × Int32 × Int32 × Int32 × Int32 × Int32 × Int32 × (Nat → Int32) × (Nat → Int32) × (Nat → Int32) × (Nat → Int32) × Int32 => f_X12_hoursUntilStorm_L13 n b_h b_h_pot b_h_pot_plan_fronts b_h_pot_plan_guests b_h_pot_plan_orders b_h_trial b_h_trial_reckoner s.1 s.2.1 s.2.2.1 s.2.2.2.1 s.2.2.2.2.1 s.2.2.2.2.2.1 s.2.2.2.2.2.2.1 s.2.2.2.2.2.2.2.1 s.2.2.2.2.2.2.2.2.1 s.2.2.2.2.2.2.2.2.2.1 s.2.2.2.2.2.2.2.2.2.2.1 s.2.2.2.2.2.2.2.2.2.2.2.1 s.2.2.2.2.2.2.2.2.2.2.2.2.1 s.2.2.2.2.2.2.2.2.2.2.2.2.2) n (1, u1.1, u1.2.1, u1.2.2.1, u1.2.2.2.1, u1.2.2.2.2.1, u1.2.2.2.2.2.1, u1.2.2.2.2.2.2.1, u1.2.2.2.2.2.2.2.1, u1.2.2.2.2.2.2.2.2.1, u1.2.2.2.2.2.2.2.2.2.1, u1.2.2.2.2.2.2.2.2.2.2, (X9_stack b_h_trial_reckoner), (X9_height b_h_trial_reckoner))

def f_X12_meanForce_L6 (n : Nat) (b_h : bX12) (b_h_pot : bX8) (b_h_pot_plan_fronts : bX2) (v1 : Int32) (v2 : Int32) (v3 : Int32) : Option ((Int32 × Int32 × Int32) ⊕ (UInt64)) :=
  if (X2_count b_h_pot_plan_fronts) ≤ v3 then
  if v2 = 0 then
  some (Sum.inr 0) else
  if (FP.ddiv (FP.i2d v1) (FP.i2d v2)) &&& 0x7fffffffffffffff ≤ 0x7ff0000000000000 then
  some (Sum.inr (FP.ddiv (FP.i2d v1) (FP.i2d v2))) else none else
  (f_X8_hangsOver v3 b_h_pot b_h_pot_plan_fronts).bind fun u4 =>
  if u4 = 0 then
  some (Sum.inl (v1, v2, (v3 + 1))) else
  if v3 < 0 ∨ 10 ≤ v3.toNatClampNeg then none else
  some (Sum.inl ((v1 + ((X2_force b_h_pot_plan_fronts) v3.toNatClampNeg)), (v2 + 1), (v3 + 1)))
def f_X12_meanForce (n : Nat) (b_h : bX12) (b_h_pot : bX8) (b_h_pot_plan_fronts : bX2) : Option (UInt64) :=
  iter (fun s : Int32 × Int32 × Int32 => f_X12_meanForce_L6 n b_h b_h_pot b_h_pot_plan_fronts s.1 s.2.1 s.2.2) n (0, 0, 0)

def f_X6_addStep (x0 : Nat) (x1 : Int32) (b_h : bX6) : Option (Int32 × (Nat → Nat) × (Nat → Int32) × Int32) :=
  if (X6_steps b_h) < (400 : Int32) then
  if (X6_steps b_h) < 0 ∨ 400 ≤ (X6_steps b_h).toNatClampNeg then none else
  if x0 < 52 then
  if (X6_steps b_h) < 0 ∨ 400 ≤ (X6_steps b_h).toNatClampNeg then none else
  some (1, (va_up (X6_stepKinds b_h) (X6_steps b_h).toNatClampNeg x0), (upd (X6_stepValues b_h) (X6_steps b_h).toNatClampNeg x1), ((X6_steps b_h) + 1)) else none else
  some (0, (X6_stepKinds b_h), (X6_stepValues b_h), (X6_steps b_h))

def f_X3_test_L10 (n : Nat) (rec : Nat → Int32 → bX11 → bX6 → Option (Int32 × Int32 × (Nat → Nat) × (Nat → Int32) × Int32)) (x2 : Int32) (b_a0 : bX11) (b_a1 : bX6) (v2 : Int32) (v3 : Int32) (v4 : Int32) (w_a0_cursor : Int32) (w_a1_stepKinds : Nat → Nat) (w_a1_stepValues : Nat → Int32) (w_a1_steps : Int32) : Option ((Int32 × Int32 × Int32 × (Nat → Nat) × (Nat → Int32) × Int32) ⊕ (Int32 × Int32 × (Nat → Nat) × (Nat → Int32) × Int32)) :=
  if (400 : Int32) ≤ v4 then
  if vp_nar .boolean v3 = v3 then some (Sum.inr (v3, w_a0_cursor, w_a1_stepKinds, w_a1_stepValues, w_a1_steps)) else none else
  if v3 = 0 then
  if vp_nar .boolean v3 = v3 then some (Sum.inr (v3, w_a0_cursor, w_a1_stepKinds, w_a1_stepValues, w_a1_steps)) else none else
  (f_X11_take 29 ((X11_kinds b_a0), (X11_starts b_a0), (X11_values b_a0), (X11_count b_a0), w_a0_cursor, (X11_error b_a0), (X11_errorToken b_a0))).bind fun u6 =>
  if u6.1 = 0 then
  if vp_nar .boolean v3 = v3 then some (Sum.inr (v3, u6.2, w_a1_stepKinds, w_a1_stepValues, w_a1_steps)) else none else
  (rec 1 v2 ((X11_kinds b_a0), (X11_starts b_a0), (X11_values b_a0), (X11_count b_a0), u6.2, (X11_error b_a0), (X11_errorToken b_a0)) ((X6_deeds b_a1), (X6_targets b_a1), (X6_firstSteps b_a1), (X6_endSteps b_a1), w_a1_stepKinds, w_a1_stepValues, (X6_count b_a1), w_a1_steps)).bind fun u9 =>
  if u9.1 = 0 then
  some (Sum.inl (0, (v4 + 1), u9.2.1, u9.2.2.1, u9.2.2.2.1, u9.2.2.2.2)) else
  (f_X6_addStep 29 0 ((X6_deeds b_a1), (X6_targets b_a1), (X6_firstSteps b_a1), (X6_endSteps b_a1), u9.2.2.1, u9.2.2.2.1, (X6_count b_a1), u9.2.2.2.2)).bind fun u11 =>
  if u11.1 = 0 then
  some (Sum.inl (0, (v4 + 1), u9.2.1, u11.2.1, u11.2.2.1, u11.2.2.2)) else
  some (Sum.inl (1, (v4 + 1), u9.2.1, u11.2.1, u11.2.2.1, u11.2.2.2))
def f_X3_test (n : Nat) (rec : Nat → Int32 → bX11 → bX6 → Option (Int32 × Int32 × (Nat → Nat) × (Nat → Int32) × Int32)) (x2 : Int32) (b_a0 : bX11) (b_a1 : bX6) : Option (Int32 × Int32 × (Nat → Nat) × (Nat → Int32) × Int32) :=
  (rec 1 x2 b_a0 b_a1).bind fun u1 =>
  iter (fun s : Int32 × Int32 × Int32 × (Nat → Nat) × (Nat → Int32) × Int32 => f_X3_test_L10 n rec x2 b_a0 b_a1 x2 s.1 s.2.1 s.2.2.1 s.2.2.2.1 s.2.2.2.2.1 s.2.2.2.2.2) n (u1.1, 0, u1.2.1, u1.2.2.1, u1.2.2.2.1, u1.2.2.2.2)

def f_X3_both_L10 (n : Nat) (rec : Nat → Int32 → bX11 → bX6 → Option (Int32 × Int32 × (Nat → Nat) × (Nat → Int32) × Int32)) (x2 : Int32) (b_a0 : bX11) (b_a1 : bX6) (v2 : Int32) (v3 : Int32) (v4 : Int32) (w_a0_cursor : Int32) (w_a1_stepKinds : Nat → Nat) (w_a1_stepValues : Nat → Int32) (w_a1_steps : Int32) : Option ((Int32 × Int32 × Int32 × (Nat → Nat) × (Nat → Int32) × Int32) ⊕ (Int32 × Int32 × (Nat → Nat) × (Nat → Int32) × Int32)) :=
  if (400 : Int32) ≤ v4 then
  if vp_nar .boolean v3 = v3 then some (Sum.inr (v3, w_a0_cursor, w_a1_stepKinds, w_a1_stepValues, w_a1_steps)) else none else
  if v3 = 0 then
  if vp_nar .boolean v3 = v3 then some (Sum.inr (v3, w_a0_cursor, w_a1_stepKinds, w_a1_stepValues, w_a1_steps)) else none else
  (f_X11_take 28 ((X11_kinds b_a0), (X11_starts b_a0), (X11_values b_a0), (X11_count b_a0), w_a0_cursor, (X11_error b_a0), (X11_errorToken b_a0))).bind fun u6 =>
  if u6.1 = 0 then
  if vp_nar .boolean v3 = v3 then some (Sum.inr (v3, u6.2, w_a1_stepKinds, w_a1_stepValues, w_a1_steps)) else none else
  (rec 2 v2 ((X11_kinds b_a0), (X11_starts b_a0), (X11_values b_a0), (X11_count b_a0), u6.2, (X11_error b_a0), (X11_errorToken b_a0)) ((X6_deeds b_a1), (X6_targets b_a1), (X6_firstSteps b_a1), (X6_endSteps b_a1), w_a1_stepKinds, w_a1_stepValues, (X6_count b_a1), w_a1_steps)).bind fun u9 =>
  if u9.1 = 0 then
  some (Sum.inl (0, (v4 + 1), u9.2.1, u9.2.2.1, u9.2.2.2.1, u9.2.2.2.2)) else
  (f_X6_addStep 28 0 ((X6_deeds b_a1), (X6_targets b_a1), (X6_firstSteps b_a1), (X6_endSteps b_a1), u9.2.2.1, u9.2.2.2.1, (X6_count b_a1), u9.2.2.2.2)).bind fun u11 =>
  if u11.1 = 0 then
  some (Sum.inl (0, (v4 + 1), u9.2.1, u11.2.1, u11.2.2.1, u11.2.2.2)) else
  some (Sum.inl (1, (v4 + 1), u9.2.1, u11.2.1, u11.2.2.1, u11.2.2.2))
def f_X3_both (n : Nat) (rec : Nat → Int32 → bX11 → bX6 → Option (Int32 × Int32 × (Nat → Nat) × (Nat → Int32) × Int32)) (x2 : Int32) (b_a0 : bX11) (b_a1 : bX6) : Option (Int32 × Int32 × (Nat → Nat) × (Nat → Int32) × Int32) :=
  (rec 2 x2 b_a0 b_a1).bind fun u1 =>
  iter (fun s : Int32 × Int32 × Int32 × (Nat → Nat) × (Nat → Int32) × Int32 => f_X3_both_L10 n rec x2 b_a0 b_a1 x2 s.1 s.2.1 s.2.2.1 s.2.2.2.1 s.2.2.2.2.1 s.2.2.2.2.2) n (u1.1, 0, u1.2.1, u1.2.2.1, u1.2.2.2.1, u1.2.2.2.2)

def f_X3_single (n : Nat) (rec : Nat → Int32 → bX11 → bX6 → Option (Int32 × Int32 × (Nat → Nat) × (Nat → Int32) × Int32)) (x2 : Int32) (b_a0 : bX11) (b_a1 : bX6) : Option (Int32 × Int32 × (Nat → Nat) × (Nat → Int32) × Int32) :=
  (f_X11_next b_a0).bind fun u1 =>
  if u1 < 52 then
  if (smap u1) = 1 then
  if (8 : Int32) ≤ x2 then
  some (0, (X11_cursor b_a0), (X6_stepKinds b_a1), (X6_stepValues b_a1), (X6_steps b_a1)) else
  (f_X11_take 27 b_a0).bind fun u5 =>
  if u5.1 = 0 then
  some (0, u5.2, (X6_stepKinds b_a1), (X6_stepValues b_a1), (X6_steps b_a1)) else
  (rec 2 (x2 + 1) ((X11_kinds b_a0), (X11_starts b_a0), (X11_values b_a0), (X11_count b_a0), u5.2, (X11_error b_a0), (X11_errorToken b_a0)) b_a1).bind fun u7 =>
  if u7.1 = 0 then
  some (0, u7.2.1, u7.2.2.1, u7.2.2.2.1, u7.2.2.2.2) else
  (f_X6_addStep 27 0 ((X6_deeds b_a1), (X6_targets b_a1), (X6_firstSteps b_a1), (X6_endSteps b_a1), u7.2.2.1, u7.2.2.2.1, (X6_count b_a1), u7.2.2.2.2)).bind fun u9 =>
  if u9.1 = 0 then
  some (0, u7.2.1, u9.2.1, u9.2.2.1, u9.2.2.2) else
  some (1, u7.2.1, u9.2.1, u9.2.2.1, u9.2.2.2) else
  if (smap u1) = 2 then
  if (8 : Int32) ≤ x2 then
  some (0, (X11_cursor b_a0), (X6_stepKinds b_a1), (X6_stepValues b_a1), (X6_steps b_a1)) else
  (f_X11_take 34 b_a0).bind fun u13 =>
  if u13.1 = 0 then
  some (0, u13.2, (X6_stepKinds b_a1), (X6_stepValues b_a1), (X6_steps b_a1)) else
  (rec 0 (x2 + 1) ((X11_kinds b_a0), (X11_starts b_a0), (X11_values b_a0), (X11_count b_a0), u13.2, (X11_error b_a0), (X11_errorToken b_a0)) b_a1).bind fun u15 =>
  if u15.1 = 0 then
  some (0, u15.2.1, u15.2.2.1, u15.2.2.2.1, u15.2.2.2.2) else
  (f_X11_take 35 ((X11_kinds b_a0), (X11_starts b_a0), (X11_values b_a0), (X11_count b_a0), u15.2.1, (X11_error b_a0), (X11_errorToken b_a0))).bind fun u17 =>
  if u17.1 = 0 then
  some (0, u17.2, u15.2.2.1, u15.2.2.2.1, u15.2.2.2.2) else
  some (1, u17.2, u15.2.2.1, u15.2.2.2.1, u15.2.2.2.2) else
  if (smap u1) = 3 ∨ (smap u1) = 4 ∨ (smap u1) = 5 then
  (f_X11_take u1 b_a0).bind fun u20 =>
  if u20.1 = 0 then
  some (0, u20.2, (X6_stepKinds b_a1), (X6_stepValues b_a1), (X6_steps b_a1)) else
  (f_X6_addStep u1 u20.2 b_a1).bind fun u22 =>
  if u22.1 = 0 then
  some (0, u20.2, u22.2.1, u22.2.2.1, u22.2.2.2) else
  (f_X11_take 47 ((X11_kinds b_a0), (X11_starts b_a0), (X11_values b_a0), (X11_count b_a0), u20.2, (X11_error b_a0), (X11_errorToken b_a0))).bind fun u24 =>
  if u24.1 = 0 then
  some (0, u24.2, u22.2.1, u22.2.2.1, u22.2.2.2) else
  some (1, u24.2, u22.2.1, u22.2.2.1, u22.2.2.2) else
  (rec 3 x2 b_a0 b_a1).bind fun u26 =>
  if vp_nar .boolean u26.1 = u26.1 then some (u26.1, u26.2.1, u26.2.2.1, u26.2.2.2.1, u26.2.2.2.2) else none else none

def f_X3_comparison_R71 (n : Nat) (rec : Nat → Int32 → bX11 → bX6 → Option (Int32 × Int32 × (Nat → Nat) × (Nat → Int32) × Int32)) (x2 : Int32) (b_a0 : bX11) (b_a1 : bX6) (v2 : Int32) (v3 : Nat) (w_a0_cursor : Int32) (w_a1_stepKinds : Nat → Nat) (w_a1_stepValues : Nat → Int32) (w_a1_steps : Int32) (t0 : Int32) : Option (Int32 × Int32 × (Nat → Nat) × (Nat → Int32) × Int32) :=
  if t0 = 0 then
  some (0, w_a0_cursor, w_a1_stepKinds, w_a1_stepValues, w_a1_steps) else
  (rec 4 v2 ((X11_kinds b_a0), (X11_starts b_a0), (X11_values b_a0), (X11_count b_a0), w_a0_cursor, (X11_error b_a0), (X11_errorToken b_a0)) ((X6_deeds b_a1), (X6_targets b_a1), (X6_firstSteps b_a1), (X6_endSteps b_a1), w_a1_stepKinds, w_a1_stepValues, (X6_count b_a1), w_a1_steps)).bind fun u7 =>
  if u7.1 = 0 then
  some (0, u7.2.1, u7.2.2.1, u7.2.2.2.1, u7.2.2.2.2) else
  (f_X6_addStep v3 0 ((X6_deeds b_a1), (X6_targets b_a1), (X6_firstSteps b_a1), (X6_endSteps b_a1), u7.2.2.1, u7.2.2.2.1, (X6_count b_a1), u7.2.2.2.2)).bind fun u9 =>
  if u9.1 = 0 then
  some (0, u7.2.1, u9.2.1, u9.2.2.1, u9.2.2.2) else
  some (1, u7.2.1, u9.2.1, u9.2.2.1, u9.2.2.2)
def f_X3_comparison_R66 (n : Nat) (rec : Nat → Int32 → bX11 → bX6 → Option (Int32 × Int32 × (Nat → Nat) × (Nat → Int32) × Int32)) (x2 : Int32) (b_a0 : bX11) (b_a1 : bX6) (v2 : Int32) (v3 : Nat) (w_a0_cursor : Int32) (w_a1_stepKinds : Nat → Nat) (w_a1_stepValues : Nat → Int32) (w_a1_steps : Int32) : Option (Int32 × Int32 × (Nat → Nat) × (Nat → Int32) × Int32) :=
  f_X3_comparison_R71 n rec x2 b_a0 b_a1 v2 v3 w_a0_cursor w_a1_stepKinds w_a1_stepValues w_a1_steps 1
def f_X3_comparison (n : Nat) (rec : Nat → Int32 → bX11 → bX6 → Option (Int32 × Int32 × (Nat → Nat) × (Nat → Int32) × Int32)) (x2 : Int32) (b_a0 : bX11) (b_a1 : bX6) : Option (Int32 × Int32 × (Nat → Nat) × (Nat → Int32) × Int32) :=
  (rec 4 x2 b_a0 b_a1).bind fun u1 =>
  if u1.1 = 0 then
  some (0, u1.2.1, u1.2.2.1, u1.2.2.2.1, u1.2.2.2.2) else
  (f_X11_next ((X11_kinds b_a0), (X11_starts b_a0), (X11_values b_a0), (X11_count b_a0), u1.2.1, (X11_error b_a0), (X11_errorToken b_a0))).bind fun u3 =>
  (f_X11_take 42 ((X11_kinds b_a0), (X11_starts b_a0), (X11_values b_a0), (X11_count b_a0), u1.2.1, (X11_error b_a0), (X11_errorToken b_a0))).bind fun u4 =>
  if u4.1 = 0 then
  (f_X11_take 43 ((X11_kinds b_a0), (X11_starts b_a0), (X11_values b_a0), (X11_count b_a0), u4.2, (X11_error b_a0), (X11_errorToken b_a0))).bind fun u11 =>
  if u11.1 = 0 then
  (f_X11_take 44 ((X11_kinds b_a0), (X11_starts b_a0), (X11_values b_a0), (X11_count b_a0), u11.2, (X11_error b_a0), (X11_errorToken b_a0))).bind fun u13 =>
  if u13.1 = 0 then
  (f_X11_take 45 ((X11_kinds b_a0), (X11_starts b_a0), (X11_values b_a0), (X11_count b_a0), u13.2, (X11_error b_a0), (X11_errorToken b_a0))).bind fun u15 =>
  if u15.1 = 0 then
  (f_X11_take 46 ((X11_kinds b_a0), (X11_starts b_a0), (X11_values b_a0), (X11_count b_a0), u15.2, (X11_error b_a0), (X11_errorToken b_a0))).bind fun u17 =>
  if u17.1 = 0 then
  f_X3_comparison_R71 n rec x2 b_a0 b_a1 x2 u3 u17.2 u1.2.2.1 u1.2.2.2.1 u1.2.2.2.2 0 else
  f_X3_comparison_R66 n rec x2 b_a0 b_a1 x2 u3 u17.2 u1.2.2.1 u1.2.2.2.1 u1.2.2.2.2 else
  f_X3_comparison_R66 n rec x2 b_a0 b_a1 x2 u3 u15.2 u1.2.2.1 u1.2.2.2.1 u1.2.2.2.2 else
  f_X3_comparison_R66 n rec x2 b_a0 b_a1 x2 u3 u13.2 u1.2.2.1 u1.2.2.2.1 u1.2.2.2.2 else
  f_X3_comparison_R66 n rec x2 b_a0 b_a1 x2 u3 u11.2 u1.2.2.1 u1.2.2.2.1 u1.2.2.2.2 else
  f_X3_comparison_R66 n rec x2 b_a0 b_a1 x2 u3 u4.2 u1.2.2.1 u1.2.2.2.1 u1.2.2.2.2

def f_X3_sum_R72 (n : Nat) (rec : Nat → Int32 → bX11 → bX6 → Option (Int32 × Int32 × (Nat → Nat) × (Nat → Int32) × Int32)) (x2 : Int32) (b_a0 : bX11) (b_a1 : bX6) (v2 : Int32) (v5 : Int32) (w_a0_cursor : Int32) (w_a1_stepKinds : Nat → Nat) (w_a1_stepValues : Nat → Int32) (w_a1_steps : Int32) (t0 : Int32) : Option ((Int32 × Nat × Int32 × Int32 × (Nat → Nat) × (Nat → Int32) × Int32) ⊕ (Int32 × Int32 × (Nat → Nat) × (Nat → Int32) × Int32)) :=
  (f_X11_next ((X11_kinds b_a0), (X11_starts b_a0), (X11_values b_a0), (X11_count b_a0), w_a0_cursor, (X11_error b_a0), (X11_errorToken b_a0))).bind fun u11 =>
  some (Sum.inl (t0, u11, (v5 + 1), w_a0_cursor, w_a1_stepKinds, w_a1_stepValues, w_a1_steps))
def f_X3_sum_R71 (n : Nat) (rec : Nat → Int32 → bX11 → bX6 → Option (Int32 × Int32 × (Nat → Nat) × (Nat → Int32) × Int32)) (x2 : Int32) (b_a0 : bX11) (b_a1 : bX6) (v2 : Int32) (v5 : Int32) (w_a0_cursor : Int32) (w_a1_stepKinds : Nat → Nat) (w_a1_stepValues : Nat → Int32) (w_a1_steps : Int32) : Option ((Int32 × Nat × Int32 × Int32 × (Nat → Nat) × (Nat → Int32) × Int32) ⊕ (Int32 × Int32 × (Nat → Nat) × (Nat → Int32) × Int32)) :=
  f_X3_sum_R72 n rec x2 b_a0 b_a1 v2 v5 w_a0_cursor w_a1_stepKinds w_a1_stepValues w_a1_steps 0
def f_X3_sum_R48 (n : Nat) (rec : Nat → Int32 → bX11 → bX6 → Option (Int32 × Int32 × (Nat → Nat) × (Nat → Int32) × Int32)) (x2 : Int32) (b_a0 : bX11) (b_a1 : bX6) (v2 : Int32) (v4 : Nat) (v5 : Int32) (w_a0_cursor : Int32) (w_a1_stepKinds : Nat → Nat) (w_a1_stepValues : Nat → Int32) (w_a1_steps : Int32) : Option ((Int32 × Nat × Int32 × Int32 × (Nat → Nat) × (Nat → Int32) × Int32) ⊕ (Int32 × Int32 × (Nat → Nat) × (Nat → Int32) × Int32)) :=
  (rec 5 v2 ((X11_kinds b_a0), (X11_starts b_a0), (X11_values b_a0), (X11_count b_a0), w_a0_cursor, (X11_error b_a0), (X11_errorToken b_a0)) ((X6_deeds b_a1), (X6_targets b_a1), (X6_firstSteps b_a1), (X6_endSteps b_a1), w_a1_stepKinds, w_a1_stepValues, (X6_count b_a1), w_a1_steps)).bind fun u9 =>
  if u9.1 = 0 then
  f_X3_sum_R71 n rec x2 b_a0 b_a1 v2 v5 u9.2.1 u9.2.2.1 u9.2.2.2.1 u9.2.2.2.2 else
  (f_X6_addStep v4 0 ((X6_deeds b_a1), (X6_targets b_a1), (X6_firstSteps b_a1), (X6_endSteps b_a1), u9.2.2.1, u9.2.2.2.1, (X6_count b_a1), u9.2.2.2.2)).bind fun u12 =>
  if u12.1 = 0 then
  f_X3_sum_R71 n rec x2 b_a0 b_a1 v2 v5 u9.2.1 u12.2.1 u12.2.2.1 u12.2.2.2 else
  f_X3_sum_R72 n rec x2 b_a0 b_a1 v2 v5 u9.2.1 u12.2.1 u12.2.2.1 u12.2.2.2 1
def f_X3_sum_L16 (n : Nat) (rec : Nat → Int32 → bX11 → bX6 → Option (Int32 × Int32 × (Nat → Nat) × (Nat → Int32) × Int32)) (x2 : Int32) (b_a0 : bX11) (b_a1 : bX6) (v2 : Int32) (v3 : Int32) (v4 : Nat) (v5 : Int32) (w_a0_cursor : Int32) (w_a1_stepKinds : Nat → Nat) (w_a1_stepValues : Nat → Int32) (w_a1_steps : Int32) : Option ((Int32 × Nat × Int32 × Int32 × (Nat → Nat) × (Nat → Int32) × Int32) ⊕ (Int32 × Int32 × (Nat → Nat) × (Nat → Int32) × Int32)) :=
  if (400 : Int32) ≤ v5 then
  if vp_nar .boolean v3 = v3 then some (Sum.inr (v3, w_a0_cursor, w_a1_stepKinds, w_a1_stepValues, w_a1_steps)) else none else
  if v3 = 0 then
  if vp_nar .boolean v3 = v3 then some (Sum.inr (v3, w_a0_cursor, w_a1_stepKinds, w_a1_stepValues, w_a1_steps)) else none else
  (f_X11_take 38 ((X11_kinds b_a0), (X11_starts b_a0), (X11_values b_a0), (X11_count b_a0), w_a0_cursor, (X11_error b_a0), (X11_errorToken b_a0))).bind fun u7 =>
  if u7.1 = 0 then
  (f_X11_take 39 ((X11_kinds b_a0), (X11_starts b_a0), (X11_values b_a0), (X11_count b_a0), u7.2, (X11_error b_a0), (X11_errorToken b_a0))).bind fun u14 =>
  if u14.1 = 0 then
  if vp_nar .boolean v3 = v3 then some (Sum.inr (v3, u14.2, w_a1_stepKinds, w_a1_stepValues, w_a1_steps)) else none else
  f_X3_sum_R48 n rec x2 b_a0 b_a1 v2 v4 v5 u14.2 w_a1_stepKinds w_a1_stepValues w_a1_steps else
  f_X3_sum_R48 n rec x2 b_a0 b_a1 v2 v4 v5 u7.2 w_a1_stepKinds w_a1_stepValues w_a1_steps
def f_X3_sum (n : Nat) (rec : Nat → Int32 → bX11 → bX6 → Option (Int32 × Int32 × (Nat → Nat) × (Nat → Int32) × Int32)) (x2 : Int32) (b_a0 : bX11) (b_a1 : bX6) : Option (Int32 × Int32 × (Nat → Nat) × (Nat → Int32) × Int32) :=
  (rec 5 x2 b_a0 b_a1).bind fun u1 =>
  (f_X11_next ((X11_kinds b_a0), (X11_starts b_a0), (X11_values b_a0), (X11_count b_a0), u1.2.1, (X11_error b_a0), (X11_errorToken b_a0))).bind fun u2 =>
  iter (fun s : Int32 × Nat × Int32 × Int32 × (Nat → Nat) × (Nat → Int32) × Int32 => f_X3_sum_L16 n rec x2 b_a0 b_a1 x2 s.1 s.2.1 s.2.2.1 s.2.2.2.1 s.2.2.2.2.1 s.2.2.2.2.2.1 s.2.2.2.2.2.2) n (u1.1, u2, 0, u1.2.1, u1.2.2.1, u1.2.2.2.1, u1.2.2.2.2)

def f_X3_product_R72 (n : Nat) (rec : Nat → Int32 → bX11 → bX6 → Option (Int32 × Int32 × (Nat → Nat) × (Nat → Int32) × Int32)) (x2 : Int32) (b_a0 : bX11) (b_a1 : bX6) (v2 : Int32) (v5 : Int32) (w_a0_cursor : Int32) (w_a1_stepKinds : Nat → Nat) (w_a1_stepValues : Nat → Int32) (w_a1_steps : Int32) (t0 : Int32) : Option ((Int32 × Nat × Int32 × Int32 × (Nat → Nat) × (Nat → Int32) × Int32) ⊕ (Int32 × Int32 × (Nat → Nat) × (Nat → Int32) × Int32)) :=
  (f_X11_next ((X11_kinds b_a0), (X11_starts b_a0), (X11_values b_a0), (X11_count b_a0), w_a0_cursor, (X11_error b_a0), (X11_errorToken b_a0))).bind fun u11 =>
  some (Sum.inl (t0, u11, (v5 + 1), w_a0_cursor, w_a1_stepKinds, w_a1_stepValues, w_a1_steps))
def f_X3_product_R71 (n : Nat) (rec : Nat → Int32 → bX11 → bX6 → Option (Int32 × Int32 × (Nat → Nat) × (Nat → Int32) × Int32)) (x2 : Int32) (b_a0 : bX11) (b_a1 : bX6) (v2 : Int32) (v5 : Int32) (w_a0_cursor : Int32) (w_a1_stepKinds : Nat → Nat) (w_a1_stepValues : Nat → Int32) (w_a1_steps : Int32) : Option ((Int32 × Nat × Int32 × Int32 × (Nat → Nat) × (Nat → Int32) × Int32) ⊕ (Int32 × Int32 × (Nat → Nat) × (Nat → Int32) × Int32)) :=
  f_X3_product_R72 n rec x2 b_a0 b_a1 v2 v5 w_a0_cursor w_a1_stepKinds w_a1_stepValues w_a1_steps 0
def f_X3_product_R48 (n : Nat) (rec : Nat → Int32 → bX11 → bX6 → Option (Int32 × Int32 × (Nat → Nat) × (Nat → Int32) × Int32)) (x2 : Int32) (b_a0 : bX11) (b_a1 : bX6) (v2 : Int32) (v4 : Nat) (v5 : Int32) (w_a0_cursor : Int32) (w_a1_stepKinds : Nat → Nat) (w_a1_stepValues : Nat → Int32) (w_a1_steps : Int32) : Option ((Int32 × Nat × Int32 × Int32 × (Nat → Nat) × (Nat → Int32) × Int32) ⊕ (Int32 × Int32 × (Nat → Nat) × (Nat → Int32) × Int32)) :=
  (rec 6 v2 ((X11_kinds b_a0), (X11_starts b_a0), (X11_values b_a0), (X11_count b_a0), w_a0_cursor, (X11_error b_a0), (X11_errorToken b_a0)) ((X6_deeds b_a1), (X6_targets b_a1), (X6_firstSteps b_a1), (X6_endSteps b_a1), w_a1_stepKinds, w_a1_stepValues, (X6_count b_a1), w_a1_steps)).bind fun u9 =>
  if u9.1 = 0 then
  f_X3_product_R71 n rec x2 b_a0 b_a1 v2 v5 u9.2.1 u9.2.2.1 u9.2.2.2.1 u9.2.2.2.2 else
  (f_X6_addStep v4 0 ((X6_deeds b_a1), (X6_targets b_a1), (X6_firstSteps b_a1), (X6_endSteps b_a1), u9.2.2.1, u9.2.2.2.1, (X6_count b_a1), u9.2.2.2.2)).bind fun u12 =>
  if u12.1 = 0 then
  f_X3_product_R71 n rec x2 b_a0 b_a1 v2 v5 u9.2.1 u12.2.1 u12.2.2.1 u12.2.2.2 else
  f_X3_product_R72 n rec x2 b_a0 b_a1 v2 v5 u9.2.1 u12.2.1 u12.2.2.1 u12.2.2.2 1
def f_X3_product_L16 (n : Nat) (rec : Nat → Int32 → bX11 → bX6 → Option (Int32 × Int32 × (Nat → Nat) × (Nat → Int32) × Int32)) (x2 : Int32) (b_a0 : bX11) (b_a1 : bX6) (v2 : Int32) (v3 : Int32) (v4 : Nat) (v5 : Int32) (w_a0_cursor : Int32) (w_a1_stepKinds : Nat → Nat) (w_a1_stepValues : Nat → Int32) (w_a1_steps : Int32) : Option ((Int32 × Nat × Int32 × Int32 × (Nat → Nat) × (Nat → Int32) × Int32) ⊕ (Int32 × Int32 × (Nat → Nat) × (Nat → Int32) × Int32)) :=
  if (400 : Int32) ≤ v5 then
  if vp_nar .boolean v3 = v3 then some (Sum.inr (v3, w_a0_cursor, w_a1_stepKinds, w_a1_stepValues, w_a1_steps)) else none else
  if v3 = 0 then
  if vp_nar .boolean v3 = v3 then some (Sum.inr (v3, w_a0_cursor, w_a1_stepKinds, w_a1_stepValues, w_a1_steps)) else none else
  (f_X11_take 40 ((X11_kinds b_a0), (X11_starts b_a0), (X11_values b_a0), (X11_count b_a0), w_a0_cursor, (X11_error b_a0), (X11_errorToken b_a0))).bind fun u7 =>
  if u7.1 = 0 then
  (f_X11_take 41 ((X11_kinds b_a0), (X11_starts b_a0), (X11_values b_a0), (X11_count b_a0), u7.2, (X11_error b_a0), (X11_errorToken b_a0))).bind fun u14 =>
  if u14.1 = 0 then
  if vp_nar .boolean v3 = v3 then some (Sum.inr (v3, u14.2, w_a1_stepKinds, w_a1_stepValues, w_a1_steps)) else none else
  f_X3_product_R48 n rec x2 b_a0 b_a1 v2 v4 v5 u14.2 w_a1_stepKinds w_a1_stepValues w_a1_steps else
  f_X3_product_R48 n rec x2 b_a0 b_a1 v2 v4 v5 u7.2 w_a1_stepKinds w_a1_stepValues w_a1_steps
def f_X3_product (n : Nat) (rec : Nat → Int32 → bX11 → bX6 → Option (Int32 × Int32 × (Nat → Nat) × (Nat → Int32) × Int32)) (x2 : Int32) (b_a0 : bX11) (b_a1 : bX6) : Option (Int32 × Int32 × (Nat → Nat) × (Nat → Int32) × Int32) :=
  (rec 6 x2 b_a0 b_a1).bind fun u1 =>
  (f_X11_next ((X11_kinds b_a0), (X11_starts b_a0), (X11_values b_a0), (X11_count b_a0), u1.2.1, (X11_error b_a0), (X11_errorToken b_a0))).bind fun u2 =>
  iter (fun s : Int32 × Nat × Int32 × Int32 × (Nat → Nat) × (Nat → Int32) × Int32 => f_X3_product_L16 n rec x2 b_a0 b_a1 x2 s.1 s.2.1 s.2.2.1 s.2.2.2.1 s.2.2.2.2.1 s.2.2.2.2.2.1 s.2.2.2.2.2.2) n (u1.1, u2, 0, u1.2.1, u1.2.2.1, u1.2.2.2.1, u1.2.2.2.2)

def f_X3_value (n : Nat) (rec : Nat → Int32 → bX11 → bX6 → Option (Int32 × Int32 × (Nat → Nat) × (Nat → Int32) × Int32)) (x2 : Int32) (b_a0 : bX11) (b_a1 : bX6) : Option (Int32 × Int32 × (Nat → Nat) × (Nat → Int32) × Int32) :=
  (f_X11_next b_a0).bind fun u1 =>
  if u1 < 52 then
  if (smap u1) = 6 ∨ (smap u1) = 7 ∨ (smap u1) = 8 ∨ (smap u1) = 9 ∨ (smap u1) = 10 ∨ (smap u1) = 11 ∨ (smap u1) = 12 ∨ (smap u1) = 13 then
  (f_X6_addStep u1 (X11_cursor b_a0) b_a1).bind fun u4 =>
  if u4.1 = 0 then
  some (0, (X11_cursor b_a0), u4.2.1, u4.2.2.1, u4.2.2.2) else
  (f_X11_take u1 b_a0).bind fun u6 =>
  if u6.1 = 0 then
  some (0, u6.2, u4.2.1, u4.2.2.1, u4.2.2.2) else
  some (1, u6.2, u4.2.1, u4.2.2.1, u4.2.2.2) else
  if (smap u1) = 14 then
  (f_X11_take 6 b_a0).bind fun u9 =>
  if u9.1 = 0 then
  some (0, u9.2, (X6_stepKinds b_a1), (X6_stepValues b_a1), (X6_steps b_a1)) else
  (f_X11_take 26 ((X11_kinds b_a0), (X11_starts b_a0), (X11_values b_a0), (X11_count b_a0), u9.2, (X11_error b_a0), (X11_errorToken b_a0))).bind fun u11 =>
  if u11.1 = 0 then
  some (0, u11.2, (X6_stepKinds b_a1), (X6_stepValues b_a1), (X6_steps b_a1)) else
  (f_X6_addStep 6 u11.2 b_a1).bind fun u13 =>
  if u13.1 = 0 then
  some (0, u11.2, u13.2.1, u13.2.2.1, u13.2.2.2) else
  (f_X11_take 47 ((X11_kinds b_a0), (X11_starts b_a0), (X11_values b_a0), (X11_count b_a0), u11.2, (X11_error b_a0), (X11_errorToken b_a0))).bind fun u15 =>
  if u15.1 = 0 then
  some (0, u15.2, u13.2.1, u13.2.2.1, u13.2.2.2) else
  some (1, u15.2, u13.2.1, u13.2.2.1, u13.2.2.2) else
  if (smap u1) = 15 then
  if (8 : Int32) ≤ x2 then
  some (0, (X11_cursor b_a0), (X6_stepKinds b_a1), (X6_stepValues b_a1), (X6_steps b_a1)) else
  (f_X11_take 39 b_a0).bind fun u19 =>
  if u19.1 = 0 then
  some (0, u19.2, (X6_stepKinds b_a1), (X6_stepValues b_a1), (X6_steps b_a1)) else
  (rec 6 (x2 + 1) ((X11_kinds b_a0), (X11_starts b_a0), (X11_values b_a0), (X11_count b_a0), u19.2, (X11_error b_a0), (X11_errorToken b_a0)) b_a1).bind fun u21 =>
  if u21.1 = 0 then
  some (0, u21.2.1, u21.2.2.1, u21.2.2.2.1, u21.2.2.2.2) else
  (f_X6_addStep 51 0 ((X6_deeds b_a1), (X6_targets b_a1), (X6_firstSteps b_a1), (X6_endSteps b_a1), u21.2.2.1, u21.2.2.2.1, (X6_count b_a1), u21.2.2.2.2)).bind fun u23 =>
  if u23.1 = 0 then
  some (0, u21.2.1, u23.2.1, u23.2.2.1, u23.2.2.2) else
  some (1, u21.2.1, u23.2.1, u23.2.2.1, u23.2.2.2) else
  if (smap u1) = 16 then
  if (8 : Int32) ≤ x2 then
  some (0, (X11_cursor b_a0), (X6_stepKinds b_a1), (X6_stepValues b_a1), (X6_steps b_a1)) else
  (f_X11_take 32 b_a0).bind fun u27 =>
  if u27.1 = 0 then
  some (0, u27.2, (X6_stepKinds b_a1), (X6_stepValues b_a1), (X6_steps b_a1)) else
  (rec 4 (x2 + 1) ((X11_kinds b_a0), (X11_starts b_a0), (X11_values b_a0), (X11_count b_a0), u27.2, (X11_error b_a0), (X11_errorToken b_a0)) b_a1).bind fun u29 =>
  if u29.1 = 0 then
  some (0, u29.2.1, u29.2.2.1, u29.2.2.2.1, u29.2.2.2.2) else
  (f_X11_take 33 ((X11_kinds b_a0), (X11_starts b_a0), (X11_values b_a0), (X11_count b_a0), u29.2.1, (X11_error b_a0), (X11_errorToken b_a0))).bind fun u31 =>
  if u31.1 = 0 then
  some (0, u31.2, u29.2.2.1, u29.2.2.2.1, u29.2.2.2.2) else
  some (1, u31.2, u29.2.2.1, u29.2.2.2.1, u29.2.2.2.2) else
  if (smap u1) = 17 ∨ (smap u1) = 18 then
  (f_X11_take u1 b_a0).bind fun u34 =>
  if u34.1 = 0 then
  some (0, u34.2, (X6_stepKinds b_a1), (X6_stepValues b_a1), (X6_steps b_a1)) else
  if (8 : Int32) ≤ x2 then
  some (0, u34.2, (X6_stepKinds b_a1), (X6_stepValues b_a1), (X6_steps b_a1)) else
  (f_X11_take 32 ((X11_kinds b_a0), (X11_starts b_a0), (X11_values b_a0), (X11_count b_a0), u34.2, (X11_error b_a0), (X11_errorToken b_a0))).bind fun u37 =>
  if u37.1 = 0 then
  some (0, u37.2, (X6_stepKinds b_a1), (X6_stepValues b_a1), (X6_steps b_a1)) else
  (rec 4 (x2 + 1) ((X11_kinds b_a0), (X11_starts b_a0), (X11_values b_a0), (X11_count b_a0), u37.2, (X11_error b_a0), (X11_errorToken b_a0)) b_a1).bind fun u39 =>
  if u39.1 = 0 then
  some (0, u39.2.1, u39.2.2.1, u39.2.2.2.1, u39.2.2.2.2) else
  (f_X11_take 37 ((X11_kinds b_a0), (X11_starts b_a0), (X11_values b_a0), (X11_count b_a0), u39.2.1, (X11_error b_a0), (X11_errorToken b_a0))).bind fun u41 =>
  if u41.1 = 0 then
  some (0, u41.2, u39.2.2.1, u39.2.2.2.1, u39.2.2.2.2) else
  (rec 4 (x2 + 1) ((X11_kinds b_a0), (X11_starts b_a0), (X11_values b_a0), (X11_count b_a0), u41.2, (X11_error b_a0), (X11_errorToken b_a0)) ((X6_deeds b_a1), (X6_targets b_a1), (X6_firstSteps b_a1), (X6_endSteps b_a1), u39.2.2.1, u39.2.2.2.1, (X6_count b_a1), u39.2.2.2.2)).bind fun u43 =>
  if u43.1 = 0 then
  some (0, u43.2.1, u43.2.2.1, u43.2.2.2.1, u43.2.2.2.2) else
  (f_X11_take 33 ((X11_kinds b_a0), (X11_starts b_a0), (X11_values b_a0), (X11_count b_a0), u43.2.1, (X11_error b_a0), (X11_errorToken b_a0))).bind fun u45 =>
  if u45.1 = 0 then
  some (0, u45.2, u43.2.2.1, u43.2.2.2.1, u43.2.2.2.2) else
  (f_X6_addStep u1 0 ((X6_deeds b_a1), (X6_targets b_a1), (X6_firstSteps b_a1), (X6_endSteps b_a1), u43.2.2.1, u43.2.2.2.1, (X6_count b_a1), u43.2.2.2.2)).bind fun u47 =>
  if u47.1 = 0 then
  some (0, u45.2, u47.2.1, u47.2.2.1, u47.2.2.2) else
  some (1, u45.2, u47.2.1, u47.2.2.1, u47.2.2.2) else
  some (0, (X11_cursor b_a0), (X6_stepKinds b_a1), (X6_stepValues b_a1), (X6_steps b_a1)) else none

def sel_X3 (n : Nat) (rec : Nat → Int32 → bX11 → bX6 → Option (Int32 × Int32 × (Nat → Nat) × (Nat → Int32) × Int32)) (j : Nat) (x : Int32) (b_a0 : bX11) (b_a1 : bX6) : Option (Int32 × Int32 × (Nat → Nat) × (Nat → Int32) × Int32) := match j with
  | 0 => f_X3_test n rec x b_a0 b_a1
  | 1 => f_X3_both n rec x b_a0 b_a1
  | 2 => f_X3_single n rec x b_a0 b_a1
  | 3 => f_X3_comparison n rec x b_a0 b_a1
  | 4 => f_X3_sum n rec x b_a0 b_a1
  | 5 => f_X3_product n rec x b_a0 b_a1
  | 6 => f_X3_value n rec x b_a0 b_a1
  | _ => none
def g_X3 (n : Nat) : Nat → Nat → Int32 → bX11 → bX6 → Option (Int32 × Int32 × (Nat → Nat) × (Nat → Int32) × Int32)
  | 0 => fun _ _ _ _ => none
  | d + 1 => sel_X3 n (g_X3 n d)

def f_X6_add (x0 : Nat) (x1 : Int32) (b_h : bX6) : Option ((Nat → Nat) × (Nat → Int32) × (Nat → Int32) × (Nat → Int32) × Int32) :=
  if (16 : Int32) ≤ (X6_count b_h) then
  some ((X6_deeds b_h), (X6_targets b_h), (X6_firstSteps b_h), (X6_endSteps b_h), (X6_count b_h)) else
  if (X6_count b_h) < 0 ∨ 16 ≤ (X6_count b_h).toNatClampNeg then none else
  if x0 < 52 then
  if (X6_count b_h) < 0 ∨ 16 ≤ (X6_count b_h).toNatClampNeg then none else
  if (X6_count b_h) < 0 ∨ 16 ≤ (X6_count b_h).toNatClampNeg then none else
  if (X6_count b_h) < 0 ∨ 16 ≤ (X6_count b_h).toNatClampNeg then none else
  some ((va_up (X6_deeds b_h) (X6_count b_h).toNatClampNeg x0), (upd (X6_targets b_h) (X6_count b_h).toNatClampNeg x1), (upd (X6_firstSteps b_h) (X6_count b_h).toNatClampNeg (X6_steps b_h)), (upd (X6_endSteps b_h) (X6_count b_h).toNatClampNeg (X6_steps b_h)), ((X6_count b_h) + 1)) else none

def f_X6_endTest (b_h : bX6) : Option ((Nat → Int32)) :=
  if (X6_count b_h) ≤ 0 then
  some (X6_endSteps b_h) else
  if (16 : Int32) < (X6_count b_h) then
  some (X6_endSteps b_h) else
  if ((X6_count b_h) - 1) < 0 ∨ 16 ≤ ((X6_count b_h) - 1).toNatClampNeg then none else
  some (upd (X6_endSteps b_h) ((X6_count b_h) - 1).toNatClampNeg (X6_steps b_h))

def f_X3_order_R104 (n : Nat) (b_a0 : bX11) (b_a1 : bX6) (w_a0_cursor : Int32) (w_a1_deeds : Nat → Nat) (w_a1_targets : Nat → Int32) (w_a1_firstSteps : Nat → Int32) (w_a1_endSteps : Nat → Int32) (w_a1_stepKinds : Nat → Nat) (w_a1_stepValues : Nat → Int32) (w_a1_count : Int32) (w_a1_steps : Int32) (t0 : Int32) : Option (Int32 × Int32 × (Nat → Nat) × (Nat → Int32) × (Nat → Int32) × (Nat → Int32) × (Nat → Nat) × (Nat → Int32) × Int32 × Int32) :=
  (f_X6_endTest (w_a1_deeds, w_a1_targets, w_a1_firstSteps, w_a1_endSteps, w_a1_stepKinds, w_a1_stepValues, w_a1_count, w_a1_steps)).bind fun u9 =>
  if vp_nar .boolean t0 = t0 then some (t0, w_a0_cursor, w_a1_deeds, w_a1_targets, w_a1_firstSteps, u9, w_a1_stepKinds, w_a1_stepValues, w_a1_count, w_a1_steps) else none
def f_X3_order_R99 (n : Nat) (b_a0 : bX11) (b_a1 : bX6) (w_a0_cursor : Int32) (w_a1_deeds : Nat → Nat) (w_a1_targets : Nat → Int32) (w_a1_firstSteps : Nat → Int32) (w_a1_endSteps : Nat → Int32) (w_a1_stepKinds : Nat → Nat) (w_a1_stepValues : Nat → Int32) (w_a1_count : Int32) (w_a1_steps : Int32) : Option (Int32 × Int32 × (Nat → Nat) × (Nat → Int32) × (Nat → Int32) × (Nat → Int32) × (Nat → Nat) × (Nat → Int32) × Int32 × Int32) :=
  f_X3_order_R104 n b_a0 b_a1 w_a0_cursor w_a1_deeds w_a1_targets w_a1_firstSteps w_a1_endSteps w_a1_stepKinds w_a1_stepValues w_a1_count w_a1_steps 1
def f_X3_order_R80 (n : Nat) (b_a0 : bX11) (b_a1 : bX6) (w_a0_cursor : Int32) (w_a1_deeds : Nat → Nat) (w_a1_targets : Nat → Int32) (w_a1_firstSteps : Nat → Int32) (w_a1_endSteps : Nat → Int32) (w_a1_stepKinds : Nat → Nat) (w_a1_stepValues : Nat → Int32) (w_a1_count : Int32) (w_a1_steps : Int32) : Option (Int32 × Int32 × (Nat → Nat) × (Nat → Int32) × (Nat → Int32) × (Nat → Int32) × (Nat → Nat) × (Nat → Int32) × Int32 × Int32) :=
  (f_X11_take 15 ((X11_kinds b_a0), (X11_starts b_a0), (X11_values b_a0), (X11_count b_a0), w_a0_cursor, (X11_error b_a0), (X11_errorToken b_a0))).bind fun u7 =>
  if u7.1 = 0 then
  f_X3_order_R99 n b_a0 b_a1 u7.2 w_a1_deeds w_a1_targets w_a1_firstSteps w_a1_endSteps w_a1_stepKinds w_a1_stepValues w_a1_count w_a1_steps else
  (g_X3 n 100 0 0 ((X11_kinds b_a0), (X11_starts b_a0), (X11_values b_a0), (X11_count b_a0), u7.2, (X11_error b_a0), (X11_errorToken b_a0)) (w_a1_deeds, w_a1_targets, w_a1_firstSteps, w_a1_endSteps, w_a1_stepKinds, w_a1_stepValues, w_a1_count, w_a1_steps)).bind fun u11 =>
  if u11.1 = 0 then
  f_X3_order_R104 n b_a0 b_a1 u11.2.1 w_a1_deeds w_a1_targets w_a1_firstSteps w_a1_endSteps u11.2.2.1 u11.2.2.2.1 w_a1_count u11.2.2.2.2 0 else
  f_X3_order_R99 n b_a0 b_a1 u11.2.1 w_a1_deeds w_a1_targets w_a1_firstSteps w_a1_endSteps u11.2.2.1 u11.2.2.2.1 w_a1_count u11.2.2.2.2
def f_X3_order_R25 (n : Nat) (b_a0 : bX11) (b_a1 : bX6) (v2 : Nat) (w_a0_cursor : Int32) (w_a1_deeds : Nat → Nat) (w_a1_targets : Nat → Int32) (w_a1_firstSteps : Nat → Int32) (w_a1_endSteps : Nat → Int32) (w_a1_stepKinds : Nat → Nat) (w_a1_stepValues : Nat → Int32) (w_a1_count : Int32) (w_a1_steps : Int32) : Option (Int32 × Int32 × (Nat → Nat) × (Nat → Int32) × (Nat → Int32) × (Nat → Int32) × (Nat → Nat) × (Nat → Int32) × Int32 × Int32) :=
  (f_X6_add v2 w_a0_cursor (w_a1_deeds, w_a1_targets, w_a1_firstSteps, w_a1_endSteps, w_a1_stepKinds, w_a1_stepValues, w_a1_count, w_a1_steps)).bind fun u4 =>
  (f_X11_take 47 ((X11_kinds b_a0), (X11_starts b_a0), (X11_values b_a0), (X11_count b_a0), w_a0_cursor, (X11_error b_a0), (X11_errorToken b_a0))).bind fun u5 =>
  if u5.1 = 0 then
  some (0, u5.2, u4.1, u4.2.1, u4.2.2.1, u4.2.2.2.1, w_a1_stepKinds, w_a1_stepValues, u4.2.2.2.2, w_a1_steps) else
  f_X3_order_R80 n b_a0 b_a1 u5.2 u4.1 u4.2.1 u4.2.2.1 u4.2.2.2.1 w_a1_stepKinds w_a1_stepValues u4.2.2.2.2 w_a1_steps
def f_X3_order_R66 (n : Nat) (b_a0 : bX11) (b_a1 : bX6) (v2 : Nat) (w_a0_cursor : Int32) (w_a1_deeds : Nat → Nat) (w_a1_targets : Nat → Int32) (w_a1_firstSteps : Nat → Int32) (w_a1_endSteps : Nat → Int32) (w_a1_stepKinds : Nat → Nat) (w_a1_stepValues : Nat → Int32) (w_a1_count : Int32) (w_a1_steps : Int32) : Option (Int32 × Int32 × (Nat → Nat) × (Nat → Int32) × (Nat → Int32) × (Nat → Int32) × (Nat → Nat) × (Nat → Int32) × Int32 × Int32) :=
  (f_X6_add v2 w_a0_cursor (w_a1_deeds, w_a1_targets, w_a1_firstSteps, w_a1_endSteps, w_a1_stepKinds, w_a1_stepValues, w_a1_count, w_a1_steps)).bind fun u17 =>
  f_X3_order_R80 n b_a0 b_a1 w_a0_cursor u17.1 u17.2.1 u17.2.2.1 u17.2.2.2.1 w_a1_stepKinds w_a1_stepValues u17.2.2.2.2 w_a1_steps
def f_X3_order (n : Nat) (b_a0 : bX11) (b_a1 : bX6) : Option (Int32 × Int32 × (Nat → Nat) × (Nat → Int32) × (Nat → Int32) × (Nat → Int32) × (Nat → Nat) × (Nat → Int32) × Int32 × Int32) :=
  (f_X11_next b_a0).bind fun u1 =>
  (f_X11_take 11 b_a0).bind fun u2 =>
  if u2.1 = 0 then
  (f_X11_take 14 ((X11_kinds b_a0), (X11_starts b_a0), (X11_values b_a0), (X11_count b_a0), u2.2, (X11_error b_a0), (X11_errorToken b_a0))).bind fun u13 =>
  if u13.1 = 0 then
  (f_X11_take 12 ((X11_kinds b_a0), (X11_starts b_a0), (X11_values b_a0), (X11_count b_a0), u13.2, (X11_error b_a0), (X11_errorToken b_a0))).bind fun u15 =>
  if u15.1 = 0 then
  (f_X11_take 13 ((X11_kinds b_a0), (X11_starts b_a0), (X11_values b_a0), (X11_count b_a0), u15.2, (X11_error b_a0), (X11_errorToken b_a0))).bind fun u18 =>
  if u18.1 = 0 then
  some (0, u18.2, (X6_deeds b_a1), (X6_targets b_a1), (X6_firstSteps b_a1), (X6_endSteps b_a1), (X6_stepKinds b_a1), (X6_stepValues b_a1), (X6_count b_a1), (X6_steps b_a1)) else
  f_X3_order_R66 n b_a0 b_a1 u1 u18.2 (X6_deeds b_a1) (X6_targets b_a1) (X6_firstSteps b_a1) (X6_endSteps b_a1) (X6_stepKinds b_a1) (X6_stepValues b_a1) (X6_count b_a1) (X6_steps b_a1) else
  f_X3_order_R66 n b_a0 b_a1 u1 u15.2 (X6_deeds b_a1) (X6_targets b_a1) (X6_firstSteps b_a1) (X6_endSteps b_a1) (X6_stepKinds b_a1) (X6_stepValues b_a1) (X6_count b_a1) (X6_steps b_a1) else
  f_X3_order_R25 n b_a0 b_a1 u1 u13.2 (X6_deeds b_a1) (X6_targets b_a1) (X6_firstSteps b_a1) (X6_endSteps b_a1) (X6_stepKinds b_a1) (X6_stepValues b_a1) (X6_count b_a1) (X6_steps b_a1) else
  f_X3_order_R25 n b_a0 b_a1 u1 u2.2 (X6_deeds b_a1) (X6_targets b_a1) (X6_firstSteps b_a1) (X6_endSteps b_a1) (X6_stepKinds b_a1) (X6_stepValues b_a1) (X6_count b_a1) (X6_steps b_a1)

def f_X3_line_R50 (n : Nat) (b_a0 : bX11) (b_a1 : bX6) (w_a0_cursor : Int32) (w_a1_deeds : Nat → Nat) (w_a1_targets : Nat → Int32) (w_a1_firstSteps : Nat → Int32) (w_a1_endSteps : Nat → Int32) (w_a1_stepKinds : Nat → Nat) (w_a1_stepValues : Nat → Int32) (w_a1_count : Int32) (w_a1_steps : Int32) : Option (Int32 × Int32 × (Nat → Nat) × (Nat → Int32) × (Nat → Int32) × (Nat → Int32) × (Nat → Nat) × (Nat → Int32) × Int32 × Int32) :=
  (f_X11_takeNumber 6 ((X11_kinds b_a0), (X11_starts b_a0), (X11_values b_a0), (X11_count b_a0), w_a0_cursor, (X11_error b_a0), (X11_errorToken b_a0))).bind fun u23 =>
  if u23.1 = 0 then
  some (0, u23.2, w_a1_deeds, w_a1_targets, w_a1_firstSteps, w_a1_endSteps, w_a1_stepKinds, w_a1_stepValues, w_a1_count, w_a1_steps) else
  (f_X11_takeNumber 4 ((X11_kinds b_a0), (X11_starts b_a0), (X11_values b_a0), (X11_count b_a0), u23.2, (X11_error b_a0), (X11_errorToken b_a0))).bind fun u25 =>
  if u25.1 = 0 then
  some (0, u25.2, w_a1_deeds, w_a1_targets, w_a1_firstSteps, w_a1_endSteps, w_a1_stepKinds, w_a1_stepValues, w_a1_count, w_a1_steps) else
  (f_X11_takeNumber 5 ((X11_kinds b_a0), (X11_starts b_a0), (X11_values b_a0), (X11_count b_a0), u25.2, (X11_error b_a0), (X11_errorToken b_a0))).bind fun u27 =>
  if u27.1 = 0 then
  some (0, u27.2, w_a1_deeds, w_a1_targets, w_a1_firstSteps, w_a1_endSteps, w_a1_stepKinds, w_a1_stepValues, w_a1_count, w_a1_steps) else
  some (1, u27.2, w_a1_deeds, w_a1_targets, w_a1_firstSteps, w_a1_endSteps, w_a1_stepKinds, w_a1_stepValues, w_a1_count, w_a1_steps)
def f_X3_line (n : Nat) (b_a0 : bX11) (b_a1 : bX6) : Option (Int32 × Int32 × (Nat → Nat) × (Nat → Int32) × (Nat → Int32) × (Nat → Int32) × (Nat → Nat) × (Nat → Int32) × Int32 × Int32) :=
  (f_X11_take 0 b_a0).bind fun u1 =>
  if u1.1 = 0 then
  (f_X11_take 7 ((X11_kinds b_a0), (X11_starts b_a0), (X11_values b_a0), (X11_count b_a0), u1.2, (X11_error b_a0), (X11_errorToken b_a0))).bind fun u3 =>
  if u3.1 = 0 then
  (f_X3_order n ((X11_kinds b_a0), (X11_starts b_a0), (X11_values b_a0), (X11_count b_a0), u3.2, (X11_error b_a0), (X11_errorToken b_a0)) b_a1).bind fun u5 =>
  if vp_nar .boolean u5.1 = u5.1 then some (u5.1, u5.2.1, u5.2.2.1, u5.2.2.2.1, u5.2.2.2.2.1, u5.2.2.2.2.2.1, u5.2.2.2.2.2.2.1, u5.2.2.2.2.2.2.2.1, u5.2.2.2.2.2.2.2.2.1, u5.2.2.2.2.2.2.2.2.2) else none else
  (f_X11_take 47 ((X11_kinds b_a0), (X11_starts b_a0), (X11_values b_a0), (X11_count b_a0), u3.2, (X11_error b_a0), (X11_errorToken b_a0))).bind fun u7 =>
  if u7.1 = 0 then
  some (0, u7.2, (X6_deeds b_a1), (X6_targets b_a1), (X6_firstSteps b_a1), (X6_endSteps b_a1), (X6_stepKinds b_a1), (X6_stepValues b_a1), (X6_count b_a1), (X6_steps b_a1)) else
  (f_X11_takeNumber 4 ((X11_kinds b_a0), (X11_starts b_a0), (X11_values b_a0), (X11_count b_a0), u7.2, (X11_error b_a0), (X11_errorToken b_a0))).bind fun u9 =>
  if u9.1 = 0 then
  some (0, u9.2, (X6_deeds b_a1), (X6_targets b_a1), (X6_firstSteps b_a1), (X6_endSteps b_a1), (X6_stepKinds b_a1), (X6_stepValues b_a1), (X6_count b_a1), (X6_steps b_a1)) else
  (f_X11_takeNumber 8 ((X11_kinds b_a0), (X11_starts b_a0), (X11_values b_a0), (X11_count b_a0), u9.2, (X11_error b_a0), (X11_errorToken b_a0))).bind fun u11 =>
  if u11.1 = 0 then
  some (0, u11.2, (X6_deeds b_a1), (X6_targets b_a1), (X6_firstSteps b_a1), (X6_endSteps b_a1), (X6_stepKinds b_a1), (X6_stepValues b_a1), (X6_count b_a1), (X6_steps b_a1)) else
  (f_X11_takeNumber 9 ((X11_kinds b_a0), (X11_starts b_a0), (X11_values b_a0), (X11_count b_a0), u11.2, (X11_error b_a0), (X11_errorToken b_a0))).bind fun u13 =>
  if u13.1 = 0 then
  some (0, u13.2, (X6_deeds b_a1), (X6_targets b_a1), (X6_firstSteps b_a1), (X6_endSteps b_a1), (X6_stepKinds b_a1), (X6_stepValues b_a1), (X6_count b_a1), (X6_steps b_a1)) else
  (f_X11_takeNumber 10 ((X11_kinds b_a0), (X11_starts b_a0), (X11_values b_a0), (X11_count b_a0), u13.2, (X11_error b_a0), (X11_errorToken b_a0))).bind fun u15 =>
  if u15.1 = 0 then
  some (0, u15.2, (X6_deeds b_a1), (X6_targets b_a1), (X6_firstSteps b_a1), (X6_endSteps b_a1), (X6_stepKinds b_a1), (X6_stepValues b_a1), (X6_count b_a1), (X6_steps b_a1)) else
  some (1, u15.2, (X6_deeds b_a1), (X6_targets b_a1), (X6_firstSteps b_a1), (X6_endSteps b_a1), (X6_stepKinds b_a1), (X6_stepValues b_a1), (X6_count b_a1), (X6_steps b_a1)) else
  (f_X11_take 47 ((X11_kinds b_a0), (X11_starts b_a0), (X11_values b_a0), (X11_count b_a0), u1.2, (X11_error b_a0), (X11_errorToken b_a0))).bind fun u17 =>
  if u17.1 = 0 then
  some (0, u17.2, (X6_deeds b_a1), (X6_targets b_a1), (X6_firstSteps b_a1), (X6_endSteps b_a1), (X6_stepKinds b_a1), (X6_stepValues b_a1), (X6_count b_a1), (X6_steps b_a1)) else
  (f_X11_take 1 ((X11_kinds b_a0), (X11_starts b_a0), (X11_values b_a0), (X11_count b_a0), u17.2, (X11_error b_a0), (X11_errorToken b_a0))).bind fun u19 =>
  if u19.1 = 0 then
  some (0, u19.2, (X6_deeds b_a1), (X6_targets b_a1), (X6_firstSteps b_a1), (X6_endSteps b_a1), (X6_stepKinds b_a1), (X6_stepValues b_a1), (X6_count b_a1), (X6_steps b_a1)) else
  (f_X11_take 2 ((X11_kinds b_a0), (X11_starts b_a0), (X11_values b_a0), (X11_count b_a0), u19.2, (X11_error b_a0), (X11_errorToken b_a0))).bind fun u21 =>
  if u21.1 = 0 then
  (f_X11_take 3 ((X11_kinds b_a0), (X11_starts b_a0), (X11_values b_a0), (X11_count b_a0), u21.2, (X11_error b_a0), (X11_errorToken b_a0))).bind fun u29 =>
  if u29.1 = 0 then
  some (0, u29.2, (X6_deeds b_a1), (X6_targets b_a1), (X6_firstSteps b_a1), (X6_endSteps b_a1), (X6_stepKinds b_a1), (X6_stepValues b_a1), (X6_count b_a1), (X6_steps b_a1)) else
  f_X3_line_R50 n b_a0 b_a1 u29.2 (X6_deeds b_a1) (X6_targets b_a1) (X6_firstSteps b_a1) (X6_endSteps b_a1) (X6_stepKinds b_a1) (X6_stepValues b_a1) (X6_count b_a1) (X6_steps b_a1) else
  f_X3_line_R50 n b_a0 b_a1 u21.2 (X6_deeds b_a1) (X6_targets b_a1) (X6_firstSteps b_a1) (X6_endSteps b_a1) (X6_stepKinds b_a1) (X6_stepValues b_a1) (X6_count b_a1) (X6_steps b_a1)

def f_X3_read_R75 (n : Nat) (b_a0 : bX11) (b_a1 : bX6) (w_a0_cursor : Int32) (w_a0_error : Int32) (w_a0_errorToken : Int32) (w_a1_deeds : Nat → Nat) (w_a1_targets : Nat → Int32) (w_a1_firstSteps : Nat → Int32) (w_a1_endSteps : Nat → Int32) (w_a1_stepKinds : Nat → Nat) (w_a1_stepValues : Nat → Int32) (w_a1_count : Int32) (w_a1_steps : Int32) (t0 : Int32) : Option (Int32 × Int32 × Int32 × (Nat → Nat) × (Nat → Int32) × (Nat → Int32) × (Nat → Int32) × (Nat → Nat) × (Nat → Int32) × Int32 × Int32) :=
  (f_X11_failUnless t0 1 w_a0_cursor ((X11_kinds b_a0), (X11_starts b_a0), (X11_values b_a0), (X11_count b_a0), w_a0_cursor, w_a0_error, w_a0_errorToken)).bind fun u5 =>
  some (w_a0_cursor, u5.1, u5.2, w_a1_deeds, w_a1_targets, w_a1_firstSteps, w_a1_endSteps, w_a1_stepKinds, w_a1_stepValues, w_a1_count, w_a1_steps)
def f_X3_read_R74 (n : Nat) (b_a0 : bX11) (b_a1 : bX6) (w_a0_cursor : Int32) (w_a0_error : Int32) (w_a0_errorToken : Int32) (w_a1_deeds : Nat → Nat) (w_a1_targets : Nat → Int32) (w_a1_firstSteps : Nat → Int32) (w_a1_endSteps : Nat → Int32) (w_a1_stepKinds : Nat → Nat) (w_a1_stepValues : Nat → Int32) (w_a1_count : Int32) (w_a1_steps : Int32) : Option (Int32 × Int32 × Int32 × (Nat → Nat) × (Nat → Int32) × (Nat → Int32) × (Nat → Int32) × (Nat → Nat) × (Nat → Int32) × Int32 × Int32) :=
  f_X3_read_R75 n b_a0 b_a1 w_a0_cursor w_a0_error w_a0_errorToken w_a1_deeds w_a1_targets w_a1_firstSteps w_a1_endSteps w_a1_stepKinds w_a1_stepValues w_a1_count w_a1_steps 0
def f_X3_read_R55 (n : Nat) (b_a0 : bX11) (b_a1 : bX6) (v2 : Int32) (w_a0_cursor : Int32) (w_a0_error : Int32) (w_a0_errorToken : Int32) (w_a1_deeds : Nat → Nat) (w_a1_targets : Nat → Int32) (w_a1_firstSteps : Nat → Int32) (w_a1_endSteps : Nat → Int32) (w_a1_stepKinds : Nat → Nat) (w_a1_stepValues : Nat → Int32) (w_a1_count : Int32) (w_a1_steps : Int32) : Option (Int32 × Int32 × Int32 × (Nat → Nat) × (Nat → Int32) × (Nat → Int32) × (Nat → Int32) × (Nat → Nat) × (Nat → Int32) × Int32 × Int32) :=
  (f_X11_next ((X11_kinds b_a0), (X11_starts b_a0), (X11_values b_a0), (X11_count b_a0), w_a0_cursor, w_a0_error, w_a0_errorToken)).bind fun u2 =>
  if u2 < 52 then
  if u2 = 49 then
  if v2 = 0 then
  f_X3_read_R74 n b_a0 b_a1 w_a0_cursor w_a0_error w_a0_errorToken w_a1_deeds w_a1_targets w_a1_firstSteps w_a1_endSteps w_a1_stepKinds w_a1_stepValues w_a1_count w_a1_steps else
  f_X3_read_R75 n b_a0 b_a1 w_a0_cursor w_a0_error w_a0_errorToken w_a1_deeds w_a1_targets w_a1_firstSteps w_a1_endSteps w_a1_stepKinds w_a1_stepValues w_a1_count w_a1_steps 1 else
  f_X3_read_R74 n b_a0 b_a1 w_a0_cursor w_a0_error w_a0_errorToken w_a1_deeds w_a1_targets w_a1_firstSteps w_a1_endSteps w_a1_stepKinds w_a1_stepValues w_a1_count w_a1_steps else none
def f_X3_read_L4 (n : Nat) (b_a0 : bX11) (b_a1 : bX6) (v2 : Int32) (v3 : Int32) (w_a0_cursor : Int32) (w_a0_error : Int32) (w_a0_errorToken : Int32) (w_a1_deeds : Nat → Nat) (w_a1_targets : Nat → Int32) (w_a1_firstSteps : Nat → Int32) (w_a1_endSteps : Nat → Int32) (w_a1_stepKinds : Nat → Nat) (w_a1_stepValues : Nat → Int32) (w_a1_count : Int32) (w_a1_steps : Int32) : Option ((Int32 × Int32 × Int32 × (Nat → Nat) × (Nat → Int32) × (Nat → Int32) × (Nat → Int32) × (Nat → Nat) × (Nat → Int32) × Int32 × Int32) ⊕ (Int32 × Int32 × Int32 × (Nat → Nat) × (Nat → Int32) × (Nat → Int32) × (Nat → Int32) × (Nat → Nat) × (Nat → Int32) × Int32 × Int32)) :=
  if (400 : Int32) ≤ v3 then
  (f_X3_read_R55 n b_a0 b_a1 v2 w_a0_cursor w_a0_error w_a0_errorToken w_a1_deeds w_a1_targets w_a1_firstSteps w_a1_endSteps w_a1_stepKinds w_a1_stepValues w_a1_count w_a1_steps).bind (fun x => some (Sum.inr x)) else
  if v2 = 0 then
  (f_X3_read_R55 n b_a0 b_a1 v2 w_a0_cursor w_a0_error w_a0_errorToken w_a1_deeds w_a1_targets w_a1_firstSteps w_a1_endSteps w_a1_stepKinds w_a1_stepValues w_a1_count w_a1_steps).bind (fun x => some (Sum.inr x)) else
  (f_X11_next ((X11_kinds b_a0), (X11_starts b_a0), (X11_values b_a0), (X11_count b_a0), w_a0_cursor, w_a0_error, w_a0_errorToken)).bind fun u8 =>
  if u8 < 52 then
  if u8 = 49 then
  (f_X3_read_R55 n b_a0 b_a1 v2 w_a0_cursor w_a0_error w_a0_errorToken w_a1_deeds w_a1_targets w_a1_firstSteps w_a1_endSteps w_a1_stepKinds w_a1_stepValues w_a1_count w_a1_steps).bind (fun x => some (Sum.inr x)) else
  (f_X3_line n ((X11_kinds b_a0), (X11_starts b_a0), (X11_values b_a0), (X11_count b_a0), w_a0_cursor, w_a0_error, w_a0_errorToken) (w_a1_deeds, w_a1_targets, w_a1_firstSteps, w_a1_endSteps, w_a1_stepKinds, w_a1_stepValues, w_a1_count, w_a1_steps)).bind fun u11 =>
  if u11.1 = 0 then
  some (Sum.inl (0, (v3 + 1), u11.2.1, u11.2.2.1, u11.2.2.2.1, u11.2.2.2.2.1, u11.2.2.2.2.2.1, u11.2.2.2.2.2.2.1, u11.2.2.2.2.2.2.2.1, u11.2.2.2.2.2.2.2.2.1, u11.2.2.2.2.2.2.2.2.2)) else
  (f_X11_take 36 ((X11_kinds b_a0), (X11_starts b_a0), (X11_values b_a0), (X11_count b_a0), u11.2.1, w_a0_error, w_a0_errorToken)).bind fun u13 =>
  if u13.1 = 0 then
  some (Sum.inl (0, (v3 + 1), u13.2, u11.2.2.1, u11.2.2.2.1, u11.2.2.2.2.1, u11.2.2.2.2.2.1, u11.2.2.2.2.2.2.1, u11.2.2.2.2.2.2.2.1, u11.2.2.2.2.2.2.2.2.1, u11.2.2.2.2.2.2.2.2.2)) else
  some (Sum.inl (1, (v3 + 1), u13.2, u11.2.2.1, u11.2.2.2.1, u11.2.2.2.2.1, u11.2.2.2.2.2.1, u11.2.2.2.2.2.2.1, u11.2.2.2.2.2.2.2.1, u11.2.2.2.2.2.2.2.2.1, u11.2.2.2.2.2.2.2.2.2)) else none
def f_X3_read (n : Nat) (b_a0 : bX11) (b_a1 : bX6) : Option (Int32 × Int32 × Int32 × (Nat → Nat) × (Nat → Int32) × (Nat → Int32) × (Nat → Int32) × (Nat → Nat) × (Nat → Int32) × Int32 × Int32) :=
  iter (fun s : Int32 × Int32 × Int32 × (Nat → Nat) × (Nat → Int32) × (Nat → Int32) × (Nat → Int32) × (Nat → Nat) × (Nat → Int32) × Int32 × Int32 => f_X3_read_L4 n b_a0 b_a1 s.1 s.2.1 s.2.2.1 (X11_error b_a0) (X11_errorToken b_a0) s.2.2.2.1 s.2.2.2.2.1 s.2.2.2.2.2.1 s.2.2.2.2.2.2.1 s.2.2.2.2.2.2.2.1 s.2.2.2.2.2.2.2.2.1 s.2.2.2.2.2.2.2.2.2.1 s.2.2.2.2.2.2.2.2.2.2) n (1, 0, (X11_cursor b_a0), (X6_deeds b_a1), (X6_targets b_a1), (X6_firstSteps b_a1), (X6_endSteps b_a1), (X6_stepKinds b_a1), (X6_stepValues b_a1), (X6_count b_a1), (X6_steps b_a1))

def f_X6_resolve_L35 (n : Nat) (b_h : bX6) (b_a0 : bX11) (v2 : Int32) (w_h_targets : Nat → Int32) (w_h_stepValues : Nat → Int32) : Option ((Int32 × (Nat → Int32)) ⊕ ((Nat → Int32) × (Nat → Int32))) :=
  if (X6_steps b_h) ≤ v2 then
  some (Sum.inr (w_h_targets, w_h_stepValues)) else
  if v2 < 0 ∨ 400 ≤ v2.toNatClampNeg then none else
  (f_X11_valueAt (w_h_stepValues v2.toNatClampNeg) b_a0).bind fun u4 =>
  if v2 < 0 ∨ 400 ≤ v2.toNatClampNeg then none else
  some (Sum.inl ((v2 + 1), (upd w_h_stepValues v2.toNatClampNeg (Int64.toInt32 u4))))
def f_X6_resolve_L2 (n : Nat) (b_h : bX6) (b_a0 : bX11) (v2 : Int32) (w_h_targets : Nat → Int32) (w_h_stepValues : Nat → Int32) : Option ((Int32 × (Nat → Int32)) ⊕ ((Nat → Int32) × (Nat → Int32))) :=
  if (X6_count b_h) ≤ v2 then
  (iter (fun s : Int32 × (Nat → Int32) => f_X6_resolve_L35 n b_h b_a0 s.1 w_h_targets s.2) n (0, w_h_stepValues)).bind (fun x => some (Sum.inr x)) else
  if v2 < 0 ∨ 16 ≤ v2.toNatClampNeg then none else
  (f_X11_valueAt (w_h_targets v2.toNatClampNeg) b_a0).bind fun u7 =>
  if v2 < 0 ∨ 16 ≤ v2.toNatClampNeg then none else
  some (Sum.inl ((v2 + 1), (upd w_h_targets v2.toNatClampNeg (Int64.toInt32 u7))))
def f_X6_resolve (n : Nat) (b_h : bX6) (b_a0 : bX11) : Option ((Nat → Int32) × (Nat → Int32)) :=
  iter (fun s : Int32 × (Nat → Int32) => f_X6_resolve_L2 n b_h b_a0 s.1 s.2 (X6_stepValues b_h)) n (0, (X6_targets b_h))

def f_X7_clear (b_h_fronts : bX2) (b_h_guests : bX4) (b_h_orders : bX6) : Option (Int32 × Int32 × Int32 × Int32) :=
  some (0, 0, 0, 0)

def f_X8_begin_L69 (n : Nat) (b_h : bX8) (v2 : Int32) (w_h_hour : Int32) (w_h_warmth : Int32) (w_h_strength : Int32) (w_h_charge : Int32) (w_h_lemons : Int32) (w_h_saucers : Int32) (w_h_coins : Int32) (w_h_storms : Int32) (w_h_frontSteeped : Nat → Int32) (w_h_guestServed : Nat → Int32) (w_h_guestStormed : Nat → Int32) : Option ((Int32 × (Nat → Int32) × (Nat → Int32)) ⊕ (Int32 × Int32 × Int32 × Int32 × Int32 × Int32 × Int32 × Int32 × (Nat → Int32) × (Nat → Int32) × (Nat → Int32))) :=
  if (10 : Int32) ≤ v2 then
  some (Sum.inr (w_h_hour, w_h_warmth, w_h_strength, w_h_charge, w_h_lemons, w_h_saucers, w_h_coins, w_h_storms, w_h_frontSteeped, w_h_guestServed, w_h_guestStormed)) else
  if v2 < 0 ∨ 10 ≤ v2.toNatClampNeg then none else
  if v2 < 0 ∨ 10 ≤ v2.toNatClampNeg then none else
  some (Sum.inl ((v2 + 1), (upd w_h_guestServed v2.toNatClampNeg 0), (upd w_h_guestStormed v2.toNatClampNeg 0)))
def f_X8_begin_L48 (n : Nat) (b_h : bX8) (v2 : Int32) (w_h_hour : Int32) (w_h_warmth : Int32) (w_h_strength : Int32) (w_h_charge : Int32) (w_h_lemons : Int32) (w_h_saucers : Int32) (w_h_coins : Int32) (w_h_storms : Int32) (w_h_frontSteeped : Nat → Int32) (w_h_guestServed : Nat → Int32) (w_h_guestStormed : Nat → Int32) : Option ((Int32 × (Nat → Int32)) ⊕ (Int32 × Int32 × Int32 × Int32 × Int32 × Int32 × Int32 × Int32 × (Nat → Int32) × (Nat → Int32) × (Nat → Int32))) :=
  if (10 : Int32) ≤ v2 then
  (iter (fun s : Int32 × (Nat → Int32) × (Nat → Int32) => f_X8_begin_L69 n b_h s.1 w_h_hour w_h_warmth w_h_strength w_h_charge w_h_lemons w_h_saucers w_h_coins w_h_storms w_h_frontSteeped s.2.1 s.2.2) n (0, w_h_guestServed, w_h_guestStormed)).bind (fun x => some (Sum.inr x)) else
  if v2 < 0 ∨ 10 ≤ v2.toNatClampNeg then none else
  some (Sum.inl ((v2 + 1), (upd w_h_frontSteeped v2.toNatClampNeg 0)))
def f_X8_begin (n : Nat) (b_h : bX8) : Option (Int32 × Int32 × Int32 × Int32 × Int32 × Int32 × Int32 × Int32 × (Nat → Int32) × (Nat → Int32) × (Nat → Int32)) :=
  iter (fun s : Int32 × (Nat → Int32) => f_X8_begin_L48 n b_h s.1 0 20 0 0 3 3 0 0 s.2 (X8_guestServed b_h) (X8_guestStormed b_h)) n (0, (X8_frontSteeped b_h))
