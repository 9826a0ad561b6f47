/-! what the methods reckon, as functions -/
/-! bundles: what the cells of an object hold -/
abbrev bX2 : Type := (Nat → Int64) × (Nat → Int32) × (Nat → Int32) × (Nat → Int32) × (Nat → Int32) × Int32
abbrev X2_names (b : bX2) : Nat → Int64 := b.1
abbrev X2_warm (b : bX2) : Nat → Int32 := b.2.1
abbrev X2_force (b : bX2) : Nat → Int32 := b.2.2.1
abbrev X2_from (b : bX2) : Nat → Int32 := b.2.2.2.1
abbrev X2_hours (b : bX2) : Nat → Int32 := b.2.2.2.2.1
abbrev X2_count (b : bX2) : Int32 := b.2.2.2.2.2
abbrev bX4 : Type := (Nat → Int64) × (Nat → Int32) × (Nat → Int32) × (Nat → Int32) × (Nat → Int32) × Int32
abbrev X4_names (b : bX4) : Nat → Int64 := b.1
abbrev X4_from (b : bX4) : Nat → Int32 := b.2.1
abbrev X4_weakest (b : bX4) : Nat → Int32 := b.2.2.1
abbrev X4_strongest (b : bX4) : Nat → Int32 := b.2.2.2.1
abbrev X4_nerve (b : bX4) : Nat → Int32 := b.2.2.2.2.1
abbrev X4_count (b : bX4) : Int32 := b.2.2.2.2.2
abbrev bX6 : Type := (Nat → Nat) × (Nat → Int32) × (Nat → Int32) × (Nat → Int32) × (Nat → Nat) × (Nat → Int32) × Int32 × Int32
abbrev X6_deeds (b : bX6) : Nat → Nat := b.1
abbrev X6_targets (b : bX6) : Nat → Int32 := b.2.1
abbrev X6_firstSteps (b : bX6) : Nat → Int32 := b.2.2.1
abbrev X6_endSteps (b : bX6) : Nat → Int32 := b.2.2.2.1
abbrev X6_stepKinds (b : bX6) : Nat → Nat := b.2.2.2.2.1
abbrev X6_stepValues (b : bX6) : Nat → Int32 := b.2.2.2.2.2.1
abbrev X6_count (b : bX6) : Int32 := b.2.2.2.2.2.2.1
abbrev X6_steps (b : bX6) : Int32 := b.2.2.2.2.2.2.2
abbrev bX7 : Type := Unit
abbrev bX8 : Type := Int32 × Int32 × Int32 × Int32 × Int32 × Int32 × Int32 × Int32 × (Nat → Int32) × (Nat → Int32) × (Nat → Int32)
abbrev X8_hour (b : bX8) : Int32 := b.1
abbrev X8_warmth (b : bX8) : Int32 := b.2.1
abbrev X8_strength (b : bX8) : Int32 := b.2.2.1
abbrev X8_charge (b : bX8) : Int32 := b.2.2.2.1
abbrev X8_lemons (b : bX8) : Int32 := b.2.2.2.2.1
abbrev X8_saucers (b : bX8) : Int32 := b.2.2.2.2.2.1
abbrev X8_coins (b : bX8) : Int32 := b.2.2.2.2.2.2.1
abbrev X8_storms (b : bX8) : Int32 := b.2.2.2.2.2.2.2.1
abbrev X8_frontSteeped (b : bX8) : Nat → Int32 := b.2.2.2.2.2.2.2.2.1
abbrev X8_guestServed (b : bX8) : Nat → Int32 := b.2.2.2.2.2.2.2.2.2.1
abbrev X8_guestStormed (b : bX8) : Nat → Int32 := b.2.2.2.2.2.2.2.2.2.2
abbrev bX9 : Type := (Nat → Int32) × Int32
abbrev X9_stack (b : bX9) : Nat → Int32 := b.1
abbrev X9_height (b : bX9) : Int32 := b.2
abbrev bX10 : Type := (Nat → Int32) × Int32
abbrev X10_bytes (b : bX10) : Nat → Int32 := b.1
abbrev X10_length (b : bX10) : Int32 := b.2
abbrev bX11 : Type := (Nat → Nat) × (Nat → Int32) × (Nat → Int64) × Int32 × Int32 × Int32 × Int32
abbrev X11_kinds (b : bX11) : Nat → Nat := b.1
abbrev X11_starts (b : bX11) : Nat → Int32 := b.2.1
abbrev X11_values (b : bX11) : Nat → Int64 := b.2.2.1
abbrev X11_count (b : bX11) : Int32 := b.2.2.2.1
abbrev X11_cursor (b : bX11) : Int32 := b.2.2.2.2.1
abbrev X11_error (b : bX11) : Int32 := b.2.2.2.2.2.1
abbrev X11_errorToken (b : bX11) : Int32 := b.2.2.2.2.2.2
abbrev bX12 : Type := Int32
abbrev X12_errorPosition (b : bX12) : Int32 := b
abbrev bX13 : Type := Int32 × (Nat → Int32) × (Nat → Int32) × (Nat → Int32) × (Nat → Int32) × Int32 × (Nat → Int32) × (Nat → Int32) × (Nat → Int32) × (Nat → Int32) × Int32 × (Nat → Int32) × (Nat → Int32) × (Nat → Int32) × (Nat → Int32) × (Nat → Int32) × Int32 × (Nat → Int32) × (Nat → Int32) × (Nat → Int32)
abbrev X13_fronts (b : bX13) : Int32 := b.1
abbrev X13_warm (b : bX13) : Nat → Int32 := b.2.1
abbrev X13_force (b : bX13) : Nat → Int32 := b.2.2.1
abbrev X13_comes (b : bX13) : Nat → Int32 := b.2.2.2.1
abbrev X13_stays (b : bX13) : Nat → Int32 := b.2.2.2.2.1
abbrev X13_guests (b : bX13) : Int32 := b.2.2.2.2.2.1
abbrev X13_sits (b : bX13) : Nat → Int32 := b.2.2.2.2.2.2.1
abbrev X13_low (b : bX13) : Nat → Int32 := b.2.2.2.2.2.2.2.1
abbrev X13_high (b : bX13) : Nat → Int32 := b.2.2.2.2.2.2.2.2.1
abbrev X13_nerve (b : bX13) : Nat → Int32 := b.2.2.2.2.2.2.2.2.2.1
abbrev X13_orders (b : bX13) : Int32 := b.2.2.2.2.2.2.2.2.2.2.1
abbrev X13_does (b : bX13) : Nat → Int32 := b.2.2.2.2.2.2.2.2.2.2.2.1
abbrev X13_whom (b : bX13) : Nat → Int32 := b.2.2.2.2.2.2.2.2.2.2.2.2.1
abbrev X13_from (b : bX13) : Nat → Int32 := b.2.2.2.2.2.2.2.2.2.2.2.2.2.1
abbrev X13_to (b : bX13) : Nat → Int32 := b.2.2.2.2.2.2.2.2.2.2.2.2.2.2.1
abbrev X13_test (b : bX13) : Nat → Int32 := b.2.2.2.2.2.2.2.2.2.2.2.2.2.2.2.1
abbrev X13_nodes (b : bX13) : Int32 := b.2.2.2.2.2.2.2.2.2.2.2.2.2.2.2.2.1
abbrev X13_sort (b : bX13) : Nat → Int32 := b.2.2.2.2.2.2.2.2.2.2.2.2.2.2.2.2.2.1
abbrev X13_left (b : bX13) : Nat → Int32 := b.2.2.2.2.2.2.2.2.2.2.2.2.2.2.2.2.2.2.1
abbrev X13_right (b : bX13) : Nat → Int32 := b.2.2.2.2.2.2.2.2.2.2.2.2.2.2.2.2.2.2.2
abbrev bX14 : Type := Int32 × (Nat → Int32) × Int32 × Int32 × (Nat → Int32) × (Nat → Int32) × (Nat → Int32) × (Nat → Int32) × Int32 × Int32 × Int32 × Int32 × Int32 × (Nat → Int32) × (Nat → Int32) × (Nat → Int32) × (Nat → Int32) × (Nat → Int32)
abbrev X14_thrown (b : bX14) : Int32 := b.1
abbrev X14_tape (b : bX14) : Nat → Int32 := b.2.1
abbrev X14_bytes (b : bX14) : Int32 := b.2.2.1
abbrev X14_errorAt (b : bX14) : Int32 := b.2.2.2.1
abbrev X14_kind (b : bX14) : Nat → Int32 := b.2.2.2.2.1
abbrev X14_number (b : bX14) : Nat → Int32 := b.2.2.2.2.2.1
abbrev X14_position (b : bX14) : Nat → Int32 := b.2.2.2.2.2.2.1
abbrev X14_length (b : bX14) : Nat → Int32 := b.2.2.2.2.2.2.2.1
abbrev X14_token (b : bX14) : Int32 := b.2.2.2.2.2.2.2.2.1
abbrev X14_isWrong (b : bX14) : Int32 := b.2.2.2.2.2.2.2.2.2.1
abbrev X14_error (b : bX14) : Int32 := b.2.2.2.2.2.2.2.2.2.2.1
abbrev X14_errorToken (b : bX14) : Int32 := b.2.2.2.2.2.2.2.2.2.2.2.1
abbrev X14_deep (b : bX14) : Int32 := b.2.2.2.2.2.2.2.2.2.2.2.2.1
abbrev X14_frontName (b : bX14) : Nat → Int32 := b.2.2.2.2.2.2.2.2.2.2.2.2.2.1
abbrev X14_guestName (b : bX14) : Nat → Int32 := b.2.2.2.2.2.2.2.2.2.2.2.2.2.2.1
abbrev X14_value (b : bX14) : Nat → Int32 := b.2.2.2.2.2.2.2.2.2.2.2.2.2.2.2.1
abbrev X14_now (b : bX14) : Nat → Int32 := b.2.2.2.2.2.2.2.2.2.2.2.2.2.2.2.2.1
abbrev X14_kept (b : bX14) : Nat → Int32 := b.2.2.2.2.2.2.2.2.2.2.2.2.2.2.2.2.2

def f_X1_beginsOrder (x0 : Nat) : Option (Int32) :=
  if x0 < 52 then
  if x0 = 11 then
  some 1 else
  if x0 < 52 then
  if x0 = 14 then
  some 1 else
  if x0 < 52 then
  if x0 = 12 then
  some 1 else
  if x0 < 52 then
  if x0 = 13 then
  some 1 else
  some 0 else none else none else none else none

def f_X11_has (x0 : Int32) (b_h : bX11) : Option (Int32) :=
  if x0 < 0 then
  some 0 else
  if (X11_count b_h) ≤ x0 then
  some 0 else
  if (400 : Int32) < x0 then
  some 0 else
  some 1

def f_X11_kindAt (x0 : Int32) (b_h : bX11) : Option (Nat) :=
  (f_X11_has x0 b_h).bind fun u1 =>
  if u1 = 0 then
  some 49 else
  if x0 < 0 ∨ 401 ≤ x0.toNatClampNeg then none else
  some ((X11_kinds b_h) x0.toNatClampNeg)

def f_X11_failUnless (x0 : Int32) (x1 : Int32) (x2 : Int32) (b_h : bX11) : Option (Int32 × Int32) :=
  if x0 = 0 then
  if (X11_error b_h) = 0 then
  some (x1, x2) else
  some ((X11_error b_h), (X11_errorToken b_h)) else
  some ((X11_error b_h), (X11_errorToken b_h))

def f_X11_valueAt (x0 : Int32) (b_h : bX11) : Option (Int64) :=
  (f_X11_has x0 b_h).bind fun u1 =>
  if u1 = 0 then
  some 0 else
  if x0 < 0 ∨ 401 ≤ x0.toNatClampNeg then none else
  some ((X11_values b_h) x0.toNatClampNeg)

def f_X2_find_L2 (n : Nat) (x0 : Int64) (b_h : bX2) (v1 : Int64) (v3 : Int32) : Option ((Int32) ⊕ (Int32)) :=
  if (X2_count b_h) ≤ v3 then
  some (Sum.inr (-1)) else
  if v3 < 0 ∨ 10 ≤ v3.toNatClampNeg then none else
  if (lg_cmp ((X2_names b_h) v3.toNatClampNeg) v1) = 0 then
  some (Sum.inr v3) else
  some (Sum.inl (v3 + 1))
def f_X2_find (n : Nat) (x0 : Int64) (b_h : bX2) : Option (Int32) :=
  iter (fun s : Int32 => f_X2_find_L2 n x0 b_h x0 s) n 0

def f_X1_numberIn_R26 (x1 : Int32) (x2 : Int32) (x3 : Int32) (b_a0 : bX11) (v1 : Int32) (v4 : Int32) (w_a0_error : Int32) (w_a0_errorToken : Int32) (t0 : Int32) : Option (Int32 × Int32 × Int32) :=
  (f_X11_failUnless t0 5 v1 ((X11_kinds b_a0), (X11_starts b_a0), (X11_values b_a0), (X11_count b_a0), (X11_cursor b_a0), w_a0_error, w_a0_errorToken)).bind fun u3 =>
  some (v4, u3.1, u3.2)
def f_X1_numberIn_R25 (x1 : Int32) (x2 : Int32) (x3 : Int32) (b_a0 : bX11) (v1 : Int32) (v4 : Int32) (w_a0_error : Int32) (w_a0_errorToken : Int32) : Option (Int32 × Int32 × Int32) :=
  f_X1_numberIn_R26 x1 x2 x3 b_a0 v1 v4 w_a0_error w_a0_errorToken 0
def f_X1_numberIn (x1 : Int32) (x2 : Int32) (x3 : Int32) (b_a0 : bX11) : Option (Int32 × Int32 × Int32) :=
  (f_X11_valueAt x1 b_a0).bind fun u1 =>
  if (Int64.toInt32 u1) < x2 then
  f_X1_numberIn_R25 x1 x2 x3 b_a0 x1 (Int64.toInt32 u1) (X11_error b_a0) (X11_errorToken b_a0) else
  if x3 < (Int64.toInt32 u1) then
  f_X1_numberIn_R25 x1 x2 x3 b_a0 x1 (Int64.toInt32 u1) (X11_error b_a0) (X11_errorToken b_a0) else
  f_X1_numberIn_R26 x1 x2 x3 b_a0 x1 (Int64.toInt32 u1) (X11_error b_a0) (X11_errorToken b_a0) 1

def f_X2_add (x0 : Int64) (x1 : Int32) (x2 : Int32) (x3 : Int32) (x4 : Int32) (b_h : bX2) : Option ((Nat → Int64) × (Nat → Int32) × (Nat → Int32) × (Nat → Int32) × (Nat → Int32) × Int32) :=
  if (10 : Int32) ≤ (X2_count b_h) then
  some ((X2_names b_h), (X2_warm b_h), (X2_force b_h), (X2_from b_h), (X2_hours b_h), (X2_count b_h)) else
  if (X2_count b_h) < 0 ∨ 10 ≤ (X2_count b_h).toNatClampNeg then none else
  if (X2_count b_h) < 0 ∨ 10 ≤ (X2_count b_h).toNatClampNeg then none else
  if (X2_count b_h) < 0 ∨ 10 ≤ (X2_count b_h).toNatClampNeg then none else
  if (X2_count b_h) < 0 ∨ 10 ≤ (X2_count b_h).toNatClampNeg then none else
  if (X2_count b_h) < 0 ∨ 10 ≤ (X2_count b_h).toNatClampNeg then none else
  some ((vp_updL (X2_names b_h) (X2_count b_h).toNatClampNeg x0), (upd (X2_warm b_h) (X2_count b_h).toNatClampNeg (vp_nar .boolean x1)), (upd (X2_force b_h) (X2_count b_h).toNatClampNeg x2), (upd (X2_from b_h) (X2_count b_h).toNatClampNeg x3), (upd (X2_hours b_h) (X2_count b_h).toNatClampNeg x4), ((X2_count b_h) + 1))

def f_X1_checkFront_R63 (n : Nat) (x1 : Int32) (b_a0 : bX11) (b_a2 : bX2) (v1 : Int32) (v3 : Int64) (w_a0_error : Int32) (w_a0_errorToken : Int32) (w_a2_names : Nat → Int64) (w_a2_warm : Nat → Int32) (w_a2_force : Nat → Int32) (w_a2_from : Nat → Int32) (w_a2_hours : Nat → Int32) (w_a2_count : Int32) (t0 : Int32) : Option (Int32 × Int32 × (Nat → Int64) × (Nat → Int32) × (Nat → Int32) × (Nat → Int32) × (Nat → Int32) × Int32) :=
  (f_X1_numberIn (v1 + 4) 1 9 ((X11_kinds b_a0), (X11_starts b_a0), (X11_values b_a0), (X11_count b_a0), (X11_cursor b_a0), w_a0_error, w_a0_errorToken)).bind fun u10 =>
  (f_X1_numberIn (v1 + 6) 0 60 ((X11_kinds b_a0), (X11_starts b_a0), (X11_values b_a0), (X11_count b_a0), (X11_cursor b_a0), u10.2.1, u10.2.2)).bind fun u11 =>
  (f_X1_numberIn (v1 + 8) 1 12 ((X11_kinds b_a0), (X11_starts b_a0), (X11_values b_a0), (X11_count b_a0), (X11_cursor b_a0), u11.2.1, u11.2.2)).bind fun u12 =>
  (f_X2_add v3 t0 u10.1 u11.1 u12.1 (w_a2_names, w_a2_warm, w_a2_force, w_a2_from, w_a2_hours, w_a2_count)).bind fun u13 =>
  some (u12.2.1, u12.2.2, u13.1, u13.2.1, u13.2.2.1, u13.2.2.2.1, u13.2.2.2.2.1, u13.2.2.2.2.2)
def f_X1_checkFront_R40 (n : Nat) (x1 : Int32) (b_a0 : bX11) (b_a2 : bX2) (v1 : Int32) (v3 : Int64) (w_a0_error : Int32) (w_a0_errorToken : Int32) (w_a2_names : Nat → Int64) (w_a2_warm : Nat → Int32) (w_a2_force : Nat → Int32) (w_a2_from : Nat → Int32) (w_a2_hours : Nat → Int32) (w_a2_count : Int32) (t0 : Int32) : Option (Int32 × Int32 × (Nat → Int64) × (Nat → Int32) × (Nat → Int32) × (Nat → Int32) × (Nat → Int32) × Int32) :=
  (f_X11_failUnless t0 4 v1 ((X11_kinds b_a0), (X11_starts b_a0), (X11_values b_a0), (X11_count b_a0), (X11_cursor b_a0), w_a0_error, w_a0_errorToken)).bind fun u6 =>
  (f_X11_kindAt (v1 + 2) ((X11_kinds b_a0), (X11_starts b_a0), (X11_values b_a0), (X11_count b_a0), (X11_cursor b_a0), u6.1, u6.2)).bind fun u7 =>
  if u7 < 52 then
  if u7 = 2 then
  f_X1_checkFront_R63 n x1 b_a0 b_a2 v1 v3 u6.1 u6.2 w_a2_names w_a2_warm w_a2_force w_a2_from w_a2_hours w_a2_count 1 else
  f_X1_checkFront_R63 n x1 b_a0 b_a2 v1 v3 u6.1 u6.2 w_a2_names w_a2_warm w_a2_force w_a2_from w_a2_hours w_a2_count 0 else none
def f_X1_checkFront_R20 (n : Nat) (x1 : Int32) (b_a0 : bX11) (b_a2 : bX2) (v1 : Int32) (v3 : Int64) (w_a0_error : Int32) (w_a0_errorToken : Int32) (w_a2_names : Nat → Int64) (w_a2_warm : Nat → Int32) (w_a2_force : Nat → Int32) (w_a2_from : Nat → Int32) (w_a2_hours : Nat → Int32) (w_a2_count : Int32) (t0 : Int32) : Option (Int32 × Int32 × (Nat → Int64) × (Nat → Int32) × (Nat → Int32) × (Nat → Int32) × (Nat → Int32) × Int32) :=
  (f_X11_failUnless t0 2 v1 ((X11_kinds b_a0), (X11_starts b_a0), (X11_values b_a0), (X11_count b_a0), (X11_cursor b_a0), w_a0_error, w_a0_errorToken)).bind fun u4 =>
  if (10 : Int32) ≤ w_a2_count then
  f_X1_checkFront_R40 n x1 b_a0 b_a2 v1 v3 u4.1 u4.2 w_a2_names w_a2_warm w_a2_force w_a2_from w_a2_hours w_a2_count 0 else
  f_X1_checkFront_R40 n x1 b_a0 b_a2 v1 v3 u4.1 u4.2 w_a2_names w_a2_warm w_a2_force w_a2_from w_a2_hours w_a2_count 1
def f_X1_checkFront (n : Nat) (x1 : Int32) (b_a0 : bX11) (b_a2 : bX2) : Option (Int32 × Int32 × (Nat → Int64) × (Nat → Int32) × (Nat → Int32) × (Nat → Int32) × (Nat → Int32) × Int32) :=
  (f_X11_valueAt x1 b_a0).bind fun u1 =>
  (f_X2_find n u1 b_a2).bind fun u2 =>
  if 0 ≤ u2 then
  f_X1_checkFront_R20 n x1 b_a0 b_a2 x1 u1 (X11_error b_a0) (X11_errorToken b_a0) (X2_names b_a2) (X2_warm b_a2) (X2_force b_a2) (X2_from b_a2) (X2_hours b_a2) (X2_count b_a2) 0 else
  f_X1_checkFront_R20 n x1 b_a0 b_a2 x1 u1 (X11_error b_a0) (X11_errorToken b_a0) (X2_names b_a2) (X2_warm b_a2) (X2_force b_a2) (X2_from b_a2) (X2_hours b_a2) (X2_count b_a2) 1

def f_X4_find_L2 (n : Nat) (x0 : Int64) (b_h : bX4) (v1 : Int64) (v3 : Int32) : Option ((Int32) ⊕ (Int32)) :=
  if (X4_count b_h) ≤ v3 then
  some (Sum.inr (-1)) else
  if v3 < 0 ∨ 10 ≤ v3.toNatClampNeg then none else
  if (lg_cmp ((X4_names b_h) v3.toNatClampNeg) v1) = 0 then
  some (Sum.inr v3) else
  some (Sum.inl (v3 + 1))
def f_X4_find (n : Nat) (x0 : Int64) (b_h : bX4) : Option (Int32) :=
  iter (fun s : Int32 => f_X4_find_L2 n x0 b_h x0 s) n 0

def f_X4_add (x0 : Int64) (x1 : Int32) (x2 : Int32) (x3 : Int32) (x4 : Int32) (b_h : bX4) : Option ((Nat → Int64) × (Nat → Int32) × (Nat → Int32) × (Nat → Int32) × (Nat → Int32) × Int32) :=
  if (10 : Int32) ≤ (X4_count b_h) then
  some ((X4_names b_h), (X4_from b_h), (X4_weakest b_h), (X4_strongest b_h), (X4_nerve b_h), (X4_count b_h)) else
  if (X4_count b_h) < 0 ∨ 10 ≤ (X4_count b_h).toNatClampNeg then none else
  if (X4_count b_h) < 0 ∨ 10 ≤ (X4_count b_h).toNatClampNeg then none else
  if (X4_count b_h) < 0 ∨ 10 ≤ (X4_count b_h).toNatClampNeg then none else
  if (X4_count b_h) < 0 ∨ 10 ≤ (X4_count b_h).toNatClampNeg then none else
  if (X4_count b_h) < 0 ∨ 10 ≤ (X4_count b_h).toNatClampNeg then none else
  some ((vp_updL (X4_names b_h) (X4_count b_h).toNatClampNeg x0), (upd (X4_from b_h) (X4_count b_h).toNatClampNeg x1), (upd (X4_weakest b_h) (X4_count b_h).toNatClampNeg x2), (upd (X4_strongest b_h) (X4_count b_h).toNatClampNeg x3), (upd (X4_nerve b_h) (X4_count b_h).toNatClampNeg x4), ((X4_count b_h) + 1))

def f_X1_checkGuest_R40 (n : Nat) (x1 : Int32) (b_a0 : bX11) (b_a2 : bX4) (v1 : Int32) (v3 : Int64) (w_a0_error : Int32) (w_a0_errorToken : Int32) (w_a2_names : Nat → Int64) (w_a2_from : Nat → Int32) (w_a2_weakest : Nat → Int32) (w_a2_strongest : Nat → Int32) (w_a2_nerve : Nat → Int32) (w_a2_count : Int32) (t0 : Int32) : Option (Int32 × Int32 × (Nat → Int64) × (Nat → Int32) × (Nat → Int32) × (Nat → Int32) × (Nat → Int32) × Int32) :=
  (f_X11_failUnless t0 4 v1 ((X11_kinds b_a0), (X11_starts b_a0), (X11_values b_a0), (X11_count b_a0), (X11_cursor b_a0), w_a0_error, w_a0_errorToken)).bind fun u6 =>
  (f_X1_numberIn (v1 + 2) 0 60 ((X11_kinds b_a0), (X11_starts b_a0), (X11_values b_a0), (X11_count b_a0), (X11_cursor b_a0), u6.1, u6.2)).bind fun u7 =>
  (f_X1_numberIn (v1 + 4) 0 30 ((X11_kinds b_a0), (X11_starts b_a0), (X11_values b_a0), (X11_count b_a0), (X11_cursor b_a0), u7.2.1, u7.2.2)).bind fun u8 =>
  (f_X1_numberIn (v1 + 6) u8.1 30 ((X11_kinds b_a0), (X11_starts b_a0), (X11_values b_a0), (X11_count b_a0), (X11_cursor b_a0), u8.2.1, u8.2.2)).bind fun u9 =>
  (f_X1_numberIn (v1 + 8) 0 20 ((X11_kinds b_a0), (X11_starts b_a0), (X11_values b_a0), (X11_count b_a0), (X11_cursor b_a0), u9.2.1, u9.2.2)).bind fun u10 =>
  (f_X4_add v3 u7.1 u8.1 u9.1 u10.1 (w_a2_names, w_a2_from, w_a2_weakest, w_a2_strongest, w_a2_nerve, w_a2_count)).bind fun u11 =>
  some (u10.2.1, u10.2.2, u11.1, u11.2.1, u11.2.2.1, u11.2.2.2.1, u11.2.2.2.2.1, u11.2.2.2.2.2)
def f_X1_checkGuest_R20 (n : Nat) (x1 : Int32) (b_a0 : bX11) (b_a2 : bX4) (v1 : Int32) (v3 : Int64) (w_a0_error : Int32) (w_a0_errorToken : Int32) (w_a2_names : Nat → Int64) (w_a2_from : Nat → Int32) (w_a2_weakest : Nat → Int32) (w_a2_strongest : Nat → Int32) (w_a2_nerve : Nat → Int32) (w_a2_count : Int32) (t0 : Int32) : Option (Int32 × Int32 × (Nat → Int64) × (Nat → Int32) × (Nat → Int32) × (Nat → Int32) × (Nat → Int32) × Int32) :=
  (f_X11_failUnless t0 2 v1 ((X11_kinds b_a0), (X11_starts b_a0), (X11_values b_a0), (X11_count b_a0), (X11_cursor b_a0), w_a0_error, w_a0_errorToken)).bind fun u4 =>
  if (10 : Int32) ≤ w_a2_count then
  f_X1_checkGuest_R40 n x1 b_a0 b_a2 v1 v3 u4.1 u4.2 w_a2_names w_a2_from w_a2_weakest w_a2_strongest w_a2_nerve w_a2_count 0 else
  f_X1_checkGuest_R40 n x1 b_a0 b_a2 v1 v3 u4.1 u4.2 w_a2_names w_a2_from w_a2_weakest w_a2_strongest w_a2_nerve w_a2_count 1
def f_X1_checkGuest (n : Nat) (x1 : Int32) (b_a0 : bX11) (b_a2 : bX4) : Option (Int32 × Int32 × (Nat → Int64) × (Nat → Int32) × (Nat → Int32) × (Nat → Int32) × (Nat → Int32) × Int32) :=
  (f_X11_valueAt x1 b_a0).bind fun u1 =>
  (f_X4_find n u1 b_a2).bind fun u2 =>
  if 0 ≤ u2 then
  f_X1_checkGuest_R20 n x1 b_a0 b_a2 x1 u1 (X11_error b_a0) (X11_errorToken b_a0) (X4_names b_a2) (X4_from b_a2) (X4_weakest b_a2) (X4_strongest b_a2) (X4_nerve b_a2) (X4_count b_a2) 0 else
  f_X1_checkGuest_R20 n x1 b_a0 b_a2 x1 u1 (X11_error b_a0) (X11_errorToken b_a0) (X4_names b_a2) (X4_from b_a2) (X4_weakest b_a2) (X4_strongest b_a2) (X4_nerve b_a2) (X4_count b_a2) 1

def f_X11_setValue (x0 : Int32) (x1 : Int32) (b_h : bX11) : Option ((Nat → Int64)) :=
  (f_X11_has x0 b_h).bind fun u1 =>
  if u1 = 0 then
  some (X11_values b_h) else
  if x0 < 0 ∨ 401 ≤ x0.toNatClampNeg then none else
  some (vp_updL (X11_values b_h) x0.toNatClampNeg (Int32.toInt64 x1))

def f_X1_checkNamed_R10 (x1 : Int32) (x2 : Int32) (b_a0 : bX11) (v1 : Int32) (v2 : Int32) (w_a0_values : Nat → Int64) (w_a0_error : Int32) (w_a0_errorToken : Int32) (t0 : Int32) : Option ((Nat → Int64) × Int32 × Int32) :=
  (f_X11_failUnless t0 3 v1 ((X11_kinds b_a0), (X11_starts b_a0), w_a0_values, (X11_count b_a0), (X11_cursor b_a0), w_a0_error, w_a0_errorToken)).bind fun u2 =>
  (f_X11_setValue v1 v2 ((X11_kinds b_a0), (X11_starts b_a0), w_a0_values, (X11_count b_a0), (X11_cursor b_a0), u2.1, u2.2)).bind fun u3 =>
  some (u3, u2.1, u2.2)
def f_X1_checkNamed (x1 : Int32) (x2 : Int32) (b_a0 : bX11) : Option ((Nat → Int64) × Int32 × Int32) :=
  if x2 < 0 then
  f_X1_checkNamed_R10 x1 x2 b_a0 x1 x2 (X11_values b_a0) (X11_error b_a0) (X11_errorToken b_a0) 0 else
  f_X1_checkNamed_R10 x1 x2 b_a0 x1 x2 (X11_values b_a0) (X11_error b_a0) (X11_errorToken b_a0) 1

def f_X1_checkBehind (n : Nat) (x1 : Int32) (b_a0 : bX11) (b_a2_fronts : bX2) (b_a2_guests : bX4) : Option ((Nat → Int64) × Int32 × Int32 × (Nat → Int64) × (Nat → Int32) × (Nat → Int32) × (Nat → Int32) × (Nat → Int32) × Int32 × (Nat → Int64) × (Nat → Int32) × (Nat → Int32) × (Nat → Int32) × (Nat → Int32) × Int32) :=
  (f_X11_kindAt x1 b_a0).bind fun u1 =>
  if u1 < 52 then
  if (smap u1) = 3 ∨ (smap u1) = 21 ∨ (smap u1) = 22 then
  (f_X11_valueAt (x1 + 1) b_a0).bind fun u4 =>
  (f_X2_find n u4 b_a2_fronts).bind fun u5 =>
  (f_X1_checkNamed (x1 + 1) u5 b_a0).bind fun u6 =>
  some (u6.1, u6.2.1, u6.2.2, (X2_names b_a2_fronts), (X2_warm b_a2_fronts), (X2_force b_a2_fronts), (X2_from b_a2_fronts), (X2_hours b_a2_fronts), (X2_count b_a2_fronts), (X4_names b_a2_guests), (X4_from b_a2_guests), (X4_weakest b_a2_guests), (X4_strongest b_a2_guests), (X4_nerve b_a2_guests), (X4_count b_a2_guests)) else
  if (smap u1) = 4 ∨ (smap u1) = 5 ∨ (smap u1) = 23 then
  (f_X11_valueAt (x1 + 1) b_a0).bind fun u8 =>
  (f_X4_find n u8 b_a2_guests).bind fun u9 =>
  (f_X1_checkNamed (x1 + 1) u9 b_a0).bind fun u10 =>
  some (u10.1, u10.2.1, u10.2.2, (X2_names b_a2_fronts), (X2_warm b_a2_fronts), (X2_force b_a2_fronts), (X2_from b_a2_fronts), (X2_hours b_a2_fronts), (X2_count b_a2_fronts), (X4_names b_a2_guests), (X4_from b_a2_guests), (X4_weakest b_a2_guests), (X4_strongest b_a2_guests), (X4_nerve b_a2_guests), (X4_count b_a2_guests)) else
  if (smap u1) = 19 then
  (f_X1_checkFront n (x1 + 1) b_a0 b_a2_fronts).bind fun u12 =>
  some ((X11_values b_a0), u12.1, u12.2.1, u12.2.2.1, u12.2.2.2.1, u12.2.2.2.2.1, u12.2.2.2.2.2.1, u12.2.2.2.2.2.2.1, u12.2.2.2.2.2.2.2, (X4_names b_a2_guests), (X4_from b_a2_guests), (X4_weakest b_a2_guests), (X4_strongest b_a2_guests), (X4_nerve b_a2_guests), (X4_count b_a2_guests)) else
  if (smap u1) = 20 then
  (f_X1_checkGuest n (x1 + 1) b_a0 b_a2_guests).bind fun u14 =>
  some ((X11_values b_a0), u14.1, u14.2.1, (X2_names b_a2_fronts), (X2_warm b_a2_fronts), (X2_force b_a2_fronts), (X2_from b_a2_fronts), (X2_hours b_a2_fronts), (X2_count b_a2_fronts), u14.2.2.1, u14.2.2.2.1, u14.2.2.2.2.1, u14.2.2.2.2.2.1, u14.2.2.2.2.2.2.1, u14.2.2.2.2.2.2.2) else
  some ((X11_values b_a0), (X11_error b_a0), (X11_errorToken b_a0), (X2_names b_a2_fronts), (X2_warm b_a2_fronts), (X2_force b_a2_fronts), (X2_from b_a2_fronts), (X2_hours b_a2_fronts), (X2_count b_a2_fronts), (X4_names b_a2_guests), (X4_from b_a2_guests), (X4_weakest b_a2_guests), (X4_strongest b_a2_guests), (X4_nerve b_a2_guests), (X4_count b_a2_guests)) else none

def f_X1_check_R50 (n : Nat) (b_a0 : bX11) (b_a1_fronts : bX2) (b_a1_guests : bX4) (v2 : Int32) (v3 : Int32) (w_a0_values : Nat → Int64) (w_a0_error : Int32) (w_a0_errorToken : Int32) (w_a1_fronts_names : Nat → Int64) (w_a1_fronts_warm : Nat → Int32) (w_a1_fronts_force : Nat → Int32) (w_a1_fronts_from : Nat → Int32) (w_a1_fronts_hours : Nat → Int32) (w_a1_fronts_count : Int32) (w_a1_guests_names : Nat → Int64) (w_a1_guests_from : Nat → Int32) (w_a1_guests_weakest : Nat → Int32) (w_a1_guests_strongest : Nat → Int32) (w_a1_guests_nerve : Nat → Int32) (w_a1_guests_count : Int32) : Option ((Int32 × Int32 × (Nat → Int64) × Int32 × Int32 × (Nat → Int64) × (Nat → Int32) × (Nat → Int32) × (Nat → Int32) × (Nat → Int32) × Int32 × (Nat → Int64) × (Nat → Int32) × (Nat → Int32) × (Nat → Int32) × (Nat → Int32) × Int32) ⊕ ((Nat → Int64) × Int32 × Int32 × (Nat → Int64) × (Nat → Int32) × (Nat → Int32) × (Nat → Int32) × (Nat → Int32) × Int32 × (Nat → Int64) × (Nat → Int32) × (Nat → Int32) × (Nat → Int32) × (Nat → Int32) × Int32)) :=
  (f_X1_checkBehind n v3 ((X11_kinds b_a0), (X11_starts b_a0), w_a0_values, (X11_count b_a0), (X11_cursor b_a0), w_a0_error, w_a0_errorToken) (w_a1_fronts_names, w_a1_fronts_warm, w_a1_fronts_force, w_a1_fronts_from, w_a1_fronts_hours, w_a1_fronts_count) (w_a1_guests_names, w_a1_guests_from, w_a1_guests_weakest, w_a1_guests_strongest, w_a1_guests_nerve, w_a1_guests_count)).bind fun u6 =>
  some (Sum.inl (v2, (v3 + 1), u6.1, u6.2.1, u6.2.2.1, u6.2.2.2.1, u6.2.2.2.2.1, u6.2.2.2.2.2.1, u6.2.2.2.2.2.2.1, u6.2.2.2.2.2.2.2.1, u6.2.2.2.2.2.2.2.2.1, u6.2.2.2.2.2.2.2.2.2.1, u6.2.2.2.2.2.2.2.2.2.2.1, u6.2.2.2.2.2.2.2.2.2.2.2.1, u6.2.2.2.2.2.2.2.2.2.2.2.2.1, u6.2.2.2.2.2.2.2.2.2.2.2.2.2.1, u6.2.2.2.2.2.2.2.2.2.2.2.2.2.2))
def f_X1_check_R45 (n : Nat) (b_a0 : bX11) (b_a1_fronts : bX2) (b_a1_guests : bX4) (v2 : Int32) (v3 : Int32) (w_a0_values : Nat → Int64) (w_a0_error : Int32) (w_a0_errorToken : Int32) (w_a1_fronts_names : Nat → Int64) (w_a1_fronts_warm : Nat → Int32) (w_a1_fronts_force : Nat → Int32) (w_a1_fronts_from : Nat → Int32) (w_a1_fronts_hours : Nat → Int32) (w_a1_fronts_count : Int32) (w_a1_guests_names : Nat → Int64) (w_a1_guests_from : Nat → Int32) (w_a1_guests_weakest : Nat → Int32) (w_a1_guests_strongest : Nat → Int32) (w_a1_guests_nerve : Nat → Int32) (w_a1_guests_count : Int32) (t0 : Int32) : Option ((Int32 × Int32 × (Nat → Int64) × Int32 × Int32 × (Nat → Int64) × (Nat → Int32) × (Nat → Int32) × (Nat → Int32) × (Nat → Int32) × Int32 × (Nat → Int64) × (Nat → Int32) × (Nat → Int32) × (Nat → Int32) × (Nat → Int32) × Int32) ⊕ ((Nat → Int64) × Int32 × Int32 × (Nat → Int64) × (Nat → Int32) × (Nat → Int32) × (Nat → Int32) × (Nat → Int32) × Int32 × (Nat → Int64) × (Nat → Int32) × (Nat → Int32) × (Nat → Int32) × (Nat → Int32) × Int32)) :=
  (f_X11_failUnless t0 4 v3 ((X11_kinds b_a0), (X11_starts b_a0), w_a0_values, (X11_count b_a0), (X11_cursor b_a0), w_a0_error, w_a0_errorToken)).bind fun u8 =>
  f_X1_check_R50 n b_a0 b_a1_fronts b_a1_guests v2 v3 w_a0_values u8.1 u8.2 w_a1_fronts_names w_a1_fronts_warm w_a1_fronts_force w_a1_fronts_from w_a1_fronts_hours w_a1_fronts_count w_a1_guests_names w_a1_guests_from w_a1_guests_weakest w_a1_guests_strongest w_a1_guests_nerve w_a1_guests_count
def f_X1_check_L4 (n : Nat) (b_a0 : bX11) (b_a1_fronts : bX2) (b_a1_guests : bX4) (v2 : Int32) (v3 : Int32) (w_a0_values : Nat → Int64) (w_a0_error : Int32) (w_a0_errorToken : Int32) (w_a1_fronts_names : Nat → Int64) (w_a1_fronts_warm : Nat → Int32) (w_a1_fronts_force : Nat → Int32) (w_a1_fronts_from : Nat → Int32) (w_a1_fronts_hours : Nat → Int32) (w_a1_fronts_count : Int32) (w_a1_guests_names : Nat → Int64) (w_a1_guests_from : Nat → Int32) (w_a1_guests_weakest : Nat → Int32) (w_a1_guests_strongest : Nat → Int32) (w_a1_guests_nerve : Nat → Int32) (w_a1_guests_count : Int32) : Option ((Int32 × Int32 × (Nat → Int64) × Int32 × Int32 × (Nat → Int64) × (Nat → Int32) × (Nat → Int32) × (Nat → Int32) × (Nat → Int32) × Int32 × (Nat → Int64) × (Nat → Int32) × (Nat → Int32) × (Nat → Int32) × (Nat → Int32) × Int32) ⊕ ((Nat → Int64) × Int32 × Int32 × (Nat → Int64) × (Nat → Int32) × (Nat → Int32) × (Nat → Int32) × (Nat → Int32) × Int32 × (Nat → Int64) × (Nat → Int32) × (Nat → Int32) × (Nat → Int32) × (Nat → Int32) × Int32)) :=
  if (X11_count b_a0) ≤ v3 then
  some (Sum.inr (w_a0_values, w_a0_error, w_a0_errorToken, w_a1_fronts_names, w_a1_fronts_warm, w_a1_fronts_force, w_a1_fronts_from, w_a1_fronts_hours, w_a1_fronts_count, w_a1_guests_names, w_a1_guests_from, w_a1_guests_weakest, w_a1_guests_strongest, w_a1_guests_nerve, w_a1_guests_count)) else
  if w_a0_error = 0 then
  (f_X11_kindAt v3 ((X11_kinds b_a0), (X11_starts b_a0), w_a0_values, (X11_count b_a0), (X11_cursor b_a0), w_a0_error, w_a0_errorToken)).bind fun u3 =>
  (f_X1_beginsOrder u3).bind fun u4 =>
  if u4 = 0 then
  f_X1_check_R50 n b_a0 b_a1_fronts b_a1_guests v2 v3 w_a0_values w_a0_error w_a0_errorToken w_a1_fronts_names w_a1_fronts_warm w_a1_fronts_force w_a1_fronts_from w_a1_fronts_hours w_a1_fronts_count w_a1_guests_names w_a1_guests_from w_a1_guests_weakest w_a1_guests_strongest w_a1_guests_nerve w_a1_guests_count else
  if (16 : Int32) < (v2 + 1) then
  f_X1_check_R45 n b_a0 b_a1_fronts b_a1_guests (v2 + 1) v3 w_a0_values w_a0_error w_a0_errorToken w_a1_fronts_names w_a1_fronts_warm w_a1_fronts_force w_a1_fronts_from w_a1_fronts_hours w_a1_fronts_count w_a1_guests_names w_a1_guests_from w_a1_guests_weakest w_a1_guests_strongest w_a1_guests_nerve w_a1_guests_count 0 else
  f_X1_check_R45 n b_a0 b_a1_fronts b_a1_guests (v2 + 1) v3 w_a0_values w_a0_error w_a0_errorToken w_a1_fronts_names w_a1_fronts_warm w_a1_fronts_force w_a1_fronts_from w_a1_fronts_hours w_a1_fronts_count w_a1_guests_names w_a1_guests_from w_a1_guests_weakest w_a1_guests_strongest w_a1_guests_nerve w_a1_guests_count 1 else
  some (Sum.inr (w_a0_values, w_a0_error, w_a0_errorToken, w_a1_fronts_names, w_a1_fronts_warm, w_a1_fronts_force, w_a1_fronts_from, w_a1_fronts_hours, w_a1_fronts_count, w_a1_guests_names, w_a1_guests_from, w_a1_guests_weakest, w_a1_guests_strongest, w_a1_guests_nerve, w_a1_guests_count))
def f_X1_check (n : Nat) (b_a0 : bX11) (b_a1_fronts : bX2) (b_a1_guests : bX4) : Option ((Nat → Int64) × Int32 × Int32 × (Nat → Int64) × (Nat → Int32) × (Nat → Int32) × (Nat → Int32) × (Nat → Int32) × Int32 × (Nat → Int64) × (Nat → Int32) × (Nat → Int32) × (Nat → Int32) × (Nat → Int32) × Int32) :=
  iter (fun s : Int32 × Int32 × (Nat → Int64) × Int32 × Int32 × (Nat → Int64) × (Nat → Int32) × (Nat → Int32) × (Nat → Int32) × (Nat → Int32) × Int32 × (Nat → Int64) × (Nat → Int32) × (Nat → Int32) × (Nat → Int32) × (Nat → Int32) × Int32 => f_X1_check_L4 n b_a0 b_a1_fronts b_a1_guests s.1 s.2.1 s.2.2.1 s.2.2.2.1 s.2.2.2.2.1 s.2.2.2.2.2.1 s.2.2.2.2.2.2.1 s.2.2.2.2.2.2.2.1 s.2.2.2.2.2.2.2.2.1 s.2.2.2.2.2.2.2.2.2.1 s.2.2.2.2.2.2.2.2.2.2.1 s.2.2.2.2.2.2.2.2.2.2.2.1 s.2.2.2.2.2.2.2.2.2.2.2.2.1 s.2.2.2.2.2.2.2.2.2.2.2.2.2.1 s.2.2.2.2.2.2.2.2.2.2.2.2.2.2.1 s.2.2.2.2.2.2.2.2.2.2.2.2.2.2.2.1 s.2.2.2.2.2.2.2.2.2.2.2.2.2.2.2.2) n (0, 0, (X11_values b_a0), (X11_error b_a0), (X11_errorToken b_a0), (X2_names b_a1_fronts), (X2_warm b_a1_fronts), (X2_force b_a1_fronts), (X2_from b_a1_fronts), (X2_hours b_a1_fronts), (X2_count b_a1_fronts), (X4_names b_a1_guests), (X4_from b_a1_guests), (X4_weakest b_a1_guests), (X4_strongest b_a1_guests), (X4_nerve b_a1_guests), (X4_count b_a1_guests))

def f_X10_append_L3 (n : Nat) (x0 : Int32) (b_h : bX10) (v1 : Int32) (v2 : Int32) (w_h_bytes : Nat → Int32) (w_h_length : Int32) : Option ((Int32 × (Nat → Int32) × Int32) ⊕ ((Nat → Int32) × Int32)) :=
  if v2 < 0 then
  some (Sum.inr (w_h_bytes, w_h_length)) else
  if (2000 : Int32) ≤ w_h_length then
  some (Sum.inr (w_h_bytes, w_h_length)) else
  if w_h_length < 0 ∨ 2000 ≤ w_h_length.toNatClampNeg then none else
  some (Sum.inl ((v2 + (-8)), (upd w_h_bytes w_h_length.toNatClampNeg (vp_nar .byte (Int8.toInt32 (Int32.toInt8 (v1 >>> (v2 &&& 31)))))), (w_h_length + 1)))
def f_X10_append (n : Nat) (x0 : Int32) (b_h : bX10) : Option ((Nat → Int32) × Int32) :=
  iter (fun s : Int32 × (Nat → Int32) × Int32 => f_X10_append_L3 n x0 b_h x0 s.1 s.2.1 s.2.2) n (24, (X10_bytes b_h), (X10_length b_h))

def f_X10_byteAt (x0 : Int32) (b_h : bX10) : Option (Int32) :=
  if x0 < 0 then
  some 0 else
  if (X10_length b_h) ≤ x0 then
  some 0 else
  if (2000 : Int32) ≤ x0 then
  some 0 else
  if x0 < 0 ∨ 2000 ≤ x0.toNatClampNeg then none else
  some ((X10_bytes b_h) x0.toNatClampNeg)

def f_X10_hasText_L13 (n : Nat) (x0 : Int32) (x1 : Int32) (x2 : Nat) (b_h : bX10) (v1 : Int32) (v2 : Int32) (v3 : Nat) (v4 : Int32) : Option ((Int32) ⊕ (Int32)) :=
  if v2 ≤ v4 then
  some (Sum.inr 1) else
  (f_X10_byteAt (v1 + v4) b_h).bind fun u4 =>
  if v3 < 52 then
  if v4 < 0 ∨ kln v3 ≤ v4.toNatClampNeg then none else
  if u4 = (kby v3 v4.toNatClampNeg) then
  some (Sum.inl (v4 + 1)) else
  some (Sum.inr 0) else none
def f_X10_hasText (n : Nat) (x0 : Int32) (x1 : Int32) (x2 : Nat) (b_h : bX10) : Option (Int32) :=
  if x2 < 52 then
  if (nI (kln x2)) = x1 then
  iter (fun s : Int32 => f_X10_hasText_L13 n x0 x1 x2 b_h x0 x1 x2 s) n 0 else
  some 0 else none

def f_X11_add (x0 : Nat) (x1 : Int32) (x2 : Int64) (b_h : bX11) : Option ((Nat → Nat) × (Nat → Int32) × (Nat → Int64) × Int32) :=
  if (400 : Int32) < (X11_count b_h) then
  some ((X11_kinds b_h), (X11_starts b_h), (X11_values b_h), (X11_count b_h)) else
  if (X11_count b_h) < 0 ∨ 401 ≤ (X11_count b_h).toNatClampNeg then none else
  if x0 < 52 then
  if (X11_count b_h) < 0 ∨ 401 ≤ (X11_count b_h).toNatClampNeg then none else
  if (X11_count b_h) < 0 ∨ 401 ≤ (X11_count b_h).toNatClampNeg then none else
  some ((va_up (X11_kinds b_h) (X11_count b_h).toNatClampNeg x0), (upd (X11_starts b_h) (X11_count b_h).toNatClampNeg x1), (vp_updL (X11_values b_h) (X11_count b_h).toNatClampNeg x2), ((X11_count b_h) + 1)) else none

def f_X11_behindBlanks_L2 (n : Nat) (x1 : Int32) (b_a0 : bX10) (v2 : Int32) : Option ((Int32) ⊕ (Int32)) :=
  if (X10_length b_a0) ≤ v2 then
  some (Sum.inr v2) else
  (f_X10_byteAt v2 b_a0).bind fun u2 =>
  if u2 = (32 : Int32) then
  some (Sum.inl (v2 + 1)) else
  (f_X10_byteAt v2 b_a0).bind fun u4 =>
  if u4 = (10 : Int32) then
  some (Sum.inl (v2 + 1)) else
  some (Sum.inr v2)
def f_X11_behindBlanks (n : Nat) (x1 : Int32) (b_a0 : bX10) : Option (Int32) :=
  iter (fun s : Int32 => f_X11_behindBlanks_L2 n x1 b_a0 s) n x1

def f_X11_isDigit (x0 : Int32) : Option (Int32) :=
  if x0 < (48 : Int32) then
  some 0 else
  if (57 : Int32) < x0 then
  some 0 else
  some 1

def f_X11_isLetter (x0 : Int32) : Option (Int32) :=
  if x0 < (97 : Int32) then
  some 0 else
  if (122 : Int32) < x0 then
  some 0 else
  some 1

def f_X11_kindOf_L49 (n : Nat) (x1 : Int32) (x2 : Int32) (b_a0 : bX10) (v1 : Int32) (v2 : Int32) (v3 : Int32) (v4 : Int32) : Option ((Int32) ⊕ (Nat)) :=
  if (52 : Int32) ≤ v4 then
  (f_X11_isLetter v3).bind fun u7 =>
  if u7 = 0 then
  some (Sum.inr 50) else
  some (Sum.inr 47) else
  if v4 < 0 ∨ 52 ≤ v4.toNatClampNeg then none else
  if v4.toNatClampNeg < 52 then
  (f_X10_hasText n v1 v2 v4.toNatClampNeg b_a0).bind fun u11 =>
  if u11 = 0 then
  some (Sum.inl (v4 + 1)) else
  if v4 < 0 ∨ 52 ≤ v4.toNatClampNeg then none else
  some (Sum.inr v4.toNatClampNeg) else none
def f_X11_kindOf (n : Nat) (x1 : Int32) (x2 : Int32) (b_a0 : bX10) : Option (Nat) :=
  (f_X10_byteAt x1 b_a0).bind fun u1 =>
  (f_X11_isDigit u1).bind fun u2 =>
  if u2 = 0 then
  (f_X11_isLetter u1).bind fun u4 =>
  if u4 = 0 then
  iter (fun s : Int32 => f_X11_kindOf_L49 n x1 x2 b_a0 x1 x2 u1 s) n 0 else
  if x2 ≤ (10 : Int32) then
  iter (fun s : Int32 => f_X11_kindOf_L49 n x1 x2 b_a0 x1 x2 u1 s) n 0 else
  some 50 else
  if x2 ≤ (6 : Int32) then
  some 48 else
  some 50

def f_X11_next (b_h : bX11) : Option (Nat) :=
  if (X11_count b_h) ≤ (X11_cursor b_h) then
  some 49 else
  if (X11_cursor b_h) < 0 ∨ 401 ≤ (X11_cursor b_h).toNatClampNeg then none else
  some ((X11_kinds b_h) (X11_cursor b_h).toNatClampNeg)

def f_X11_sizeOf_L54 (n : Nat) (x1 : Int32) (b_a0 : bX10) (v1 : Int32) (v2 : Int32) (v3 : Int32) : Option ((Int32) ⊕ (Int32)) :=
  if (X10_length b_a0) ≤ v3 then
  some (Sum.inr (v3 - v1)) else
  (f_X10_byteAt v3 b_a0).bind fun u5 =>
  (f_X11_isDigit u5).bind fun u6 =>
  if u6 = 0 then
  (f_X11_isLetter v2).bind fun u8 =>
  if u8 = 0 then
  some (Sum.inr (v3 - v1)) else
  (f_X10_byteAt v3 b_a0).bind fun u10 =>
  (f_X11_isLetter u10).bind fun u11 =>
  if u11 = 0 then
  some (Sum.inr (v3 - v1)) else
  some (Sum.inl (v3 + 1)) else
  some (Sum.inl (v3 + 1))
def f_X11_sizeOf_R32 (n : Nat) (x1 : Int32) (b_a0 : bX10) (v1 : Int32) : Option (Int32) :=
  (f_X10_byteAt (v1 + 1) b_a0).bind fun u16 =>
  if u16 = (61 : Int32) then
  some 2 else
  some 1
def f_X11_sizeOf (n : Nat) (x1 : Int32) (b_a0 : bX10) : Option (Int32) :=
  (f_X10_byteAt x1 b_a0).bind fun u1 =>
  (f_X11_isLetter u1).bind fun u2 =>
  if u2 = 0 then
  (f_X11_isDigit u1).bind fun u13 =>
  if u13 = 0 then
  if u1 = (60 : Int32) then
  f_X11_sizeOf_R32 n x1 b_a0 x1 else
  if u1 = (62 : Int32) then
  f_X11_sizeOf_R32 n x1 b_a0 x1 else
  some 1 else
  iter (fun s : Int32 => f_X11_sizeOf_L54 n x1 b_a0 x1 u1 s) n (x1 + 1) else
  iter (fun s : Int32 => f_X11_sizeOf_L54 n x1 b_a0 x1 u1 s) n (x1 + 1)

def f_X11_wordSign (x0 : Int32) : Option (Int32) :=
  (f_X11_isDigit x0).bind fun u1 =>
  if u1 = 0 then
  some ((x0 - 97) + 11) else
  some ((x0 - 48) + 1)

def f_X11_valueOf_L15 (n : Nat) (x1 : Int32) (x2 : Int32) (b_a0 : bX10) (v1 : Int32) (v2 : Int32) (v3 : Int32) (v4 : Int64) (v6 : Int32) : Option ((Int64 × Int32) ⊕ (Int64)) :=
  if v2 ≤ v6 then
  some (Sum.inr v4) else
  (f_X10_byteAt (v1 + v6) b_a0).bind fun u4 =>
  if v3 = 0 then
  (f_X11_wordSign u4).bind fun u6 =>
  some (Sum.inl (((v4 * 37) + (Int32.toInt64 u6)), (v6 + 1))) else
  some (Sum.inl (((v4 * 10) + (Int32.toInt64 (u4 - 48))), (v6 + 1)))
def f_X11_valueOf (n : Nat) (x1 : Int32) (x2 : Int32) (b_a0 : bX10) : Option (Int64) :=
  (f_X10_byteAt x1 b_a0).bind fun u1 =>
  (f_X11_isDigit u1).bind fun u2 =>
  iter (fun s : Int64 × Int32 => f_X11_valueOf_L15 n x1 x2 b_a0 x1 x2 u2 s.1 s.2) n (0, 0)

def f_X11_readAll_R117 (n : Nat) (b_h : bX11) (b_a0 : bX10) (v2 : Int32) (w_h_kinds : Nat → Nat) (w_h_starts : Nat → Int32) (w_h_values : Nat → Int64) (w_h_count : Int32) (w_h_cursor : Int32) (w_h_error : Int32) (w_h_errorToken : Int32) (t0 : Nat) : Option ((Nat → Nat) × (Nat → Int32) × (Nat → Int64) × Int32 × Int32 × Int32 × Int32) :=
  (f_X11_add t0 v2 0 (w_h_kinds, w_h_starts, w_h_values, w_h_count, w_h_cursor, w_h_error, w_h_errorToken)).bind fun u4 =>
  some (u4.1, u4.2.1, u4.2.2.1, u4.2.2.2, w_h_cursor, w_h_error, w_h_errorToken)
def f_X11_readAll_R99 (n : Nat) (b_h : bX11) (b_a0 : bX10) (v2 : Int32) (w_h_kinds : Nat → Nat) (w_h_starts : Nat → Int32) (w_h_values : Nat → Int64) (w_h_count : Int32) (w_h_cursor : Int32) (w_h_error : Int32) (w_h_errorToken : Int32) : Option ((Nat → Nat) × (Nat → Int32) × (Nat → Int64) × Int32 × Int32 × Int32 × Int32) :=
  if (X10_length b_a0) ≤ v2 then
  f_X11_readAll_R117 n b_h b_a0 v2 w_h_kinds w_h_starts w_h_values w_h_count w_h_cursor w_h_error w_h_errorToken 49 else
  f_X11_readAll_R117 n b_h b_a0 v2 w_h_kinds w_h_starts w_h_values w_h_count w_h_cursor w_h_error w_h_errorToken 50
def f_X11_readAll_L28 (n : Nat) (b_h : bX11) (b_a0 : bX10) (v2 : Int32) (v3 : Int32) (w_h_kinds : Nat → Nat) (w_h_starts : Nat → Int32) (w_h_values : Nat → Int64) (w_h_count : Int32) (w_h_cursor : Int32) (w_h_error : Int32) (w_h_errorToken : Int32) : Option ((Int32 × Int32 × (Nat → Nat) × (Nat → Int32) × (Nat → Int64) × Int32) ⊕ ((Nat → Nat) × (Nat → Int32) × (Nat → Int64) × Int32 × Int32 × Int32 × Int32)) :=
  if (400 : Int32) ≤ v3 then
  (f_X11_readAll_R99 n b_h b_a0 v2 w_h_kinds w_h_starts w_h_values w_h_count w_h_cursor w_h_error w_h_errorToken).bind (fun x => some (Sum.inr x)) else
  if (X10_length b_a0) ≤ v2 then
  (f_X11_readAll_R99 n b_h b_a0 v2 w_h_kinds w_h_starts w_h_values w_h_count w_h_cursor w_h_error w_h_errorToken).bind (fun x => some (Sum.inr x)) else
  (f_X11_sizeOf n v2 b_a0).bind fun u6 =>
  (f_X11_kindOf n v2 u6 b_a0).bind fun u7 =>
  if u7 < 52 then
  if u7 = 50 then
  (f_X11_readAll_R99 n b_h b_a0 v2 w_h_kinds w_h_starts w_h_values w_h_count w_h_cursor w_h_error w_h_errorToken).bind (fun x => some (Sum.inr x)) else
  (f_X11_valueOf n v2 u6 b_a0).bind fun u10 =>
  (f_X11_add u7 v2 u10 (w_h_kinds, w_h_starts, w_h_values, w_h_count, w_h_cursor, w_h_error, w_h_errorToken)).bind fun u11 =>
  (f_X11_behindBlanks n (v2 + u6) b_a0).bind fun u12 =>
  some (Sum.inl (u12, (v3 + 1), u11.1, u11.2.1, u11.2.2.1, u11.2.2.2)) else none
def f_X11_readAll (n : Nat) (b_h : bX11) (b_a0 : bX10) : Option ((Nat → Nat) × (Nat → Int32) × (Nat → Int64) × Int32 × Int32 × Int32 × Int32) :=
  (f_X11_behindBlanks n 0 b_a0).bind fun u1 =>
  iter (fun s : Int32 × Int32 × (Nat → Nat) × (Nat → Int32) × (Nat → Int64) × Int32 => f_X11_readAll_L28 n b_h b_a0 s.1 s.2.1 s.2.2.1 s.2.2.2.1 s.2.2.2.2.1 s.2.2.2.2.2 0 0 0) n (u1, 0, (X11_kinds b_h), (X11_starts b_h), (X11_values b_h), 0)

def f_X11_startAt (x0 : Int32) (b_h : bX11) : Option (Int32) :=
  (f_X11_has x0 b_h).bind fun u1 =>
  if u1 = 0 then
  some 0 else
  if x0 < 0 ∨ 401 ≤ x0.toNatClampNeg then none else
  some ((X11_starts b_h) x0.toNatClampNeg)

def f_X11_take (x0 : Nat) (b_h : bX11) : Option (Int32 × Int32) :=
  if (X11_count b_h) ≤ (X11_cursor b_h) then
  some (0, (X11_cursor b_h)) else
  if (X11_cursor b_h) < 0 ∨ 401 ≤ (X11_cursor b_h).toNatClampNeg then none else
  if ((X11_kinds b_h) (X11_cursor b_h).toNatClampNeg) < 52 then
  if x0 < 52 then
  if ((X11_kinds b_h) (X11_cursor b_h).toNatClampNeg) = x0 then
  some (1, ((X11_cursor b_h) + 1)) else
  some (0, (X11_cursor b_h)) else none else none

def f_X11_takeNumber (x0 : Nat) (b_h : bX11) : Option (Int32 × Int32) :=
  (f_X11_take x0 b_h).bind fun u1 =>
  if u1.1 = 0 then
  some (0, u1.2) else
  (f_X11_take 48 ((X11_kinds b_h), (X11_starts b_h), (X11_values b_h), (X11_count b_h), u1.2, (X11_error b_h), (X11_errorToken b_h))).bind fun u3 =>
  if u3.1 = 0 then
  some (0, u3.2) else
  some (1, u3.2)

def f_X2_has (x0 : Int32) (b_h : bX2) : Option (Int32) :=
  if x0 < 0 then
  some 0 else
  if (X2_count b_h) ≤ x0 then
  some 0 else
  if (10 : Int32) ≤ x0 then
  some 0 else
  some 1

def f_X8_hangsOver (x0 : Int32) (b_h : bX8) (b_h_plan_fronts : bX2) : Option (Int32) :=
  (f_X2_has x0 b_h_plan_fronts).bind fun u1 =>
  if u1 = 0 then
  some 0 else
  if x0 < 0 ∨ 10 ≤ x0.toNatClampNeg then none else
  if ((X8_frontSteeped b_h) x0.toNatClampNeg) = 0 then
  if x0 < 0 ∨ 10 ≤ x0.toNatClampNeg then none else
  if (X8_hour b_h) < ((X2_from b_h_plan_fronts) x0.toNatClampNeg) then
  some 0 else
  if x0 < 0 ∨ 10 ≤ x0.toNatClampNeg then none else
  if x0 < 0 ∨ 10 ≤ x0.toNatClampNeg then none else
  if (((X2_from b_h_plan_fronts) x0.toNatClampNeg) + ((X2_hours b_h_plan_fronts) x0.toNatClampNeg)) ≤ (X8_hour b_h) then
  some 0 else
  some 1 else
  some 0

def f_X8_strengthWith_R30 (x0 : Int32) (b_h : bX8) (b_h_plan_fronts : bX2) (t0 : Int32) : Option (Int32) :=
  some (if ((X8_strength b_h) + t0) < 30 then ((X8_strength b_h) + t0) else 30)
def f_X8_strengthWith (x0 : Int32) (b_h : bX8) (b_h_plan_fronts : bX2) : Option (Int32) :=
  (f_X2_has x0 b_h_plan_fronts).bind fun u1 =>
  if u1 = 0 then
  f_X8_strengthWith_R30 x0 b_h b_h_plan_fronts 0 else
  if x0 < 0 ∨ 10 ≤ x0.toNatClampNeg then none else
  f_X8_strengthWith_R30 x0 b_h b_h_plan_fronts ((X2_force b_h_plan_fronts) x0.toNatClampNeg)

def f_X4_has (x0 : Int32) (b_h : bX4) : Option (Int32) :=
  if x0 < 0 then
  some 0 else
  if (X4_count b_h) ≤ x0 then
  some 0 else
  if (10 : Int32) ≤ x0 then
  some 0 else
  some 1

def f_X8_sits (x0 : Int32) (b_h : bX8) (b_h_plan_guests : bX4) : Option (Int32) :=
  (f_X4_has x0 b_h_plan_guests).bind fun u1 =>
  if u1 = 0 then
  some 0 else
  if x0 < 0 ∨ 10 ≤ x0.toNatClampNeg then none else
  if ((X8_guestServed b_h) x0.toNatClampNeg) = 0 then
  if x0 < 0 ∨ 10 ≤ x0.toNatClampNeg then none else
  if ((X8_guestStormed b_h) x0.toNatClampNeg) = 0 then
  if x0 < 0 ∨ 10 ≤ x0.toNatClampNeg then none else
  if (X8_hour b_h) < ((X4_from b_h_plan_guests) x0.toNatClampNeg) then
  some 0 else
  if x0 < 0 ∨ 10 ≤ x0.toNatClampNeg then none else
  if (((X4_from b_h_plan_guests) x0.toNatClampNeg) + 8) ≤ (X8_hour b_h) then
  some 0 else
  some 1 else
  some 0 else
  some 0

def f_X8_wouldLike (x0 : Int32) (x1 : Int32) (b_h : bX8) (b_h_plan_guests : bX4) : Option (Int32) :=
  (f_X8_sits x0 b_h b_h_plan_guests).bind fun u1 =>
  if u1 = 0 then
  some 0 else
  if (X8_warmth b_h) < (15 : Int32) then
  some 0 else
  if x0 < 0 ∨ 10 ≤ x0.toNatClampNeg then none else
  if x1 < ((X4_weakest b_h_plan_guests) x0.toNatClampNeg) then
  some 0 else
  if x0 < 0 ∨ 10 ≤ x0.toNatClampNeg then none else
  if ((X4_strongest b_h_plan_guests) x0.toNatClampNeg) < x1 then
  some 0 else
  some 1

def f_X12_oneIf (x0 : Int32) : Option (Int32) :=
  if x0 = 0 then
  some 0 else
  some 1

def f_X8_contentIfSteeped_L11 (n : Nat) (x0 : Int32) (b_h : bX8) (b_h_plan_fronts : bX2) (b_h_plan_guests : bX4) (v2 : Int32) (v3 : Int32) (v4 : Int32) : Option ((Int32 × Int32) ⊕ (Int32)) :=
  if (X4_count b_h_plan_guests) ≤ v4 then
  some (Sum.inr v3) else
  (f_X8_wouldLike v4 v2 b_h b_h_plan_guests).bind fun u3 =>
  (f_X12_oneIf u3).bind fun u4 =>
  some (Sum.inl ((v3 + u4), (v4 + 1)))
def f_X8_contentIfSteeped (n : Nat) (x0 : Int32) (b_h : bX8) (b_h_plan_fronts : bX2) (b_h_plan_guests : bX4) : Option (Int32) :=
  (f_X8_strengthWith x0 b_h b_h_plan_fronts).bind fun u1 =>
  iter (fun s : Int32 × Int32 => f_X8_contentIfSteeped_L11 n x0 b_h b_h_plan_fronts b_h_plan_guests u1 s.1 s.2) n (0, 0)

def f_X12_bestToSteep_L6 (n : Nat) (b_h : bX12) (b_h_pot : bX8) (b_h_pot_plan_fronts : bX2) (b_h_pot_plan_guests : bX4) (v1 : Int32) (v2 : Int32) (v3 : Int32) : Option ((Int32 × Int32 × Int32) ⊕ (Int32)) :=
  if (X2_count b_h_pot_plan_fronts) ≤ v3 then
  some (Sum.inr v1) else
  (f_X8_hangsOver v3 b_h_pot b_h_pot_plan_fronts).bind fun u2 =>
  if u2 = 0 then
  some (Sum.inl (v1, v2, (v3 + 1))) else
  (f_X8_contentIfSteeped n v3 b_h_pot b_h_pot_plan_fronts b_h_pot_plan_guests).bind fun u4 =>
  if u4 ≤ v2 then
  some (Sum.inl (v1, v2, (v3 + 1))) else
  some (Sum.inl (v3, u4, (v3 + 1)))
def f_X12_bestToSteep (n : Nat) (b_h : bX12) (b_h_pot : bX8) (b_h_pot_plan_fronts : bX2) (b_h_pot_plan_guests : bX4) : Option (Int32) :=
  iter (fun s : Int32 × Int32 × Int32 => f_X12_bestToSteep_L6 n b_h b_h_pot b_h_pot_plan_fronts b_h_pot_plan_guests s.1 s.2.1 s.2.2) n ((-1), (-1), 0)

def f_X12_charge (b_h : bX12) (b_h_pot : bX8) : Option (Int32) :=
  some (X8_charge b_h_pot)

def f_X12_coins (b_h : bX12) (b_h_pot : bX8) : Option (Int32) :=
  some (X8_coins b_h_pot)

def f_X12_countTrue_L4 (n : Nat) (x1 : Int32) (m_a0 : Nat) (f_a0 : Nat → Int32) (v1 : Int32) (v2 : Int32) (v3 : Int32) : Option ((Int32 × Int32) ⊕ (Int32)) :=
  if v1 ≤ v3 then
  some (Sum.inr v2) else
  if (Int32.ofNat m_a0) ≤ v3 then
  some (Sum.inr v2) else
  if v3 < 0 ∨ m_a0 ≤ v3.toNatClampNeg then none else
  (f_X12_oneIf (f_a0 v3.toNatClampNeg)).bind fun u4 =>
  some (Sum.inl ((v2 + u4), (v3 + 1)))
def f_X12_countTrue (n : Nat) (x1 : Int32) (m_a0 : Nat) (f_a0 : Nat → Int32) : Option (Int32) :=
  iter (fun s : Int32 × Int32 => f_X12_countTrue_L4 n x1 m_a0 f_a0 x1 s.1 s.2) n (0, 0)

def f_X12_fronts (b_h : bX12) (b_h_pot : bX8) (b_h_pot_plan_fronts : bX2) : Option (Int32) :=
  some (X2_count b_h_pot_plan_fronts)

def f_X12_guests (b_h : bX12) (b_h_pot : bX8) (b_h_pot_plan_guests : bX4) : Option (Int32) :=
  some (X4_count b_h_pot_plan_guests)

def f_X12_hour (b_h : bX12) (b_h_pot : bX8) : Option (Int32) :=
  some (X8_hour b_h_pot)

def f_X12_warmth (b_h : bX12) (b_h_pot : bX8) : Option (Int32) :=
  some (X8_warmth b_h_pot)

def f_X12_strength (b_h : bX12) (b_h_pot : bX8) : Option (Int32) :=
  some (X8_strength b_h_pot)

def f_X12_lemons (b_h : bX12) (b_h_pot : bX8) : Option (Int32) :=
  some (X8_lemons b_h_pot)

def f_X12_saucers (b_h : bX12) (b_h_pot : bX8) : Option (Int32) :=
  some (X8_saucers b_h_pot)

def f_X12_storms (b_h : bX12) (b_h_pot : bX8) : Option (Int32) :=
  some (X8_storms b_h_pot)

def f_X12_seatedGuests_L4 (n : Nat) (b_h : bX12) (b_h_pot : bX8) (b_h_pot_plan_guests : bX4) (v1 : Int32) (v2 : Int32) : Option ((Int32 × Int32) ⊕ (Int32)) :=
  if (X4_count b_h_pot_plan_guests) ≤ v2 then
  some (Sum.inr v1) else
  (f_X8_sits v2 b_h_pot b_h_pot_plan_guests).bind fun u2 =>
  (f_X12_oneIf u2).bind fun u3 =>
  some (Sum.inl ((v1 + u3), (v2 + 1)))
def f_X12_seatedGuests (n : Nat) (b_h : bX12) (b_h_pot : bX8) (b_h_pot_plan_guests : bX4) : Option (Int32) :=
  iter (fun s : Int32 × Int32 => f_X12_seatedGuests_L4 n b_h b_h_pot b_h_pot_plan_guests s.1 s.2) n (0, 0)

def f_X12_served (n : Nat) (b_h : bX12) (b_h_pot : bX8) (b_h_pot_plan_guests : bX4) : Option (Int32) :=
  (f_X12_countTrue n (X4_count b_h_pot_plan_guests) 10 (X8_guestServed b_h_pot)).bind fun u1 =>
  some u1

def f_X12_stormed (n : Nat) (b_h : bX12) (b_h_pot : bX8) (b_h_pot_plan_guests : bX4) : Option (Int32) :=
  (f_X12_countTrue n (X4_count b_h_pot_plan_guests) 10 (X8_guestStormed b_h_pot)).bind fun u1 =>
  some u1

def f_X12_digest_L238 (n : Nat) (b_h : bX12) (b_h_pot : bX8) (b_h_pot_plan_fronts : bX2) (b_h_pot_plan_guests : bX4) (v1 : Int64) (v3 : Int32) : Option ((Int64 × Int32) ⊕ (Int64)) :=
  if (X4_count b_h_pot_plan_guests) ≤ v3 then
  some (Sum.inr v1) else
  (f_X8_sits v3 b_h_pot b_h_pot_plan_guests).bind fun u17 =>
  (f_X12_oneIf u17).bind fun u18 =>
  (f_X8_wouldLike v3 (X8_strength b_h_pot) b_h_pot b_h_pot_plan_guests).bind fun u19 =>
  (f_X12_oneIf u19).bind fun u20 =>
  if v3 < 0 ∨ 10 ≤ v3.toNatClampNeg then none else
  (f_X12_oneIf ((X8_guestServed b_h_pot) v3.toNatClampNeg)).bind fun u22 =>
  if v3 < 0 ∨ 10 ≤ v3.toNatClampNeg then none else
  (f_X12_oneIf ((X8_guestStormed b_h_pot) v3.toNatClampNeg)).bind fun u24 =>
  some (Sum.inl (((((((((v1 * 31) + (Int32.toInt64 u18)) * 31) + (Int32.toInt64 u20)) * 31) + (Int32.toInt64 u22)) * 31) + (Int32.toInt64 u24)), (v3 + 1)))
def f_X12_digest_L174 (n : Nat) (b_h : bX12) (b_h_pot : bX8) (b_h_pot_plan_fronts : bX2) (b_h_pot_plan_guests : bX4) (v1 : Int64) (v3 : Int32) : Option ((Int64 × Int32) ⊕ (Int64)) :=
  if (X2_count b_h_pot_plan_fronts) ≤ v3 then
  (iter (fun s : Int64 × Int32 => f_X12_digest_L238 n b_h b_h_pot b_h_pot_plan_fronts b_h_pot_plan_guests s.1 s.2) n (v1, 0)).bind (fun x => some (Sum.inr x)) else
  (f_X8_hangsOver v3 b_h_pot b_h_pot_plan_fronts).bind fun u25 =>
  (f_X12_oneIf u25).bind fun u26 =>
  if v3 < 0 ∨ 10 ≤ v3.toNatClampNeg then none else
  (f_X12_oneIf ((X8_frontSteeped b_h_pot) v3.toNatClampNeg)).bind fun u28 =>
  some (Sum.inl (((((v1 * 31) + (Int32.toInt64 u26)) * 31) + (Int32.toInt64 u28)), (v3 + 1)))
def f_X12_digest (n : Nat) (b_h : bX12) (b_h_pot : bX8) (b_h_pot_plan_fronts : bX2) (b_h_pot_plan_guests : bX4) : Option (Int64) :=
  (f_X12_fronts b_h b_h_pot b_h_pot_plan_fronts).bind fun u1 =>
  (f_X12_guests b_h b_h_pot b_h_pot_plan_guests).bind fun u2 =>
  (f_X12_hour b_h b_h_pot).bind fun u3 =>
  (f_X12_warmth b_h b_h_pot).bind fun u4 =>
  (f_X12_strength b_h b_h_pot).bind fun u5 =>
  (f_X12_charge b_h b_h_pot).bind fun u6 =>
  (f_X12_lemons b_h b_h_pot).bind fun u7 =>
  (f_X12_saucers b_h b_h_pot).bind fun u8 =>
  (f_X12_coins b_h b_h_pot).bind fun u9 =>
  (f_X12_storms b_h b_h_pot).bind fun u10 =>
  (f_X12_seatedGuests n b_h b_h_pot b_h_pot_plan_guests).bind fun u11 =>
  (f_X12_served n b_h b_h_pot b_h_pot_plan_guests).bind fun u12 =>
  (f_X12_stormed n b_h b_h_pot b_h_pot_plan_guests).bind fun u13 =>
  (f_X12_bestToSteep n b_h b_h_pot b_h_pot_plan_fronts b_h_pot_plan_guests).bind fun u14 =>
  iter (fun s : Int64 × Int32 => f_X12_digest_L174 n b_h b_h_pot b_h_pot_plan_fronts b_h_pot_plan_guests s.1 s.2) n (((((((((((((((((((((((((((((1033 * 31) + (Int32.toInt64 u1)) * 31) + (Int32.toInt64 u2)) * 31) + (Int32.toInt64 u3)) * 31) + (Int32.toInt64 u4)) * 31) + (Int32.toInt64 u5)) * 31) + (Int32.toInt64 u6)) * 31) + (Int32.toInt64 u7)) * 31) + (Int32.toInt64 u8)) * 31) + (Int32.toInt64 u9)) * 31) + (Int32.toInt64 u10)) * 31) + (Int32.toInt64 u11)) * 31) + (Int32.toInt64 u12)) * 31) + (Int32.toInt64 u13)) * 31) + (Int32.toInt64 u14)), 0)

def f_X12_errorAt (b_h : bX12) : Option (Int32) :=
  some (X12_errorPosition b_h)

def f_X8_copyFrom_L100 (n : Nat) (b_h : bX8) (b_a0 : bX8) (v2 : Int32) (w_h_hour : Int32) (w_h_warmth : Int32) (w_h_strength : Int32) (w_h_charge : Int32) (w_h_lemons : Int32) (w_h_saucers : Int32) (w_h_coins : Int32) (w_h_storms : Int32) (w_h_frontSteeped : Nat → Int32) (w_h_guestServed : Nat → Int32) (w_h_guestStormed : Nat → Int32) : Option ((Int32 × (Nat → Int32) × (Nat → Int32)) ⊕ (Int32 × Int32 × Int32 × Int32 × Int32 × Int32 × Int32 × Int32 × (Nat → Int32) × (Nat → Int32) × (Nat → Int32))) :=
  if (10 : Int32) ≤ v2 then
  some (Sum.inr (w_h_hour, w_h_warmth, w_h_strength, w_h_charge, w_h_lemons, w_h_saucers, w_h_coins, w_h_storms, w_h_frontSteeped, w_h_guestServed, w_h_guestStormed)) else
  if v2 < 0 ∨ 10 ≤ v2.toNatClampNeg then none else
  if v2 < 0 ∨ 10 ≤ v2.toNatClampNeg then none else
  if v2 < 0 ∨ 10 ≤ v2.toNatClampNeg then none else
  if v2 < 0 ∨ 10 ≤ v2.toNatClampNeg then none else
  some (Sum.inl ((v2 + 1), (upd w_h_guestServed v2.toNatClampNeg (vp_nar .boolean ((X8_guestServed b_a0) v2.toNatClampNeg))), (upd w_h_guestStormed v2.toNatClampNeg (vp_nar .boolean ((X8_guestStormed b_a0) v2.toNatClampNeg)))))
def f_X8_copyFrom_L74 (n : Nat) (b_h : bX8) (b_a0 : bX8) (v2 : Int32) (w_h_hour : Int32) (w_h_warmth : Int32) (w_h_strength : Int32) (w_h_charge : Int32) (w_h_lemons : Int32) (w_h_saucers : Int32) (w_h_coins : Int32) (w_h_storms : Int32) (w_h_frontSteeped : Nat → Int32) (w_h_guestServed : Nat → Int32) (w_h_guestStormed : Nat → Int32) : Option ((Int32 × (Nat → Int32)) ⊕ (Int32 × Int32 × Int32 × Int32 × Int32 × Int32 × Int32 × Int32 × (Nat → Int32) × (Nat → Int32) × (Nat → Int32))) :=
  if (10 : Int32) ≤ v2 then
  (iter (fun s : Int32 × (Nat → Int32) × (Nat → Int32) => f_X8_copyFrom_L100 n b_h b_a0 s.1 w_h_hour w_h_warmth w_h_strength w_h_charge w_h_lemons w_h_saucers w_h_coins w_h_storms w_h_frontSteeped s.2.1 s.2.2) n (0, w_h_guestServed, w_h_guestStormed)).bind (fun x => some (Sum.inr x)) else
  if v2 < 0 ∨ 10 ≤ v2.toNatClampNeg then none else
  if v2 < 0 ∨ 10 ≤ v2.toNatClampNeg then none else
  some (Sum.inl ((v2 + 1), (upd w_h_frontSteeped v2.toNatClampNeg (vp_nar .boolean ((X8_frontSteeped b_a0) v2.toNatClampNeg)))))
def f_X8_copyFrom (n : Nat) (b_h : bX8) (b_a0 : bX8) : Option (Int32 × Int32 × Int32 × Int32 × Int32 × Int32 × Int32 × Int32 × (Nat → Int32) × (Nat → Int32) × (Nat → Int32)) :=
  iter (fun s : Int32 × (Nat → Int32) => f_X8_copyFrom_L74 n b_h b_a0 s.1 (X8_hour b_a0) (X8_warmth b_a0) (X8_strength b_a0) (X8_charge b_a0) (X8_lemons b_a0) (X8_saucers b_a0) (X8_coins b_a0) (X8_storms b_a0) s.2 (X8_guestServed b_h) (X8_guestStormed b_h)) n (0, (X8_frontSteeped b_h))

def f_X9_push (x0 : Int32) (b_h : bX9) : Option ((Nat → Int32) × Int32) :=
  if (400 : Int32) ≤ (X9_height b_h) then
  some ((X9_stack b_h), (X9_height b_h)) else
  if (X9_height b_h) < 0 ∨ 400 ≤ (X9_height b_h).toNatClampNeg then none else
  some ((upd (X9_stack b_h) (X9_height b_h).toNatClampNeg x0), ((X9_height b_h) + 1))

def f_X8_standsFor (x0 : Nat) (x1 : Int32) (b_h : bX8) (b_h_plan_fronts : bX2) (b_h_plan_guests : bX4) : Option (Int32) :=
  if x0 < 52 then
  if (smap x0) = 3 then
  (f_X8_hangsOver x1 b_h b_h_plan_fronts).bind fun u3 =>
  (f_X12_oneIf u3).bind fun u4 =>
  some u4 else
  if (smap x0) = 4 then
  (f_X8_sits x1 b_h b_h_plan_guests).bind fun u6 =>
  (f_X12_oneIf u6).bind fun u7 =>
  some u7 else
  if (smap x0) = 5 then
  (f_X8_wouldLike x1 (X8_strength b_h) b_h b_h_plan_guests).bind fun u9 =>
  (f_X12_oneIf u9).bind fun u10 =>
  some u10 else
  if (smap x0) = 7 then
  some (X8_hour b_h) else
  if (smap x0) = 8 then
  some (X8_warmth b_h) else
  if (smap x0) = 9 then
  some (X8_strength b_h) else
  if (smap x0) = 10 then
  some (X8_charge b_h) else
  if (smap x0) = 11 then
  some (X8_lemons b_h) else
  if (smap x0) = 12 then
  some (X8_saucers b_h) else
  if (smap x0) = 13 then
  some (X8_storms b_h) else
  if (smap x0) = 14 then
  (f_X2_has x1 b_h_plan_fronts).bind fun u19 =>
  if u19 = 0 then
  some 0 else
  if x1 < 0 ∨ 10 ≤ x1.toNatClampNeg then none else
  some ((X2_force b_h_plan_fronts) x1.toNatClampNeg) else
  some 0 else none

def f_X9_pop (b_h : bX9) : Option (Int32 × Int32) :=
  if 0 < (X9_height b_h) then
  if ((X9_height b_h) - 1) < 0 ∨ 400 ≤ ((X9_height b_h) - 1).toNatClampNeg then none else
  some (((X9_stack b_h) ((X9_height b_h) - 1).toNatClampNeg), ((X9_height b_h) - 1)) else
  some (0, (X9_height b_h))

def f_X9_join_R150 (x0 : Nat) (x1 : Int32) (x2 : Int32) (t0 : Int32) : Option (Int32) :=
  (f_X12_oneIf t0).bind fun u12 =>
  some u12
def f_X9_join_R164 (x0 : Nat) (x1 : Int32) (x2 : Int32) (t0 : Int32) : Option (Int32) :=
  (f_X12_oneIf t0).bind fun u15 =>
  some u15
def f_X9_join_R178 (x0 : Nat) (x1 : Int32) (x2 : Int32) (t0 : Int32) : Option (Int32) :=
  (f_X12_oneIf t0).bind fun u18 =>
  some u18
def f_X9_join_R192 (x0 : Nat) (x1 : Int32) (x2 : Int32) (t0 : Int32) : Option (Int32) :=
  (f_X12_oneIf t0).bind fun u21 =>
  some u21
def f_X9_join_R206 (x0 : Nat) (x1 : Int32) (x2 : Int32) (t0 : Int32) : Option (Int32) :=
  (f_X12_oneIf t0).bind fun u24 =>
  some u24
def f_X9_join (x0 : Nat) (x1 : Int32) (x2 : Int32) : Option (Int32) :=
  if x0 < 52 then
  if (smap x0) = 15 then
  some (x1 - x2) else
  if (smap x0) = 17 then
  some (if x2 < x1 then x2 else x1) else
  if (smap x0) = 18 then
  some (if x1 < x2 then x2 else x1) else
  if (smap x0) = 25 then
  some (x1 + x2) else
  if (smap x0) = 26 then
  some (x1 * x2) else
  if (smap x0) = 27 then
  if x2 = 0 then
  some 0 else
  if x2 = 0 then none else
  some (x1 / x2) else
  if (smap x0) = 28 then
  if x2 ≤ x1 then
  f_X9_join_R150 x0 x1 x2 0 else
  f_X9_join_R150 x0 x1 x2 1 else
  if (smap x0) = 29 then
  if x1 ≤ x2 then
  f_X9_join_R164 x0 x1 x2 0 else
  f_X9_join_R164 x0 x1 x2 1 else
  if (smap x0) = 30 then
  if x1 = x2 then
  f_X9_join_R178 x0 x1 x2 1 else
  f_X9_join_R178 x0 x1 x2 0 else
  if (smap x0) = 31 then
  if x2 < x1 then
  f_X9_join_R192 x0 x1 x2 0 else
  f_X9_join_R192 x0 x1 x2 1 else
  if (smap x0) = 32 then
  if x1 < x2 then
  f_X9_join_R206 x0 x1 x2 0 else
  f_X9_join_R206 x0 x1 x2 1 else
  if (smap x0) = 33 then
  some (x1 &&& x2) else
  if (smap x0) = 34 then
  some (x1 ||| x2) else
  some 0 else none

def f_X9_joinTwo (x0 : Nat) (b_h : bX9) : Option ((Nat → Int32) × Int32) :=
  (f_X9_pop b_h).bind fun u1 =>
  (f_X9_pop ((X9_stack b_h), u1.2)).bind fun u2 =>
  (f_X9_join x0 u2.1 u1.1).bind fun u3 =>
  (f_X9_push u3 ((X9_stack b_h), u2.2)).bind fun u4 =>
  some (u4.1, u4.2)

def f_X9_step_R154 (x0 : Nat) (x1 : Int32) (b_h : bX9) (b_a2 : bX8) (b_a2_plan_fronts : bX2) (b_a2_plan_guests : bX4) (w_h_stack : Nat → Int32) (w_h_height : Int32) (t0 : Int32) : Option ((Nat → Int32) × Int32) :=
  (f_X12_oneIf t0).bind fun u5 =>
  (f_X9_push u5 (w_h_stack, w_h_height)).bind fun u6 =>
  some (u6.1, u6.2)
def f_X9_step (x0 : Nat) (x1 : Int32) (b_h : bX9) (b_a2 : bX8) (b_a2_plan_fronts : bX2) (b_a2_plan_guests : bX4) : Option ((Nat → Int32) × Int32) :=
  if x0 < 52 then
  if (smap x0) = 1 then
  (f_X9_pop b_h).bind fun u3 =>
  if u3.1 = 0 then
  f_X9_step_R154 x0 x1 b_h b_a2 b_a2_plan_fronts b_a2_plan_guests (X9_stack b_h) u3.2 1 else
  f_X9_step_R154 x0 x1 b_h b_a2 b_a2_plan_fronts b_a2_plan_guests (X9_stack b_h) u3.2 0 else
  if (smap x0) = 3 ∨ (smap x0) = 4 ∨ (smap x0) = 5 ∨ (smap x0) = 7 ∨ (smap x0) = 8 ∨ (smap x0) = 9 ∨ (smap x0) = 10 ∨ (smap x0) = 11 ∨ (smap x0) = 12 ∨ (smap x0) = 13 ∨ (smap x0) = 14 then
  (f_X8_standsFor x0 x1 b_a2 b_a2_plan_fronts b_a2_plan_guests).bind fun u8 =>
  (f_X9_push u8 b_h).bind fun u9 =>
  some (u9.1, u9.2) else
  if (smap x0) = 6 then
  (f_X9_push x1 b_h).bind fun u11 =>
  some (u11.1, u11.2) else
  if (smap x0) = 24 then
  (f_X9_pop b_h).bind fun u13 =>
  (f_X9_push (-u13.1) ((X9_stack b_h), u13.2)).bind fun u14 =>
  some (u14.1, u14.2) else
  (f_X9_joinTwo x0 b_h).bind fun u15 =>
  some (u15.1, u15.2) else none

def f_X9_holds_L13 (n : Nat) (x1 : Int32) (b_h : bX9) (b_a0 : bX6) (b_a2 : bX8) (b_a2_plan_fronts : bX2) (b_a2_plan_guests : bX4) (v2 : Int32) (v4 : Int32) (w_h_stack : Nat → Int32) (w_h_height : Int32) : Option ((Int32 × (Nat → Int32) × Int32) ⊕ (Int32 × (Nat → Int32) × Int32)) :=
  if v2 < 0 ∨ 16 ≤ v2.toNatClampNeg then none else
  if ((X6_endSteps b_a0) v2.toNatClampNeg) ≤ v4 then
  if w_h_height = 0 then
  some (Sum.inr (1, w_h_stack, w_h_height)) else
  (f_X9_pop (w_h_stack, w_h_height)).bind fun u5 =>
  if u5.1 = 0 then
  some (Sum.inr (0, w_h_stack, u5.2)) else
  some (Sum.inr (1, w_h_stack, u5.2)) else
  if v4 < 0 ∨ 400 ≤ v4.toNatClampNeg then none else
  if v4 < 0 ∨ 400 ≤ v4.toNatClampNeg then none else
  (f_X9_step ((X6_stepKinds b_a0) v4.toNatClampNeg) ((X6_stepValues b_a0) v4.toNatClampNeg) (w_h_stack, w_h_height) b_a2 b_a2_plan_fronts b_a2_plan_guests).bind fun u9 =>
  some (Sum.inl ((v4 + 1), u9.1, u9.2))
def f_X9_holds (n : Nat) (x1 : Int32) (b_h : bX9) (b_a0 : bX6) (b_a2 : bX8) (b_a2_plan_fronts : bX2) (b_a2_plan_guests : bX4) : Option (Int32 × (Nat → Int32) × Int32) :=
  if x1 < 0 ∨ 16 ≤ x1.toNatClampNeg then none else
  iter (fun s : Int32 × (Nat → Int32) × Int32 => f_X9_holds_L13 n x1 b_h b_a0 b_a2 b_a2_plan_fronts b_a2_plan_guests x1 s.1 s.2.1 s.2.2) n (((X6_firstSteps b_a0) x1.toNatClampNeg), (X9_stack b_h), 0)

def f_X8_steepFront (x0 : Int32) (b_h : bX8) (b_h_plan_fronts : bX2) : Option (Int32 × Int32 × (Nat → Int32)) :=
  (f_X8_hangsOver x0 b_h b_h_plan_fronts).bind fun u1 =>
  if u1 = 0 then
  some (0, (X8_strength b_h), (X8_frontSteeped b_h)) else
  (f_X8_strengthWith x0 b_h b_h_plan_fronts).bind fun u3 =>
  if x0 < 0 ∨ 10 ≤ x0.toNatClampNeg then none else
  some (1, u3, (upd (X8_frontSteeped b_h) x0.toNatClampNeg 1))

def f_X8_squeezeLemon (b_h : bX8) : Option (Int32 × Int32 × Int32) :=
  if 0 < (X8_lemons b_h) then
  some (1, (if ((X8_charge b_h) + 6) < 30 then ((X8_charge b_h) + 6) else 30), ((X8_lemons b_h) - 1)) else
  some (0, (X8_charge b_h), (X8_lemons b_h))

def f_X8_putSaucer (b_h : bX8) : Option (Int32 × Int32 × Int32) :=
  if 0 < (X8_saucers b_h) then
  some (1, (if 0 < ((X8_charge b_h) - 5) then ((X8_charge b_h) - 5) else 0), ((X8_saucers b_h) - 1)) else
  some (0, (X8_charge b_h), (X8_saucers b_h))

def f_X8_serveGuest (x0 : Int32) (b_h : bX8) (b_h_plan_guests : bX4) : Option (Int32 × Int32 × Int32 × (Nat → Int32)) :=
  (f_X8_wouldLike x0 (X8_strength b_h) b_h b_h_plan_guests).bind fun u1 =>
  if u1 = 0 then
  some (0, (X8_strength b_h), (X8_coins b_h), (X8_guestServed b_h)) else
  if x0 < 0 ∨ 10 ≤ x0.toNatClampNeg then none else
  some (1, (if 0 < ((X8_strength b_h) - 3) then ((X8_strength b_h) - 3) else 0), ((X8_coins b_h) + (X8_strength b_h)), (upd (X8_guestServed b_h) x0.toNatClampNeg 1))

def f_X8_follow (x0 : Nat) (x1 : Int32) (b_h : bX8) (b_h_plan_fronts : bX2) (b_h_plan_guests : bX4) : Option (Int32 × Int32 × Int32 × Int32 × Int32 × (Nat → Int32) × (Nat → Int32)) :=
  if x0 < 52 then
  if (smap x0) = 21 then
  (f_X8_steepFront x1 b_h b_h_plan_fronts).bind fun u3 =>
  some (u3.2.1, (X8_charge b_h), (X8_lemons b_h), (X8_saucers b_h), (X8_coins b_h), u3.2.2, (X8_guestServed b_h)) else
  if (smap x0) = 23 then
  (f_X8_serveGuest x1 b_h b_h_plan_guests).bind fun u5 =>
  some (u5.2.1, (X8_charge b_h), (X8_lemons b_h), (X8_saucers b_h), u5.2.2.1, (X8_frontSteeped b_h), u5.2.2.2) else
  if (smap x0) = 35 then
  (f_X8_squeezeLemon b_h).bind fun u7 =>
  some ((X8_strength b_h), u7.2.1, u7.2.2, (X8_saucers b_h), (X8_coins b_h), (X8_frontSteeped b_h), (X8_guestServed b_h)) else
  if (smap x0) = 36 then
  (f_X8_putSaucer b_h).bind fun u9 =>
  some ((X8_strength b_h), u9.2.1, (X8_lemons b_h), u9.2.2, (X8_coins b_h), (X8_frontSteeped b_h), (X8_guestServed b_h)) else
  some ((X8_strength b_h), (X8_charge b_h), (X8_lemons b_h), (X8_saucers b_h), (X8_coins b_h), (X8_frontSteeped b_h), (X8_guestServed b_h)) else none

def f_J6_compare_7cf53 (x0 : Int32) (x1 : Int32) : Option (Int32) :=
  if x1 ≤ x0 then
  if x0 = x1 then
  some 0 else
  some 1 else
  some (-1)

def f_X8_blow_R138 (n : Nat) (b_h : bX8) (b_h_plan_fronts : bX2) (v1 : Int32) (v2 : Int32) (w_h_warmth : Int32) (w_h_charge : Int32) : Option (Int32 × Int32) :=
  some (w_h_warmth, (if (w_h_charge + (if v2 < v1 then v2 else v1)) < 30 then (w_h_charge + (if v2 < v1 then v2 else v1)) else 30))
def f_X8_blow_R61 (n : Nat) (b_h : bX8) (b_h_plan_fronts : bX2) (v1 : Int32) (v2 : Int32) (v3 : Int32) (w_h_warmth : Int32) (w_h_charge : Int32) : Option ((Int32 × Int32 × Int32) ⊕ (Int32 × Int32)) :=
  (f_X8_hangsOver v3 ((X8_hour b_h), w_h_warmth, (X8_strength b_h), w_h_charge, (X8_lemons b_h), (X8_saucers b_h), (X8_coins b_h), (X8_storms b_h), (X8_frontSteeped b_h), (X8_guestServed b_h), (X8_guestStormed b_h)) b_h_plan_fronts).bind fun u6 =>
  if u6 = 0 then
  some (Sum.inl (v1, v2, (v3 + 1))) else
  if v3 < 0 ∨ 10 ≤ v3.toNatClampNeg then none else
  some (Sum.inl (v1, (v2 + ((X2_force b_h_plan_fronts) v3.toNatClampNeg)), (v3 + 1)))
def f_X8_blow_L6 (n : Nat) (b_h : bX8) (b_h_plan_fronts : bX2) (v1 : Int32) (v2 : Int32) (v3 : Int32) (w_h_warmth : Int32) (w_h_charge : Int32) : Option ((Int32 × Int32 × Int32) ⊕ (Int32 × Int32)) :=
  if (X2_count b_h_plan_fronts) ≤ v3 then
  if (v1 + v2) ≤ 0 then
  (f_J6_compare_7cf53 20 w_h_warmth).bind fun u3 =>
  (f_X8_blow_R138 n b_h b_h_plan_fronts v1 v2 (w_h_warmth + u3) w_h_charge).bind (fun x => some (Sum.inr x)) else
  (f_X8_blow_R138 n b_h b_h_plan_fronts v1 v2 (if 0 < (if ((w_h_warmth + v1) - v2) < 40 then ((w_h_warmth + v1) - v2) else 40) then (if ((w_h_warmth + v1) - v2) < 40 then ((w_h_warmth + v1) - v2) else 40) else 0) w_h_charge).bind (fun x => some (Sum.inr x)) else
  (f_X8_hangsOver v3 ((X8_hour b_h), w_h_warmth, (X8_strength b_h), w_h_charge, (X8_lemons b_h), (X8_saucers b_h), (X8_coins b_h), (X8_storms b_h), (X8_frontSteeped b_h), (X8_guestServed b_h), (X8_guestStormed b_h)) b_h_plan_fronts).bind fun u4 =>
  if u4 = 0 then
  f_X8_blow_R61 n b_h b_h_plan_fronts v1 v2 v3 w_h_warmth w_h_charge else
  if v3 < 0 ∨ 10 ≤ v3.toNatClampNeg then none else
  if ((X2_warm b_h_plan_fronts) v3.toNatClampNeg) = 0 then
  f_X8_blow_R61 n b_h b_h_plan_fronts v1 v2 v3 w_h_warmth w_h_charge else
  if v3 < 0 ∨ 10 ≤ v3.toNatClampNeg then none else
  some (Sum.inl ((v1 + ((X2_force b_h_plan_fronts) v3.toNatClampNeg)), v2, (v3 + 1)))
def f_X8_blow (n : Nat) (b_h : bX8) (b_h_plan_fronts : bX2) : Option (Int32 × Int32) :=
  iter (fun s : Int32 × Int32 × Int32 => f_X8_blow_L6 n b_h b_h_plan_fronts s.1 s.2.1 s.2.2 (X8_warmth b_h) (X8_charge b_h)) n (0, 0, 0)

def f_X8_storm_L2 (n : Nat) (b_h : bX8) (b_h_plan_guests : bX4) (v1 : Int32) (w_h_strength : Int32) (w_h_charge : Int32) (w_h_storms : Int32) (w_h_guestStormed : Nat → Int32) : Option ((Int32 × (Nat → Int32)) ⊕ (Int32 × Int32 × Int32 × (Nat → Int32))) :=
  if (X4_count b_h_plan_guests) ≤ v1 then
  some (Sum.inr ((w_h_strength / 2), (w_h_charge - 12), (w_h_storms + 1), w_h_guestStormed)) else
  (f_X8_sits v1 ((X8_hour b_h), (X8_warmth b_h), w_h_strength, w_h_charge, (X8_lemons b_h), (X8_saucers b_h), (X8_coins b_h), w_h_storms, (X8_frontSteeped b_h), (X8_guestServed b_h), w_h_guestStormed) b_h_plan_guests).bind fun u3 =>
  if u3 = 0 then
  some (Sum.inl ((v1 + 1), w_h_guestStormed)) else
  if v1 < 0 ∨ 10 ≤ v1.toNatClampNeg then none else
  if w_h_charge ≤ ((X4_nerve b_h_plan_guests) v1.toNatClampNeg) then
  some (Sum.inl ((v1 + 1), w_h_guestStormed)) else
  if v1 < 0 ∨ 10 ≤ v1.toNatClampNeg then none else
  some (Sum.inl ((v1 + 1), (upd w_h_guestStormed v1.toNatClampNeg 1)))
def f_X8_storm (n : Nat) (b_h : bX8) (b_h_plan_guests : bX4) : Option (Int32 × Int32 × Int32 × (Nat → Int32)) :=
  iter (fun s : Int32 × (Nat → Int32) => f_X8_storm_L2 n b_h b_h_plan_guests s.1 (X8_strength b_h) (X8_charge b_h) (X8_storms b_h) s.2) n (0, (X8_guestStormed b_h))

def f_X8_passHour_R86 (n : Nat) (b_h : bX8) (b_h_reckoner : bX9) (b_h_plan_fronts : bX2) (b_h_plan_guests : bX4) (b_h_plan_orders : bX6) (w_h_hour : Int32) (w_h_warmth : Int32) (w_h_strength : Int32) (w_h_charge : Int32) (w_h_lemons : Int32) (w_h_saucers : Int32) (w_h_coins : Int32) (w_h_storms : Int32) (w_h_frontSteeped : Nat → Int32) (w_h_guestServed : Nat → Int32) (w_h_guestStormed : Nat → Int32) (w_h_reckoner_stack : Nat → Int32) (w_h_reckoner_height : Int32) : Option (Int32 × Int32 × Int32 × Int32 × Int32 × Int32 × Int32 × Int32 × (Nat → Int32) × (Nat → Int32) × (Nat → Int32) × (Nat → Int32) × Int32) :=
  some ((w_h_hour + 1), w_h_warmth, w_h_strength, w_h_charge, w_h_lemons, w_h_saucers, w_h_coins, w_h_storms, w_h_frontSteeped, w_h_guestServed, w_h_guestStormed, w_h_reckoner_stack, w_h_reckoner_height)
def f_X8_passHour_L2 (n : Nat) (b_h : bX8) (b_h_reckoner : bX9) (b_h_plan_fronts : bX2) (b_h_plan_guests : bX4) (b_h_plan_orders : bX6) (v1 : Int32) (w_h_hour : Int32) (w_h_warmth : Int32) (w_h_strength : Int32) (w_h_charge : Int32) (w_h_lemons : Int32) (w_h_saucers : Int32) (w_h_coins : Int32) (w_h_storms : Int32) (w_h_frontSteeped : Nat → Int32) (w_h_guestServed : Nat → Int32) (w_h_guestStormed : Nat → Int32) (w_h_reckoner_stack : Nat → Int32) (w_h_reckoner_height : Int32) : Option ((Int32 × Int32 × Int32 × Int32 × Int32 × Int32 × (Nat → Int32) × (Nat → Int32) × (Nat → Int32) × Int32) ⊕ (Int32 × Int32 × Int32 × Int32 × Int32 × Int32 × Int32 × Int32 × (Nat → Int32) × (Nat → Int32) × (Nat → Int32) × (Nat → Int32) × Int32)) :=
  if (X6_count b_h_plan_orders) ≤ v1 then
  (f_X8_blow n (w_h_hour, w_h_warmth, w_h_strength, w_h_charge, w_h_lemons, w_h_saucers, w_h_coins, w_h_storms, w_h_frontSteeped, w_h_guestServed, w_h_guestStormed) b_h_plan_fronts).bind fun u2 =>
  if u2.2 < (12 : Int32) then
  (f_X8_passHour_R86 n b_h b_h_reckoner b_h_plan_fronts b_h_plan_guests b_h_plan_orders w_h_hour u2.1 w_h_strength u2.2 w_h_lemons w_h_saucers w_h_coins w_h_storms w_h_frontSteeped w_h_guestServed w_h_guestStormed w_h_reckoner_stack w_h_reckoner_height).bind (fun x => some (Sum.inr x)) else
  (f_X8_storm n (w_h_hour, u2.1, w_h_strength, u2.2, w_h_lemons, w_h_saucers, w_h_coins, w_h_storms, w_h_frontSteeped, w_h_guestServed, w_h_guestStormed) b_h_plan_guests).bind fun u4 =>
  (f_X8_passHour_R86 n b_h b_h_reckoner b_h_plan_fronts b_h_plan_guests b_h_plan_orders w_h_hour u2.1 u4.1 u4.2.1 w_h_lemons w_h_saucers w_h_coins u4.2.2.1 w_h_frontSteeped w_h_guestServed u4.2.2.2 w_h_reckoner_stack w_h_reckoner_height).bind (fun x => some (Sum.inr x)) else
  (f_X9_holds n v1 (w_h_reckoner_stack, w_h_reckoner_height) b_h_plan_orders (w_h_hour, w_h_warmth, w_h_strength, w_h_charge, w_h_lemons, w_h_saucers, w_h_coins, w_h_storms, w_h_frontSteeped, w_h_guestServed, w_h_guestStormed) b_h_plan_fronts b_h_plan_guests).bind fun u5 =>
  if u5.1 = 0 then
  some (Sum.inl ((v1 + 1), w_h_strength, w_h_charge, w_h_lemons, w_h_saucers, w_h_coins, w_h_frontSteeped, w_h_guestServed, u5.2.1, u5.2.2)) else
  if v1 < 0 ∨ 16 ≤ v1.toNatClampNeg then none else
  if v1 < 0 ∨ 16 ≤ v1.toNatClampNeg then none else
  (f_X8_follow ((X6_deeds b_h_plan_orders) v1.toNatClampNeg) ((X6_targets b_h_plan_orders) v1.toNatClampNeg) (w_h_hour, w_h_warmth, w_h_strength, w_h_charge, w_h_lemons, w_h_saucers, w_h_coins, w_h_storms, w_h_frontSteeped, w_h_guestServed, w_h_guestStormed) b_h_plan_fronts b_h_plan_guests).bind fun u9 =>
  some (Sum.inl ((v1 + 1), u9.1, u9.2.1, u9.2.2.1, u9.2.2.2.1, u9.2.2.2.2.1, u9.2.2.2.2.2.1, u9.2.2.2.2.2.2, u5.2.1, u5.2.2))
def f_X8_passHour (n : Nat) (b_h : bX8) (b_h_reckoner : bX9) (b_h_plan_fronts : bX2) (b_h_plan_guests : bX4) (b_h_plan_orders : bX6) : Option (Int32 × Int32 × Int32 × Int32 × Int32 × Int32 × Int32 × Int32 × (Nat → Int32) × (Nat → Int32) × (Nat → Int32) × (Nat → Int32) × Int32) :=
  iter (fun s : Int32 × Int32 × Int32 × Int32 × Int32 × Int32 × (Nat → Int32) × (Nat → Int32) × (Nat → Int32) × Int32 => f_X8_passHour_L2 n b_h b_h_reckoner b_h_plan_fronts b_h_plan_guests b_h_plan_orders s.1 (X8_hour b_h) (X8_warmth b_h) s.2.1 s.2.2.1 s.2.2.2.1 s.2.2.2.2.1 s.2.2.2.2.2.1 (X8_storms b_h) s.2.2.2.2.2.2.1 s.2.2.2.2.2.2.2.1 (X8_guestStormed b_h) s.2.2.2.2.2.2.2.2.1 s.2.2.2.2.2.2.2.2.2) n (0, (X8_strength b_h), (X8_charge b_h), (X8_lemons b_h), (X8_saucers b_h), (X8_coins b_h), (X8_frontSteeped b_h), (X8_guestServed b_h), (X9_stack b_h_reckoner), (X9_height b_h_reckoner))

def f_X12_hoursUntilStorm_L13 (n : Nat) (b_h : bX12) (b_h_pot : bX8) (b_h_pot_plan_fronts : bX2) (b_h_pot_plan_guests : bX4) (b_h_pot_plan_orders : bX6) (b_h_trial : bX8) (b_h_trial_reckoner : bX9) (v1 : Int32) (w_h_trial_hour : Int32) (w_h_trial_warmth : Int32) (w_h_trial_strength : Int32) (w_h_trial_charge : Int32) (w_h_trial_lemons : Int32) (w_h_trial_saucers : Int32) (w_h_trial_coins : Int32) (w_h_trial_storms : Int32) (w_h_trial_frontSteeped : Nat → Int32) (w_h_trial_guestServed : Nat → Int32) (w_h_trial_guestStormed : Nat → Int32) (w_h_trial_reckoner_stack : Nat → Int32) (w_h_trial_reckoner_height : Int32) : Option ((Int32 × Int32 × Int32 × Int32 × Int32 × Int32 × Int32 × Int32 × Int32 × (Nat → Int32) × (Nat → Int32) × (Nat → Int32) × (Nat → Int32) × Int32) ⊕ (Int32 × Int32 × Int32 × Int32 × Int32 × Int32 × Int32 × Int32 × Int32 × (Nat → Int32) × (Nat → Int32) × (Nat → Int32) × (Nat → Int32) × Int32)) :=
  if (60 : Int32) < v1 then
  some (Sum.inr ((-1), w_h_trial_hour, w_h_trial_warmth, w_h_trial_strength, w_h_trial_charge, w_h_trial_lemons, w_h_trial_saucers, w_h_trial_coins, w_h_trial_storms, w_h_trial_frontSteeped, w_h_trial_guestServed, w_h_trial_guestStormed, w_h_trial_reckoner_stack, w_h_trial_reckoner_height)) else
  (f_X8_passHour n (w_h_trial_hour, w_h_trial_warmth, w_h_trial_strength, w_h_trial_charge, w_h_trial_lemons, w_h_trial_saucers, w_h_trial_coins, w_h_trial_storms, w_h_trial_frontSteeped, w_h_trial_guestServed, w_h_trial_guestStormed) (w_h_trial_reckoner_stack, w_h_trial_reckoner_height) b_h_pot_plan_fronts b_h_pot_plan_guests b_h_pot_plan_orders).bind fun u3 =>
  if u3.2.2.2.2.2.2.2.1 ≤ (X8_storms b_h_pot) then
  some (Sum.inl ((v1 + 1), u3.1, u3.2.1, u3.2.2.1, u3.2.2.2.1, u3.2.2.2.2.1, u3.2.2.2.2.2.1, u3.2.2.2.2.2.2.1, u3.2.2.2.2.2.2.2.1, u3.2.2.2.2.2.2.2.2.1, u3.2.2.2.2.2.2.2.2.2.1, u3.2.2.2.2.2.2.2.2.2.2.1, u3.2.2.2.2.2.2.2.2.2.2.2.1, u3.2.2.2.2.2.2.2.2.2.2.2.2)) else
  some (Sum.inr (v1, u3.1, u3.2.1, u3.2.2.1, u3.2.2.2.1, u3.2.2.2.2.1, u3.2.2.2.2.2.1, u3.2.2.2.2.2.2.1, u3.2.2.2.2.2.2.2.1, u3.2.2.2.2.2.2.2.2.1, u3.2.2.2.2.2.2.2.2.2.1, u3.2.2.2.2.2.2.2.2.2.2.1, u3.2.2.2.2.2.2.2.2.2.2.2.1, u3.2.2.2.2.2.2.2.2.2.2.2.2))
def f_X12_hoursUntilStorm (n : Nat) (b_h : bX12) (b_h_pot : bX8) (b_h_pot_plan_fronts : bX2) (b_h_pot_plan_guests : bX4) (b_h_pot_plan_orders : bX6) (b_h_trial : bX8) (b_h_trial_reckoner : bX9) : Option (Int32 × Int32 × Int32 × Int32 × Int32 × Int32 × Int32 × Int32 × Int32 × (Nat → Int32) × (Nat → Int32) × (Nat → Int32) × (Nat → Int32) × Int32) :=
  (f_X8_copyFrom n b_h_trial b_h_pot).bind fun u1 =>
  iter (fun s : Int32 × Int32 × Int32 × Int32 × Int32 × Int32 × Int32 × Int32 × Int32 × (Nat → Int32) × (Nat → Int32) × (Nat → Int32) × (Nat → Int32) × Int32 => f_X12_hoursUntilStorm_L13 n b_h b_h_pot b_h_pot_plan_fronts b_h_pot_plan_guests b_h_pot_plan_orders b_h_trial b_h_trial_reckoner s.1 s.2.1 s.2.2.1 s.2.2.2.1 s.2.2.2.2.1 s.2.2.2.2.2.1 s.2.2.2.2.2.2.1 s.2.2.2.2.2.2.2.1 s.2.2.2.2.2.2.2.2.1 s.2.2.2.2.2.2.2.2.2.1 s.2.2.2.2.2.2.2.2.2.2.1 s.2.2.2.2.2.2.2.2.2.2.2.1 s.2.2.2.2.2.2.2.2.2.2.2.2.1 s.2.2.2.2.2.2.2.2.2.2.2.2.2) n (1, u1.1, u1.2.1, u1.2.2.1, u1.2.2.2.1, u1.2.2.2.2.1, u1.2.2.2.2.2.1, u1.2.2.2.2.2.2.1, u1.2.2.2.2.2.2.2.1, u1.2.2.2.2.2.2.2.2.1, u1.2.2.2.2.2.2.2.2.2.1, u1.2.2.2.2.2.2.2.2.2.2, (X9_stack b_h_trial_reckoner), (X9_height b_h_trial_reckoner))

def f_X12_meanForce_L6 (n : Nat) (b_h : bX12) (b_h_pot : bX8) (b_h_pot_plan_fronts : bX2) (v1 : Int32) (v2 : Int32) (v3 : Int32) : Option ((Int32 × Int32 × Int32) ⊕ (UInt64)) :=
  if (X2_count b_h_pot_plan_fronts) ≤ v3 then
  if v2 = 0 then
  some (Sum.inr 0) else
  if (FP.ddiv (FP.i2d v1) (FP.i2d v2)) &&& 0x7fffffffffffffff ≤ 0x7ff0000000000000 then
  some (Sum.inr (FP.ddiv (FP.i2d v1) (FP.i2d v2))) else none else
  (f_X8_hangsOver v3 b_h_pot b_h_pot_plan_fronts).bind fun u4 =>
  if u4 = 0 then
  some (Sum.inl (v1, v2, (v3 + 1))) else
  if v3 < 0 ∨ 10 ≤ v3.toNatClampNeg then none else
  some (Sum.inl ((v1 + ((X2_force b_h_pot_plan_fronts) v3.toNatClampNeg)), (v2 + 1), (v3 + 1)))
def f_X12_meanForce (n : Nat) (b_h : bX12) (b_h_pot : bX8) (b_h_pot_plan_fronts : bX2) : Option (UInt64) :=
  iter (fun s : Int32 × Int32 × Int32 => f_X12_meanForce_L6 n b_h b_h_pot b_h_pot_plan_fronts s.1 s.2.1 s.2.2) n (0, 0, 0)

def f_X13_copy (m_a0 : Nat) (f_a0 : Nat → Int32) (m_a1 : Nat) (f_a1 : Nat → Int32) : Option ((Nat → Int32)) :=
  if ¬ (Int32.ofNat m_a1) < 0 ∧ (Int32.ofNat m_a1).toNatClampNeg ≤ m_a0 ∧ (Int32.ofNat m_a1).toNatClampNeg ≤ m_a1 then
  some (va_cpy f_a0 f_a1 0 0 (Int32.ofNat m_a1).toNatClampNeg) else none

def f_X13_become (b_h : bX13) (b_a0 : bX13) : Option (Int32 × (Nat → Int32) × (Nat → Int32) × (Nat → Int32) × (Nat → Int32) × Int32 × (Nat → Int32) × (Nat → Int32) × (Nat → Int32) × (Nat → Int32) × Int32 × (Nat → Int32) × (Nat → Int32) × (Nat → Int32) × (Nat → Int32) × (Nat → Int32) × Int32 × (Nat → Int32) × (Nat → Int32) × (Nat → Int32)) :=
  (f_X13_copy 11 (X13_warm b_a0) 11 (X13_warm b_h)).bind fun u1 =>
  (f_X13_copy 11 (X13_force b_a0) 11 (X13_force b_h)).bind fun u2 =>
  (f_X13_copy 11 (X13_comes b_a0) 11 (X13_comes b_h)).bind fun u3 =>
  (f_X13_copy 11 (X13_stays b_a0) 11 (X13_stays b_h)).bind fun u4 =>
  (f_X13_copy 11 (X13_sits b_a0) 11 (X13_sits b_h)).bind fun u5 =>
  (f_X13_copy 11 (X13_low b_a0) 11 (X13_low b_h)).bind fun u6 =>
  (f_X13_copy 11 (X13_high b_a0) 11 (X13_high b_h)).bind fun u7 =>
  (f_X13_copy 11 (X13_nerve b_a0) 11 (X13_nerve b_h)).bind fun u8 =>
  (f_X13_copy 17 (X13_does b_a0) 17 (X13_does b_h)).bind fun u9 =>
  (f_X13_copy 17 (X13_whom b_a0) 17 (X13_whom b_h)).bind fun u10 =>
  (f_X13_copy 17 (X13_from b_a0) 17 (X13_from b_h)).bind fun u11 =>
  (f_X13_copy 17 (X13_to b_a0) 17 (X13_to b_h)).bind fun u12 =>
  (f_X13_copy 17 (X13_test b_a0) 17 (X13_test b_h)).bind fun u13 =>
  (f_X13_copy 800 (X13_sort b_a0) 800 (X13_sort b_h)).bind fun u14 =>
  (f_X13_copy 800 (X13_left b_a0) 800 (X13_left b_h)).bind fun u15 =>
  (f_X13_copy 800 (X13_right b_a0) 800 (X13_right b_h)).bind fun u16 =>
  some ((X13_fronts b_a0), u1, u2, u3, u4, (X13_guests b_a0), u5, u6, u7, u8, (X13_orders b_a0), u9, u10, u11, u12, u13, (X13_nodes b_a0), u14, u15, u16)

def f_X13_begin (b_h : bX13) : Option (Int32 × Int32 × Int32 × Int32) :=
  some (0, 0, 0, 0)

def f_X14_come_L49 (n : Nat) (b_h : bX14) (b_h_told : bX13) (v1 : Int32) (w_h_now : Nat → Int32) : Option ((Int32 × (Nat → Int32)) ⊕ ((Nat → Int32))) :=
  if (X13_guests b_h_told) ≤ v1 then
  some (Sum.inr w_h_now) else
  if v1 < 0 ∨ 11 ≤ v1.toNatClampNeg then none else
  if (0 : Int32) < 0 ∨ 58 ≤ (0 : Int32).toNatClampNeg then none else
  if ((X13_sits b_h_told) v1.toNatClampNeg) = (w_h_now (0 : Int32).toNatClampNeg) then
  if (28 + v1) < 0 ∨ 58 ≤ (28 + v1).toNatClampNeg then none else
  some (Sum.inl ((v1 + 1), (upd w_h_now (28 + v1).toNatClampNeg 1))) else
  some (Sum.inl ((v1 + 1), w_h_now))
def f_X14_come_L2 (n : Nat) (b_h : bX14) (b_h_told : bX13) (v1 : Int32) (w_h_now : Nat → Int32) : Option ((Int32 × (Nat → Int32)) ⊕ ((Nat → Int32))) :=
  if (X13_fronts b_h_told) ≤ v1 then
  (iter (fun s : Int32 × (Nat → Int32) => f_X14_come_L49 n b_h b_h_told s.1 s.2) n (0, w_h_now)).bind (fun x => some (Sum.inr x)) else
  if v1 < 0 ∨ 11 ≤ v1.toNatClampNeg then none else
  if (0 : Int32) < 0 ∨ 58 ≤ (0 : Int32).toNatClampNeg then none else
  if ((X13_comes b_h_told) v1.toNatClampNeg) = (w_h_now (0 : Int32).toNatClampNeg) then
  if (8 + v1) < 0 ∨ 58 ≤ (8 + v1).toNatClampNeg then none else
  some (Sum.inl ((v1 + 1), (upd w_h_now (8 + v1).toNatClampNeg 1))) else
  some (Sum.inl ((v1 + 1), w_h_now))
def f_X14_come (n : Nat) (b_h : bX14) (b_h_told : bX13) : Option ((Nat → Int32)) :=
  iter (fun s : Int32 × (Nat → Int32) => f_X14_come_L2 n b_h b_h_told s.1 s.2) n (0, (X14_now b_h))

def f_X14_anew_L2 (n : Nat) (b_h : bX14) (b_h_told : bX13) (v1 : Int32) (w_h_now : Nat → Int32) : Option ((Int32 × (Nat → Int32)) ⊕ ((Nat → Int32))) :=
  if (58 : Int32) ≤ v1 then
  if (1 : Int32) < 0 ∨ 58 ≤ (1 : Int32).toNatClampNeg then none else
  if (4 : Int32) < 0 ∨ 58 ≤ (4 : Int32).toNatClampNeg then none else
  if (5 : Int32) < 0 ∨ 58 ≤ (5 : Int32).toNatClampNeg then none else
  (f_X14_come n ((X14_thrown b_h), (X14_tape b_h), (X14_bytes b_h), (X14_errorAt b_h), (X14_kind b_h), (X14_number b_h), (X14_position b_h), (X14_length b_h), (X14_token b_h), (X14_isWrong b_h), (X14_error b_h), (X14_errorToken b_h), (X14_deep b_h), (X14_frontName b_h), (X14_guestName b_h), (X14_value b_h), (upd (upd (upd w_h_now (1 : Int32).toNatClampNeg 20) (4 : Int32).toNatClampNeg 3) (5 : Int32).toNatClampNeg 3), (X14_kept b_h)) b_h_told).bind fun u5 =>
  some (Sum.inr u5) else
  if v1 < 0 ∨ 58 ≤ v1.toNatClampNeg then none else
  some (Sum.inl ((v1 + 1), (upd w_h_now v1.toNatClampNeg 0)))
def f_X14_anew (n : Nat) (b_h : bX14) (b_h_told : bX13) : Option ((Nat → Int32)) :=
  iter (fun s : Int32 × (Nat → Int32) => f_X14_anew_L2 n b_h b_h_told s.1 s.2) n (0, (X14_now b_h))

def f_X14_canSteep (x0 : Int32) (b_h : bX14) : Option (Int32) :=
  if (8 + x0) < 0 ∨ 58 ≤ (8 + x0).toNatClampNeg then none else
  if ((X14_now b_h) (8 + x0).toNatClampNeg) = (1 : Int32) then
  some 1 else
  some 0

def f_X14_isIn (x0 : Int32) (x1 : Int32) (x2 : Int32) : Option (Int32) :=
  if x0 < x1 then
  some 0 else
  if x2 < x0 then
  some 0 else
  some 1

def f_X14_likes (x0 : Int32) (b_h : bX14) (b_h_told : bX13) : Option (Int32) :=
  if (28 + x0) < 0 ∨ 58 ≤ (28 + x0).toNatClampNeg then none else
  if ((X14_now b_h) (28 + x0).toNatClampNeg) = (1 : Int32) then
  if (2 : Int32) < 0 ∨ 58 ≤ (2 : Int32).toNatClampNeg then none else
  if x0 < 0 ∨ 11 ≤ x0.toNatClampNeg then none else
  if x0 < 0 ∨ 11 ≤ x0.toNatClampNeg then none else
  (f_X14_isIn ((X14_now b_h) (2 : Int32).toNatClampNeg) ((X13_low b_h_told) x0.toNatClampNeg) ((X13_high b_h_told) x0.toNatClampNeg)).bind fun u6 =>
  if u6 = 0 then
  some 0 else
  if (1 : Int32) < 0 ∨ 58 ≤ (1 : Int32).toNatClampNeg then none else
  if ((X14_now b_h) (1 : Int32).toNatClampNeg) < (15 : Int32) then
  some 0 else
  some 1 else
  some 0

def f_X14_best_R125 (n : Nat) (b_h : bX14) (b_h_told : bX13) (v3 : Int32) (v4 : Int32) (v5 : Int32) (w_h_now : Nat → Int32) : Option ((Int32 × Int32 × Int32 × (Nat → Int32)) ⊕ (Int32 × (Nat → Int32))) :=
  some (Sum.inl (v4, v5, (v4 + 1), w_h_now))
def f_X14_best_L67 (n : Nat) (b_h : bX14) (b_h_told : bX13) (v1 : Int32) (v2 : Int32) (v3 : Int32) (v4 : Int32) (v5 : Int32) (v6 : Int32) (w_h_now : Nat → Int32) : Option ((Int32 × Int32) ⊕ ((Int32 × Int32 × Int32 × (Nat → Int32)) ⊕ (Int32 × (Nat → Int32)))) :=
  if (X13_guests b_h_told) ≤ v6 then
  if (2 : Int32) < 0 ∨ 58 ≤ (2 : Int32).toNatClampNeg then none else
  if v1 = (-1 : Int32) then
  (f_X14_best_R125 n b_h b_h_told v3 v4 v5 (upd w_h_now (2 : Int32).toNatClampNeg v3)).bind (fun x => some (Sum.inr x)) else
  if v2 < v5 then
  (f_X14_best_R125 n b_h b_h_told v3 v4 v5 (upd w_h_now (2 : Int32).toNatClampNeg v3)).bind (fun x => some (Sum.inr x)) else
  some (Sum.inr (Sum.inl (v1, v2, (v4 + 1), (upd w_h_now (2 : Int32).toNatClampNeg v3)))) else
  (f_X14_likes v6 ((X14_thrown b_h), (X14_tape b_h), (X14_bytes b_h), (X14_errorAt b_h), (X14_kind b_h), (X14_number b_h), (X14_position b_h), (X14_length b_h), (X14_token b_h), (X14_isWrong b_h), (X14_error b_h), (X14_errorToken b_h), (X14_deep b_h), (X14_frontName b_h), (X14_guestName b_h), (X14_value b_h), w_h_now, (X14_kept b_h)) b_h_told).bind fun u11 =>
  if u11 = 0 then
  some (Sum.inl ((v5 + 0), (v6 + 1))) else
  some (Sum.inl ((v5 + 1), (v6 + 1)))
def f_X14_best_L14 (n : Nat) (b_h : bX14) (b_h_told : bX13) (v1 : Int32) (v2 : Int32) (v3 : Int32) (v4 : Int32) (w_h_now : Nat → Int32) : Option ((Int32 × Int32 × Int32 × (Nat → Int32)) ⊕ (Int32 × (Nat → Int32))) :=
  if (X13_fronts b_h_told) ≤ v4 then
  some (Sum.inr (v1, w_h_now)) else
  (f_X14_canSteep v4 ((X14_thrown b_h), (X14_tape b_h), (X14_bytes b_h), (X14_errorAt b_h), (X14_kind b_h), (X14_number b_h), (X14_position b_h), (X14_length b_h), (X14_token b_h), (X14_isWrong b_h), (X14_error b_h), (X14_errorToken b_h), (X14_deep b_h), (X14_frontName b_h), (X14_guestName b_h), (X14_value b_h), w_h_now, (X14_kept b_h))).bind fun u3 =>
  if u3 = 0 then
  some (Sum.inl (v1, v2, (v4 + 1), w_h_now)) else
  if v4 < 0 ∨ 11 ≤ v4.toNatClampNeg then none else
  if (2 : Int32) < 0 ∨ 58 ≤ (2 : Int32).toNatClampNeg then none else
  iter (fun s : Int32 × Int32 => f_X14_best_L67 n b_h b_h_told v1 v2 v3 v4 s.1 s.2 (upd w_h_now (2 : Int32).toNatClampNeg (if (v3 + ((X13_force b_h_told) v4.toNatClampNeg)) < 30 then (v3 + ((X13_force b_h_told) v4.toNatClampNeg)) else 30))) n (0, 0)
def f_X14_best (n : Nat) (b_h : bX14) (b_h_told : bX13) : Option (Int32 × (Nat → Int32)) :=
  if (2 : Int32) < 0 ∨ 58 ≤ (2 : Int32).toNatClampNeg then none else
  iter (fun s : Int32 × Int32 × Int32 × (Nat → Int32) => f_X14_best_L14 n b_h b_h_told s.1 s.2.1 ((X14_now b_h) (2 : Int32).toNatClampNeg) s.2.2.1 s.2.2.2) n ((-1), 0, 0, (X14_now b_h))

def f_X14_ok (x0 : Int32) (b_h : bX14) : Option (Int32 × Int32) :=
  some (x0, 0)

def f_X14_bestToSteep (n : Nat) (b_h : bX14) (b_h_told : bX13) : Option (Int32 × Int32 × (Nat → Int32)) :=
  (f_X14_best n b_h b_h_told).bind fun u1 =>
  (f_X14_ok u1.1 ((X14_thrown b_h), (X14_tape b_h), (X14_bytes b_h), (X14_errorAt b_h), (X14_kind b_h), (X14_number b_h), (X14_position b_h), (X14_length b_h), (X14_token b_h), (X14_isWrong b_h), (X14_error b_h), (X14_errorToken b_h), (X14_deep b_h), (X14_frontName b_h), (X14_guestName b_h), (X14_value b_h), u1.2, (X14_kept b_h))).bind fun u2 =>
  some (u2.1, u2.2, u1.2)

def f_X14_is (x0 : Int32) (b_h : bX14) : Option (Int32) :=
  if (X14_isWrong b_h) = 0 then
  if (X14_token b_h) < 0 ∨ 402 ≤ (X14_token b_h).toNatClampNeg then none else
  if ((X14_kind b_h) (X14_token b_h).toNatClampNeg) = x0 then
  some 1 else
  some 0 else
  some 0

def f_X14_takes (x0 : Int32) (b_h : bX14) : Option (Int32 × Int32) :=
  (f_X14_is x0 b_h).bind fun u1 =>
  if u1 = 0 then
  some (0, (X14_token b_h)) else
  some (1, ((X14_token b_h) + 1))

def f_X14_node (x0 : Int32) (x1 : Int32) (x2 : Int32) (b_h : bX14) (b_h_fresh : bX13) : Option (Int32 × Int32 × (Nat → Int32) × (Nat → Int32) × (Nat → Int32)) :=
  if (X13_nodes b_h_fresh) < 0 ∨ 800 ≤ (X13_nodes b_h_fresh).toNatClampNeg then none else
  if (X13_nodes b_h_fresh) < 0 ∨ 800 ≤ (X13_nodes b_h_fresh).toNatClampNeg then none else
  if (X13_nodes b_h_fresh) < 0 ∨ 800 ≤ (X13_nodes b_h_fresh).toNatClampNeg then none else
  some ((X13_nodes b_h_fresh), ((X13_nodes b_h_fresh) + 1), (upd (X13_sort b_h_fresh) (X13_nodes b_h_fresh).toNatClampNeg x0), (upd (X13_left b_h_fresh) (X13_nodes b_h_fresh).toNatClampNeg x1), (upd (X13_right b_h_fresh) (X13_nodes b_h_fresh).toNatClampNeg x2))

def f_X14_wrong (b_h : bX14) : Option (Int32 × Int32 × Int32) :=
  if (X14_isWrong b_h) = 0 then
  some (1, 1, (X14_token b_h)) else
  some ((X14_isWrong b_h), (X14_error b_h), (X14_errorToken b_h))

def f_X14_deeper_R26 (b_h : bX14) (w_h_token : Int32) (w_h_isWrong : Int32) (w_h_error : Int32) (w_h_errorToken : Int32) (w_h_deep : Int32) : Option (Int32 × Int32 × Int32 × Int32 × Int32) :=
  some (w_h_token, w_h_isWrong, w_h_error, w_h_errorToken, (w_h_deep + 1))
def f_X14_deeper (b_h : bX14) : Option (Int32 × Int32 × Int32 × Int32 × Int32) :=
  if (X14_deep b_h) = (8 : Int32) then
  (f_X14_wrong b_h).bind fun u2 =>
  f_X14_deeper_R26 b_h (X14_token b_h) u2.1 u2.2.1 u2.2.2 (X14_deep b_h) else
  f_X14_deeper_R26 b_h ((X14_token b_h) + 1) (X14_isWrong b_h) (X14_error b_h) (X14_errorToken b_h) (X14_deep b_h)

def f_X14_take (x0 : Int32) (b_h : bX14) : Option (Int32 × Int32 × Int32 × Int32) :=
  (f_X14_is x0 b_h).bind fun u1 =>
  if u1 = 0 then
  (f_X14_wrong b_h).bind fun u3 =>
  some ((X14_token b_h), u3.1, u3.2.1, u3.2.2) else
  some (((X14_token b_h) + 1), (X14_isWrong b_h), (X14_error b_h), (X14_errorToken b_h))

def f_X14_isSameName_L19 (n : Nat) (x0 : Int32) (x1 : Int32) (b_h : bX14) (v1 : Int32) (v2 : Int32) (v3 : Int32) : Option ((Int32) ⊕ (Int32)) :=
  if v1 < 0 ∨ 402 ≤ v1.toNatClampNeg then none else
  if ((X14_length b_h) v1.toNatClampNeg) ≤ v3 then
  some (Sum.inr 1) else
  if v1 < 0 ∨ 402 ≤ v1.toNatClampNeg then none else
  if (((X14_position b_h) v1.toNatClampNeg) + v3) < 0 ∨ 2000 ≤ (((X14_position b_h) v1.toNatClampNeg) + v3).toNatClampNeg then none else
  if v2 < 0 ∨ 402 ≤ v2.toNatClampNeg then none else
  if (((X14_position b_h) v2.toNatClampNeg) + v3) < 0 ∨ 2000 ≤ (((X14_position b_h) v2.toNatClampNeg) + v3).toNatClampNeg then none else
  if ((X14_tape b_h) (((X14_position b_h) v1.toNatClampNeg) + v3).toNatClampNeg) = ((X14_tape b_h) (((X14_position b_h) v2.toNatClampNeg) + v3).toNatClampNeg) then
  some (Sum.inl (v3 + 1)) else
  some (Sum.inr 0)
def f_X14_isSameName (n : Nat) (x0 : Int32) (x1 : Int32) (b_h : bX14) : Option (Int32) :=
  if x0 < 0 ∨ 402 ≤ x0.toNatClampNeg then none else
  if x1 < 0 ∨ 402 ≤ x1.toNatClampNeg then none else
  if ((X14_length b_h) x0.toNatClampNeg) = ((X14_length b_h) x1.toNatClampNeg) then
  iter (fun s : Int32 => f_X14_isSameName_L19 n x0 x1 b_h x0 x1 s) n 0 else
  some 0

def f_X14_known_L2 (n : Nat) (x1 : Int32) (b_h : bX14) (m_a0 : Nat) (f_a0 : Nat → Int32) (v2 : Int32) (v3 : Int32) : Option ((Int32) ⊕ (Int32)) :=
  if v2 ≤ v3 then
  some (Sum.inr (-1)) else
  if v3 < 0 ∨ m_a0 ≤ v3.toNatClampNeg then none else
  (f_X14_isSameName n (f_a0 v3.toNatClampNeg) (X14_token b_h) b_h).bind fun u3 =>
  if u3 = 0 then
  some (Sum.inl (v3 + 1)) else
  some (Sum.inr v3)
def f_X14_known (n : Nat) (x1 : Int32) (b_h : bX14) (m_a0 : Nat) (f_a0 : Nat → Int32) : Option (Int32) :=
  iter (fun s : Int32 => f_X14_known_L2 n x1 b_h m_a0 f_a0 x1 s) n 0

def f_X14_mark (x0 : Int32) (b_h : bX14) : Option (Int32 × Int32) :=
  if (X14_isWrong b_h) = 0 then
  if (X14_error b_h) = 0 then
  some (x0, (X14_token b_h)) else
  some ((X14_error b_h), (X14_errorToken b_h)) else
  some ((X14_error b_h), (X14_errorToken b_h))

def f_X14_name_R30 (n : Nat) (x1 : Int32) (b_h : bX14) (m_a0 : Nat) (f_a0 : Nat → Int32) (v3 : Int32) (w_h_token : Int32) (w_h_isWrong : Int32) (w_h_error : Int32) (w_h_errorToken : Int32) : Option (Int32 × Int32 × Int32 × Int32 × Int32) :=
  (f_X14_take 40 ((X14_thrown b_h), (X14_tape b_h), (X14_bytes b_h), (X14_errorAt b_h), (X14_kind b_h), (X14_number b_h), (X14_position b_h), (X14_length b_h), w_h_token, w_h_isWrong, w_h_error, w_h_errorToken, (X14_deep b_h), (X14_frontName b_h), (X14_guestName b_h), (X14_value b_h), (X14_now b_h), (X14_kept b_h))).bind fun u4 =>
  some ((if 0 < v3 then v3 else 0), u4.1, u4.2.1, u4.2.2.1, u4.2.2.2)
def f_X14_name_R19 (n : Nat) (x1 : Int32) (b_h : bX14) (m_a0 : Nat) (f_a0 : Nat → Int32) (w_h_token : Int32) (w_h_isWrong : Int32) (w_h_error : Int32) (w_h_errorToken : Int32) (t0 : Int32) : Option (Int32 × Int32 × Int32 × Int32 × Int32) :=
  if t0 = (-1 : Int32) then
  (f_X14_mark 3 ((X14_thrown b_h), (X14_tape b_h), (X14_bytes b_h), (X14_errorAt b_h), (X14_kind b_h), (X14_number b_h), (X14_position b_h), (X14_length b_h), w_h_token, w_h_isWrong, w_h_error, w_h_errorToken, (X14_deep b_h), (X14_frontName b_h), (X14_guestName b_h), (X14_value b_h), (X14_now b_h), (X14_kept b_h))).bind fun u5 =>
  f_X14_name_R30 n x1 b_h m_a0 f_a0 t0 w_h_token w_h_isWrong u5.1 u5.2 else
  f_X14_name_R30 n x1 b_h m_a0 f_a0 t0 w_h_token w_h_isWrong w_h_error w_h_errorToken
def f_X14_name (n : Nat) (x1 : Int32) (b_h : bX14) (m_a0 : Nat) (f_a0 : Nat → Int32) : Option (Int32 × Int32 × Int32 × Int32 × Int32) :=
  (f_X14_is 40 b_h).bind fun u1 =>
  if u1 = 0 then
  f_X14_name_R19 n x1 b_h m_a0 f_a0 (X14_token b_h) (X14_isWrong b_h) (X14_error b_h) (X14_errorToken b_h) 0 else
  (f_X14_known n x1 b_h m_a0 f_a0).bind fun u6 =>
  f_X14_name_R19 n x1 b_h m_a0 f_a0 (X14_token b_h) (X14_isWrong b_h) (X14_error b_h) (X14_errorToken b_h) u6

def f_X14_front (n : Nat) (b_h : bX14) (b_h_fresh : bX13) : Option (Int32 × Int32 × Int32 × Int32 × Int32) :=
  (f_X14_name n (X13_fronts b_h_fresh) b_h 10 (X14_frontName b_h)).bind fun u1 =>
  some (u1.1, u1.2.1, u1.2.2.1, u1.2.2.2.1, u1.2.2.2.2)

def f_X14_guest (n : Nat) (b_h : bX14) (b_h_fresh : bX13) : Option (Int32 × Int32 × Int32 × Int32 × Int32) :=
  (f_X14_name n (X13_guests b_h_fresh) b_h 10 (X14_guestName b_h)).bind fun u1 =>
  some (u1.1, u1.2.1, u1.2.2.1, u1.2.2.2.1, u1.2.2.2.2)

def f_X14_test_L5 (n : Nat) (rec : Nat → Int32 → bX14 → bX13 → Option (Int32 × Int32 × Int32 × Int32 × Int32 × Int32 × Int32 × (Nat → Int32) × (Nat → Int32) × (Nat → Int32))) (b_h : bX14) (b_h_fresh : bX13) (v1 : Int32) (w_h_token : Int32) (w_h_isWrong : Int32) (w_h_error : Int32) (w_h_errorToken : Int32) (w_h_deep : Int32) (w_h_fresh_nodes : Int32) (w_h_fresh_sort : Nat → Int32) (w_h_fresh_left : Nat → Int32) (w_h_fresh_right : Nat → Int32) : Option ((Int32 × Int32 × Int32 × Int32 × Int32 × Int32 × Int32 × (Nat → Int32) × (Nat → Int32) × (Nat → Int32)) ⊕ (Int32 × Int32 × Int32 × Int32 × Int32 × Int32 × Int32 × (Nat → Int32) × (Nat → Int32) × (Nat → Int32))) :=
  (f_X14_takes 28 ((X14_thrown b_h), (X14_tape b_h), (X14_bytes b_h), (X14_errorAt b_h), (X14_kind b_h), (X14_number b_h), (X14_position b_h), (X14_length b_h), w_h_token, w_h_isWrong, w_h_error, w_h_errorToken, w_h_deep, (X14_frontName b_h), (X14_guestName b_h), (X14_value b_h), (X14_now b_h), (X14_kept b_h))).bind fun u2 =>
  if u2.1 = 0 then
  some (Sum.inr (v1, u2.2, w_h_isWrong, w_h_error, w_h_errorToken, w_h_deep, w_h_fresh_nodes, w_h_fresh_sort, w_h_fresh_left, w_h_fresh_right)) else
  (rec 1 0 ((X14_thrown b_h), (X14_tape b_h), (X14_bytes b_h), (X14_errorAt b_h), (X14_kind b_h), (X14_number b_h), (X14_position b_h), (X14_length b_h), u2.2, w_h_isWrong, w_h_error, w_h_errorToken, w_h_deep, (X14_frontName b_h), (X14_guestName b_h), (X14_value b_h), (X14_now b_h), (X14_kept b_h)) ((X13_fronts b_h_fresh), (X13_warm b_h_fresh), (X13_force b_h_fresh), (X13_comes b_h_fresh), (X13_stays b_h_fresh), (X13_guests b_h_fresh), (X13_sits b_h_fresh), (X13_low b_h_fresh), (X13_high b_h_fresh), (X13_nerve b_h_fresh), (X13_orders b_h_fresh), (X13_does b_h_fresh), (X13_whom b_h_fresh), (X13_from b_h_fresh), (X13_to b_h_fresh), (X13_test b_h_fresh), w_h_fresh_nodes, w_h_fresh_sort, w_h_fresh_left, w_h_fresh_right)).bind fun u4 =>
  (f_X14_node 28 v1 u4.1 ((X14_thrown b_h), (X14_tape b_h), (X14_bytes b_h), (X14_errorAt b_h), (X14_kind b_h), (X14_number b_h), (X14_position b_h), (X14_length b_h), u4.2.1, u4.2.2.1, u4.2.2.2.1, u4.2.2.2.2.1, u4.2.2.2.2.2.1, (X14_frontName b_h), (X14_guestName b_h), (X14_value b_h), (X14_now b_h), (X14_kept b_h)) ((X13_fronts b_h_fresh), (X13_warm b_h_fresh), (X13_force b_h_fresh), (X13_comes b_h_fresh), (X13_stays b_h_fresh), (X13_guests b_h_fresh), (X13_sits b_h_fresh), (X13_low b_h_fresh), (X13_high b_h_fresh), (X13_nerve b_h_fresh), (X13_orders b_h_fresh), (X13_does b_h_fresh), (X13_whom b_h_fresh), (X13_from b_h_fresh), (X13_to b_h_fresh), (X13_test b_h_fresh), u4.2.2.2.2.2.2.1, u4.2.2.2.2.2.2.2.1, u4.2.2.2.2.2.2.2.2.1, u4.2.2.2.2.2.2.2.2.2)).bind fun u5 =>
  some (Sum.inl (u5.1, u4.2.1, u4.2.2.1, u4.2.2.2.1, u4.2.2.2.2.1, u4.2.2.2.2.2.1, u5.2.1, u5.2.2.1, u5.2.2.2.1, u5.2.2.2.2))
def f_X14_test (n : Nat) (rec : Nat → Int32 → bX14 → bX13 → Option (Int32 × Int32 × Int32 × Int32 × Int32 × Int32 × Int32 × (Nat → Int32) × (Nat → Int32) × (Nat → Int32))) (b_h : bX14) (b_h_fresh : bX13) : Option (Int32 × Int32 × Int32 × Int32 × Int32 × Int32 × Int32 × (Nat → Int32) × (Nat → Int32) × (Nat → Int32)) :=
  (rec 1 0 b_h b_h_fresh).bind fun u1 =>
  iter (fun s : Int32 × Int32 × Int32 × Int32 × Int32 × Int32 × Int32 × (Nat → Int32) × (Nat → Int32) × (Nat → Int32) => f_X14_test_L5 n rec b_h b_h_fresh s.1 s.2.1 s.2.2.1 s.2.2.2.1 s.2.2.2.2.1 s.2.2.2.2.2.1 s.2.2.2.2.2.2.1 s.2.2.2.2.2.2.2.1 s.2.2.2.2.2.2.2.2.1 s.2.2.2.2.2.2.2.2.2) n (u1.1, u1.2.1, u1.2.2.1, u1.2.2.2.1, u1.2.2.2.2.1, u1.2.2.2.2.2.1, u1.2.2.2.2.2.2.1, u1.2.2.2.2.2.2.2.1, u1.2.2.2.2.2.2.2.2.1, u1.2.2.2.2.2.2.2.2.2)

def f_X14_both_L5 (n : Nat) (rec : Nat → Int32 → bX14 → bX13 → Option (Int32 × Int32 × Int32 × Int32 × Int32 × Int32 × Int32 × (Nat → Int32) × (Nat → Int32) × (Nat → Int32))) (b_h : bX14) (b_h_fresh : bX13) (v1 : Int32) (w_h_token : Int32) (w_h_isWrong : Int32) (w_h_error : Int32) (w_h_errorToken : Int32) (w_h_deep : Int32) (w_h_fresh_nodes : Int32) (w_h_fresh_sort : Nat → Int32) (w_h_fresh_left : Nat → Int32) (w_h_fresh_right : Nat → Int32) : Option ((Int32 × Int32 × Int32 × Int32 × Int32 × Int32 × Int32 × (Nat → Int32) × (Nat → Int32) × (Nat → Int32)) ⊕ (Int32 × Int32 × Int32 × Int32 × Int32 × Int32 × Int32 × (Nat → Int32) × (Nat → Int32) × (Nat → Int32))) :=
  (f_X14_takes 27 ((X14_thrown b_h), (X14_tape b_h), (X14_bytes b_h), (X14_errorAt b_h), (X14_kind b_h), (X14_number b_h), (X14_position b_h), (X14_length b_h), w_h_token, w_h_isWrong, w_h_error, w_h_errorToken, w_h_deep, (X14_frontName b_h), (X14_guestName b_h), (X14_value b_h), (X14_now b_h), (X14_kept b_h))).bind fun u2 =>
  if u2.1 = 0 then
  some (Sum.inr (v1, u2.2, w_h_isWrong, w_h_error, w_h_errorToken, w_h_deep, w_h_fresh_nodes, w_h_fresh_sort, w_h_fresh_left, w_h_fresh_right)) else
  (rec 2 0 ((X14_thrown b_h), (X14_tape b_h), (X14_bytes b_h), (X14_errorAt b_h), (X14_kind b_h), (X14_number b_h), (X14_position b_h), (X14_length b_h), u2.2, w_h_isWrong, w_h_error, w_h_errorToken, w_h_deep, (X14_frontName b_h), (X14_guestName b_h), (X14_value b_h), (X14_now b_h), (X14_kept b_h)) ((X13_fronts b_h_fresh), (X13_warm b_h_fresh), (X13_force b_h_fresh), (X13_comes b_h_fresh), (X13_stays b_h_fresh), (X13_guests b_h_fresh), (X13_sits b_h_fresh), (X13_low b_h_fresh), (X13_high b_h_fresh), (X13_nerve b_h_fresh), (X13_orders b_h_fresh), (X13_does b_h_fresh), (X13_whom b_h_fresh), (X13_from b_h_fresh), (X13_to b_h_fresh), (X13_test b_h_fresh), w_h_fresh_nodes, w_h_fresh_sort, w_h_fresh_left, w_h_fresh_right)).bind fun u4 =>
  (f_X14_node 27 v1 u4.1 ((X14_thrown b_h), (X14_tape b_h), (X14_bytes b_h), (X14_errorAt b_h), (X14_kind b_h), (X14_number b_h), (X14_position b_h), (X14_length b_h), u4.2.1, u4.2.2.1, u4.2.2.2.1, u4.2.2.2.2.1, u4.2.2.2.2.2.1, (X14_frontName b_h), (X14_guestName b_h), (X14_value b_h), (X14_now b_h), (X14_kept b_h)) ((X13_fronts b_h_fresh), (X13_warm b_h_fresh), (X13_force b_h_fresh), (X13_comes b_h_fresh), (X13_stays b_h_fresh), (X13_guests b_h_fresh), (X13_sits b_h_fresh), (X13_low b_h_fresh), (X13_high b_h_fresh), (X13_nerve b_h_fresh), (X13_orders b_h_fresh), (X13_does b_h_fresh), (X13_whom b_h_fresh), (X13_from b_h_fresh), (X13_to b_h_fresh), (X13_test b_h_fresh), u4.2.2.2.2.2.2.1, u4.2.2.2.2.2.2.2.1, u4.2.2.2.2.2.2.2.2.1, u4.2.2.2.2.2.2.2.2.2)).bind fun u5 =>
  some (Sum.inl (u5.1, u4.2.1, u4.2.2.1, u4.2.2.2.1, u4.2.2.2.2.1, u4.2.2.2.2.2.1, u5.2.1, u5.2.2.1, u5.2.2.2.1, u5.2.2.2.2))
def f_X14_both (n : Nat) (rec : Nat → Int32 → bX14 → bX13 → Option (Int32 × Int32 × Int32 × Int32 × Int32 × Int32 × Int32 × (Nat → Int32) × (Nat → Int32) × (Nat → Int32))) (b_h : bX14) (b_h_fresh : bX13) : Option (Int32 × Int32 × Int32 × Int32 × Int32 × Int32 × Int32 × (Nat → Int32) × (Nat → Int32) × (Nat → Int32)) :=
  (rec 2 0 b_h b_h_fresh).bind fun u1 =>
  iter (fun s : Int32 × Int32 × Int32 × Int32 × Int32 × Int32 × Int32 × (Nat → Int32) × (Nat → Int32) × (Nat → Int32) => f_X14_both_L5 n rec b_h b_h_fresh s.1 s.2.1 s.2.2.1 s.2.2.2.1 s.2.2.2.2.1 s.2.2.2.2.2.1 s.2.2.2.2.2.2.1 s.2.2.2.2.2.2.2.1 s.2.2.2.2.2.2.2.2.1 s.2.2.2.2.2.2.2.2.2) n (u1.1, u1.2.1, u1.2.2.1, u1.2.2.2.1, u1.2.2.2.2.1, u1.2.2.2.2.2.1, u1.2.2.2.2.2.2.1, u1.2.2.2.2.2.2.2.1, u1.2.2.2.2.2.2.2.2.1, u1.2.2.2.2.2.2.2.2.2)

def f_X14_single_R112 (n : Nat) (rec : Nat → Int32 → bX14 → bX13 → Option (Int32 × Int32 × Int32 × Int32 × Int32 × Int32 × Int32 × (Nat → Int32) × (Nat → Int32) × (Nat → Int32))) (b_h : bX14) (b_h_fresh : bX13) (w_h_token : Int32) (w_h_isWrong : Int32) (w_h_error : Int32) (w_h_errorToken : Int32) (w_h_deep : Int32) (w_h_fresh_nodes : Int32) (w_h_fresh_sort : Nat → Int32) (w_h_fresh_left : Nat → Int32) (w_h_fresh_right : Nat → Int32) : Option (Int32 × Int32 × Int32 × Int32 × Int32 × Int32 × Int32 × (Nat → Int32) × (Nat → Int32) × (Nat → Int32)) :=
  if w_h_token < 0 ∨ 402 ≤ w_h_token.toNatClampNeg then none else
  (f_X14_guest n ((X14_thrown b_h), (X14_tape b_h), (X14_bytes b_h), (X14_errorAt b_h), (X14_kind b_h), (X14_number b_h), (X14_position b_h), (X14_length b_h), (w_h_token + 1), w_h_isWrong, w_h_error, w_h_errorToken, w_h_deep, (X14_frontName b_h), (X14_guestName b_h), (X14_value b_h), (X14_now b_h), (X14_kept b_h)) ((X13_fronts b_h_fresh), (X13_warm b_h_fresh), (X13_force b_h_fresh), (X13_comes b_h_fresh), (X13_stays b_h_fresh), (X13_guests b_h_fresh), (X13_sits b_h_fresh), (X13_low b_h_fresh), (X13_high b_h_fresh), (X13_nerve b_h_fresh), (X13_orders b_h_fresh), (X13_does b_h_fresh), (X13_whom b_h_fresh), (X13_from b_h_fresh), (X13_to b_h_fresh), (X13_test b_h_fresh), w_h_fresh_nodes, w_h_fresh_sort, w_h_fresh_left, w_h_fresh_right)).bind fun u10 =>
  (f_X14_node ((X14_kind b_h) w_h_token.toNatClampNeg) u10.1 0 ((X14_thrown b_h), (X14_tape b_h), (X14_bytes b_h), (X14_errorAt b_h), (X14_kind b_h), (X14_number b_h), (X14_position b_h), (X14_length b_h), u10.2.1, u10.2.2.1, u10.2.2.2.1, u10.2.2.2.2, w_h_deep, (X14_frontName b_h), (X14_guestName b_h), (X14_value b_h), (X14_now b_h), (X14_kept b_h)) ((X13_fronts b_h_fresh), (X13_warm b_h_fresh), (X13_force b_h_fresh), (X13_comes b_h_fresh), (X13_stays b_h_fresh), (X13_guests b_h_fresh), (X13_sits b_h_fresh), (X13_low b_h_fresh), (X13_high b_h_fresh), (X13_nerve b_h_fresh), (X13_orders b_h_fresh), (X13_does b_h_fresh), (X13_whom b_h_fresh), (X13_from b_h_fresh), (X13_to b_h_fresh), (X13_test b_h_fresh), w_h_fresh_nodes, w_h_fresh_sort, w_h_fresh_left, w_h_fresh_right)).bind fun u11 =>
  some (u11.1, u10.2.1, u10.2.2.1, u10.2.2.2.1, u10.2.2.2.2, w_h_deep, u11.2.1, u11.2.2.1, u11.2.2.2.1, u11.2.2.2.2)
def f_X14_single (n : Nat) (rec : Nat → Int32 → bX14 → bX13 → Option (Int32 × Int32 × Int32 × Int32 × Int32 × Int32 × Int32 × (Nat → Int32) × (Nat → Int32) × (Nat → Int32))) (b_h : bX14) (b_h_fresh : bX13) : Option (Int32 × Int32 × Int32 × Int32 × Int32 × Int32 × Int32 × (Nat → Int32) × (Nat → Int32) × (Nat → Int32)) :=
  (f_X14_is 26 b_h).bind fun u1 =>
  if u1 = 0 then
  (f_X14_is 61 b_h).bind fun u3 =>
  if u3 = 0 then
  (f_X14_takes 23 b_h).bind fun u5 =>
  if u5.1 = 0 then
  (f_X14_is 22 ((X14_thrown b_h), (X14_tape b_h), (X14_bytes b_h), (X14_errorAt b_h), (X14_kind b_h), (X14_number b_h), (X14_position b_h), (X14_length b_h), u5.2, (X14_isWrong b_h), (X14_error b_h), (X14_errorToken b_h), (X14_deep b_h), (X14_frontName b_h), (X14_guestName b_h), (X14_value b_h), (X14_now b_h), (X14_kept b_h))).bind fun u7 =>
  if u7 = 0 then
  (f_X14_is 25 ((X14_thrown b_h), (X14_tape b_h), (X14_bytes b_h), (X14_errorAt b_h), (X14_kind b_h), (X14_number b_h), (X14_position b_h), (X14_length b_h), u5.2, (X14_isWrong b_h), (X14_error b_h), (X14_errorToken b_h), (X14_deep b_h), (X14_frontName b_h), (X14_guestName b_h), (X14_value b_h), (X14_now b_h), (X14_kept b_h))).bind fun u12 =>
  if u12 = 0 then
  (rec 3 0 ((X14_thrown b_h), (X14_tape b_h), (X14_bytes b_h), (X14_errorAt b_h), (X14_kind b_h), (X14_number b_h), (X14_position b_h), (X14_length b_h), u5.2, (X14_isWrong b_h), (X14_error b_h), (X14_errorToken b_h), (X14_deep b_h), (X14_frontName b_h), (X14_guestName b_h), (X14_value b_h), (X14_now b_h), (X14_kept b_h)) b_h_fresh).bind fun u14 =>
  some (u14.1, u14.2.1, u14.2.2.1, u14.2.2.2.1, u14.2.2.2.2.1, u14.2.2.2.2.2.1, u14.2.2.2.2.2.2.1, u14.2.2.2.2.2.2.2.1, u14.2.2.2.2.2.2.2.2.1, u14.2.2.2.2.2.2.2.2.2) else
  f_X14_single_R112 n rec b_h b_h_fresh u5.2 (X14_isWrong b_h) (X14_error b_h) (X14_errorToken b_h) (X14_deep b_h) (X13_nodes b_h_fresh) (X13_sort b_h_fresh) (X13_left b_h_fresh) (X13_right b_h_fresh) else
  f_X14_single_R112 n rec b_h b_h_fresh u5.2 (X14_isWrong b_h) (X14_error b_h) (X14_errorToken b_h) (X14_deep b_h) (X13_nodes b_h_fresh) (X13_sort b_h_fresh) (X13_left b_h_fresh) (X13_right b_h_fresh) else
  (f_X14_front n ((X14_thrown b_h), (X14_tape b_h), (X14_bytes b_h), (X14_errorAt b_h), (X14_kind b_h), (X14_number b_h), (X14_position b_h), (X14_length b_h), u5.2, (X14_isWrong b_h), (X14_error b_h), (X14_errorToken b_h), (X14_deep b_h), (X14_frontName b_h), (X14_guestName b_h), (X14_value b_h), (X14_now b_h), (X14_kept b_h)) b_h_fresh).bind fun u15 =>
  (f_X14_node 23 u15.1 0 ((X14_thrown b_h), (X14_tape b_h), (X14_bytes b_h), (X14_errorAt b_h), (X14_kind b_h), (X14_number b_h), (X14_position b_h), (X14_length b_h), u15.2.1, u15.2.2.1, u15.2.2.2.1, u15.2.2.2.2, (X14_deep b_h), (X14_frontName b_h), (X14_guestName b_h), (X14_value b_h), (X14_now b_h), (X14_kept b_h)) b_h_fresh).bind fun u16 =>
  some (u16.1, u15.2.1, u15.2.2.1, u15.2.2.2.1, u15.2.2.2.2, (X14_deep b_h), u16.2.1, u16.2.2.1, u16.2.2.2.1, u16.2.2.2.2) else
  (f_X14_deeper b_h).bind fun u17 =>
  (rec 0 0 ((X14_thrown b_h), (X14_tape b_h), (X14_bytes b_h), (X14_errorAt b_h), (X14_kind b_h), (X14_number b_h), (X14_position b_h), (X14_length b_h), u17.1, u17.2.1, u17.2.2.1, u17.2.2.2.1, u17.2.2.2.2, (X14_frontName b_h), (X14_guestName b_h), (X14_value b_h), (X14_now b_h), (X14_kept b_h)) b_h_fresh).bind fun u18 =>
  (f_X14_take 62 ((X14_thrown b_h), (X14_tape b_h), (X14_bytes b_h), (X14_errorAt b_h), (X14_kind b_h), (X14_number b_h), (X14_position b_h), (X14_length b_h), u18.2.1, u18.2.2.1, u18.2.2.2.1, u18.2.2.2.2.1, u18.2.2.2.2.2.1, (X14_frontName b_h), (X14_guestName b_h), (X14_value b_h), (X14_now b_h), (X14_kept b_h))).bind fun u19 =>
  some (u18.1, u19.1, u19.2.1, u19.2.2.1, u19.2.2.2, (u18.2.2.2.2.2.1 - 1), u18.2.2.2.2.2.2.1, u18.2.2.2.2.2.2.2.1, u18.2.2.2.2.2.2.2.2.1, u18.2.2.2.2.2.2.2.2.2) else
  (f_X14_deeper b_h).bind fun u20 =>
  (rec 2 0 ((X14_thrown b_h), (X14_tape b_h), (X14_bytes b_h), (X14_errorAt b_h), (X14_kind b_h), (X14_number b_h), (X14_position b_h), (X14_length b_h), u20.1, u20.2.1, u20.2.2.1, u20.2.2.2.1, u20.2.2.2.2, (X14_frontName b_h), (X14_guestName b_h), (X14_value b_h), (X14_now b_h), (X14_kept b_h)) b_h_fresh).bind fun u21 =>
  (f_X14_node 26 u21.1 0 ((X14_thrown b_h), (X14_tape b_h), (X14_bytes b_h), (X14_errorAt b_h), (X14_kind b_h), (X14_number b_h), (X14_position b_h), (X14_length b_h), u21.2.1, u21.2.2.1, u21.2.2.2.1, u21.2.2.2.2.1, (u21.2.2.2.2.2.1 - 1), (X14_frontName b_h), (X14_guestName b_h), (X14_value b_h), (X14_now b_h), (X14_kept b_h)) ((X13_fronts b_h_fresh), (X13_warm b_h_fresh), (X13_force b_h_fresh), (X13_comes b_h_fresh), (X13_stays b_h_fresh), (X13_guests b_h_fresh), (X13_sits b_h_fresh), (X13_low b_h_fresh), (X13_high b_h_fresh), (X13_nerve b_h_fresh), (X13_orders b_h_fresh), (X13_does b_h_fresh), (X13_whom b_h_fresh), (X13_from b_h_fresh), (X13_to b_h_fresh), (X13_test b_h_fresh), u21.2.2.2.2.2.2.1, u21.2.2.2.2.2.2.2.1, u21.2.2.2.2.2.2.2.2.1, u21.2.2.2.2.2.2.2.2.2)).bind fun u22 =>
  some (u22.1, u21.2.1, u21.2.2.1, u21.2.2.2.1, u21.2.2.2.2.1, (u21.2.2.2.2.2.1 - 1), u22.2.1, u22.2.2.1, u22.2.2.2.1, u22.2.2.2.2)

def f_X14_comparison_R33 (n : Nat) (rec : Nat → Int32 → bX14 → bX13 → Option (Int32 × Int32 × Int32 × Int32 × Int32 × Int32 × Int32 × (Nat → Int32) × (Nat → Int32) × (Nat → Int32))) (b_h : bX14) (b_h_fresh : bX13) (w_h_token : Int32) (w_h_isWrong : Int32) (w_h_error : Int32) (w_h_errorToken : Int32) (w_h_deep : Int32) (w_h_fresh_nodes : Int32) (w_h_fresh_sort : Nat → Int32) (w_h_fresh_left : Nat → Int32) (w_h_fresh_right : Nat → Int32) : Option (Int32 × Int32 × Int32 × Int32 × Int32 × Int32 × Int32 × (Nat → Int32) × (Nat → Int32) × (Nat → Int32)) :=
  (f_X14_wrong ((X14_thrown b_h), (X14_tape b_h), (X14_bytes b_h), (X14_errorAt b_h), (X14_kind b_h), (X14_number b_h), (X14_position b_h), (X14_length b_h), w_h_token, w_h_isWrong, w_h_error, w_h_errorToken, w_h_deep, (X14_frontName b_h), (X14_guestName b_h), (X14_value b_h), (X14_now b_h), (X14_kept b_h))).bind fun u4 =>
  some (0, w_h_token, u4.1, u4.2.1, u4.2.2, w_h_deep, w_h_fresh_nodes, w_h_fresh_sort, w_h_fresh_left, w_h_fresh_right)
def f_X14_comparison (n : Nat) (rec : Nat → Int32 → bX14 → bX13 → Option (Int32 × Int32 × Int32 × Int32 × Int32 × Int32 × Int32 × (Nat → Int32) × (Nat → Int32) × (Nat → Int32))) (b_h : bX14) (b_h_fresh : bX13) : Option (Int32 × Int32 × Int32 × Int32 × Int32 × Int32 × Int32 × (Nat → Int32) × (Nat → Int32) × (Nat → Int32)) :=
  (rec 4 0 b_h b_h_fresh).bind fun u1 =>
  if u1.2.1 < 0 ∨ 402 ≤ u1.2.1.toNatClampNeg then none else
  if u1.2.2.1 = 0 then
  (f_X14_isIn ((X14_kind b_h) u1.2.1.toNatClampNeg) 54 58).bind fun u5 =>
  if u5 = 0 then
  f_X14_comparison_R33 n rec b_h b_h_fresh u1.2.1 u1.2.2.1 u1.2.2.2.1 u1.2.2.2.2.1 u1.2.2.2.2.2.1 u1.2.2.2.2.2.2.1 u1.2.2.2.2.2.2.2.1 u1.2.2.2.2.2.2.2.2.1 u1.2.2.2.2.2.2.2.2.2 else
  (rec 4 0 ((X14_thrown b_h), (X14_tape b_h), (X14_bytes b_h), (X14_errorAt b_h), (X14_kind b_h), (X14_number b_h), (X14_position b_h), (X14_length b_h), (u1.2.1 + 1), u1.2.2.1, u1.2.2.2.1, u1.2.2.2.2.1, u1.2.2.2.2.2.1, (X14_frontName b_h), (X14_guestName b_h), (X14_value b_h), (X14_now b_h), (X14_kept b_h)) ((X13_fronts b_h_fresh), (X13_warm b_h_fresh), (X13_force b_h_fresh), (X13_comes b_h_fresh), (X13_stays b_h_fresh), (X13_guests b_h_fresh), (X13_sits b_h_fresh), (X13_low b_h_fresh), (X13_high b_h_fresh), (X13_nerve b_h_fresh), (X13_orders b_h_fresh), (X13_does b_h_fresh), (X13_whom b_h_fresh), (X13_from b_h_fresh), (X13_to b_h_fresh), (X13_test b_h_fresh), u1.2.2.2.2.2.2.1, u1.2.2.2.2.2.2.2.1, u1.2.2.2.2.2.2.2.2.1, u1.2.2.2.2.2.2.2.2.2)).bind fun u7 =>
  (f_X14_node ((X14_kind b_h) u1.2.1.toNatClampNeg) u1.1 u7.1 ((X14_thrown b_h), (X14_tape b_h), (X14_bytes b_h), (X14_errorAt b_h), (X14_kind b_h), (X14_number b_h), (X14_position b_h), (X14_length b_h), u7.2.1, u7.2.2.1, u7.2.2.2.1, u7.2.2.2.2.1, u7.2.2.2.2.2.1, (X14_frontName b_h), (X14_guestName b_h), (X14_value b_h), (X14_now b_h), (X14_kept b_h)) ((X13_fronts b_h_fresh), (X13_warm b_h_fresh), (X13_force b_h_fresh), (X13_comes b_h_fresh), (X13_stays b_h_fresh), (X13_guests b_h_fresh), (X13_sits b_h_fresh), (X13_low b_h_fresh), (X13_high b_h_fresh), (X13_nerve b_h_fresh), (X13_orders b_h_fresh), (X13_does b_h_fresh), (X13_whom b_h_fresh), (X13_from b_h_fresh), (X13_to b_h_fresh), (X13_test b_h_fresh), u7.2.2.2.2.2.2.1, u7.2.2.2.2.2.2.2.1, u7.2.2.2.2.2.2.2.2.1, u7.2.2.2.2.2.2.2.2.2)).bind fun u8 =>
  some (u8.1, u7.2.1, u7.2.2.1, u7.2.2.2.1, u7.2.2.2.2.1, u7.2.2.2.2.2.1, u8.2.1, u8.2.2.1, u8.2.2.2.1, u8.2.2.2.2) else
  f_X14_comparison_R33 n rec b_h b_h_fresh u1.2.1 u1.2.2.1 u1.2.2.2.1 u1.2.2.2.2.1 u1.2.2.2.2.2.1 u1.2.2.2.2.2.2.1 u1.2.2.2.2.2.2.2.1 u1.2.2.2.2.2.2.2.2.1 u1.2.2.2.2.2.2.2.2.2

def f_X14_sum_R23 (n : Nat) (rec : Nat → Int32 → bX14 → bX13 → Option (Int32 × Int32 × Int32 × Int32 × Int32 × Int32 × Int32 × (Nat → Int32) × (Nat → Int32) × (Nat → Int32))) (b_h : bX14) (b_h_fresh : bX13) (v1 : Int32) (w_h_token : Int32) (w_h_isWrong : Int32) (w_h_error : Int32) (w_h_errorToken : Int32) (w_h_deep : Int32) (w_h_fresh_nodes : Int32) (w_h_fresh_sort : Nat → Int32) (w_h_fresh_left : Nat → Int32) (w_h_fresh_right : Nat → Int32) : Option ((Int32 × Int32 × Int32 × Int32 × Int32 × Int32 × Int32 × (Nat → Int32) × (Nat → Int32) × (Nat → Int32)) ⊕ (Int32 × Int32 × Int32 × Int32 × Int32 × Int32 × Int32 × (Nat → Int32) × (Nat → Int32) × (Nat → Int32))) :=
  if w_h_token < 0 ∨ 402 ≤ w_h_token.toNatClampNeg then none else
  (rec 5 0 ((X14_thrown b_h), (X14_tape b_h), (X14_bytes b_h), (X14_errorAt b_h), (X14_kind b_h), (X14_number b_h), (X14_position b_h), (X14_length b_h), (w_h_token + 1), w_h_isWrong, w_h_error, w_h_errorToken, w_h_deep, (X14_frontName b_h), (X14_guestName b_h), (X14_value b_h), (X14_now b_h), (X14_kept b_h)) ((X13_fronts b_h_fresh), (X13_warm b_h_fresh), (X13_force b_h_fresh), (X13_comes b_h_fresh), (X13_stays b_h_fresh), (X13_guests b_h_fresh), (X13_sits b_h_fresh), (X13_low b_h_fresh), (X13_high b_h_fresh), (X13_nerve b_h_fresh), (X13_orders b_h_fresh), (X13_does b_h_fresh), (X13_whom b_h_fresh), (X13_from b_h_fresh), (X13_to b_h_fresh), (X13_test b_h_fresh), w_h_fresh_nodes, w_h_fresh_sort, w_h_fresh_left, w_h_fresh_right)).bind fun u5 =>
  (f_X14_node ((X14_kind b_h) w_h_token.toNatClampNeg) v1 u5.1 ((X14_thrown b_h), (X14_tape b_h), (X14_bytes b_h), (X14_errorAt b_h), (X14_kind b_h), (X14_number b_h), (X14_position b_h), (X14_length b_h), u5.2.1, u5.2.2.1, u5.2.2.2.1, u5.2.2.2.2.1, u5.2.2.2.2.2.1, (X14_frontName b_h), (X14_guestName b_h), (X14_value b_h), (X14_now b_h), (X14_kept b_h)) ((X13_fronts b_h_fresh), (X13_warm b_h_fresh), (X13_force b_h_fresh), (X13_comes b_h_fresh), (X13_stays b_h_fresh), (X13_guests b_h_fresh), (X13_sits b_h_fresh), (X13_low b_h_fresh), (X13_high b_h_fresh), (X13_nerve b_h_fresh), (X13_orders b_h_fresh), (X13_does b_h_fresh), (X13_whom b_h_fresh), (X13_from b_h_fresh), (X13_to b_h_fresh), (X13_test b_h_fresh), u5.2.2.2.2.2.2.1, u5.2.2.2.2.2.2.2.1, u5.2.2.2.2.2.2.2.2.1, u5.2.2.2.2.2.2.2.2.2)).bind fun u6 =>
  some (Sum.inl (u6.1, u5.2.1, u5.2.2.1, u5.2.2.2.1, u5.2.2.2.2.1, u5.2.2.2.2.2.1, u6.2.1, u6.2.2.1, u6.2.2.2.1, u6.2.2.2.2))
def f_X14_sum_L5 (n : Nat) (rec : Nat → Int32 → bX14 → bX13 → Option (Int32 × Int32 × Int32 × Int32 × Int32 × Int32 × Int32 × (Nat → Int32) × (Nat → Int32) × (Nat → Int32))) (b_h : bX14) (b_h_fresh : bX13) (v1 : Int32) (w_h_token : Int32) (w_h_isWrong : Int32) (w_h_error : Int32) (w_h_errorToken : Int32) (w_h_deep : Int32) (w_h_fresh_nodes : Int32) (w_h_fresh_sort : Nat → Int32) (w_h_fresh_left : Nat → Int32) (w_h_fresh_right : Nat → Int32) : Option ((Int32 × Int32 × Int32 × Int32 × Int32 × Int32 × Int32 × (Nat → Int32) × (Nat → Int32) × (Nat → Int32)) ⊕ (Int32 × Int32 × Int32 × Int32 × Int32 × Int32 × Int32 × (Nat → Int32) × (Nat → Int32) × (Nat → Int32))) :=
  (f_X14_is 50 ((X14_thrown b_h), (X14_tape b_h), (X14_bytes b_h), (X14_errorAt b_h), (X14_kind b_h), (X14_number b_h), (X14_position b_h), (X14_length b_h), w_h_token, w_h_isWrong, w_h_error, w_h_errorToken, w_h_deep, (X14_frontName b_h), (X14_guestName b_h), (X14_value b_h), (X14_now b_h), (X14_kept b_h))).bind fun u2 =>
  if u2 = 0 then
  (f_X14_is 51 ((X14_thrown b_h), (X14_tape b_h), (X14_bytes b_h), (X14_errorAt b_h), (X14_kind b_h), (X14_number b_h), (X14_position b_h), (X14_length b_h), w_h_token, w_h_isWrong, w_h_error, w_h_errorToken, w_h_deep, (X14_frontName b_h), (X14_guestName b_h), (X14_value b_h), (X14_now b_h), (X14_kept b_h))).bind fun u7 =>
  if u7 = 0 then
  some (Sum.inr (v1, w_h_token, w_h_isWrong, w_h_error, w_h_errorToken, w_h_deep, w_h_fresh_nodes, w_h_fresh_sort, w_h_fresh_left, w_h_fresh_right)) else
  f_X14_sum_R23 n rec b_h b_h_fresh v1 w_h_token w_h_isWrong w_h_error w_h_errorToken w_h_deep w_h_fresh_nodes w_h_fresh_sort w_h_fresh_left w_h_fresh_right else
  f_X14_sum_R23 n rec b_h b_h_fresh v1 w_h_token w_h_isWrong w_h_error w_h_errorToken w_h_deep w_h_fresh_nodes w_h_fresh_sort w_h_fresh_left w_h_fresh_right
def f_X14_sum (n : Nat) (rec : Nat → Int32 → bX14 → bX13 → Option (Int32 × Int32 × Int32 × Int32 × Int32 × Int32 × Int32 × (Nat → Int32) × (Nat → Int32) × (Nat → Int32))) (b_h : bX14) (b_h_fresh : bX13) : Option (Int32 × Int32 × Int32 × Int32 × Int32 × Int32 × Int32 × (Nat → Int32) × (Nat → Int32) × (Nat → Int32)) :=
  (rec 5 0 b_h b_h_fresh).bind fun u1 =>
  iter (fun s : Int32 × Int32 × Int32 × Int32 × Int32 × Int32 × Int32 × (Nat → Int32) × (Nat → Int32) × (Nat → Int32) => f_X14_sum_L5 n rec b_h b_h_fresh s.1 s.2.1 s.2.2.1 s.2.2.2.1 s.2.2.2.2.1 s.2.2.2.2.2.1 s.2.2.2.2.2.2.1 s.2.2.2.2.2.2.2.1 s.2.2.2.2.2.2.2.2.1 s.2.2.2.2.2.2.2.2.2) n (u1.1, u1.2.1, u1.2.2.1, u1.2.2.2.1, u1.2.2.2.2.1, u1.2.2.2.2.2.1, u1.2.2.2.2.2.2.1, u1.2.2.2.2.2.2.2.1, u1.2.2.2.2.2.2.2.2.1, u1.2.2.2.2.2.2.2.2.2)

def f_X14_product_R23 (n : Nat) (rec : Nat → Int32 → bX14 → bX13 → Option (Int32 × Int32 × Int32 × Int32 × Int32 × Int32 × Int32 × (Nat → Int32) × (Nat → Int32) × (Nat → Int32))) (b_h : bX14) (b_h_fresh : bX13) (v1 : Int32) (w_h_token : Int32) (w_h_isWrong : Int32) (w_h_error : Int32) (w_h_errorToken : Int32) (w_h_deep : Int32) (w_h_fresh_nodes : Int32) (w_h_fresh_sort : Nat → Int32) (w_h_fresh_left : Nat → Int32) (w_h_fresh_right : Nat → Int32) : Option ((Int32 × Int32 × Int32 × Int32 × Int32 × Int32 × Int32 × (Nat → Int32) × (Nat → Int32) × (Nat → Int32)) ⊕ (Int32 × Int32 × Int32 × Int32 × Int32 × Int32 × Int32 × (Nat → Int32) × (Nat → Int32) × (Nat → Int32))) :=
  if w_h_token < 0 ∨ 402 ≤ w_h_token.toNatClampNeg then none else
  (rec 6 0 ((X14_thrown b_h), (X14_tape b_h), (X14_bytes b_h), (X14_errorAt b_h), (X14_kind b_h), (X14_number b_h), (X14_position b_h), (X14_length b_h), (w_h_token + 1), w_h_isWrong, w_h_error, w_h_errorToken, w_h_deep, (X14_frontName b_h), (X14_guestName b_h), (X14_value b_h), (X14_now b_h), (X14_kept b_h)) ((X13_fronts b_h_fresh), (X13_warm b_h_fresh), (X13_force b_h_fresh), (X13_comes b_h_fresh), (X13_stays b_h_fresh), (X13_guests b_h_fresh), (X13_sits b_h_fresh), (X13_low b_h_fresh), (X13_high b_h_fresh), (X13_nerve b_h_fresh), (X13_orders b_h_fresh), (X13_does b_h_fresh), (X13_whom b_h_fresh), (X13_from b_h_fresh), (X13_to b_h_fresh), (X13_test b_h_fresh), w_h_fresh_nodes, w_h_fresh_sort, w_h_fresh_left, w_h_fresh_right)).bind fun u5 =>
  (f_X14_node ((X14_kind b_h) w_h_token.toNatClampNeg) v1 u5.1 ((X14_thrown b_h), (X14_tape b_h), (X14_bytes b_h), (X14_errorAt b_h), (X14_kind b_h), (X14_number b_h), (X14_position b_h), (X14_length b_h), u5.2.1, u5.2.2.1, u5.2.2.2.1, u5.2.2.2.2.1, u5.2.2.2.2.2.1, (X14_frontName b_h), (X14_guestName b_h), (X14_value b_h), (X14_now b_h), (X14_kept b_h)) ((X13_fronts b_h_fresh), (X13_warm b_h_fresh), (X13_force b_h_fresh), (X13_comes b_h_fresh), (X13_stays b_h_fresh), (X13_guests b_h_fresh), (X13_sits b_h_fresh), (X13_low b_h_fresh), (X13_high b_h_fresh), (X13_nerve b_h_fresh), (X13_orders b_h_fresh), (X13_does b_h_fresh), (X13_whom b_h_fresh), (X13_from b_h_fresh), (X13_to b_h_fresh), (X13_test b_h_fresh), u5.2.2.2.2.2.2.1, u5.2.2.2.2.2.2.2.1, u5.2.2.2.2.2.2.2.2.1, u5.2.2.2.2.2.2.2.2.2)).bind fun u6 =>
  some (Sum.inl (u6.1, u5.2.1, u5.2.2.1, u5.2.2.2.1, u5.2.2.2.2.1, u5.2.2.2.2.2.1, u6.2.1, u6.2.2.1, u6.2.2.2.1, u6.2.2.2.2))
def f_X14_product_L5 (n : Nat) (rec : Nat → Int32 → bX14 → bX13 → Option (Int32 × Int32 × Int32 × Int32 × Int32 × Int32 × Int32 × (Nat → Int32) × (Nat → Int32) × (Nat → Int32))) (b_h : bX14) (b_h_fresh : bX13) (v1 : Int32) (w_h_token : Int32) (w_h_isWrong : Int32) (w_h_error : Int32) (w_h_errorToken : Int32) (w_h_deep : Int32) (w_h_fresh_nodes : Int32) (w_h_fresh_sort : Nat → Int32) (w_h_fresh_left : Nat → Int32) (w_h_fresh_right : Nat → Int32) : Option ((Int32 × Int32 × Int32 × Int32 × Int32 × Int32 × Int32 × (Nat → Int32) × (Nat → Int32) × (Nat → Int32)) ⊕ (Int32 × Int32 × Int32 × Int32 × Int32 × Int32 × Int32 × (Nat → Int32) × (Nat → Int32) × (Nat → Int32))) :=
  (f_X14_is 52 ((X14_thrown b_h), (X14_tape b_h), (X14_bytes b_h), (X14_errorAt b_h), (X14_kind b_h), (X14_number b_h), (X14_position b_h), (X14_length b_h), w_h_token, w_h_isWrong, w_h_error, w_h_errorToken, w_h_deep, (X14_frontName b_h), (X14_guestName b_h), (X14_value b_h), (X14_now b_h), (X14_kept b_h))).bind fun u2 =>
  if u2 = 0 then
  (f_X14_is 53 ((X14_thrown b_h), (X14_tape b_h), (X14_bytes b_h), (X14_errorAt b_h), (X14_kind b_h), (X14_number b_h), (X14_position b_h), (X14_length b_h), w_h_token, w_h_isWrong, w_h_error, w_h_errorToken, w_h_deep, (X14_frontName b_h), (X14_guestName b_h), (X14_value b_h), (X14_now b_h), (X14_kept b_h))).bind fun u7 =>
  if u7 = 0 then
  some (Sum.inr (v1, w_h_token, w_h_isWrong, w_h_error, w_h_errorToken, w_h_deep, w_h_fresh_nodes, w_h_fresh_sort, w_h_fresh_left, w_h_fresh_right)) else
  f_X14_product_R23 n rec b_h b_h_fresh v1 w_h_token w_h_isWrong w_h_error w_h_errorToken w_h_deep w_h_fresh_nodes w_h_fresh_sort w_h_fresh_left w_h_fresh_right else
  f_X14_product_R23 n rec b_h b_h_fresh v1 w_h_token w_h_isWrong w_h_error w_h_errorToken w_h_deep w_h_fresh_nodes w_h_fresh_sort w_h_fresh_left w_h_fresh_right
def f_X14_product (n : Nat) (rec : Nat → Int32 → bX14 → bX13 → Option (Int32 × Int32 × Int32 × Int32 × Int32 × Int32 × Int32 × (Nat → Int32) × (Nat → Int32) × (Nat → Int32))) (b_h : bX14) (b_h_fresh : bX13) : Option (Int32 × Int32 × Int32 × Int32 × Int32 × Int32 × Int32 × (Nat → Int32) × (Nat → Int32) × (Nat → Int32)) :=
  (rec 6 0 b_h b_h_fresh).bind fun u1 =>
  iter (fun s : Int32 × Int32 × Int32 × Int32 × Int32 × Int32 × Int32 × (Nat → Int32) × (Nat → Int32) × (Nat → Int32) => f_X14_product_L5 n rec b_h b_h_fresh s.1 s.2.1 s.2.2.1 s.2.2.2.1 s.2.2.2.2.1 s.2.2.2.2.2.1 s.2.2.2.2.2.2.1 s.2.2.2.2.2.2.2.1 s.2.2.2.2.2.2.2.2.1 s.2.2.2.2.2.2.2.2.2) n (u1.1, u1.2.1, u1.2.2.1, u1.2.2.2.1, u1.2.2.2.2.1, u1.2.2.2.2.2.1, u1.2.2.2.2.2.2.1, u1.2.2.2.2.2.2.2.1, u1.2.2.2.2.2.2.2.2.1, u1.2.2.2.2.2.2.2.2.2)

def f_X14_value_R151 (n : Nat) (rec : Nat → Int32 → bX14 → bX13 → Option (Int32 × Int32 × Int32 × Int32 × Int32 × Int32 × Int32 × (Nat → Int32) × (Nat → Int32) × (Nat → Int32))) (b_h : bX14) (b_h_fresh : bX13) (w_h_token : Int32) (w_h_isWrong : Int32) (w_h_error : Int32) (w_h_errorToken : Int32) (w_h_deep : Int32) (w_h_fresh_nodes : Int32) (w_h_fresh_sort : Nat → Int32) (w_h_fresh_left : Nat → Int32) (w_h_fresh_right : Nat → Int32) : Option (Int32 × Int32 × Int32 × Int32 × Int32 × Int32 × Int32 × (Nat → Int32) × (Nat → Int32) × (Nat → Int32)) :=
  if w_h_token < 0 ∨ 402 ≤ w_h_token.toNatClampNeg then none else
  (rec 8 ((X14_kind b_h) w_h_token.toNatClampNeg) ((X14_thrown b_h), (X14_tape b_h), (X14_bytes b_h), (X14_errorAt b_h), (X14_kind b_h), (X14_number b_h), (X14_position b_h), (X14_length b_h), w_h_token, w_h_isWrong, w_h_error, w_h_errorToken, w_h_deep, (X14_frontName b_h), (X14_guestName b_h), (X14_value b_h), (X14_now b_h), (X14_kept b_h)) ((X13_fronts b_h_fresh), (X13_warm b_h_fresh), (X13_force b_h_fresh), (X13_comes b_h_fresh), (X13_stays b_h_fresh), (X13_guests b_h_fresh), (X13_sits b_h_fresh), (X13_low b_h_fresh), (X13_high b_h_fresh), (X13_nerve b_h_fresh), (X13_orders b_h_fresh), (X13_does b_h_fresh), (X13_whom b_h_fresh), (X13_from b_h_fresh), (X13_to b_h_fresh), (X13_test b_h_fresh), w_h_fresh_nodes, w_h_fresh_sort, w_h_fresh_left, w_h_fresh_right)).bind fun u9 =>
  some (u9.1, u9.2.1, u9.2.2.1, u9.2.2.2.1, u9.2.2.2.2.1, u9.2.2.2.2.2.1, u9.2.2.2.2.2.2.1, u9.2.2.2.2.2.2.2.1, u9.2.2.2.2.2.2.2.2.1, u9.2.2.2.2.2.2.2.2.2)
def f_X14_value_R106 (n : Nat) (rec : Nat → Int32 → bX14 → bX13 → Option (Int32 × Int32 × Int32 × Int32 × Int32 × Int32 × Int32 × (Nat → Int32) × (Nat → Int32) × (Nat → Int32))) (b_h : bX14) (b_h_fresh : bX13) (w_h_token : Int32) (w_h_isWrong : Int32) (w_h_error : Int32) (w_h_errorToken : Int32) (w_h_deep : Int32) (w_h_fresh_nodes : Int32) (w_h_fresh_sort : Nat → Int32) (w_h_fresh_left : Nat → Int32) (w_h_fresh_right : Nat → Int32) : Option (Int32 × Int32 × Int32 × Int32 × Int32 × Int32 × Int32 × (Nat → Int32) × (Nat → Int32) × (Nat → Int32)) :=
  (f_X14_takes 6 ((X14_thrown b_h), (X14_tape b_h), (X14_bytes b_h), (X14_errorAt b_h), (X14_kind b_h), (X14_number b_h), (X14_position b_h), (X14_length b_h), w_h_token, w_h_isWrong, w_h_error, w_h_errorToken, w_h_deep, (X14_frontName b_h), (X14_guestName b_h), (X14_value b_h), (X14_now b_h), (X14_kept b_h))).bind fun u4 =>
  if u4.1 = 0 then
  (f_X14_is 29 ((X14_thrown b_h), (X14_tape b_h), (X14_bytes b_h), (X14_errorAt b_h), (X14_kind b_h), (X14_number b_h), (X14_position b_h), (X14_length b_h), u4.2, w_h_isWrong, w_h_error, w_h_errorToken, w_h_deep, (X14_frontName b_h), (X14_guestName b_h), (X14_value b_h), (X14_now b_h), (X14_kept b_h))).bind fun u6 =>
  if u6 = 0 then
  (f_X14_is 30 ((X14_thrown b_h), (X14_tape b_h), (X14_bytes b_h), (X14_errorAt b_h), (X14_kind b_h), (X14_number b_h), (X14_position b_h), (X14_length b_h), u4.2, w_h_isWrong, w_h_error, w_h_errorToken, w_h_deep, (X14_frontName b_h), (X14_guestName b_h), (X14_value b_h), (X14_now b_h), (X14_kept b_h))).bind fun u10 =>
  if u10 = 0 then
  (f_X14_is 59 ((X14_thrown b_h), (X14_tape b_h), (X14_bytes b_h), (X14_errorAt b_h), (X14_kind b_h), (X14_number b_h), (X14_position b_h), (X14_length b_h), u4.2, w_h_isWrong, w_h_error, w_h_errorToken, w_h_deep, (X14_frontName b_h), (X14_guestName b_h), (X14_value b_h), (X14_now b_h), (X14_kept b_h))).bind fun u12 =>
  if u12 = 0 then
  (f_X14_is 51 ((X14_thrown b_h), (X14_tape b_h), (X14_bytes b_h), (X14_errorAt b_h), (X14_kind b_h), (X14_number b_h), (X14_position b_h), (X14_length b_h), u4.2, w_h_isWrong, w_h_error, w_h_errorToken, w_h_deep, (X14_frontName b_h), (X14_guestName b_h), (X14_value b_h), (X14_now b_h), (X14_kept b_h))).bind fun u14 =>
  if u14 = 0 then
  (f_X14_wrong ((X14_thrown b_h), (X14_tape b_h), (X14_bytes b_h), (X14_errorAt b_h), (X14_kind b_h), (X14_number b_h), (X14_position b_h), (X14_length b_h), u4.2, w_h_isWrong, w_h_error, w_h_errorToken, w_h_deep, (X14_frontName b_h), (X14_guestName b_h), (X14_value b_h), (X14_now b_h), (X14_kept b_h))).bind fun u19 =>
  some (0, u4.2, u19.1, u19.2.1, u19.2.2, w_h_deep, w_h_fresh_nodes, w_h_fresh_sort, w_h_fresh_left, w_h_fresh_right) else
  (f_X14_deeper ((X14_thrown b_h), (X14_tape b_h), (X14_bytes b_h), (X14_errorAt b_h), (X14_kind b_h), (X14_number b_h), (X14_position b_h), (X14_length b_h), u4.2, w_h_isWrong, w_h_error, w_h_errorToken, w_h_deep, (X14_frontName b_h), (X14_guestName b_h), (X14_value b_h), (X14_now b_h), (X14_kept b_h))).bind fun u16 =>
  (rec 6 0 ((X14_thrown b_h), (X14_tape b_h), (X14_bytes b_h), (X14_errorAt b_h), (X14_kind b_h), (X14_number b_h), (X14_position b_h), (X14_length b_h), u16.1, u16.2.1, u16.2.2.1, u16.2.2.2.1, u16.2.2.2.2, (X14_frontName b_h), (X14_guestName b_h), (X14_value b_h), (X14_now b_h), (X14_kept b_h)) ((X13_fronts b_h_fresh), (X13_warm b_h_fresh), (X13_force b_h_fresh), (X13_comes b_h_fresh), (X13_stays b_h_fresh), (X13_guests b_h_fresh), (X13_sits b_h_fresh), (X13_low b_h_fresh), (X13_high b_h_fresh), (X13_nerve b_h_fresh), (X13_orders b_h_fresh), (X13_does b_h_fresh), (X13_whom b_h_fresh), (X13_from b_h_fresh), (X13_to b_h_fresh), (X13_test b_h_fresh), w_h_fresh_nodes, w_h_fresh_sort, w_h_fresh_left, w_h_fresh_right)).bind fun u17 =>
  (f_X14_node 70 u17.1 0 ((X14_thrown b_h), (X14_tape b_h), (X14_bytes b_h), (X14_errorAt b_h), (X14_kind b_h), (X14_number b_h), (X14_position b_h), (X14_length b_h), u17.2.1, u17.2.2.1, u17.2.2.2.1, u17.2.2.2.2.1, (u17.2.2.2.2.2.1 - 1), (X14_frontName b_h), (X14_guestName b_h), (X14_value b_h), (X14_now b_h), (X14_kept b_h)) ((X13_fronts b_h_fresh), (X13_warm b_h_fresh), (X13_force b_h_fresh), (X13_comes b_h_fresh), (X13_stays b_h_fresh), (X13_guests b_h_fresh), (X13_sits b_h_fresh), (X13_low b_h_fresh), (X13_high b_h_fresh), (X13_nerve b_h_fresh), (X13_orders b_h_fresh), (X13_does b_h_fresh), (X13_whom b_h_fresh), (X13_from b_h_fresh), (X13_to b_h_fresh), (X13_test b_h_fresh), u17.2.2.2.2.2.2.1, u17.2.2.2.2.2.2.2.1, u17.2.2.2.2.2.2.2.2.1, u17.2.2.2.2.2.2.2.2.2)).bind fun u18 =>
  some (u18.1, u17.2.1, u17.2.2.1, u17.2.2.2.1, u17.2.2.2.2.1, (u17.2.2.2.2.2.1 - 1), u18.2.1, u18.2.2.1, u18.2.2.2.1, u18.2.2.2.2) else
  (rec 7 0 ((X14_thrown b_h), (X14_tape b_h), (X14_bytes b_h), (X14_errorAt b_h), (X14_kind b_h), (X14_number b_h), (X14_position b_h), (X14_length b_h), u4.2, w_h_isWrong, w_h_error, w_h_errorToken, w_h_deep, (X14_frontName b_h), (X14_guestName b_h), (X14_value b_h), (X14_now b_h), (X14_kept b_h)) ((X13_fronts b_h_fresh), (X13_warm b_h_fresh), (X13_force b_h_fresh), (X13_comes b_h_fresh), (X13_stays b_h_fresh), (X13_guests b_h_fresh), (X13_sits b_h_fresh), (X13_low b_h_fresh), (X13_high b_h_fresh), (X13_nerve b_h_fresh), (X13_orders b_h_fresh), (X13_does b_h_fresh), (X13_whom b_h_fresh), (X13_from b_h_fresh), (X13_to b_h_fresh), (X13_test b_h_fresh), w_h_fresh_nodes, w_h_fresh_sort, w_h_fresh_left, w_h_fresh_right)).bind fun u20 =>
  some (u20.1, u20.2.1, u20.2.2.1, u20.2.2.2.1, u20.2.2.2.2.1, u20.2.2.2.2.2.1, u20.2.2.2.2.2.2.1, u20.2.2.2.2.2.2.2.1, u20.2.2.2.2.2.2.2.2.1, u20.2.2.2.2.2.2.2.2.2) else
  f_X14_value_R151 n rec b_h b_h_fresh u4.2 w_h_isWrong w_h_error w_h_errorToken w_h_deep w_h_fresh_nodes w_h_fresh_sort w_h_fresh_left w_h_fresh_right else
  f_X14_value_R151 n rec b_h b_h_fresh u4.2 w_h_isWrong w_h_error w_h_errorToken w_h_deep w_h_fresh_nodes w_h_fresh_sort w_h_fresh_left w_h_fresh_right else
  (f_X14_take 31 ((X14_thrown b_h), (X14_tape b_h), (X14_bytes b_h), (X14_errorAt b_h), (X14_kind b_h), (X14_number b_h), (X14_position b_h), (X14_length b_h), u4.2, w_h_isWrong, w_h_error, w_h_errorToken, w_h_deep, (X14_frontName b_h), (X14_guestName b_h), (X14_value b_h), (X14_now b_h), (X14_kept b_h))).bind fun u21 =>
  (f_X14_front n ((X14_thrown b_h), (X14_tape b_h), (X14_bytes b_h), (X14_errorAt b_h), (X14_kind b_h), (X14_number b_h), (X14_position b_h), (X14_length b_h), u21.1, u21.2.1, u21.2.2.1, u21.2.2.2, w_h_deep, (X14_frontName b_h), (X14_guestName b_h), (X14_value b_h), (X14_now b_h), (X14_kept b_h)) ((X13_fronts b_h_fresh), (X13_warm b_h_fresh), (X13_force b_h_fresh), (X13_comes b_h_fresh), (X13_stays b_h_fresh), (X13_guests b_h_fresh), (X13_sits b_h_fresh), (X13_low b_h_fresh), (X13_high b_h_fresh), (X13_nerve b_h_fresh), (X13_orders b_h_fresh), (X13_does b_h_fresh), (X13_whom b_h_fresh), (X13_from b_h_fresh), (X13_to b_h_fresh), (X13_test b_h_fresh), w_h_fresh_nodes, w_h_fresh_sort, w_h_fresh_left, w_h_fresh_right)).bind fun u22 =>
  (f_X14_node 6 u22.1 0 ((X14_thrown b_h), (X14_tape b_h), (X14_bytes b_h), (X14_errorAt b_h), (X14_kind b_h), (X14_number b_h), (X14_position b_h), (X14_length b_h), u22.2.1, u22.2.2.1, u22.2.2.2.1, u22.2.2.2.2, w_h_deep, (X14_frontName b_h), (X14_guestName b_h), (X14_value b_h), (X14_now b_h), (X14_kept b_h)) ((X13_fronts b_h_fresh), (X13_warm b_h_fresh), (X13_force b_h_fresh), (X13_comes b_h_fresh), (X13_stays b_h_fresh), (X13_guests b_h_fresh), (X13_sits b_h_fresh), (X13_low b_h_fresh), (X13_high b_h_fresh), (X13_nerve b_h_fresh), (X13_orders b_h_fresh), (X13_does b_h_fresh), (X13_whom b_h_fresh), (X13_from b_h_fresh), (X13_to b_h_fresh), (X13_test b_h_fresh), w_h_fresh_nodes, w_h_fresh_sort, w_h_fresh_left, w_h_fresh_right)).bind fun u23 =>
  some (u23.1, u22.2.1, u22.2.2.1, u22.2.2.2.1, u22.2.2.2.2, w_h_deep, u23.2.1, u23.2.2.1, u23.2.2.2.1, u23.2.2.2.2)
def f_X14_value_R78 (n : Nat) (rec : Nat → Int32 → bX14 → bX13 → Option (Int32 × Int32 × Int32 × Int32 × Int32 × Int32 × Int32 × (Nat → Int32) × (Nat → Int32) × (Nat → Int32))) (b_h : bX14) (b_h_fresh : bX13) (w_h_token : Int32) (w_h_isWrong : Int32) (w_h_error : Int32) (w_h_errorToken : Int32) (w_h_deep : Int32) (w_h_fresh_nodes : Int32) (w_h_fresh_sort : Nat → Int32) (w_h_fresh_left : Nat → Int32) (w_h_fresh_right : Nat → Int32) : Option (Int32 × Int32 × Int32 × Int32 × Int32 × Int32 × Int32 × (Nat → Int32) × (Nat → Int32) × (Nat → Int32)) :=
  if ((w_h_token + 1) - 1) < 0 ∨ 402 ≤ ((w_h_token + 1) - 1).toNatClampNeg then none else
  (f_X14_node ((X14_kind b_h) ((w_h_token + 1) - 1).toNatClampNeg) 0 0 ((X14_thrown b_h), (X14_tape b_h), (X14_bytes b_h), (X14_errorAt b_h), (X14_kind b_h), (X14_number b_h), (X14_position b_h), (X14_length b_h), (w_h_token + 1), w_h_isWrong, w_h_error, w_h_errorToken, w_h_deep, (X14_frontName b_h), (X14_guestName b_h), (X14_value b_h), (X14_now b_h), (X14_kept b_h)) ((X13_fronts b_h_fresh), (X13_warm b_h_fresh), (X13_force b_h_fresh), (X13_comes b_h_fresh), (X13_stays b_h_fresh), (X13_guests b_h_fresh), (X13_sits b_h_fresh), (X13_low b_h_fresh), (X13_high b_h_fresh), (X13_nerve b_h_fresh), (X13_orders b_h_fresh), (X13_does b_h_fresh), (X13_whom b_h_fresh), (X13_from b_h_fresh), (X13_to b_h_fresh), (X13_test b_h_fresh), w_h_fresh_nodes, w_h_fresh_sort, w_h_fresh_left, w_h_fresh_right)).bind fun u28 =>
  some (u28.1, (w_h_token + 1), w_h_isWrong, w_h_error, w_h_errorToken, w_h_deep, u28.2.1, u28.2.2.1, u28.2.2.2.1, u28.2.2.2.2)
def f_X14_value (n : Nat) (rec : Nat → Int32 → bX14 → bX13 → Option (Int32 × Int32 × Int32 × Int32 × Int32 × Int32 × Int32 × (Nat → Int32) × (Nat → Int32) × (Nat → Int32))) (b_h : bX14) (b_h_fresh : bX13) : Option (Int32 × Int32 × Int32 × Int32 × Int32 × Int32 × Int32 × (Nat → Int32) × (Nat → Int32) × (Nat → Int32)) :=
  (f_X14_is 41 b_h).bind fun u1 =>
  if u1 = 0 then
  if (X14_isWrong b_h) = 0 then
  if (X14_token b_h) < 0 ∨ 402 ≤ (X14_token b_h).toNatClampNeg then none else
  (f_X14_isIn ((X14_kind b_h) (X14_token b_h).toNatClampNeg) 16 21).bind fun u25 =>
  if u25 = 0 then
  if (X14_token b_h) < 0 ∨ 402 ≤ (X14_token b_h).toNatClampNeg then none else
  if ((X14_kind b_h) (X14_token b_h).toNatClampNeg) = (24 : Int32) then
  f_X14_value_R78 n rec b_h b_h_fresh (X14_token b_h) (X14_isWrong b_h) (X14_error b_h) (X14_errorToken b_h) (X14_deep b_h) (X13_nodes b_h_fresh) (X13_sort b_h_fresh) (X13_left b_h_fresh) (X13_right b_h_fresh) else
  f_X14_value_R106 n rec b_h b_h_fresh (X14_token b_h) (X14_isWrong b_h) (X14_error b_h) (X14_errorToken b_h) (X14_deep b_h) (X13_nodes b_h_fresh) (X13_sort b_h_fresh) (X13_left b_h_fresh) (X13_right b_h_fresh) else
  f_X14_value_R78 n rec b_h b_h_fresh (X14_token b_h) (X14_isWrong b_h) (X14_error b_h) (X14_errorToken b_h) (X14_deep b_h) (X13_nodes b_h_fresh) (X13_sort b_h_fresh) (X13_left b_h_fresh) (X13_right b_h_fresh) else
  f_X14_value_R106 n rec b_h b_h_fresh (X14_token b_h) (X14_isWrong b_h) (X14_error b_h) (X14_errorToken b_h) (X14_deep b_h) (X13_nodes b_h_fresh) (X13_sort b_h_fresh) (X13_left b_h_fresh) (X13_right b_h_fresh) else
  if (((X14_token b_h) + 1) - 1) < 0 ∨ 402 ≤ (((X14_token b_h) + 1) - 1).toNatClampNeg then none else
  (f_X14_node 41 ((X14_number b_h) (((X14_token b_h) + 1) - 1).toNatClampNeg) 0 ((X14_thrown b_h), (X14_tape b_h), (X14_bytes b_h), (X14_errorAt b_h), (X14_kind b_h), (X14_number b_h), (X14_position b_h), (X14_length b_h), ((X14_token b_h) + 1), (X14_isWrong b_h), (X14_error b_h), (X14_errorToken b_h), (X14_deep b_h), (X14_frontName b_h), (X14_guestName b_h), (X14_value b_h), (X14_now b_h), (X14_kept b_h)) b_h_fresh).bind fun u32 =>
  some (u32.1, ((X14_token b_h) + 1), (X14_isWrong b_h), (X14_error b_h), (X14_errorToken b_h), (X14_deep b_h), u32.2.1, u32.2.2.1, u32.2.2.2.1, u32.2.2.2.2)

def f_X14_inBrackets (n : Nat) (rec : Nat → Int32 → bX14 → bX13 → Option (Int32 × Int32 × Int32 × Int32 × Int32 × Int32 × Int32 × (Nat → Int32) × (Nat → Int32) × (Nat → Int32))) (b_h : bX14) (b_h_fresh : bX13) : Option (Int32 × Int32 × Int32 × Int32 × Int32 × Int32 × Int32 × (Nat → Int32) × (Nat → Int32) × (Nat → Int32)) :=
  (f_X14_deeper b_h).bind fun u1 =>
  (rec 4 0 ((X14_thrown b_h), (X14_tape b_h), (X14_bytes b_h), (X14_errorAt b_h), (X14_kind b_h), (X14_number b_h), (X14_position b_h), (X14_length b_h), u1.1, u1.2.1, u1.2.2.1, u1.2.2.2.1, u1.2.2.2.2, (X14_frontName b_h), (X14_guestName b_h), (X14_value b_h), (X14_now b_h), (X14_kept b_h)) b_h_fresh).bind fun u2 =>
  (f_X14_take 60 ((X14_thrown b_h), (X14_tape b_h), (X14_bytes b_h), (X14_errorAt b_h), (X14_kind b_h), (X14_number b_h), (X14_position b_h), (X14_length b_h), u2.2.1, u2.2.2.1, u2.2.2.2.1, u2.2.2.2.2.1, u2.2.2.2.2.2.1, (X14_frontName b_h), (X14_guestName b_h), (X14_value b_h), (X14_now b_h), (X14_kept b_h))).bind fun u3 =>
  some (u2.1, u3.1, u3.2.1, u3.2.2.1, u3.2.2.2, (u2.2.2.2.2.2.1 - 1), u2.2.2.2.2.2.2.1, u2.2.2.2.2.2.2.2.1, u2.2.2.2.2.2.2.2.2.1, u2.2.2.2.2.2.2.2.2.2)

def f_X14_ofTwo (n : Nat) (rec : Nat → Int32 → bX14 → bX13 → Option (Int32 × Int32 × Int32 × Int32 × Int32 × Int32 × Int32 × (Nat → Int32) × (Nat → Int32) × (Nat → Int32))) (x0 : Int32) (b_h : bX14) (b_h_fresh : bX13) : Option (Int32 × Int32 × Int32 × Int32 × Int32 × Int32 × Int32 × (Nat → Int32) × (Nat → Int32) × (Nat → Int32)) :=
  (f_X14_is 59 ((X14_thrown b_h), (X14_tape b_h), (X14_bytes b_h), (X14_errorAt b_h), (X14_kind b_h), (X14_number b_h), (X14_position b_h), (X14_length b_h), ((X14_token b_h) + 1), (X14_isWrong b_h), (X14_error b_h), (X14_errorToken b_h), (X14_deep b_h), (X14_frontName b_h), (X14_guestName b_h), (X14_value b_h), (X14_now b_h), (X14_kept b_h))).bind fun u1 =>
  if u1 = 0 then
  (f_X14_wrong ((X14_thrown b_h), (X14_tape b_h), (X14_bytes b_h), (X14_errorAt b_h), (X14_kind b_h), (X14_number b_h), (X14_position b_h), (X14_length b_h), ((X14_token b_h) + 1), (X14_isWrong b_h), (X14_error b_h), (X14_errorToken b_h), (X14_deep b_h), (X14_frontName b_h), (X14_guestName b_h), (X14_value b_h), (X14_now b_h), (X14_kept b_h))).bind fun u9 =>
  some (0, ((X14_token b_h) + 1), u9.1, u9.2.1, u9.2.2, (X14_deep b_h), (X13_nodes b_h_fresh), (X13_sort b_h_fresh), (X13_left b_h_fresh), (X13_right b_h_fresh)) else
  (f_X14_deeper ((X14_thrown b_h), (X14_tape b_h), (X14_bytes b_h), (X14_errorAt b_h), (X14_kind b_h), (X14_number b_h), (X14_position b_h), (X14_length b_h), ((X14_token b_h) + 1), (X14_isWrong b_h), (X14_error b_h), (X14_errorToken b_h), (X14_deep b_h), (X14_frontName b_h), (X14_guestName b_h), (X14_value b_h), (X14_now b_h), (X14_kept b_h))).bind fun u3 =>
  (rec 4 0 ((X14_thrown b_h), (X14_tape b_h), (X14_bytes b_h), (X14_errorAt b_h), (X14_kind b_h), (X14_number b_h), (X14_position b_h), (X14_length b_h), u3.1, u3.2.1, u3.2.2.1, u3.2.2.2.1, u3.2.2.2.2, (X14_frontName b_h), (X14_guestName b_h), (X14_value b_h), (X14_now b_h), (X14_kept b_h)) b_h_fresh).bind fun u4 =>
  (f_X14_take 64 ((X14_thrown b_h), (X14_tape b_h), (X14_bytes b_h), (X14_errorAt b_h), (X14_kind b_h), (X14_number b_h), (X14_position b_h), (X14_length b_h), u4.2.1, u4.2.2.1, u4.2.2.2.1, u4.2.2.2.2.1, u4.2.2.2.2.2.1, (X14_frontName b_h), (X14_guestName b_h), (X14_value b_h), (X14_now b_h), (X14_kept b_h))).bind fun u5 =>
  (rec 4 0 ((X14_thrown b_h), (X14_tape b_h), (X14_bytes b_h), (X14_errorAt b_h), (X14_kind b_h), (X14_number b_h), (X14_position b_h), (X14_length b_h), u5.1, u5.2.1, u5.2.2.1, u5.2.2.2, u4.2.2.2.2.2.1, (X14_frontName b_h), (X14_guestName b_h), (X14_value b_h), (X14_now b_h), (X14_kept b_h)) ((X13_fronts b_h_fresh), (X13_warm b_h_fresh), (X13_force b_h_fresh), (X13_comes b_h_fresh), (X13_stays b_h_fresh), (X13_guests b_h_fresh), (X13_sits b_h_fresh), (X13_low b_h_fresh), (X13_high b_h_fresh), (X13_nerve b_h_fresh), (X13_orders b_h_fresh), (X13_does b_h_fresh), (X13_whom b_h_fresh), (X13_from b_h_fresh), (X13_to b_h_fresh), (X13_test b_h_fresh), u4.2.2.2.2.2.2.1, u4.2.2.2.2.2.2.2.1, u4.2.2.2.2.2.2.2.2.1, u4.2.2.2.2.2.2.2.2.2)).bind fun u6 =>
  (f_X14_take 60 ((X14_thrown b_h), (X14_tape b_h), (X14_bytes b_h), (X14_errorAt b_h), (X14_kind b_h), (X14_number b_h), (X14_position b_h), (X14_length b_h), u6.2.1, u6.2.2.1, u6.2.2.2.1, u6.2.2.2.2.1, u6.2.2.2.2.2.1, (X14_frontName b_h), (X14_guestName b_h), (X14_value b_h), (X14_now b_h), (X14_kept b_h))).bind fun u7 =>
  (f_X14_node x0 u4.1 u6.1 ((X14_thrown b_h), (X14_tape b_h), (X14_bytes b_h), (X14_errorAt b_h), (X14_kind b_h), (X14_number b_h), (X14_position b_h), (X14_length b_h), u7.1, u7.2.1, u7.2.2.1, u7.2.2.2, (u6.2.2.2.2.2.1 - 1), (X14_frontName b_h), (X14_guestName b_h), (X14_value b_h), (X14_now b_h), (X14_kept b_h)) ((X13_fronts b_h_fresh), (X13_warm b_h_fresh), (X13_force b_h_fresh), (X13_comes b_h_fresh), (X13_stays b_h_fresh), (X13_guests b_h_fresh), (X13_sits b_h_fresh), (X13_low b_h_fresh), (X13_high b_h_fresh), (X13_nerve b_h_fresh), (X13_orders b_h_fresh), (X13_does b_h_fresh), (X13_whom b_h_fresh), (X13_from b_h_fresh), (X13_to b_h_fresh), (X13_test b_h_fresh), u6.2.2.2.2.2.2.1, u6.2.2.2.2.2.2.2.1, u6.2.2.2.2.2.2.2.2.1, u6.2.2.2.2.2.2.2.2.2)).bind fun u8 =>
  some (u8.1, u7.1, u7.2.1, u7.2.2.1, u7.2.2.2, (u6.2.2.2.2.2.1 - 1), u8.2.1, u8.2.2.1, u8.2.2.2.1, u8.2.2.2.2)

def sel_X14 (n : Nat) (rec : Nat → Int32 → bX14 → bX13 → Option (Int32 × Int32 × Int32 × Int32 × Int32 × Int32 × Int32 × (Nat → Int32) × (Nat → Int32) × (Nat → Int32))) (j : Nat) (x : Int32) (b_h : bX14) (b_h_fresh : bX13) : Option (Int32 × Int32 × Int32 × Int32 × Int32 × Int32 × Int32 × (Nat → Int32) × (Nat → Int32) × (Nat → Int32)) := match j with
  | 0 => f_X14_test n rec b_h b_h_fresh
  | 1 => f_X14_both n rec b_h b_h_fresh
  | 2 => f_X14_single n rec b_h b_h_fresh
  | 3 => f_X14_comparison n rec b_h b_h_fresh
  | 4 => f_X14_sum n rec b_h b_h_fresh
  | 5 => f_X14_product n rec b_h b_h_fresh
  | 6 => f_X14_value n rec b_h b_h_fresh
  | 7 => f_X14_inBrackets n rec b_h b_h_fresh
  | 8 => f_X14_ofTwo n rec x b_h b_h_fresh
  | _ => none
def g_X14 (n : Nat) : Nat → Nat → Int32 → bX14 → bX13 → Option (Int32 × Int32 × Int32 × Int32 × Int32 × Int32 × Int32 × (Nat → Int32) × (Nat → Int32) × (Nat → Int32))
  | 0 => fun _ _ _ _ => none
  | d + 1 => sel_X14 n (g_X14 n d)

def f_X14_bringBack (b_h : bX14) : Option ((Nat → Int32)) :=
  if ¬ (58 : Int32) < 0 ∧ (58 : Int32).toNatClampNeg ≤ 58 ∧ (58 : Int32).toNatClampNeg ≤ 58 then
  some (va_cpy (X14_kept b_h) (X14_now b_h) 0 0 (58 : Int32).toNatClampNeg) else none

def f_X14_byteAt (x0 : Int32) (b_h : bX14) : Option (Int32) :=
  if (X14_bytes b_h) ≤ x0 then
  some (-1) else
  if x0 < 0 ∨ 2000 ≤ x0.toNatClampNeg then none else
  some ((X14_tape b_h) x0.toNatClampNeg)

def f_X14_calm (b_h : bX14) : Option ((Nat → Int32)) :=
  if (3 : Int32) < 0 ∨ 58 ≤ (3 : Int32).toNatClampNeg then none else
  if (3 : Int32) < 0 ∨ 58 ≤ (3 : Int32).toNatClampNeg then none else
  if (5 : Int32) < 0 ∨ 58 ≤ (5 : Int32).toNatClampNeg then none else
  if (5 : Int32) < 0 ∨ 58 ≤ (5 : Int32).toNatClampNeg then none else
  some (upd (upd (X14_now b_h) (3 : Int32).toNatClampNeg (if 0 < (((X14_now b_h) (3 : Int32).toNatClampNeg) - 5) then (((X14_now b_h) (3 : Int32).toNatClampNeg) - 5) else 0)) (5 : Int32).toNatClampNeg (((upd (X14_now b_h) (3 : Int32).toNatClampNeg (if 0 < (((X14_now b_h) (3 : Int32).toNatClampNeg) - 5) then (((X14_now b_h) (3 : Int32).toNatClampNeg) - 5) else 0)) (5 : Int32).toNatClampNeg) - 1))

def f_X14_joined (x0 : Int32) (x1 : Int32) (x2 : Int32) : Option (Int32) :=
  if x0 = 27 then
  some (x1 &&& x2) else
  if x0 = 28 then
  some (x1 ||| x2) else
  if x0 = 29 then
  some (if x2 < x1 then x2 else x1) else
  if x0 = 30 then
  some (if x1 < x2 then x2 else x1) else
  if x0 = 50 then
  some (x1 + x2) else
  if x0 = 51 then
  some (x1 - x2) else
  if x0 = 52 then
  some (x1 * x2) else
  if x0 = 53 then
  if x2 = 0 then
  some 0 else
  if x2 = 0 then none else
  some (x1 / x2) else
  if x0 = 54 then
  if x2 ≤ x1 then
  some 0 else
  some 1 else
  if x0 = 55 then
  if x1 ≤ x2 then
  some 0 else
  some 1 else
  if x0 = 56 then
  if x1 = x2 then
  some 1 else
  some 0 else
  if x0 = 57 then
  if x2 < x1 then
  some 0 else
  some 1 else
  if x1 < x2 then
  some 0 else
  some 1

def f_X14_reckon (x0 : Int32) (x1 : Int32) (x2 : Int32) (b_h : bX14) (b_h_told : bX13) : Option (Int32) :=
  (f_X14_isIn x0 16 21).bind fun u1 =>
  if u1 = 0 then
  if x0 = 6 then
  if x1 < 0 ∨ 11 ≤ x1.toNatClampNeg then none else
  some ((X13_force b_h_told) x1.toNatClampNeg) else
  if x0 = 22 then
  if (28 + x1) < 0 ∨ 58 ≤ (28 + x1).toNatClampNeg then none else
  some ((X14_now b_h) (28 + x1).toNatClampNeg) else
  if x0 = 23 then
  if (8 + x1) < 0 ∨ 58 ≤ (8 + x1).toNatClampNeg then none else
  some ((X14_now b_h) (8 + x1).toNatClampNeg) else
  if x0 = 24 then
  if (6 : Int32) < 0 ∨ 58 ≤ (6 : Int32).toNatClampNeg then none else
  some ((X14_now b_h) (6 : Int32).toNatClampNeg) else
  if x0 = 25 then
  (f_X14_likes x1 b_h b_h_told).bind fun u12 =>
  if u12 = 0 then
  some 0 else
  some 1 else
  if x0 = 26 then
  if x1 < 0 ∨ 800 ≤ x1.toNatClampNeg then none else
  some (1 - ((X14_value b_h) x1.toNatClampNeg)) else
  if x0 = 41 then
  some x1 else
  if x0 = 70 then
  if x1 < 0 ∨ 800 ≤ x1.toNatClampNeg then none else
  some (-((X14_value b_h) x1.toNatClampNeg)) else
  if x1 < 0 ∨ 800 ≤ x1.toNatClampNeg then none else
  if x2 < 0 ∨ 800 ≤ x2.toNatClampNeg then none else
  (f_X14_joined x0 ((X14_value b_h) x1.toNatClampNeg) ((X14_value b_h) x2.toNatClampNeg)).bind fun u21 =>
  some u21 else
  if ((0 + x0) - 16) < 0 ∨ 58 ≤ ((0 + x0) - 16).toNatClampNeg then none else
  some ((X14_now b_h) ((0 + x0) - 16).toNatClampNeg)

def f_X14_steepIt (x0 : Int32) (b_h : bX14) (b_h_told : bX13) : Option ((Nat → Int32)) :=
  if (2 : Int32) < 0 ∨ 58 ≤ (2 : Int32).toNatClampNeg then none else
  if x0 < 0 ∨ 11 ≤ x0.toNatClampNeg then none else
  if (2 : Int32) < 0 ∨ 58 ≤ (2 : Int32).toNatClampNeg then none else
  if (8 + x0) < 0 ∨ 58 ≤ (8 + x0).toNatClampNeg then none else
  if (18 + x0) < 0 ∨ 58 ≤ (18 + x0).toNatClampNeg then none else
  some (upd (upd (upd (X14_now b_h) (2 : Int32).toNatClampNeg (if (((X14_now b_h) (2 : Int32).toNatClampNeg) + ((X13_force b_h_told) x0.toNatClampNeg)) < 30 then (((X14_now b_h) (2 : Int32).toNatClampNeg) + ((X13_force b_h_told) x0.toNatClampNeg)) else 30)) (8 + x0).toNatClampNeg 0) (18 + x0).toNatClampNeg 1)

def f_X14_squeeze (b_h : bX14) : Option ((Nat → Int32)) :=
  if (3 : Int32) < 0 ∨ 58 ≤ (3 : Int32).toNatClampNeg then none else
  if (3 : Int32) < 0 ∨ 58 ≤ (3 : Int32).toNatClampNeg then none else
  if (4 : Int32) < 0 ∨ 58 ≤ (4 : Int32).toNatClampNeg then none else
  if (4 : Int32) < 0 ∨ 58 ≤ (4 : Int32).toNatClampNeg then none else
  some (upd (upd (X14_now b_h) (3 : Int32).toNatClampNeg (if (((X14_now b_h) (3 : Int32).toNatClampNeg) + 6) < 30 then (((X14_now b_h) (3 : Int32).toNatClampNeg) + 6) else 30)) (4 : Int32).toNatClampNeg (((upd (X14_now b_h) (3 : Int32).toNatClampNeg (if (((X14_now b_h) (3 : Int32).toNatClampNeg) + 6) < 30 then (((X14_now b_h) (3 : Int32).toNatClampNeg) + 6) else 30)) (4 : Int32).toNatClampNeg) - 1))

def f_X14_serveIt (x0 : Int32) (b_h : bX14) : Option (Int32 × (Nat → Int32)) :=
  if (2 : Int32) < 0 ∨ 58 ≤ (2 : Int32).toNatClampNeg then none else
  if (7 : Int32) < 0 ∨ 58 ≤ (7 : Int32).toNatClampNeg then none else
  if (7 : Int32) < 0 ∨ 58 ≤ (7 : Int32).toNatClampNeg then none else
  if (28 + x0) < 0 ∨ 58 ≤ (28 + x0).toNatClampNeg then none else
  if (38 + x0) < 0 ∨ 58 ≤ (38 + x0).toNatClampNeg then none else
  if (2 : Int32) < 0 ∨ 58 ≤ (2 : Int32).toNatClampNeg then none else
  some (((X14_now b_h) (2 : Int32).toNatClampNeg), (upd (upd (upd (upd (X14_now b_h) (7 : Int32).toNatClampNeg (((X14_now b_h) (7 : Int32).toNatClampNeg) + ((X14_now b_h) (2 : Int32).toNatClampNeg))) (28 + x0).toNatClampNeg 0) (38 + x0).toNatClampNeg 1) (2 : Int32).toNatClampNeg (if 0 < (((X14_now b_h) (2 : Int32).toNatClampNeg) - 3) then (((X14_now b_h) (2 : Int32).toNatClampNeg) - 3) else 0)))

def f_X14_carryOut_R188 (n : Nat) (x0 : Int32) (b_h : bX14) (b_h_told : bX13) (v1 : Int32) (v2 : Int32) (w_h_value : Nat → Int32) (w_h_now : Nat → Int32) : Option ((Nat → Int32) × (Nat → Int32)) :=
  if v1 < 0 ∨ 17 ≤ v1.toNatClampNeg then none else
  if ((X13_does b_h_told) v1.toNatClampNeg) = (14 : Int32) then
  (f_X14_likes v2 ((X14_thrown b_h), (X14_tape b_h), (X14_bytes b_h), (X14_errorAt b_h), (X14_kind b_h), (X14_number b_h), (X14_position b_h), (X14_length b_h), (X14_token b_h), (X14_isWrong b_h), (X14_error b_h), (X14_errorToken b_h), (X14_deep b_h), (X14_frontName b_h), (X14_guestName b_h), w_h_value, w_h_now, (X14_kept b_h)) b_h_told).bind fun u15 =>
  if u15 = 0 then
  some (w_h_value, w_h_now) else
  (f_X14_serveIt v2 ((X14_thrown b_h), (X14_tape b_h), (X14_bytes b_h), (X14_errorAt b_h), (X14_kind b_h), (X14_number b_h), (X14_position b_h), (X14_length b_h), (X14_token b_h), (X14_isWrong b_h), (X14_error b_h), (X14_errorToken b_h), (X14_deep b_h), (X14_frontName b_h), (X14_guestName b_h), w_h_value, w_h_now, (X14_kept b_h))).bind fun u17 =>
  some (w_h_value, u17.2) else
  some (w_h_value, w_h_now)
def f_X14_carryOut_R161 (n : Nat) (x0 : Int32) (b_h : bX14) (b_h_told : bX13) (v1 : Int32) (v2 : Int32) (w_h_value : Nat → Int32) (w_h_now : Nat → Int32) : Option ((Nat → Int32) × (Nat → Int32)) :=
  if v1 < 0 ∨ 17 ≤ v1.toNatClampNeg then none else
  if ((X13_does b_h_told) v1.toNatClampNeg) = (13 : Int32) then
  if (5 : Int32) < 0 ∨ 58 ≤ (5 : Int32).toNatClampNeg then none else
  if (w_h_now (5 : Int32).toNatClampNeg) ≤ 0 then
  f_X14_carryOut_R188 n x0 b_h b_h_told v1 v2 w_h_value w_h_now else
  (f_X14_calm ((X14_thrown b_h), (X14_tape b_h), (X14_bytes b_h), (X14_errorAt b_h), (X14_kind b_h), (X14_number b_h), (X14_position b_h), (X14_length b_h), (X14_token b_h), (X14_isWrong b_h), (X14_error b_h), (X14_errorToken b_h), (X14_deep b_h), (X14_frontName b_h), (X14_guestName b_h), w_h_value, w_h_now, (X14_kept b_h))).bind fun u20 =>
  f_X14_carryOut_R188 n x0 b_h b_h_told v1 v2 w_h_value u20 else
  f_X14_carryOut_R188 n x0 b_h b_h_told v1 v2 w_h_value w_h_now
def f_X14_carryOut_R134 (n : Nat) (x0 : Int32) (b_h : bX14) (b_h_told : bX13) (v1 : Int32) (v2 : Int32) (w_h_value : Nat → Int32) (w_h_now : Nat → Int32) : Option ((Nat → Int32) × (Nat → Int32)) :=
  if v1 < 0 ∨ 17 ≤ v1.toNatClampNeg then none else
  if ((X13_does b_h_told) v1.toNatClampNeg) = (12 : Int32) then
  if (4 : Int32) < 0 ∨ 58 ≤ (4 : Int32).toNatClampNeg then none else
  if (w_h_now (4 : Int32).toNatClampNeg) ≤ 0 then
  f_X14_carryOut_R161 n x0 b_h b_h_told v1 v2 w_h_value w_h_now else
  (f_X14_squeeze ((X14_thrown b_h), (X14_tape b_h), (X14_bytes b_h), (X14_errorAt b_h), (X14_kind b_h), (X14_number b_h), (X14_position b_h), (X14_length b_h), (X14_token b_h), (X14_isWrong b_h), (X14_error b_h), (X14_errorToken b_h), (X14_deep b_h), (X14_frontName b_h), (X14_guestName b_h), w_h_value, w_h_now, (X14_kept b_h))).bind fun u23 =>
  f_X14_carryOut_R161 n x0 b_h b_h_told v1 v2 w_h_value u23 else
  f_X14_carryOut_R161 n x0 b_h b_h_told v1 v2 w_h_value w_h_now
def f_X14_carryOut_R97 (n : Nat) (x0 : Int32) (b_h : bX14) (b_h_told : bX13) (v1 : Int32) (w_h_value : Nat → Int32) (w_h_now : Nat → Int32) : Option ((Nat → Int32) × (Nat → Int32)) :=
  if v1 < 0 ∨ 17 ≤ v1.toNatClampNeg then none else
  if v1 < 0 ∨ 17 ≤ v1.toNatClampNeg then none else
  if ((X13_does b_h_told) v1.toNatClampNeg) = (11 : Int32) then
  (f_X14_canSteep ((X13_whom b_h_told) v1.toNatClampNeg) ((X14_thrown b_h), (X14_tape b_h), (X14_bytes b_h), (X14_errorAt b_h), (X14_kind b_h), (X14_number b_h), (X14_position b_h), (X14_length b_h), (X14_token b_h), (X14_isWrong b_h), (X14_error b_h), (X14_errorToken b_h), (X14_deep b_h), (X14_frontName b_h), (X14_guestName b_h), w_h_value, w_h_now, (X14_kept b_h))).bind fun u24 =>
  if u24 = 0 then
  f_X14_carryOut_R134 n x0 b_h b_h_told v1 ((X13_whom b_h_told) v1.toNatClampNeg) w_h_value w_h_now else
  (f_X14_steepIt ((X13_whom b_h_told) v1.toNatClampNeg) ((X14_thrown b_h), (X14_tape b_h), (X14_bytes b_h), (X14_errorAt b_h), (X14_kind b_h), (X14_number b_h), (X14_position b_h), (X14_length b_h), (X14_token b_h), (X14_isWrong b_h), (X14_error b_h), (X14_errorToken b_h), (X14_deep b_h), (X14_frontName b_h), (X14_guestName b_h), w_h_value, w_h_now, (X14_kept b_h)) b_h_told).bind fun u26 =>
  f_X14_carryOut_R134 n x0 b_h b_h_told v1 ((X13_whom b_h_told) v1.toNatClampNeg) w_h_value u26 else
  f_X14_carryOut_R134 n x0 b_h b_h_told v1 ((X13_whom b_h_told) v1.toNatClampNeg) w_h_value w_h_now
def f_X14_carryOut_L10 (n : Nat) (x0 : Int32) (b_h : bX14) (b_h_told : bX13) (v1 : Int32) (v2 : Int32) (w_h_value : Nat → Int32) (w_h_now : Nat → Int32) : Option ((Int32 × (Nat → Int32)) ⊕ ((Nat → Int32) × (Nat → Int32))) :=
  if v1 < 0 ∨ 17 ≤ v1.toNatClampNeg then none else
  if ((X13_to b_h_told) v1.toNatClampNeg) ≤ v2 then
  if v1 < 0 ∨ 17 ≤ v1.toNatClampNeg then none else
  if ((X13_test b_h_told) v1.toNatClampNeg) = (-1 : Int32) then
  (f_X14_carryOut_R97 n x0 b_h b_h_told v1 w_h_value w_h_now).bind (fun x => some (Sum.inr x)) else
  if v1 < 0 ∨ 17 ≤ v1.toNatClampNeg then none else
  if ((X13_test b_h_told) v1.toNatClampNeg) < 0 ∨ 800 ≤ ((X13_test b_h_told) v1.toNatClampNeg).toNatClampNeg then none else
  if (w_h_value ((X13_test b_h_told) v1.toNatClampNeg).toNatClampNeg) = 0 then
  some (Sum.inr (w_h_value, w_h_now)) else
  (f_X14_carryOut_R97 n x0 b_h b_h_told v1 w_h_value w_h_now).bind (fun x => some (Sum.inr x)) else
  if v2 < 0 ∨ 800 ≤ v2.toNatClampNeg then none else
  if v2 < 0 ∨ 800 ≤ v2.toNatClampNeg then none else
  if v2 < 0 ∨ 800 ≤ v2.toNatClampNeg then none else
  (f_X14_reckon ((X13_sort b_h_told) v2.toNatClampNeg) ((X13_left b_h_told) v2.toNatClampNeg) ((X13_right b_h_told) v2.toNatClampNeg) ((X14_thrown b_h), (X14_tape b_h), (X14_bytes b_h), (X14_errorAt b_h), (X14_kind b_h), (X14_number b_h), (X14_position b_h), (X14_length b_h), (X14_token b_h), (X14_isWrong b_h), (X14_error b_h), (X14_errorToken b_h), (X14_deep b_h), (X14_frontName b_h), (X14_guestName b_h), w_h_value, w_h_now, (X14_kept b_h)) b_h_told).bind fun u33 =>
  if v2 < 0 ∨ 800 ≤ v2.toNatClampNeg then none else
  some (Sum.inl ((v2 + 1), (upd w_h_value v2.toNatClampNeg u33)))
def f_X14_carryOut (n : Nat) (x0 : Int32) (b_h : bX14) (b_h_told : bX13) : Option ((Nat → Int32) × (Nat → Int32)) :=
  if x0 < 0 ∨ 17 ≤ x0.toNatClampNeg then none else
  iter (fun s : Int32 × (Nat → Int32) => f_X14_carryOut_L10 n x0 b_h b_h_told x0 s.1 s.2 (X14_now b_h)) n (((X13_from b_h_told) x0.toNatClampNeg), (X14_value b_h))

def f_X14_charge (b_h : bX14) : Option (Int32 × Int32) :=
  if (3 : Int32) < 0 ∨ 58 ≤ (3 : Int32).toNatClampNeg then none else
  (f_X14_ok ((X14_now b_h) (3 : Int32).toNatClampNeg) b_h).bind fun u2 =>
  some (u2.1, u2.2)

def f_X14_coins (b_h : bX14) : Option (Int32 × Int32) :=
  if (7 : Int32) < 0 ∨ 58 ≤ (7 : Int32).toNatClampNeg then none else
  (f_X14_ok ((X14_now b_h) (7 : Int32).toNatClampNeg) b_h).bind fun u2 =>
  some (u2.1, u2.2)

def f_X14_no (x0 : Int32) (b_h : bX14) : Option (Int32 × Int32) :=
  some (0, x0)

def f_X14_keep (b_h : bX14) : Option ((Nat → Int32)) :=
  if ¬ (58 : Int32) < 0 ∧ (58 : Int32).toNatClampNeg ≤ 58 ∧ (58 : Int32).toNatClampNeg ≤ 58 then
  some (va_cpy (X14_now b_h) (X14_kept b_h) 0 0 (58 : Int32).toNatClampNeg) else none

def f_X14_held (x0 : Int32) (x1 : Int32) : Option (Int32) :=
  some (if 0 < (if x0 < x1 then x0 else x1) then (if x0 < x1 then x0 else x1) else 0)

def f_X14_weather_R152 (n : Nat) (b_h : bX14) (b_h_told : bX13) (v1 : Int32) (v2 : Int32) (w_h_now : Nat → Int32) (t0 : Int32) (t1 : Int32) : Option ((Nat → Int32)) :=
  if t1 < 0 ∨ 58 ≤ t1.toNatClampNeg then none else
  if (3 : Int32) < 0 ∨ 58 ≤ (3 : Int32).toNatClampNeg then none else
  if (3 : Int32) < 0 ∨ 58 ≤ (3 : Int32).toNatClampNeg then none else
  some (upd (upd w_h_now t1.toNatClampNeg t0) (3 : Int32).toNatClampNeg (if (((upd w_h_now t1.toNatClampNeg t0) (3 : Int32).toNatClampNeg) + (if v2 < v1 then v2 else v1)) < 30 then (((upd w_h_now t1.toNatClampNeg t0) (3 : Int32).toNatClampNeg) + (if v2 < v1 then v2 else v1)) else 30))
def f_X14_weather_R68 (n : Nat) (b_h : bX14) (b_h_told : bX13) (v2 : Int32) (v3 : Int32) (v4 : Int32) (w_h_now : Nat → Int32) (t0 : Int32) (t1 : Int32) : Option ((Int32 × Int32 × Int32 × Int32) ⊕ ((Nat → Int32))) :=
  if v4 < 0 ∨ 11 ≤ v4.toNatClampNeg then none else
  if ((X13_warm b_h_told) v4.toNatClampNeg) = (1 : Int32) then
  some (Sum.inl ((t1 + t0), (v2 + 0), v3, (v4 + 1))) else
  if v4 < 0 ∨ 11 ≤ v4.toNatClampNeg then none else
  some (Sum.inl ((t1 + t0), (v2 + ((X13_force b_h_told) v4.toNatClampNeg)), v3, (v4 + 1)))
def f_X14_weather_L9 (n : Nat) (b_h : bX14) (b_h_told : bX13) (v1 : Int32) (v2 : Int32) (v3 : Int32) (v4 : Int32) (w_h_now : Nat → Int32) : Option ((Int32 × Int32 × Int32 × Int32) ⊕ ((Nat → Int32))) :=
  if (X13_fronts b_h_told) ≤ v4 then
  if v3 = 0 then
  if (1 : Int32) < 0 ∨ 58 ≤ (1 : Int32).toNatClampNeg then none else
  (f_X14_held (((w_h_now (1 : Int32).toNatClampNeg) + v1) - v2) 40).bind fun u4 =>
  (f_X14_weather_R152 n b_h b_h_told v1 v2 w_h_now u4 1).bind (fun x => some (Sum.inr x)) else
  if (1 : Int32) < 0 ∨ 58 ≤ (1 : Int32).toNatClampNeg then none else
  if (1 : Int32) < 0 ∨ 58 ≤ (1 : Int32).toNatClampNeg then none else
  (f_J6_compare_7cf53 (w_h_now (1 : Int32).toNatClampNeg) 20).bind fun u10 =>
  (f_X14_weather_R152 n b_h b_h_told v1 v2 w_h_now ((w_h_now (1 : Int32).toNatClampNeg) - u10) 1).bind (fun x => some (Sum.inr x)) else
  if (8 + v4) < 0 ∨ 58 ≤ (8 + v4).toNatClampNeg then none else
  if (w_h_now (8 + v4).toNatClampNeg) = 0 then
  some (Sum.inl (v1, v2, v3, (v4 + 1))) else
  if v4 < 0 ∨ 11 ≤ v4.toNatClampNeg then none else
  if ((X13_warm b_h_told) v4.toNatClampNeg) = (1 : Int32) then
  if v4 < 0 ∨ 11 ≤ v4.toNatClampNeg then none else
  f_X14_weather_R68 n b_h b_h_told v2 0 v4 w_h_now ((X13_force b_h_told) v4.toNatClampNeg) v1 else
  f_X14_weather_R68 n b_h b_h_told v2 0 v4 w_h_now 0 v1
def f_X14_weather (n : Nat) (b_h : bX14) (b_h_told : bX13) : Option ((Nat → Int32)) :=
  iter (fun s : Int32 × Int32 × Int32 × Int32 => f_X14_weather_L9 n b_h b_h_told s.1 s.2.1 s.2.2.1 s.2.2.2 (X14_now b_h)) n (0, 0, 1, 0)

def f_X14_storm_L14 (n : Nat) (b_h : bX14) (b_h_told : bX13) (v1 : Int32) (w_h_now : Nat → Int32) : Option ((Int32 × (Nat → Int32)) ⊕ ((Nat → Int32))) :=
  if (X13_guests b_h_told) ≤ v1 then
  if (2 : Int32) < 0 ∨ 58 ≤ (2 : Int32).toNatClampNeg then none else
  if (2 : Int32) < 0 ∨ 58 ≤ (2 : Int32).toNatClampNeg then none else
  if (3 : Int32) < 0 ∨ 58 ≤ (3 : Int32).toNatClampNeg then none else
  if (3 : Int32) < 0 ∨ 58 ≤ (3 : Int32).toNatClampNeg then none else
  if (6 : Int32) < 0 ∨ 58 ≤ (6 : Int32).toNatClampNeg then none else
  if (6 : Int32) < 0 ∨ 58 ≤ (6 : Int32).toNatClampNeg then none else
  some (Sum.inr (upd (upd (upd w_h_now (2 : Int32).toNatClampNeg ((w_h_now (2 : Int32).toNatClampNeg) / 2)) (3 : Int32).toNatClampNeg (((upd w_h_now (2 : Int32).toNatClampNeg ((w_h_now (2 : Int32).toNatClampNeg) / 2)) (3 : Int32).toNatClampNeg) - 12)) (6 : Int32).toNatClampNeg (((upd (upd w_h_now (2 : Int32).toNatClampNeg ((w_h_now (2 : Int32).toNatClampNeg) / 2)) (3 : Int32).toNatClampNeg (((upd w_h_now (2 : Int32).toNatClampNeg ((w_h_now (2 : Int32).toNatClampNeg) / 2)) (3 : Int32).toNatClampNeg) - 12)) (6 : Int32).toNatClampNeg) + 1))) else
  if (28 + v1) < 0 ∨ 58 ≤ (28 + v1).toNatClampNeg then none else
  if (w_h_now (28 + v1).toNatClampNeg) = 0 then
  some (Sum.inl ((v1 + 1), w_h_now)) else
  if v1 < 0 ∨ 11 ≤ v1.toNatClampNeg then none else
  if (3 : Int32) < 0 ∨ 58 ≤ (3 : Int32).toNatClampNeg then none else
  if ((X13_nerve b_h_told) v1.toNatClampNeg) < (w_h_now (3 : Int32).toNatClampNeg) then
  if (28 + v1) < 0 ∨ 58 ≤ (28 + v1).toNatClampNeg then none else
  if (48 + v1) < 0 ∨ 58 ≤ (48 + v1).toNatClampNeg then none else
  some (Sum.inl ((v1 + 1), (upd (upd w_h_now (28 + v1).toNatClampNeg 0) (48 + v1).toNatClampNeg 1))) else
  some (Sum.inl ((v1 + 1), w_h_now))
def f_X14_storm (n : Nat) (b_h : bX14) (b_h_told : bX13) : Option ((Nat → Int32)) :=
  if (3 : Int32) < 0 ∨ 58 ≤ (3 : Int32).toNatClampNeg then none else
  if (12 : Int32) ≤ ((X14_now b_h) (3 : Int32).toNatClampNeg) then
  iter (fun s : Int32 × (Nat → Int32) => f_X14_storm_L14 n b_h b_h_told s.1 s.2) n (0, (X14_now b_h)) else
  some (X14_now b_h)

def f_X14_hourOn_L101 (n : Nat) (b_h : bX14) (b_h_told : bX13) (v1 : Int32) (w_h_value : Nat → Int32) (w_h_now : Nat → Int32) : Option ((Int32 × (Nat → Int32)) ⊕ ((Nat → Int32) × (Nat → Int32))) :=
  if (X13_guests b_h_told) ≤ v1 then
  (f_X14_come n ((X14_thrown b_h), (X14_tape b_h), (X14_bytes b_h), (X14_errorAt b_h), (X14_kind b_h), (X14_number b_h), (X14_position b_h), (X14_length b_h), (X14_token b_h), (X14_isWrong b_h), (X14_error b_h), (X14_errorToken b_h), (X14_deep b_h), (X14_frontName b_h), (X14_guestName b_h), w_h_value, w_h_now, (X14_kept b_h)) b_h_told).bind fun u8 =>
  some (Sum.inr (w_h_value, u8)) else
  if (0 : Int32) < 0 ∨ 58 ≤ (0 : Int32).toNatClampNeg then none else
  if v1 < 0 ∨ 11 ≤ v1.toNatClampNeg then none else
  if (w_h_now (0 : Int32).toNatClampNeg) = (((X13_sits b_h_told) v1.toNatClampNeg) + 8) then
  if (28 + v1) < 0 ∨ 58 ≤ (28 + v1).toNatClampNeg then none else
  some (Sum.inl ((v1 + 1), (upd w_h_now (28 + v1).toNatClampNeg 0))) else
  some (Sum.inl ((v1 + 1), w_h_now))
def f_X14_hourOn_L44 (n : Nat) (b_h : bX14) (b_h_told : bX13) (v1 : Int32) (w_h_value : Nat → Int32) (w_h_now : Nat → Int32) : Option ((Int32 × (Nat → Int32)) ⊕ ((Nat → Int32) × (Nat → Int32))) :=
  if (X13_fronts b_h_told) ≤ v1 then
  (iter (fun s : Int32 × (Nat → Int32) => f_X14_hourOn_L101 n b_h b_h_told s.1 w_h_value s.2) n (0, w_h_now)).bind (fun x => some (Sum.inr x)) else
  if (0 : Int32) < 0 ∨ 58 ≤ (0 : Int32).toNatClampNeg then none else
  if v1 < 0 ∨ 11 ≤ v1.toNatClampNeg then none else
  if v1 < 0 ∨ 11 ≤ v1.toNatClampNeg then none else
  if (w_h_now (0 : Int32).toNatClampNeg) = (((X13_comes b_h_told) v1.toNatClampNeg) + ((X13_stays b_h_told) v1.toNatClampNeg)) then
  if (8 + v1) < 0 ∨ 58 ≤ (8 + v1).toNatClampNeg then none else
  some (Sum.inl ((v1 + 1), (upd w_h_now (8 + v1).toNatClampNeg 0))) else
  some (Sum.inl ((v1 + 1), w_h_now))
def f_X14_hourOn_L2 (n : Nat) (b_h : bX14) (b_h_told : bX13) (v1 : Int32) (w_h_value : Nat → Int32) (w_h_now : Nat → Int32) : Option ((Int32 × (Nat → Int32) × (Nat → Int32)) ⊕ ((Nat → Int32) × (Nat → Int32))) :=
  if (X13_orders b_h_told) ≤ v1 then
  (f_X14_weather n ((X14_thrown b_h), (X14_tape b_h), (X14_bytes b_h), (X14_errorAt b_h), (X14_kind b_h), (X14_number b_h), (X14_position b_h), (X14_length b_h), (X14_token b_h), (X14_isWrong b_h), (X14_error b_h), (X14_errorToken b_h), (X14_deep b_h), (X14_frontName b_h), (X14_guestName b_h), w_h_value, w_h_now, (X14_kept b_h)) b_h_told).bind fun u2 =>
  (f_X14_storm n ((X14_thrown b_h), (X14_tape b_h), (X14_bytes b_h), (X14_errorAt b_h), (X14_kind b_h), (X14_number b_h), (X14_position b_h), (X14_length b_h), (X14_token b_h), (X14_isWrong b_h), (X14_error b_h), (X14_errorToken b_h), (X14_deep b_h), (X14_frontName b_h), (X14_guestName b_h), w_h_value, u2, (X14_kept b_h)) b_h_told).bind fun u3 =>
  if (0 : Int32) < 0 ∨ 58 ≤ (0 : Int32).toNatClampNeg then none else
  if (0 : Int32) < 0 ∨ 58 ≤ (0 : Int32).toNatClampNeg then none else
  (iter (fun s : Int32 × (Nat → Int32) => f_X14_hourOn_L44 n b_h b_h_told s.1 w_h_value s.2) n (0, (upd u3 (0 : Int32).toNatClampNeg ((u3 (0 : Int32).toNatClampNeg) + 1)))).bind (fun x => some (Sum.inr x)) else
  (f_X14_carryOut n v1 ((X14_thrown b_h), (X14_tape b_h), (X14_bytes b_h), (X14_errorAt b_h), (X14_kind b_h), (X14_number b_h), (X14_position b_h), (X14_length b_h), (X14_token b_h), (X14_isWrong b_h), (X14_error b_h), (X14_errorToken b_h), (X14_deep b_h), (X14_frontName b_h), (X14_guestName b_h), w_h_value, w_h_now, (X14_kept b_h)) b_h_told).bind fun u18 =>
  some (Sum.inl ((v1 + 1), u18.1, u18.2))
def f_X14_hourOn (n : Nat) (b_h : bX14) (b_h_told : bX13) : Option ((Nat → Int32) × (Nat → Int32)) :=
  iter (fun s : Int32 × (Nat → Int32) × (Nat → Int32) => f_X14_hourOn_L2 n b_h b_h_told s.1 s.2.1 s.2.2) n (0, (X14_value b_h), (X14_now b_h))

def f_X14_coinsAfter_L27 (n : Nat) (x0 : Int32) (b_h : bX14) (b_h_told : bX13) (v1 : Int32) (v2 : Int32) (w_h_thrown : Int32) (w_h_value : Nat → Int32) (w_h_now : Nat → Int32) (w_h_kept : Nat → Int32) : Option ((Int32 × (Nat → Int32) × (Nat → Int32)) ⊕ (Int32 × Int32 × (Nat → Int32) × (Nat → Int32) × (Nat → Int32))) :=
  if v1 ≤ v2 then
  if (7 : Int32) < 0 ∨ 58 ≤ (7 : Int32).toNatClampNeg then none else
  (f_X14_bringBack (w_h_thrown, (X14_tape b_h), (X14_bytes b_h), (X14_errorAt b_h), (X14_kind b_h), (X14_number b_h), (X14_position b_h), (X14_length b_h), (X14_token b_h), (X14_isWrong b_h), (X14_error b_h), (X14_errorToken b_h), (X14_deep b_h), (X14_frontName b_h), (X14_guestName b_h), w_h_value, w_h_now, w_h_kept)).bind fun u6 =>
  some (Sum.inr ((w_h_now (7 : Int32).toNatClampNeg), w_h_thrown, w_h_value, u6, w_h_kept)) else
  (f_X14_hourOn n (w_h_thrown, (X14_tape b_h), (X14_bytes b_h), (X14_errorAt b_h), (X14_kind b_h), (X14_number b_h), (X14_position b_h), (X14_length b_h), (X14_token b_h), (X14_isWrong b_h), (X14_error b_h), (X14_errorToken b_h), (X14_deep b_h), (X14_frontName b_h), (X14_guestName b_h), w_h_value, w_h_now, w_h_kept) b_h_told).bind fun u7 =>
  some (Sum.inl ((v2 + 1), u7.1, u7.2))
def f_X14_coinsAfter (n : Nat) (x0 : Int32) (b_h : bX14) (b_h_told : bX13) : Option (Int32 × Int32 × (Nat → Int32) × (Nat → Int32) × (Nat → Int32)) :=
  (f_X14_isIn x0 1 30).bind fun u1 =>
  if u1 = 0 then
  (f_X14_no 1 (0, (X14_tape b_h), (X14_bytes b_h), (X14_errorAt b_h), (X14_kind b_h), (X14_number b_h), (X14_position b_h), (X14_length b_h), (X14_token b_h), (X14_isWrong b_h), (X14_error b_h), (X14_errorToken b_h), (X14_deep b_h), (X14_frontName b_h), (X14_guestName b_h), (X14_value b_h), (X14_now b_h), (X14_kept b_h))).bind fun u8 =>
  some (u8.1, u8.2, (X14_value b_h), (X14_now b_h), (X14_kept b_h)) else
  (f_X14_keep (0, (X14_tape b_h), (X14_bytes b_h), (X14_errorAt b_h), (X14_kind b_h), (X14_number b_h), (X14_position b_h), (X14_length b_h), (X14_token b_h), (X14_isWrong b_h), (X14_error b_h), (X14_errorToken b_h), (X14_deep b_h), (X14_frontName b_h), (X14_guestName b_h), (X14_value b_h), (X14_now b_h), (X14_kept b_h))).bind fun u3 =>
  iter (fun s : Int32 × (Nat → Int32) × (Nat → Int32) => f_X14_coinsAfter_L27 n x0 b_h b_h_told x0 s.1 0 s.2.1 s.2.2 u3) n (0, (X14_value b_h), (X14_now b_h))

def f_X14_guestsWith_L4 (n : Nat) (x0 : Int32) (b_h : bX14) (b_h_told : bX13) (v1 : Int32) (v2 : Int32) (v3 : Int32) : Option ((Int32 × Int32) ⊕ (Int32)) :=
  if (X13_guests b_h_told) ≤ v3 then
  some (Sum.inr v2) else
  if (v1 + v3) < 0 ∨ 58 ≤ (v1 + v3).toNatClampNeg then none else
  some (Sum.inl ((v2 + ((X14_now b_h) (v1 + v3).toNatClampNeg)), (v3 + 1)))
def f_X14_guestsWith (n : Nat) (x0 : Int32) (b_h : bX14) (b_h_told : bX13) : Option (Int32) :=
  iter (fun s : Int32 × Int32 => f_X14_guestsWith_L4 n x0 b_h b_h_told x0 s.1 s.2) n (0, 0)

def f_X14_digest_R291 (n : Nat) (b_h : bX14) (b_h_told : bX13) (v4 : Int32) (w_h_thrown : Int32) (w_h_now : Nat → Int32) (w_q1 : Nat → Int32) (t0 : Int32) (t1 : Int64) : Option ((Int64 × Int32) ⊕ (Int64 × Int32 × (Nat → Int32))) :=
  if (38 + v4) < 0 ∨ 58 ≤ (38 + v4).toNatClampNeg then none else
  if (48 + v4) < 0 ∨ 58 ≤ (48 + v4).toNatClampNeg then none else
  some (Sum.inl ((((((t1 + (Int32.toInt64 t0)) * 31) + (Int32.toInt64 (w_h_now (38 + v4).toNatClampNeg))) * 31) + (Int32.toInt64 (w_h_now (48 + v4).toNatClampNeg))), (v4 + 1)))
def f_X14_digest_L244 (n : Nat) (b_h : bX14) (b_h_told : bX13) (v2 : Int64) (v4 : Int32) (w_h_thrown : Int32) (w_h_now : Nat → Int32) (w_q1 : Nat → Int32) : Option ((Int64 × Int32) ⊕ (Int64 × Int32 × (Nat → Int32))) :=
  if (X13_guests b_h_told) ≤ v4 then
  some (Sum.inr (v2, 0, w_h_now)) else
  if (28 + v4) < 0 ∨ 58 ≤ (28 + v4).toNatClampNeg then none else
  (f_X14_likes v4 (w_h_thrown, (X14_tape b_h), (X14_bytes b_h), (X14_errorAt b_h), (X14_kind b_h), (X14_number b_h), (X14_position b_h), (X14_length b_h), (X14_token b_h), (X14_isWrong b_h), (X14_error b_h), (X14_errorToken b_h), (X14_deep b_h), (X14_frontName b_h), (X14_guestName b_h), (X14_value b_h), w_h_now, (X14_kept b_h)) b_h_told).bind fun u32 =>
  if u32 = 0 then
  f_X14_digest_R291 n b_h b_h_told v4 w_h_thrown w_h_now w_q1 0 (((v2 * 31) + (Int32.toInt64 (w_h_now (28 + v4).toNatClampNeg))) * 31) else
  f_X14_digest_R291 n b_h b_h_told v4 w_h_thrown w_h_now w_q1 1 (((v2 * 31) + (Int32.toInt64 (w_h_now (28 + v4).toNatClampNeg))) * 31)
def f_X14_digest_L189 (n : Nat) (b_h : bX14) (b_h_told : bX13) (v2 : Int64) (v4 : Int32) (w_h_thrown : Int32) (w_h_now : Nat → Int32) (w_q1 : Nat → Int32) : Option ((Int64 × Int32) ⊕ (Int64 × Int32 × (Nat → Int32))) :=
  if (X13_fronts b_h_told) ≤ v4 then
  (iter (fun s : Int64 × Int32 => f_X14_digest_L244 n b_h b_h_told s.1 s.2 w_h_thrown w_h_now w_q1) n (v2, 0)).bind (fun x => some (Sum.inr x)) else
  if (8 + v4) < 0 ∨ 58 ≤ (8 + v4).toNatClampNeg then none else
  if (18 + v4) < 0 ∨ 58 ≤ (18 + v4).toNatClampNeg then none else
  some (Sum.inl (((((v2 * 31) + (Int32.toInt64 (w_h_now (8 + v4).toNatClampNeg))) * 31) + (Int32.toInt64 (w_h_now (18 + v4).toNatClampNeg))), (v4 + 1)))
def f_X14_digest_L156 (n : Nat) (b_h : bX14) (b_h_told : bX13) (v2 : Int64) (v5 : Int32) (v6 : Int32) (w_h_thrown : Int32) (w_h_now : Nat → Int32) (w_q1 : Nat → Int32) : Option ((Int64 × Int32) ⊕ (Int64 × Int32 × (Nat → Int32))) :=
  if v5 ≤ v6 then
  (iter (fun s : Int64 × Int32 => f_X14_digest_L189 n b_h b_h_told s.1 s.2 w_h_thrown w_h_now w_q1) n (v2, 0)).bind (fun x => some (Sum.inr x)) else
  if v6 < 0 ∨ 14 ≤ v6.toNatClampNeg then none else
  some (Sum.inl (((v2 * 31) + (Int32.toInt64 (w_q1 v6.toNatClampNeg))), (v6 + 1)))
def f_X14_digest (n : Nat) (b_h : bX14) (b_h_told : bX13) : Option (Int64 × Int32 × (Nat → Int32)) :=
  if (0 : Int32) < 0 ∨ 14 ≤ (0 : Int32).toNatClampNeg then none else
  if (1 : Int32) < 0 ∨ 14 ≤ (1 : Int32).toNatClampNeg then none else
  if (0 : Int32) < 0 ∨ 58 ≤ (0 : Int32).toNatClampNeg then none else
  if (2 : Int32) < 0 ∨ 14 ≤ (2 : Int32).toNatClampNeg then none else
  if (1 : Int32) < 0 ∨ 58 ≤ (1 : Int32).toNatClampNeg then none else
  if (3 : Int32) < 0 ∨ 14 ≤ (3 : Int32).toNatClampNeg then none else
  if (2 : Int32) < 0 ∨ 58 ≤ (2 : Int32).toNatClampNeg then none else
  if (4 : Int32) < 0 ∨ 14 ≤ (4 : Int32).toNatClampNeg then none else
  if (3 : Int32) < 0 ∨ 58 ≤ (3 : Int32).toNatClampNeg then none else
  if (5 : Int32) < 0 ∨ 14 ≤ (5 : Int32).toNatClampNeg then none else
  if (4 : Int32) < 0 ∨ 58 ≤ (4 : Int32).toNatClampNeg then none else
  if (6 : Int32) < 0 ∨ 14 ≤ (6 : Int32).toNatClampNeg then none else
  if (5 : Int32) < 0 ∨ 58 ≤ (5 : Int32).toNatClampNeg then none else
  if (7 : Int32) < 0 ∨ 14 ≤ (7 : Int32).toNatClampNeg then none else
  if (7 : Int32) < 0 ∨ 58 ≤ (7 : Int32).toNatClampNeg then none else
  if (8 : Int32) < 0 ∨ 14 ≤ (8 : Int32).toNatClampNeg then none else
  if (6 : Int32) < 0 ∨ 58 ≤ (6 : Int32).toNatClampNeg then none else
  if (9 : Int32) < 0 ∨ 14 ≤ (9 : Int32).toNatClampNeg then none else
  (f_X14_guestsWith n 28 b_h b_h_told).bind fun u20 =>
  if (10 : Int32) < 0 ∨ 14 ≤ (10 : Int32).toNatClampNeg then none else
  (f_X14_guestsWith n 38 b_h b_h_told).bind fun u22 =>
  if (11 : Int32) < 0 ∨ 14 ≤ (11 : Int32).toNatClampNeg then none else
  (f_X14_guestsWith n 48 b_h b_h_told).bind fun u24 =>
  if (12 : Int32) < 0 ∨ 14 ≤ (12 : Int32).toNatClampNeg then none else
  (f_X14_best n b_h b_h_told).bind fun u26 =>
  if (13 : Int32) < 0 ∨ 14 ≤ (13 : Int32).toNatClampNeg then none else
  iter (fun s : Int64 × Int32 => f_X14_digest_L156 n b_h b_h_told s.1 14 s.2 (X14_thrown b_h) u26.2 (upd (upd (upd (upd (upd (upd (upd (upd (upd (upd (upd (upd (upd (upd (fun _ => 0) (0 : Int32).toNatClampNeg (X13_fronts b_h_told)) (1 : Int32).toNatClampNeg (X13_guests b_h_told)) (2 : Int32).toNatClampNeg ((X14_now b_h) (0 : Int32).toNatClampNeg)) (3 : Int32).toNatClampNeg ((X14_now b_h) (1 : Int32).toNatClampNeg)) (4 : Int32).toNatClampNeg ((X14_now b_h) (2 : Int32).toNatClampNeg)) (5 : Int32).toNatClampNeg ((X14_now b_h) (3 : Int32).toNatClampNeg)) (6 : Int32).toNatClampNeg ((X14_now b_h) (4 : Int32).toNatClampNeg)) (7 : Int32).toNatClampNeg ((X14_now b_h) (5 : Int32).toNatClampNeg)) (8 : Int32).toNatClampNeg ((X14_now b_h) (7 : Int32).toNatClampNeg)) (9 : Int32).toNatClampNeg ((X14_now b_h) (6 : Int32).toNatClampNeg)) (10 : Int32).toNatClampNeg u20) (11 : Int32).toNatClampNeg u22) (12 : Int32).toNatClampNeg u24) (13 : Int32).toNatClampNeg u26.1)) n (1033, 0)

def f_X14_errorAt (b_h : bX14) : Option (Int32 × Int32) :=
  (f_X14_ok (X14_errorAt b_h) b_h).bind fun u1 =>
  some (u1.1, u1.2)

def f_X14_feed_L81 (n : Nat) (x0 : Int32) (x1 : Int32) (x2 : Int32) (x3 : Int32) (x4 : Int32) (b_h : bX14) (v8 : Int32) (v9 : Int32) (v10 : Int32) (v11 : Int32) (w_h_thrown : Int32) (w_h_tape : Nat → Int32) (w_h_bytes : Int32) (w_q2 : Nat → Int32) : Option ((Int32 × (Nat → Int32) × Int32) ⊕ ((Int32 × (Nat → Int32) × Int32) ⊕ (Int32 × Int32 × (Nat → Int32) × Int32))) :=
  if v11 < 0 then
  some (Sum.inr (Sum.inl ((v9 + 1), w_h_tape, w_h_bytes))) else
  if w_h_bytes < 0 ∨ 2000 ≤ w_h_bytes.toNatClampNeg then none else
  some (Sum.inl ((v11 + (-8)), (upd w_h_tape w_h_bytes.toNatClampNeg ((v10 >>> (v11 &&& 31)) &&& 255)), (w_h_bytes + 1)))
def f_X14_feed_L63 (n : Nat) (x0 : Int32) (x1 : Int32) (x2 : Int32) (x3 : Int32) (x4 : Int32) (b_h : bX14) (v8 : Int32) (v9 : Int32) (w_h_thrown : Int32) (w_h_tape : Nat → Int32) (w_h_bytes : Int32) (w_q2 : Nat → Int32) : Option ((Int32 × (Nat → Int32) × Int32) ⊕ (Int32 × Int32 × (Nat → Int32) × Int32)) :=
  if v8 ≤ v9 then
  some (Sum.inr (w_h_bytes, w_h_thrown, w_h_tape, w_h_bytes)) else
  if v9 < 0 ∨ 5 ≤ v9.toNatClampNeg then none else
  iter (fun s : Int32 × (Nat → Int32) × Int32 => f_X14_feed_L81 n x0 x1 x2 x3 x4 b_h v8 v9 (w_q2 v9.toNatClampNeg) s.1 w_h_thrown s.2.1 s.2.2 w_q2) n (24, w_h_tape, w_h_bytes)
def f_X14_feed (n : Nat) (x0 : Int32) (x1 : Int32) (x2 : Int32) (x3 : Int32) (x4 : Int32) (b_h : bX14) : Option (Int32 × Int32 × (Nat → Int32) × Int32) :=
  if ((X14_bytes b_h) + 20) ≤ (2000 : Int32) then
  if (0 : Int32) < 0 ∨ 5 ≤ (0 : Int32).toNatClampNeg then none else
  if (1 : Int32) < 0 ∨ 5 ≤ (1 : Int32).toNatClampNeg then none else
  if (2 : Int32) < 0 ∨ 5 ≤ (2 : Int32).toNatClampNeg then none else
  if (3 : Int32) < 0 ∨ 5 ≤ (3 : Int32).toNatClampNeg then none else
  if (4 : Int32) < 0 ∨ 5 ≤ (4 : Int32).toNatClampNeg then none else
  iter (fun s : Int32 × (Nat → Int32) × Int32 => f_X14_feed_L63 n x0 x1 x2 x3 x4 b_h 5 s.1 0 s.2.1 s.2.2 (upd (upd (upd (upd (upd (fun _ => 0) (0 : Int32).toNatClampNeg x0) (1 : Int32).toNatClampNeg x1) (2 : Int32).toNatClampNeg x2) (3 : Int32).toNatClampNeg x3) (4 : Int32).toNatClampNeg x4)) n (0, (X14_tape b_h), (X14_bytes b_h)) else
  (f_X14_no 1 (0, (X14_tape b_h), (X14_bytes b_h), (X14_errorAt b_h), (X14_kind b_h), (X14_number b_h), (X14_position b_h), (X14_length b_h), (X14_token b_h), (X14_isWrong b_h), (X14_error b_h), (X14_errorToken b_h), (X14_deep b_h), (X14_frontName b_h), (X14_guestName b_h), (X14_value b_h), (X14_now b_h), (X14_kept b_h))).bind fun u12 =>
  some (u12.1, u12.2, (X14_tape b_h), (X14_bytes b_h))

def f_X14_isFront_R23 (x0 : Int32) (b_h : bX14) (b_h_told : bX13) (w_h_thrown : Int32) (t0 : Int32) : Option (Int32 × Int32) :=
  if t0 = 0 then
  some (1, t0) else
  some (0, t0)
def f_X14_isFront (x0 : Int32) (b_h : bX14) (b_h_told : bX13) : Option (Int32 × Int32) :=
  (f_X14_isIn x0 0 ((X13_fronts b_h_told) - 1)).bind fun u1 =>
  if u1 = 0 then
  f_X14_isFront_R23 x0 b_h b_h_told (X14_thrown b_h) 1 else
  f_X14_isFront_R23 x0 b_h b_h_told (X14_thrown b_h) 0

def f_X14_forceOf (x0 : Int32) (b_h : bX14) (b_h_told : bX13) : Option (Int32 × Int32) :=
  (f_X14_isFront x0 b_h b_h_told).bind fun u1 =>
  if u1.1 = 0 then
  some (0, u1.2) else
  if x0 < 0 ∨ 11 ≤ x0.toNatClampNeg then none else
  some (((X13_force b_h_told) x0.toNatClampNeg), u1.2)

def f_X14_fronts (b_h : bX14) (b_h_told : bX13) : Option (Int32 × Int32) :=
  (f_X14_ok (X13_fronts b_h_told) b_h).bind fun u1 =>
  some (u1.1, u1.2)

def f_X14_guests (b_h : bX14) (b_h_told : bX13) : Option (Int32 × Int32) :=
  (f_X14_ok (X13_guests b_h_told) b_h).bind fun u1 =>
  some (u1.1, u1.2)

def f_X14_heat (x0 : Int32) (b_h : bX14) : Option (Int32 × Int32 × (Nat → Int32)) :=
  (f_X14_isIn x0 0 40).bind fun u1 =>
  if u1 = 0 then
  (f_X14_no 1 (0, (X14_tape b_h), (X14_bytes b_h), (X14_errorAt b_h), (X14_kind b_h), (X14_number b_h), (X14_position b_h), (X14_length b_h), (X14_token b_h), (X14_isWrong b_h), (X14_error b_h), (X14_errorToken b_h), (X14_deep b_h), (X14_frontName b_h), (X14_guestName b_h), (X14_value b_h), (X14_now b_h), (X14_kept b_h))).bind fun u5 =>
  some (u5.1, u5.2, (X14_now b_h)) else
  if (1 : Int32) < 0 ∨ 58 ≤ (1 : Int32).toNatClampNeg then none else
  if (1 : Int32) < 0 ∨ 58 ≤ (1 : Int32).toNatClampNeg then none else
  some (((X14_now b_h) (1 : Int32).toNatClampNeg), 0, (upd (X14_now b_h) (1 : Int32).toNatClampNeg x0))

def f_X14_hour (b_h : bX14) : Option (Int32 × Int32) :=
  if (0 : Int32) < 0 ∨ 58 ≤ (0 : Int32).toNatClampNeg then none else
  (f_X14_ok ((X14_now b_h) (0 : Int32).toNatClampNeg) b_h).bind fun u2 =>
  some (u2.1, u2.2)

def f_X14_isGuest_R23 (x0 : Int32) (b_h : bX14) (b_h_told : bX13) (w_h_thrown : Int32) (t0 : Int32) : Option (Int32 × Int32) :=
  if t0 = 0 then
  some (1, t0) else
  some (0, t0)
def f_X14_isGuest (x0 : Int32) (b_h : bX14) (b_h_told : bX13) : Option (Int32 × Int32) :=
  (f_X14_isIn x0 0 ((X13_guests b_h_told) - 1)).bind fun u1 =>
  if u1 = 0 then
  f_X14_isGuest_R23 x0 b_h b_h_told (X14_thrown b_h) 1 else
  f_X14_isGuest_R23 x0 b_h b_h_told (X14_thrown b_h) 0

def f_X14_until_R46 (n : Nat) (x0 : Int32) (b_h : bX14) (b_h_told : bX13) (v2 : Int32) (w_h_value : Nat → Int32) (w_h_now : Nat → Int32) (w_h_kept : Nat → Int32) : Option (Int32 × (Nat → Int32) × (Nat → Int32) × (Nat → Int32)) :=
  (f_X14_bringBack ((X14_thrown b_h), (X14_tape b_h), (X14_bytes b_h), (X14_errorAt b_h), (X14_kind b_h), (X14_number b_h), (X14_position b_h), (X14_length b_h), (X14_token b_h), (X14_isWrong b_h), (X14_error b_h), (X14_errorToken b_h), (X14_deep b_h), (X14_frontName b_h), (X14_guestName b_h), w_h_value, w_h_now, w_h_kept)).bind fun u3 =>
  some (v2, w_h_value, u3, w_h_kept)
def f_X14_until_L8 (n : Nat) (x0 : Int32) (b_h : bX14) (b_h_told : bX13) (v1 : Int32) (v2 : Int32) (v3 : Int32) (w_h_value : Nat → Int32) (w_h_now : Nat → Int32) (w_h_kept : Nat → Int32) : Option ((Int32 × Int32 × (Nat → Int32) × (Nat → Int32)) ⊕ (Int32 × (Nat → Int32) × (Nat → Int32) × (Nat → Int32))) :=
  if (60 : Int32) < v3 then
  (f_X14_until_R46 n x0 b_h b_h_told v2 w_h_value w_h_now w_h_kept).bind (fun x => some (Sum.inr x)) else
  if v2 = (-1 : Int32) then
  (f_X14_hourOn n ((X14_thrown b_h), (X14_tape b_h), (X14_bytes b_h), (X14_errorAt b_h), (X14_kind b_h), (X14_number b_h), (X14_position b_h), (X14_length b_h), (X14_token b_h), (X14_isWrong b_h), (X14_error b_h), (X14_errorToken b_h), (X14_deep b_h), (X14_frontName b_h), (X14_guestName b_h), w_h_value, w_h_now, w_h_kept) b_h_told).bind fun u5 =>
  if v1 < 0 ∨ 58 ≤ v1.toNatClampNeg then none else
  if v1 < 0 ∨ 58 ≤ v1.toNatClampNeg then none else
  if (u5.2 v1.toNatClampNeg) ≤ (w_h_kept v1.toNatClampNeg) then
  some (Sum.inl (v2, (v3 + 1), u5.1, u5.2)) else
  some (Sum.inl (v3, (v3 + 1), u5.1, u5.2)) else
  (f_X14_until_R46 n x0 b_h b_h_told v2 w_h_value w_h_now w_h_kept).bind (fun x => some (Sum.inr x))
def f_X14_until (n : Nat) (x0 : Int32) (b_h : bX14) (b_h_told : bX13) : Option (Int32 × (Nat → Int32) × (Nat → Int32) × (Nat → Int32)) :=
  (f_X14_keep b_h).bind fun u1 =>
  iter (fun s : Int32 × Int32 × (Nat → Int32) × (Nat → Int32) => f_X14_until_L8 n x0 b_h b_h_told x0 s.1 s.2.1 s.2.2.1 s.2.2.2 u1) n ((-1), 1, (X14_value b_h), (X14_now b_h))

def f_X14_hoursUntilServed (n : Nat) (x0 : Int32) (b_h : bX14) (b_h_told : bX13) : Option (Int32 × Int32 × (Nat → Int32) × (Nat → Int32) × (Nat → Int32)) :=
  (f_X14_isGuest x0 b_h b_h_told).bind fun u1 =>
  if u1.1 = 0 then
  some (0, u1.2, (X14_value b_h), (X14_now b_h), (X14_kept b_h)) else
  if (38 + x0) < 0 ∨ 58 ≤ (38 + x0).toNatClampNeg then none else
  if ((X14_now b_h) (38 + x0).toNatClampNeg) = (1 : Int32) then
  some (0, u1.2, (X14_value b_h), (X14_now b_h), (X14_kept b_h)) else
  (f_X14_until n (38 + x0) (u1.2, (X14_tape b_h), (X14_bytes b_h), (X14_errorAt b_h), (X14_kind b_h), (X14_number b_h), (X14_position b_h), (X14_length b_h), (X14_token b_h), (X14_isWrong b_h), (X14_error b_h), (X14_errorToken b_h), (X14_deep b_h), (X14_frontName b_h), (X14_guestName b_h), (X14_value b_h), (X14_now b_h), (X14_kept b_h)) b_h_told).bind fun u5 =>
  some (u5.1, u1.2, u5.2.1, u5.2.2.1, u5.2.2.2)

def f_X14_hoursUntilStorm (n : Nat) (b_h : bX14) (b_h_told : bX13) : Option (Int32 × Int32 × (Nat → Int32) × (Nat → Int32) × (Nat → Int32)) :=
  (f_X14_until n 6 b_h b_h_told).bind fun u1 =>
  (f_X14_ok u1.1 ((X14_thrown b_h), (X14_tape b_h), (X14_bytes b_h), (X14_errorAt b_h), (X14_kind b_h), (X14_number b_h), (X14_position b_h), (X14_length b_h), (X14_token b_h), (X14_isWrong b_h), (X14_error b_h), (X14_errorToken b_h), (X14_deep b_h), (X14_frontName b_h), (X14_guestName b_h), u1.2.1, u1.2.2.1, u1.2.2.2)).bind fun u2 =>
  some (u2.1, u2.2, u1.2.1, u1.2.2.1, u1.2.2.2)

def f_X14_isContent (x0 : Int32) (b_h : bX14) (b_h_told : bX13) : Option (Int32 × Int32) :=
  (f_X14_isGuest x0 b_h b_h_told).bind fun u1 =>
  if u1.1 = 0 then
  some (0, u1.2) else
  (f_X14_likes x0 (u1.2, (X14_tape b_h), (X14_bytes b_h), (X14_errorAt b_h), (X14_kind b_h), (X14_number b_h), (X14_position b_h), (X14_length b_h), (X14_token b_h), (X14_isWrong b_h), (X14_error b_h), (X14_errorToken b_h), (X14_deep b_h), (X14_frontName b_h), (X14_guestName b_h), (X14_value b_h), (X14_now b_h), (X14_kept b_h)) b_h_told).bind fun u3 =>
  if u3 = 0 then
  some (0, u1.2) else
  some (1, u1.2)

def f_X14_isDigit (x0 : Int32) : Option (Int32) :=
  (f_X14_isIn x0 48 57).bind fun u1 =>
  if vp_nar .boolean u1 = u1 then some u1 else none

def f_X14_isLetter (x0 : Int32) : Option (Int32) :=
  (f_X14_isIn x0 97 122).bind fun u1 =>
  if vp_nar .boolean u1 = u1 then some u1 else none

def f_X14_isOver (x0 : Int32) (b_h : bX14) (b_h_told : bX13) : Option (Int32 × Int32) :=
  (f_X14_isFront x0 b_h b_h_told).bind fun u1 =>
  if u1.1 = 0 then
  some (0, u1.2) else
  if (8 + x0) < 0 ∨ 58 ≤ (8 + x0).toNatClampNeg then none else
  if ((X14_now b_h) (8 + x0).toNatClampNeg) = (1 : Int32) then
  some (1, u1.2) else
  some (0, u1.2)

def f_X14_isSeated (x0 : Int32) (b_h : bX14) (b_h_told : bX13) : Option (Int32 × Int32) :=
  (f_X14_isGuest x0 b_h b_h_told).bind fun u1 =>
  if u1.1 = 0 then
  some (0, u1.2) else
  if (28 + x0) < 0 ∨ 58 ≤ (28 + x0).toNatClampNeg then none else
  if ((X14_now b_h) (28 + x0).toNatClampNeg) = (1 : Int32) then
  some (1, u1.2) else
  some (0, u1.2)

def f_X14_isSteeped (x0 : Int32) (b_h : bX14) (b_h_told : bX13) : Option (Int32 × Int32) :=
  (f_X14_isFront x0 b_h b_h_told).bind fun u1 =>
  if u1.1 = 0 then
  some (0, u1.2) else
  if (18 + x0) < 0 ∨ 58 ≤ (18 + x0).toNatClampNeg then none else
  if ((X14_now b_h) (18 + x0).toNatClampNeg) = (1 : Int32) then
  some (1, u1.2) else
  some (0, u1.2)

def f_X14_isWarm (x0 : Int32) (b_h : bX14) (b_h_told : bX13) : Option (Int32 × Int32) :=
  (f_X14_isFront x0 b_h b_h_told).bind fun u1 =>
  if u1.1 = 0 then
  some (0, u1.2) else
  if x0 < 0 ∨ 11 ≤ x0.toNatClampNeg then none else
  if ((X13_warm b_h_told) x0.toNatClampNeg) = (1 : Int32) then
  some (1, u1.2) else
  some (0, u1.2)

def f_X14_isWord_L13 (n : Nat) (x0 : Int32) (x1 : Int32) (x2 : Nat) (b_h : bX14) (v1 : Int32) (v2 : Int32) (v3 : Nat) (v4 : Int32) : Option ((Int32) ⊕ (Int32)) :=
  if v2 ≤ v4 then
  some (Sum.inr 1) else
  if v3 < 52 then
  if v4 < 0 ∨ kln v3 ≤ v4.toNatClampNeg then none else
  if (v1 + v4) < 0 ∨ 2000 ≤ (v1 + v4).toNatClampNeg then none else
  if (kby v3 v4.toNatClampNeg) = ((X14_tape b_h) (v1 + v4).toNatClampNeg) then
  some (Sum.inl (v4 + 1)) else
  some (Sum.inr 0) else none
def f_X14_isWord (n : Nat) (x0 : Int32) (x1 : Int32) (x2 : Nat) (b_h : bX14) : Option (Int32) :=
  if x2 < 52 then
  if (nI (kln x2)) = x1 then
  iter (fun s : Int32 => f_X14_isWord_L13 n x0 x1 x2 b_h x0 x1 x2 s) n 0 else
  some 0 else none

def f_X14_keyword_L2 (n : Nat) (x0 : Int32) (x1 : Int32) (b_h : bX14) (v1 : Int32) (v2 : Int32) (v3 : Int32) : Option ((Int32) ⊕ (Int32)) :=
  if (32 : Int32) ≤ v3 then
  if v2 ≤ (10 : Int32) then
  some (Sum.inr 40) else
  some (Sum.inr 42) else
  if v3 < 0 ∨ 32 ≤ v3.toNatClampNeg then none else
  (f_X14_isWord n v1 v2 (tkK v3.toNatClampNeg) b_h).bind fun u4 =>
  if u4 = 0 then
  some (Sum.inl (v3 + 1)) else
  some (Sum.inr v3)
def f_X14_keyword (n : Nat) (x0 : Int32) (x1 : Int32) (b_h : bX14) : Option (Int32) :=
  iter (fun s : Int32 => f_X14_keyword_L2 n x0 x1 b_h x0 x1 s) n 0

def f_X14_lemon (b_h : bX14) : Option (Int32 × Int32 × (Nat → Int32)) :=
  if (4 : Int32) < 0 ∨ 58 ≤ (4 : Int32).toNatClampNeg then none else
  if ((X14_now b_h) (4 : Int32).toNatClampNeg) = 0 then
  (f_X14_no 1 b_h).bind fun u6 =>
  some (u6.1, u6.2, (X14_now b_h)) else
  (f_X14_squeeze b_h).bind fun u3 =>
  if (3 : Int32) < 0 ∨ 58 ≤ (3 : Int32).toNatClampNeg then none else
  (f_X14_ok (u3 (3 : Int32).toNatClampNeg) ((X14_thrown b_h), (X14_tape b_h), (X14_bytes b_h), (X14_errorAt b_h), (X14_kind b_h), (X14_number b_h), (X14_position b_h), (X14_length b_h), (X14_token b_h), (X14_isWrong b_h), (X14_error b_h), (X14_errorToken b_h), (X14_deep b_h), (X14_frontName b_h), (X14_guestName b_h), (X14_value b_h), u3, (X14_kept b_h))).bind fun u5 =>
  some (u5.1, u5.2, u3)

def f_X14_lemons (b_h : bX14) : Option (Int32 × Int32) :=
  if (4 : Int32) < 0 ∨ 58 ≤ (4 : Int32).toNatClampNeg then none else
  (f_X14_ok ((X14_now b_h) (4 : Int32).toNatClampNeg) b_h).bind fun u2 =>
  some (u2.1, u2.2)

def f_X14_newName_R71 (n : Nat) (x1 : Int32) (b_h : bX14) (m_a0 : Nat) (f_a0 : Nat → Int32) (w_h_token : Int32) (w_h_isWrong : Int32) (w_h_error : Int32) (w_h_errorToken : Int32) (w_a0 : Nat → Int32) : Option (Int32 × Int32 × Int32 × Int32 × (Nat → Int32)) :=
  (f_X14_take 40 ((X14_thrown b_h), (X14_tape b_h), (X14_bytes b_h), (X14_errorAt b_h), (X14_kind b_h), (X14_number b_h), (X14_position b_h), (X14_length b_h), w_h_token, w_h_isWrong, w_h_error, w_h_errorToken, (X14_deep b_h), (X14_frontName b_h), (X14_guestName b_h), (X14_value b_h), (X14_now b_h), (X14_kept b_h))).bind fun u7 =>
  some (u7.1, u7.2.1, u7.2.2.1, u7.2.2.2, w_a0)
def f_X14_newName_R49 (n : Nat) (x1 : Int32) (b_h : bX14) (m_a0 : Nat) (f_a0 : Nat → Int32) (v2 : Int32) (w_h_token : Int32) (w_h_isWrong : Int32) (w_h_error : Int32) (w_h_errorToken : Int32) (w_a0 : Nat → Int32) : Option (Int32 × Int32 × Int32 × Int32 × (Nat → Int32)) :=
  (f_X14_is 40 ((X14_thrown b_h), (X14_tape b_h), (X14_bytes b_h), (X14_errorAt b_h), (X14_kind b_h), (X14_number b_h), (X14_position b_h), (X14_length b_h), w_h_token, w_h_isWrong, w_h_error, w_h_errorToken, (X14_deep b_h), (X14_frontName b_h), (X14_guestName b_h), (X14_value b_h), (X14_now b_h), (X14_kept b_h))).bind fun u5 =>
  if u5 = 0 then
  f_X14_newName_R71 n x1 b_h m_a0 f_a0 w_h_token w_h_isWrong w_h_error w_h_errorToken w_a0 else
  if (10 : Int32) ≤ v2 then
  f_X14_newName_R71 n x1 b_h m_a0 f_a0 w_h_token w_h_isWrong w_h_error w_h_errorToken w_a0 else
  if v2 < 0 ∨ m_a0 ≤ v2.toNatClampNeg then none else
  f_X14_newName_R71 n x1 b_h m_a0 f_a0 w_h_token w_h_isWrong w_h_error w_h_errorToken (upd w_a0 v2.toNatClampNeg w_h_token)
def f_X14_newName_R29 (n : Nat) (x1 : Int32) (b_h : bX14) (m_a0 : Nat) (f_a0 : Nat → Int32) (v2 : Int32) (w_h_token : Int32) (w_h_isWrong : Int32) (w_h_error : Int32) (w_h_errorToken : Int32) (w_a0 : Nat → Int32) : Option (Int32 × Int32 × Int32 × Int32 × (Nat → Int32)) :=
  (f_X14_is 40 ((X14_thrown b_h), (X14_tape b_h), (X14_bytes b_h), (X14_errorAt b_h), (X14_kind b_h), (X14_number b_h), (X14_position b_h), (X14_length b_h), w_h_token, w_h_isWrong, w_h_error, w_h_errorToken, (X14_deep b_h), (X14_frontName b_h), (X14_guestName b_h), (X14_value b_h), (X14_now b_h), (X14_kept b_h))).bind fun u3 =>
  if u3 = 0 then
  f_X14_newName_R49 n x1 b_h m_a0 f_a0 v2 w_h_token w_h_isWrong w_h_error w_h_errorToken w_a0 else
  if v2 = (10 : Int32) then
  (f_X14_mark 4 ((X14_thrown b_h), (X14_tape b_h), (X14_bytes b_h), (X14_errorAt b_h), (X14_kind b_h), (X14_number b_h), (X14_position b_h), (X14_length b_h), w_h_token, w_h_isWrong, w_h_error, w_h_errorToken, (X14_deep b_h), (X14_frontName b_h), (X14_guestName b_h), (X14_value b_h), (X14_now b_h), (X14_kept b_h))).bind fun u11 =>
  f_X14_newName_R49 n x1 b_h m_a0 f_a0 v2 w_h_token w_h_isWrong u11.1 u11.2 w_a0 else
  f_X14_newName_R49 n x1 b_h m_a0 f_a0 v2 w_h_token w_h_isWrong w_h_error w_h_errorToken w_a0
def f_X14_newName (n : Nat) (x1 : Int32) (b_h : bX14) (m_a0 : Nat) (f_a0 : Nat → Int32) : Option (Int32 × Int32 × Int32 × Int32 × (Nat → Int32)) :=
  (f_X14_is 40 b_h).bind fun u1 =>
  if u1 = 0 then
  f_X14_newName_R29 n x1 b_h m_a0 f_a0 x1 (X14_token b_h) (X14_isWrong b_h) (X14_error b_h) (X14_errorToken b_h) f_a0 else
  (f_X14_known n (if x1 < 10 then x1 else 10) b_h m_a0 f_a0).bind fun u12 =>
  if u12 = (-1 : Int32) then
  f_X14_newName_R29 n x1 b_h m_a0 f_a0 x1 (X14_token b_h) (X14_isWrong b_h) (X14_error b_h) (X14_errorToken b_h) f_a0 else
  (f_X14_mark 2 b_h).bind fun u14 =>
  f_X14_newName_R29 n x1 b_h m_a0 f_a0 x1 (X14_token b_h) (X14_isWrong b_h) u14.1 u14.2 f_a0

def f_X14_numberBehind_R40 (x0 : Int32) (x1 : Int32) (x2 : Int32) (b_h : bX14) (v4 : Int32) (w_h_token : Int32) (w_h_isWrong : Int32) (w_h_error : Int32) (w_h_errorToken : Int32) : Option (Int32 × Int32 × Int32 × Int32 × Int32) :=
  (f_X14_take 41 ((X14_thrown b_h), (X14_tape b_h), (X14_bytes b_h), (X14_errorAt b_h), (X14_kind b_h), (X14_number b_h), (X14_position b_h), (X14_length b_h), w_h_token, w_h_isWrong, w_h_error, w_h_errorToken, (X14_deep b_h), (X14_frontName b_h), (X14_guestName b_h), (X14_value b_h), (X14_now b_h), (X14_kept b_h))).bind fun u5 =>
  some (v4, u5.1, u5.2.1, u5.2.2.1, u5.2.2.2)
def f_X14_numberBehind (x0 : Int32) (x1 : Int32) (x2 : Int32) (b_h : bX14) : Option (Int32 × Int32 × Int32 × Int32 × Int32) :=
  (f_X14_take x0 b_h).bind fun u1 =>
  if u1.1 < 0 ∨ 402 ≤ u1.1.toNatClampNeg then none else
  (f_X14_is 41 ((X14_thrown b_h), (X14_tape b_h), (X14_bytes b_h), (X14_errorAt b_h), (X14_kind b_h), (X14_number b_h), (X14_position b_h), (X14_length b_h), u1.1, u1.2.1, u1.2.2.1, u1.2.2.2, (X14_deep b_h), (X14_frontName b_h), (X14_guestName b_h), (X14_value b_h), (X14_now b_h), (X14_kept b_h))).bind fun u3 =>
  if u3 = 0 then
  f_X14_numberBehind_R40 x0 x1 x2 b_h ((X14_number b_h) u1.1.toNatClampNeg) u1.1 u1.2.1 u1.2.2.1 u1.2.2.2 else
  (f_X14_isIn ((X14_number b_h) u1.1.toNatClampNeg) x1 x2).bind fun u6 =>
  if u6 = 0 then
  (f_X14_mark 5 ((X14_thrown b_h), (X14_tape b_h), (X14_bytes b_h), (X14_errorAt b_h), (X14_kind b_h), (X14_number b_h), (X14_position b_h), (X14_length b_h), u1.1, u1.2.1, u1.2.2.1, u1.2.2.2, (X14_deep b_h), (X14_frontName b_h), (X14_guestName b_h), (X14_value b_h), (X14_now b_h), (X14_kept b_h))).bind fun u8 =>
  f_X14_numberBehind_R40 x0 x1 x2 b_h ((X14_number b_h) u1.1.toNatClampNeg) u1.1 u1.2.1 u8.1 u8.2 else
  f_X14_numberBehind_R40 x0 x1 x2 b_h ((X14_number b_h) u1.1.toNatClampNeg) u1.1 u1.2.1 u1.2.2.1 u1.2.2.2

def f_X14_newFront_R90 (n : Nat) (b_h : bX14) (b_h_fresh : bX13) (v1 : Int32) (w_h_token : Int32) (w_h_isWrong : Int32) (w_h_error : Int32) (w_h_errorToken : Int32) (w_h_frontName : Nat → Int32) (w_h_fresh_fronts : Int32) (w_h_fresh_warm : Nat → Int32) (w_h_fresh_force : Nat → Int32) (w_h_fresh_comes : Nat → Int32) (w_h_fresh_stays : Nat → Int32) : Option (Int32 × Int32 × Int32 × Int32 × (Nat → Int32) × Int32 × (Nat → Int32) × (Nat → Int32) × (Nat → Int32) × (Nat → Int32)) :=
  (f_X14_numberBehind 6 1 9 ((X14_thrown b_h), (X14_tape b_h), (X14_bytes b_h), (X14_errorAt b_h), (X14_kind b_h), (X14_number b_h), (X14_position b_h), (X14_length b_h), w_h_token, w_h_isWrong, w_h_error, w_h_errorToken, (X14_deep b_h), w_h_frontName, (X14_guestName b_h), (X14_value b_h), (X14_now b_h), (X14_kept b_h))).bind fun u9 =>
  if v1 < 0 ∨ 11 ≤ v1.toNatClampNeg then none else
  (f_X14_numberBehind 4 0 60 ((X14_thrown b_h), (X14_tape b_h), (X14_bytes b_h), (X14_errorAt b_h), (X14_kind b_h), (X14_number b_h), (X14_position b_h), (X14_length b_h), u9.2.1, u9.2.2.1, u9.2.2.2.1, u9.2.2.2.2, (X14_deep b_h), w_h_frontName, (X14_guestName b_h), (X14_value b_h), (X14_now b_h), (X14_kept b_h))).bind fun u11 =>
  if v1 < 0 ∨ 11 ≤ v1.toNatClampNeg then none else
  (f_X14_numberBehind 5 1 12 ((X14_thrown b_h), (X14_tape b_h), (X14_bytes b_h), (X14_errorAt b_h), (X14_kind b_h), (X14_number b_h), (X14_position b_h), (X14_length b_h), u11.2.1, u11.2.2.1, u11.2.2.2.1, u11.2.2.2.2, (X14_deep b_h), w_h_frontName, (X14_guestName b_h), (X14_value b_h), (X14_now b_h), (X14_kept b_h))).bind fun u13 =>
  if v1 < 0 ∨ 11 ≤ v1.toNatClampNeg then none else
  some (u13.2.1, u13.2.2.1, u13.2.2.2.1, u13.2.2.2.2, w_h_frontName, (if (v1 + 1) < 10 then (v1 + 1) else 10), w_h_fresh_warm, (upd w_h_fresh_force v1.toNatClampNeg u9.1), (upd w_h_fresh_comes v1.toNatClampNeg u11.1), (upd w_h_fresh_stays v1.toNatClampNeg u13.1))
def f_X14_newFront_R73 (n : Nat) (b_h : bX14) (b_h_fresh : bX13) (v1 : Int32) (w_h_token : Int32) (w_h_isWrong : Int32) (w_h_error : Int32) (w_h_errorToken : Int32) (w_h_frontName : Nat → Int32) (w_h_fresh_fronts : Int32) (w_h_fresh_warm : Nat → Int32) (w_h_fresh_force : Nat → Int32) (w_h_fresh_comes : Nat → Int32) (w_h_fresh_stays : Nat → Int32) : Option (Int32 × Int32 × Int32 × Int32 × (Nat → Int32) × Int32 × (Nat → Int32) × (Nat → Int32) × (Nat → Int32) × (Nat → Int32)) :=
  if w_h_isWrong = 0 then
  f_X14_newFront_R90 n b_h b_h_fresh v1 (w_h_token + 1) w_h_isWrong w_h_error w_h_errorToken w_h_frontName w_h_fresh_fronts w_h_fresh_warm w_h_fresh_force w_h_fresh_comes w_h_fresh_stays else
  f_X14_newFront_R90 n b_h b_h_fresh v1 w_h_token w_h_isWrong w_h_error w_h_errorToken w_h_frontName w_h_fresh_fronts w_h_fresh_warm w_h_fresh_force w_h_fresh_comes w_h_fresh_stays
def f_X14_newFront (n : Nat) (b_h : bX14) (b_h_fresh : bX13) : Option (Int32 × Int32 × Int32 × Int32 × (Nat → Int32) × Int32 × (Nat → Int32) × (Nat → Int32) × (Nat → Int32) × (Nat → Int32)) :=
  (f_X14_newName n (if (X13_fronts b_h_fresh) < 10 then (X13_fronts b_h_fresh) else 10) b_h 10 (X14_frontName b_h)).bind fun u1 =>
  (f_X14_take 1 ((X14_thrown b_h), (X14_tape b_h), (X14_bytes b_h), (X14_errorAt b_h), (X14_kind b_h), (X14_number b_h), (X14_position b_h), (X14_length b_h), u1.1, u1.2.1, u1.2.2.1, u1.2.2.2.1, (X14_deep b_h), u1.2.2.2.2, (X14_guestName b_h), (X14_value b_h), (X14_now b_h), (X14_kept b_h))).bind fun u2 =>
  (f_X14_is 3 ((X14_thrown b_h), (X14_tape b_h), (X14_bytes b_h), (X14_errorAt b_h), (X14_kind b_h), (X14_number b_h), (X14_position b_h), (X14_length b_h), u2.1, u2.2.1, u2.2.2.1, u2.2.2.2, (X14_deep b_h), u1.2.2.2.2, (X14_guestName b_h), (X14_value b_h), (X14_now b_h), (X14_kept b_h))).bind fun u3 =>
  if u3 = 0 then
  (f_X14_is 2 ((X14_thrown b_h), (X14_tape b_h), (X14_bytes b_h), (X14_errorAt b_h), (X14_kind b_h), (X14_number b_h), (X14_position b_h), (X14_length b_h), u2.1, u2.2.1, u2.2.2.1, u2.2.2.2, (X14_deep b_h), u1.2.2.2.2, (X14_guestName b_h), (X14_value b_h), (X14_now b_h), (X14_kept b_h))).bind fun u5 =>
  if u5 = 0 then
  (f_X14_wrong ((X14_thrown b_h), (X14_tape b_h), (X14_bytes b_h), (X14_errorAt b_h), (X14_kind b_h), (X14_number b_h), (X14_position b_h), (X14_length b_h), u2.1, u2.2.1, u2.2.2.1, u2.2.2.2, (X14_deep b_h), u1.2.2.2.2, (X14_guestName b_h), (X14_value b_h), (X14_now b_h), (X14_kept b_h))).bind fun u7 =>
  f_X14_newFront_R73 n b_h b_h_fresh (if (X13_fronts b_h_fresh) < 10 then (X13_fronts b_h_fresh) else 10) u2.1 u7.1 u7.2.1 u7.2.2 u1.2.2.2.2 (X13_fronts b_h_fresh) (X13_warm b_h_fresh) (X13_force b_h_fresh) (X13_comes b_h_fresh) (X13_stays b_h_fresh) else
  if (if (X13_fronts b_h_fresh) < 10 then (X13_fronts b_h_fresh) else 10) < 0 ∨ 11 ≤ (if (X13_fronts b_h_fresh) < 10 then (X13_fronts b_h_fresh) else 10).toNatClampNeg then none else
  f_X14_newFront_R73 n b_h b_h_fresh (if (X13_fronts b_h_fresh) < 10 then (X13_fronts b_h_fresh) else 10) u2.1 u2.2.1 u2.2.2.1 u2.2.2.2 u1.2.2.2.2 (X13_fronts b_h_fresh) (upd (X13_warm b_h_fresh) (if (X13_fronts b_h_fresh) < 10 then (X13_fronts b_h_fresh) else 10).toNatClampNeg 1) (X13_force b_h_fresh) (X13_comes b_h_fresh) (X13_stays b_h_fresh) else
  if (if (X13_fronts b_h_fresh) < 10 then (X13_fronts b_h_fresh) else 10) < 0 ∨ 11 ≤ (if (X13_fronts b_h_fresh) < 10 then (X13_fronts b_h_fresh) else 10).toNatClampNeg then none else
  f_X14_newFront_R73 n b_h b_h_fresh (if (X13_fronts b_h_fresh) < 10 then (X13_fronts b_h_fresh) else 10) u2.1 u2.2.1 u2.2.2.1 u2.2.2.2 u1.2.2.2.2 (X13_fronts b_h_fresh) (upd (X13_warm b_h_fresh) (if (X13_fronts b_h_fresh) < 10 then (X13_fronts b_h_fresh) else 10).toNatClampNeg 0) (X13_force b_h_fresh) (X13_comes b_h_fresh) (X13_stays b_h_fresh)

def f_X14_newGuest (n : Nat) (b_h : bX14) (b_h_fresh : bX13) : Option (Int32 × Int32 × Int32 × Int32 × (Nat → Int32) × Int32 × (Nat → Int32) × (Nat → Int32) × (Nat → Int32) × (Nat → Int32)) :=
  (f_X14_newName n (if (X13_guests b_h_fresh) < 10 then (X13_guests b_h_fresh) else 10) b_h 10 (X14_guestName b_h)).bind fun u1 =>
  (f_X14_numberBehind 4 0 60 ((X14_thrown b_h), (X14_tape b_h), (X14_bytes b_h), (X14_errorAt b_h), (X14_kind b_h), (X14_number b_h), (X14_position b_h), (X14_length b_h), u1.1, u1.2.1, u1.2.2.1, u1.2.2.2.1, (X14_deep b_h), (X14_frontName b_h), u1.2.2.2.2, (X14_value b_h), (X14_now b_h), (X14_kept b_h))).bind fun u2 =>
  if (if (X13_guests b_h_fresh) < 10 then (X13_guests b_h_fresh) else 10) < 0 ∨ 11 ≤ (if (X13_guests b_h_fresh) < 10 then (X13_guests b_h_fresh) else 10).toNatClampNeg then none else
  (f_X14_numberBehind 8 0 30 ((X14_thrown b_h), (X14_tape b_h), (X14_bytes b_h), (X14_errorAt b_h), (X14_kind b_h), (X14_number b_h), (X14_position b_h), (X14_length b_h), u2.2.1, u2.2.2.1, u2.2.2.2.1, u2.2.2.2.2, (X14_deep b_h), (X14_frontName b_h), u1.2.2.2.2, (X14_value b_h), (X14_now b_h), (X14_kept b_h))).bind fun u4 =>
  if (if (X13_guests b_h_fresh) < 10 then (X13_guests b_h_fresh) else 10) < 0 ∨ 11 ≤ (if (X13_guests b_h_fresh) < 10 then (X13_guests b_h_fresh) else 10).toNatClampNeg then none else
  if (if (X13_guests b_h_fresh) < 10 then (X13_guests b_h_fresh) else 10) < 0 ∨ 11 ≤ (if (X13_guests b_h_fresh) < 10 then (X13_guests b_h_fresh) else 10).toNatClampNeg then none else
  (f_X14_numberBehind 9 ((upd (X13_low b_h_fresh) (if (X13_guests b_h_fresh) < 10 then (X13_guests b_h_fresh) else 10).toNatClampNeg u4.1) (if (X13_guests b_h_fresh) < 10 then (X13_guests b_h_fresh) else 10).toNatClampNeg) 30 ((X14_thrown b_h), (X14_tape b_h), (X14_bytes b_h), (X14_errorAt b_h), (X14_kind b_h), (X14_number b_h), (X14_position b_h), (X14_length b_h), u4.2.1, u4.2.2.1, u4.2.2.2.1, u4.2.2.2.2, (X14_deep b_h), (X14_frontName b_h), u1.2.2.2.2, (X14_value b_h), (X14_now b_h), (X14_kept b_h))).bind fun u7 =>
  if (if (X13_guests b_h_fresh) < 10 then (X13_guests b_h_fresh) else 10) < 0 ∨ 11 ≤ (if (X13_guests b_h_fresh) < 10 then (X13_guests b_h_fresh) else 10).toNatClampNeg then none else
  (f_X14_numberBehind 10 0 20 ((X14_thrown b_h), (X14_tape b_h), (X14_bytes b_h), (X14_errorAt b_h), (X14_kind b_h), (X14_number b_h), (X14_position b_h), (X14_length b_h), u7.2.1, u7.2.2.1, u7.2.2.2.1, u7.2.2.2.2, (X14_deep b_h), (X14_frontName b_h), u1.2.2.2.2, (X14_value b_h), (X14_now b_h), (X14_kept b_h))).bind fun u9 =>
  if (if (X13_guests b_h_fresh) < 10 then (X13_guests b_h_fresh) else 10) < 0 ∨ 11 ≤ (if (X13_guests b_h_fresh) < 10 then (X13_guests b_h_fresh) else 10).toNatClampNeg then none else
  some (u9.2.1, u9.2.2.1, u9.2.2.2.1, u9.2.2.2.2, u1.2.2.2.2, (if ((if (X13_guests b_h_fresh) < 10 then (X13_guests b_h_fresh) else 10) + 1) < 10 then ((if (X13_guests b_h_fresh) < 10 then (X13_guests b_h_fresh) else 10) + 1) else 10), (upd (X13_sits b_h_fresh) (if (X13_guests b_h_fresh) < 10 then (X13_guests b_h_fresh) else 10).toNatClampNeg u2.1), (upd (X13_low b_h_fresh) (if (X13_guests b_h_fresh) < 10 then (X13_guests b_h_fresh) else 10).toNatClampNeg u4.1), (upd (X13_high b_h_fresh) (if (X13_guests b_h_fresh) < 10 then (X13_guests b_h_fresh) else 10).toNatClampNeg u7.1), (upd (X13_nerve b_h_fresh) (if (X13_guests b_h_fresh) < 10 then (X13_guests b_h_fresh) else 10).toNatClampNeg u9.1))

def f_X14_order_R123 (n : Nat) (x0 : Int32) (b_h : bX14) (b_h_fresh : bX13) (v2 : Int32) (w_h_token : Int32) (w_h_isWrong : Int32) (w_h_error : Int32) (w_h_errorToken : Int32) (w_h_deep : Int32) (w_h_fresh_orders : Int32) (w_h_fresh_does : Nat → Int32) (w_h_fresh_whom : Nat → Int32) (w_h_fresh_from : Nat → Int32) (w_h_fresh_to : Nat → Int32) (w_h_fresh_test : Nat → Int32) (w_h_fresh_nodes : Int32) (w_h_fresh_sort : Nat → Int32) (w_h_fresh_left : Nat → Int32) (w_h_fresh_right : Nat → Int32) (t0 : Int32) (t1 : Int32) : Option (Int32 × Int32 × Int32 × Int32 × Int32 × Int32 × (Nat → Int32) × (Nat → Int32) × (Nat → Int32) × (Nat → Int32) × (Nat → Int32) × Int32 × (Nat → Int32) × (Nat → Int32) × (Nat → Int32)) :=
  if t1 < 0 ∨ 17 ≤ t1.toNatClampNeg then none else
  if v2 < 0 ∨ 17 ≤ v2.toNatClampNeg then none else
  some (w_h_token, w_h_isWrong, w_h_error, w_h_errorToken, w_h_deep, (if (v2 + 1) < 16 then (v2 + 1) else 16), w_h_fresh_does, w_h_fresh_whom, w_h_fresh_from, (upd w_h_fresh_to v2.toNatClampNeg w_h_fresh_nodes), (upd w_h_fresh_test t1.toNatClampNeg t0), w_h_fresh_nodes, w_h_fresh_sort, w_h_fresh_left, w_h_fresh_right)
def f_X14_order_R82 (n : Nat) (x0 : Int32) (b_h : bX14) (b_h_fresh : bX13) (v2 : Int32) (w_h_token : Int32) (w_h_isWrong : Int32) (w_h_error : Int32) (w_h_errorToken : Int32) (w_h_deep : Int32) (w_h_fresh_orders : Int32) (w_h_fresh_does : Nat → Int32) (w_h_fresh_whom : Nat → Int32) (w_h_fresh_from : Nat → Int32) (w_h_fresh_to : Nat → Int32) (w_h_fresh_test : Nat → Int32) (w_h_fresh_nodes : Int32) (w_h_fresh_sort : Nat → Int32) (w_h_fresh_left : Nat → Int32) (w_h_fresh_right : Nat → Int32) : Option (Int32 × Int32 × Int32 × Int32 × Int32 × Int32 × (Nat → Int32) × (Nat → Int32) × (Nat → Int32) × (Nat → Int32) × (Nat → Int32) × Int32 × (Nat → Int32) × (Nat → Int32) × (Nat → Int32)) :=
  if v2 < 0 ∨ 17 ≤ v2.toNatClampNeg then none else
  (f_X14_takes 15 ((X14_thrown b_h), (X14_tape b_h), (X14_bytes b_h), (X14_errorAt b_h), (X14_kind b_h), (X14_number b_h), (X14_position b_h), (X14_length b_h), w_h_token, w_h_isWrong, w_h_error, w_h_errorToken, w_h_deep, (X14_frontName b_h), (X14_guestName b_h), (X14_value b_h), (X14_now b_h), (X14_kept b_h))).bind fun u6 =>
  if u6.1 = 0 then
  f_X14_order_R123 n x0 b_h b_h_fresh v2 u6.2 w_h_isWrong w_h_error w_h_errorToken w_h_deep w_h_fresh_orders w_h_fresh_does w_h_fresh_whom (upd w_h_fresh_from v2.toNatClampNeg w_h_fresh_nodes) w_h_fresh_to w_h_fresh_test w_h_fresh_nodes w_h_fresh_sort w_h_fresh_left w_h_fresh_right (-1) v2 else
  (g_X14 n 100 0 0 ((X14_thrown b_h), (X14_tape b_h), (X14_bytes b_h), (X14_errorAt b_h), (X14_kind b_h), (X14_number b_h), (X14_position b_h), (X14_length b_h), u6.2, w_h_isWrong, w_h_error, w_h_errorToken, w_h_deep, (X14_frontName b_h), (X14_guestName b_h), (X14_value b_h), (X14_now b_h), (X14_kept b_h)) ((X13_fronts b_h_fresh), (X13_warm b_h_fresh), (X13_force b_h_fresh), (X13_comes b_h_fresh), (X13_stays b_h_fresh), (X13_guests b_h_fresh), (X13_sits b_h_fresh), (X13_low b_h_fresh), (X13_high b_h_fresh), (X13_nerve b_h_fresh), w_h_fresh_orders, w_h_fresh_does, w_h_fresh_whom, (upd w_h_fresh_from v2.toNatClampNeg w_h_fresh_nodes), w_h_fresh_to, w_h_fresh_test, w_h_fresh_nodes, w_h_fresh_sort, w_h_fresh_left, w_h_fresh_right)).bind fun u10 =>
  f_X14_order_R123 n x0 b_h b_h_fresh v2 u10.2.1 u10.2.2.1 u10.2.2.2.1 u10.2.2.2.2.1 u10.2.2.2.2.2.1 w_h_fresh_orders w_h_fresh_does w_h_fresh_whom (upd w_h_fresh_from v2.toNatClampNeg w_h_fresh_nodes) w_h_fresh_to w_h_fresh_test u10.2.2.2.2.2.2.1 u10.2.2.2.2.2.2.2.1 u10.2.2.2.2.2.2.2.2.1 u10.2.2.2.2.2.2.2.2.2 u10.1 v2
def f_X14_order_R63 (n : Nat) (x0 : Int32) (b_h : bX14) (b_h_fresh : bX13) (v1 : Int32) (v2 : Int32) (w_h_token : Int32) (w_h_isWrong : Int32) (w_h_error : Int32) (w_h_errorToken : Int32) (w_h_deep : Int32) (w_h_fresh_orders : Int32) (w_h_fresh_does : Nat → Int32) (w_h_fresh_whom : Nat → Int32) (w_h_fresh_from : Nat → Int32) (w_h_fresh_to : Nat → Int32) (w_h_fresh_test : Nat → Int32) (w_h_fresh_nodes : Int32) (w_h_fresh_sort : Nat → Int32) (w_h_fresh_left : Nat → Int32) (w_h_fresh_right : Nat → Int32) : Option (Int32 × Int32 × Int32 × Int32 × Int32 × Int32 × (Nat → Int32) × (Nat → Int32) × (Nat → Int32) × (Nat → Int32) × (Nat → Int32) × Int32 × (Nat → Int32) × (Nat → Int32) × (Nat → Int32)) :=
  if v1 = (14 : Int32) then
  (f_X14_guest n ((X14_thrown b_h), (X14_tape b_h), (X14_bytes b_h), (X14_errorAt b_h), (X14_kind b_h), (X14_number b_h), (X14_position b_h), (X14_length b_h), w_h_token, w_h_isWrong, w_h_error, w_h_errorToken, w_h_deep, (X14_frontName b_h), (X14_guestName b_h), (X14_value b_h), (X14_now b_h), (X14_kept b_h)) ((X13_fronts b_h_fresh), (X13_warm b_h_fresh), (X13_force b_h_fresh), (X13_comes b_h_fresh), (X13_stays b_h_fresh), (X13_guests b_h_fresh), (X13_sits b_h_fresh), (X13_low b_h_fresh), (X13_high b_h_fresh), (X13_nerve b_h_fresh), w_h_fresh_orders, w_h_fresh_does, w_h_fresh_whom, w_h_fresh_from, w_h_fresh_to, w_h_fresh_test, w_h_fresh_nodes, w_h_fresh_sort, w_h_fresh_left, w_h_fresh_right)).bind fun u11 =>
  if v2 < 0 ∨ 17 ≤ v2.toNatClampNeg then none else
  f_X14_order_R82 n x0 b_h b_h_fresh v2 u11.2.1 u11.2.2.1 u11.2.2.2.1 u11.2.2.2.2 w_h_deep w_h_fresh_orders w_h_fresh_does (upd w_h_fresh_whom v2.toNatClampNeg u11.1) w_h_fresh_from w_h_fresh_to w_h_fresh_test w_h_fresh_nodes w_h_fresh_sort w_h_fresh_left w_h_fresh_right else
  f_X14_order_R82 n x0 b_h b_h_fresh v2 w_h_token w_h_isWrong w_h_error w_h_errorToken w_h_deep w_h_fresh_orders w_h_fresh_does w_h_fresh_whom w_h_fresh_from w_h_fresh_to w_h_fresh_test w_h_fresh_nodes w_h_fresh_sort w_h_fresh_left w_h_fresh_right
def f_X14_order_R24 (n : Nat) (x0 : Int32) (b_h : bX14) (b_h_fresh : bX13) (v1 : Int32) (v2 : Int32) (w_h_token : Int32) (w_h_isWrong : Int32) (w_h_error : Int32) (w_h_errorToken : Int32) (w_h_deep : Int32) (w_h_fresh_orders : Int32) (w_h_fresh_does : Nat → Int32) (w_h_fresh_whom : Nat → Int32) (w_h_fresh_from : Nat → Int32) (w_h_fresh_to : Nat → Int32) (w_h_fresh_test : Nat → Int32) (w_h_fresh_nodes : Int32) (w_h_fresh_sort : Nat → Int32) (w_h_fresh_left : Nat → Int32) (w_h_fresh_right : Nat → Int32) : Option (Int32 × Int32 × Int32 × Int32 × Int32 × Int32 × (Nat → Int32) × (Nat → Int32) × (Nat → Int32) × (Nat → Int32) × (Nat → Int32) × Int32 × (Nat → Int32) × (Nat → Int32) × (Nat → Int32)) :=
  if v2 < 0 ∨ 17 ≤ v2.toNatClampNeg then none else
  if v1 = (11 : Int32) then
  (f_X14_front n ((X14_thrown b_h), (X14_tape b_h), (X14_bytes b_h), (X14_errorAt b_h), (X14_kind b_h), (X14_number b_h), (X14_position b_h), (X14_length b_h), (w_h_token + 1), w_h_isWrong, w_h_error, w_h_errorToken, w_h_deep, (X14_frontName b_h), (X14_guestName b_h), (X14_value b_h), (X14_now b_h), (X14_kept b_h)) ((X13_fronts b_h_fresh), (X13_warm b_h_fresh), (X13_force b_h_fresh), (X13_comes b_h_fresh), (X13_stays b_h_fresh), (X13_guests b_h_fresh), (X13_sits b_h_fresh), (X13_low b_h_fresh), (X13_high b_h_fresh), (X13_nerve b_h_fresh), w_h_fresh_orders, (upd w_h_fresh_does v2.toNatClampNeg v1), w_h_fresh_whom, w_h_fresh_from, w_h_fresh_to, w_h_fresh_test, w_h_fresh_nodes, w_h_fresh_sort, w_h_fresh_left, w_h_fresh_right)).bind fun u13 =>
  if v2 < 0 ∨ 17 ≤ v2.toNatClampNeg then none else
  f_X14_order_R63 n x0 b_h b_h_fresh v1 v2 u13.2.1 u13.2.2.1 u13.2.2.2.1 u13.2.2.2.2 w_h_deep w_h_fresh_orders (upd w_h_fresh_does v2.toNatClampNeg v1) (upd w_h_fresh_whom v2.toNatClampNeg u13.1) w_h_fresh_from w_h_fresh_to w_h_fresh_test w_h_fresh_nodes w_h_fresh_sort w_h_fresh_left w_h_fresh_right else
  f_X14_order_R63 n x0 b_h b_h_fresh v1 v2 (w_h_token + 1) w_h_isWrong w_h_error w_h_errorToken w_h_deep w_h_fresh_orders (upd w_h_fresh_does v2.toNatClampNeg v1) w_h_fresh_whom w_h_fresh_from w_h_fresh_to w_h_fresh_test w_h_fresh_nodes w_h_fresh_sort w_h_fresh_left w_h_fresh_right
def f_X14_order (n : Nat) (x0 : Int32) (b_h : bX14) (b_h_fresh : bX13) : Option (Int32 × Int32 × Int32 × Int32 × Int32 × Int32 × (Nat → Int32) × (Nat → Int32) × (Nat → Int32) × (Nat → Int32) × (Nat → Int32) × Int32 × (Nat → Int32) × (Nat → Int32) × (Nat → Int32)) :=
  if (if (X13_orders b_h_fresh) < 16 then (X13_orders b_h_fresh) else 16) = (16 : Int32) then
  (f_X14_mark 4 b_h).bind fun u15 =>
  f_X14_order_R24 n x0 b_h b_h_fresh x0 (if (X13_orders b_h_fresh) < 16 then (X13_orders b_h_fresh) else 16) (X14_token b_h) (X14_isWrong b_h) u15.1 u15.2 (X14_deep b_h) (X13_orders b_h_fresh) (X13_does b_h_fresh) (X13_whom b_h_fresh) (X13_from b_h_fresh) (X13_to b_h_fresh) (X13_test b_h_fresh) (X13_nodes b_h_fresh) (X13_sort b_h_fresh) (X13_left b_h_fresh) (X13_right b_h_fresh) else
  f_X14_order_R24 n x0 b_h b_h_fresh x0 (if (X13_orders b_h_fresh) < 16 then (X13_orders b_h_fresh) else 16) (X14_token b_h) (X14_isWrong b_h) (X14_error b_h) (X14_errorToken b_h) (X14_deep b_h) (X13_orders b_h_fresh) (X13_does b_h_fresh) (X13_whom b_h_fresh) (X13_from b_h_fresh) (X13_to b_h_fresh) (X13_test b_h_fresh) (X13_nodes b_h_fresh) (X13_sort b_h_fresh) (X13_left b_h_fresh) (X13_right b_h_fresh)

def f_X14_line_R73 (n : Nat) (b_h : bX14) (b_h_fresh : bX13) (w_h_token : Int32) (w_h_isWrong : Int32) (w_h_error : Int32) (w_h_errorToken : Int32) (w_h_deep : Int32) (w_h_frontName : Nat → Int32) (w_h_guestName : Nat → Int32) (w_h_fresh_fronts : Int32) (w_h_fresh_warm : Nat → Int32) (w_h_fresh_force : Nat → Int32) (w_h_fresh_comes : Nat → Int32) (w_h_fresh_stays : Nat → Int32) (w_h_fresh_guests : Int32) (w_h_fresh_sits : Nat → Int32) (w_h_fresh_low : Nat → Int32) (w_h_fresh_high : Nat → Int32) (w_h_fresh_nerve : Nat → Int32) (w_h_fresh_orders : Int32) (w_h_fresh_does : Nat → Int32) (w_h_fresh_whom : Nat → Int32) (w_h_fresh_from : Nat → Int32) (w_h_fresh_to : Nat → Int32) (w_h_fresh_test : Nat → Int32) (w_h_fresh_nodes : Int32) (w_h_fresh_sort : Nat → Int32) (w_h_fresh_left : Nat → Int32) (w_h_fresh_right : Nat → Int32) : Option (Int32 × Int32 × Int32 × Int32 × Int32 × (Nat → Int32) × (Nat → Int32) × Int32 × (Nat → Int32) × (Nat → Int32) × (Nat → Int32) × (Nat → Int32) × Int32 × (Nat → Int32) × (Nat → Int32) × (Nat → Int32) × (Nat → Int32) × Int32 × (Nat → Int32) × (Nat → Int32) × (Nat → Int32) × (Nat → Int32) × (Nat → Int32) × Int32 × (Nat → Int32) × (Nat → Int32) × (Nat → Int32)) :=
  (f_X14_wrong ((X14_thrown b_h), (X14_tape b_h), (X14_bytes b_h), (X14_errorAt b_h), (X14_kind b_h), (X14_number b_h), (X14_position b_h), (X14_length b_h), w_h_token, w_h_isWrong, w_h_error, w_h_errorToken, w_h_deep, w_h_frontName, w_h_guestName, (X14_value b_h), (X14_now b_h), (X14_kept b_h))).bind fun u6 =>
  some (w_h_token, u6.1, u6.2.1, u6.2.2, w_h_deep, w_h_frontName, w_h_guestName, w_h_fresh_fronts, w_h_fresh_warm, w_h_fresh_force, w_h_fresh_comes, w_h_fresh_stays, w_h_fresh_guests, w_h_fresh_sits, w_h_fresh_low, w_h_fresh_high, w_h_fresh_nerve, w_h_fresh_orders, w_h_fresh_does, w_h_fresh_whom, w_h_fresh_from, w_h_fresh_to, w_h_fresh_test, w_h_fresh_nodes, w_h_fresh_sort, w_h_fresh_left, w_h_fresh_right)
def f_X14_line (n : Nat) (b_h : bX14) (b_h_fresh : bX13) : Option (Int32 × Int32 × Int32 × Int32 × Int32 × (Nat → Int32) × (Nat → Int32) × Int32 × (Nat → Int32) × (Nat → Int32) × (Nat → Int32) × (Nat → Int32) × Int32 × (Nat → Int32) × (Nat → Int32) × (Nat → Int32) × (Nat → Int32) × Int32 × (Nat → Int32) × (Nat → Int32) × (Nat → Int32) × (Nat → Int32) × (Nat → Int32) × Int32 × (Nat → Int32) × (Nat → Int32) × (Nat → Int32)) :=
  (f_X14_takes 0 b_h).bind fun u1 =>
  if u1.1 = 0 then
  (f_X14_takes 7 ((X14_thrown b_h), (X14_tape b_h), (X14_bytes b_h), (X14_errorAt b_h), (X14_kind b_h), (X14_number b_h), (X14_position b_h), (X14_length b_h), u1.2, (X14_isWrong b_h), (X14_error b_h), (X14_errorToken b_h), (X14_deep b_h), (X14_frontName b_h), (X14_guestName b_h), (X14_value b_h), (X14_now b_h), (X14_kept b_h))).bind fun u3 =>
  if u3.1 = 0 then
  if (X14_isWrong b_h) = 0 then
  if u3.2 < 0 ∨ 402 ≤ u3.2.toNatClampNeg then none else
  (f_X14_isIn ((X14_kind b_h) u3.2.toNatClampNeg) 11 14).bind fun u8 =>
  if u8 = 0 then
  f_X14_line_R73 n b_h b_h_fresh u3.2 (X14_isWrong b_h) (X14_error b_h) (X14_errorToken b_h) (X14_deep b_h) (X14_frontName b_h) (X14_guestName b_h) (X13_fronts b_h_fresh) (X13_warm b_h_fresh) (X13_force b_h_fresh) (X13_comes b_h_fresh) (X13_stays b_h_fresh) (X13_guests b_h_fresh) (X13_sits b_h_fresh) (X13_low b_h_fresh) (X13_high b_h_fresh) (X13_nerve b_h_fresh) (X13_orders b_h_fresh) (X13_does b_h_fresh) (X13_whom b_h_fresh) (X13_from b_h_fresh) (X13_to b_h_fresh) (X13_test b_h_fresh) (X13_nodes b_h_fresh) (X13_sort b_h_fresh) (X13_left b_h_fresh) (X13_right b_h_fresh) else
  if u3.2 < 0 ∨ 402 ≤ u3.2.toNatClampNeg then none else
  (f_X14_order n ((X14_kind b_h) u3.2.toNatClampNeg) ((X14_thrown b_h), (X14_tape b_h), (X14_bytes b_h), (X14_errorAt b_h), (X14_kind b_h), (X14_number b_h), (X14_position b_h), (X14_length b_h), u3.2, (X14_isWrong b_h), (X14_error b_h), (X14_errorToken b_h), (X14_deep b_h), (X14_frontName b_h), (X14_guestName b_h), (X14_value b_h), (X14_now b_h), (X14_kept b_h)) b_h_fresh).bind fun u11 =>
  some (u11.1, u11.2.1, u11.2.2.1, u11.2.2.2.1, u11.2.2.2.2.1, (X14_frontName b_h), (X14_guestName b_h), (X13_fronts b_h_fresh), (X13_warm b_h_fresh), (X13_force b_h_fresh), (X13_comes b_h_fresh), (X13_stays b_h_fresh), (X13_guests b_h_fresh), (X13_sits b_h_fresh), (X13_low b_h_fresh), (X13_high b_h_fresh), (X13_nerve b_h_fresh), u11.2.2.2.2.2.1, u11.2.2.2.2.2.2.1, u11.2.2.2.2.2.2.2.1, u11.2.2.2.2.2.2.2.2.1, u11.2.2.2.2.2.2.2.2.2.1, u11.2.2.2.2.2.2.2.2.2.2.1, u11.2.2.2.2.2.2.2.2.2.2.2.1, u11.2.2.2.2.2.2.2.2.2.2.2.2.1, u11.2.2.2.2.2.2.2.2.2.2.2.2.2.1, u11.2.2.2.2.2.2.2.2.2.2.2.2.2.2) else
  f_X14_line_R73 n b_h b_h_fresh u3.2 (X14_isWrong b_h) (X14_error b_h) (X14_errorToken b_h) (X14_deep b_h) (X14_frontName b_h) (X14_guestName b_h) (X13_fronts b_h_fresh) (X13_warm b_h_fresh) (X13_force b_h_fresh) (X13_comes b_h_fresh) (X13_stays b_h_fresh) (X13_guests b_h_fresh) (X13_sits b_h_fresh) (X13_low b_h_fresh) (X13_high b_h_fresh) (X13_nerve b_h_fresh) (X13_orders b_h_fresh) (X13_does b_h_fresh) (X13_whom b_h_fresh) (X13_from b_h_fresh) (X13_to b_h_fresh) (X13_test b_h_fresh) (X13_nodes b_h_fresh) (X13_sort b_h_fresh) (X13_left b_h_fresh) (X13_right b_h_fresh) else
  (f_X14_newGuest n ((X14_thrown b_h), (X14_tape b_h), (X14_bytes b_h), (X14_errorAt b_h), (X14_kind b_h), (X14_number b_h), (X14_position b_h), (X14_length b_h), u3.2, (X14_isWrong b_h), (X14_error b_h), (X14_errorToken b_h), (X14_deep b_h), (X14_frontName b_h), (X14_guestName b_h), (X14_value b_h), (X14_now b_h), (X14_kept b_h)) b_h_fresh).bind fun u12 =>
  some (u12.1, u12.2.1, u12.2.2.1, u12.2.2.2.1, (X14_deep b_h), (X14_frontName b_h), u12.2.2.2.2.1, (X13_fronts b_h_fresh), (X13_warm b_h_fresh), (X13_force b_h_fresh), (X13_comes b_h_fresh), (X13_stays b_h_fresh), u12.2.2.2.2.2.1, u12.2.2.2.2.2.2.1, u12.2.2.2.2.2.2.2.1, u12.2.2.2.2.2.2.2.2.1, u12.2.2.2.2.2.2.2.2.2, (X13_orders b_h_fresh), (X13_does b_h_fresh), (X13_whom b_h_fresh), (X13_from b_h_fresh), (X13_to b_h_fresh), (X13_test b_h_fresh), (X13_nodes b_h_fresh), (X13_sort b_h_fresh), (X13_left b_h_fresh), (X13_right b_h_fresh)) else
  (f_X14_newFront n ((X14_thrown b_h), (X14_tape b_h), (X14_bytes b_h), (X14_errorAt b_h), (X14_kind b_h), (X14_number b_h), (X14_position b_h), (X14_length b_h), u1.2, (X14_isWrong b_h), (X14_error b_h), (X14_errorToken b_h), (X14_deep b_h), (X14_frontName b_h), (X14_guestName b_h), (X14_value b_h), (X14_now b_h), (X14_kept b_h)) b_h_fresh).bind fun u13 =>
  some (u13.1, u13.2.1, u13.2.2.1, u13.2.2.2.1, (X14_deep b_h), u13.2.2.2.2.1, (X14_guestName b_h), u13.2.2.2.2.2.1, u13.2.2.2.2.2.2.1, u13.2.2.2.2.2.2.2.1, u13.2.2.2.2.2.2.2.2.1, u13.2.2.2.2.2.2.2.2.2, (X13_guests b_h_fresh), (X13_sits b_h_fresh), (X13_low b_h_fresh), (X13_high b_h_fresh), (X13_nerve b_h_fresh), (X13_orders b_h_fresh), (X13_does b_h_fresh), (X13_whom b_h_fresh), (X13_from b_h_fresh), (X13_to b_h_fresh), (X13_test b_h_fresh), (X13_nodes b_h_fresh), (X13_sort b_h_fresh), (X13_left b_h_fresh), (X13_right b_h_fresh))

def f_X14_meanForce_L11 (n : Nat) (b_h : bX14) (b_h_told : bX13) (v1 : Int32) (v2 : Int32) (v3 : Int32) (w_h_thrown : Int32) : Option ((Int32 × Int32 × Int32) ⊕ (UInt64 × Int32)) :=
  if (X13_fronts b_h_told) ≤ v3 then
  if v2 = 0 then
  some (Sum.inr (0, w_h_thrown)) else
  if (FP.ddiv (FP.i2d v1) (FP.i2d v2)) &&& 0x7fffffffffffffff ≤ 0x7ff0000000000000 then
  some (Sum.inr ((FP.ddiv (FP.i2d v1) (FP.i2d v2)), w_h_thrown)) else none else
  if (8 + v3) < 0 ∨ 58 ≤ (8 + v3).toNatClampNeg then none else
  if v3 < 0 ∨ 11 ≤ v3.toNatClampNeg then none else
  if (8 + v3) < 0 ∨ 58 ≤ (8 + v3).toNatClampNeg then none else
  some (Sum.inl ((v1 + (((X14_now b_h) (8 + v3).toNatClampNeg) * ((X13_force b_h_told) v3.toNatClampNeg))), (v2 + ((X14_now b_h) (8 + v3).toNatClampNeg)), (v3 + 1)))
def f_X14_meanForce (n : Nat) (b_h : bX14) (b_h_told : bX13) : Option (UInt64 × Int32) :=
  iter (fun s : Int32 × Int32 × Int32 => f_X14_meanForce_L11 n b_h b_h_told s.1 s.2.1 s.2.2 0) n (0, 0, 0)

def f_X14_passHours_L31 (n : Nat) (x0 : Int32) (b_h : bX14) (b_h_told : bX13) (v1 : Int32) (v2 : Int32) (v3 : Int32) (w_h_thrown : Int32) (w_h_value : Nat → Int32) (w_h_now : Nat → Int32) : Option ((Int32 × (Nat → Int32) × (Nat → Int32)) ⊕ (Int32 × Int32 × (Nat → Int32) × (Nat → Int32))) :=
  if v1 ≤ v3 then
  if (6 : Int32) < 0 ∨ 58 ≤ (6 : Int32).toNatClampNeg then none else
  some (Sum.inr (((w_h_now (6 : Int32).toNatClampNeg) - v2), w_h_thrown, w_h_value, w_h_now)) else
  (f_X14_hourOn n (w_h_thrown, (X14_tape b_h), (X14_bytes b_h), (X14_errorAt b_h), (X14_kind b_h), (X14_number b_h), (X14_position b_h), (X14_length b_h), (X14_token b_h), (X14_isWrong b_h), (X14_error b_h), (X14_errorToken b_h), (X14_deep b_h), (X14_frontName b_h), (X14_guestName b_h), w_h_value, w_h_now, (X14_kept b_h)) b_h_told).bind fun u6 =>
  some (Sum.inl ((v3 + 1), u6.1, u6.2))
def f_X14_passHours (n : Nat) (x0 : Int32) (b_h : bX14) (b_h_told : bX13) : Option (Int32 × Int32 × (Nat → Int32) × (Nat → Int32)) :=
  (f_X14_isIn x0 1 30).bind fun u1 =>
  if u1 = 0 then
  (f_X14_no 1 (0, (X14_tape b_h), (X14_bytes b_h), (X14_errorAt b_h), (X14_kind b_h), (X14_number b_h), (X14_position b_h), (X14_length b_h), (X14_token b_h), (X14_isWrong b_h), (X14_error b_h), (X14_errorToken b_h), (X14_deep b_h), (X14_frontName b_h), (X14_guestName b_h), (X14_value b_h), (X14_now b_h), (X14_kept b_h))).bind fun u7 =>
  some (u7.1, u7.2, (X14_value b_h), (X14_now b_h)) else
  if (6 : Int32) < 0 ∨ 58 ≤ (6 : Int32).toNatClampNeg then none else
  iter (fun s : Int32 × (Nat → Int32) × (Nat → Int32) => f_X14_passHours_L31 n x0 b_h b_h_told x0 ((X14_now b_h) (6 : Int32).toNatClampNeg) s.1 0 s.2.1 s.2.2) n (0, (X14_value b_h), (X14_now b_h))

def f_X14_symbol (x0 : Int32) : Option (Int32) :=
  if x0 = 40 then
  some 59 else
  if x0 = 41 then
  some 60 else
  if x0 = 42 then
  some 52 else
  if x0 = 43 then
  some 50 else
  if x0 = 44 then
  some 64 else
  if x0 = 45 then
  some 51 else
  if x0 = 47 then
  some 53 else
  if x0 = 59 then
  some 63 else
  if x0 = 60 then
  some 54 else
  if x0 = 61 then
  some 56 else
  if x0 = 62 then
  some 55 else
  if x0 = 91 then
  some 61 else
  if x0 = 93 then
  some 62 else
  some 42

def f_X14_read_R239 (n : Nat) (x0 : Int32) (x1 : Int32) (b_h : bX14) (v1 : Int32) (v2 : Int32) (v4 : Int32) (w_h_kind : Nat → Int32) (w_h_number : Nat → Int32) (w_h_position : Nat → Int32) (w_h_length : Nat → Int32) : Option (Int32 × (Nat → Int32) × (Nat → Int32) × (Nat → Int32) × (Nat → Int32)) :=
  if v2 < 0 ∨ 402 ≤ v2.toNatClampNeg then none else
  some (v4, w_h_kind, w_h_number, w_h_position, (upd w_h_length v2.toNatClampNeg (v4 - v1)))
def f_X14_read_R235 (n : Nat) (x0 : Int32) (x1 : Int32) (b_h : bX14) (v1 : Int32) (v2 : Int32) (v4 : Int32) (w_h_kind : Nat → Int32) (w_h_number : Nat → Int32) (w_h_position : Nat → Int32) (w_h_length : Nat → Int32) (t0 : Int32) (t1 : Int32) : Option (Int32 × (Nat → Int32) × (Nat → Int32) × (Nat → Int32) × (Nat → Int32)) :=
  if t1 < 0 ∨ 402 ≤ t1.toNatClampNeg then none else
  f_X14_read_R239 n x0 x1 b_h v1 v2 (v4 + 1) (upd w_h_kind t1.toNatClampNeg t0) w_h_number w_h_position w_h_length
def f_X14_read_R201 (n : Nat) (x0 : Int32) (x1 : Int32) (b_h : bX14) (v1 : Int32) (v2 : Int32) (v4 : Int32) (w_h_kind : Nat → Int32) (w_h_number : Nat → Int32) (w_h_position : Nat → Int32) (w_h_length : Nat → Int32) : Option (Int32 × (Nat → Int32) × (Nat → Int32) × (Nat → Int32) × (Nat → Int32)) :=
  (f_X14_byteAt v4 ((X14_thrown b_h), (X14_tape b_h), (X14_bytes b_h), (X14_errorAt b_h), w_h_kind, w_h_number, w_h_position, w_h_length, (X14_token b_h), (X14_isWrong b_h), (X14_error b_h), (X14_errorToken b_h), (X14_deep b_h), (X14_frontName b_h), (X14_guestName b_h), (X14_value b_h), (X14_now b_h), (X14_kept b_h))).bind fun u11 =>
  if u11 = (61 : Int32) then
  if v2 < 0 ∨ 402 ≤ v2.toNatClampNeg then none else
  if (w_h_kind v2.toNatClampNeg) = (54 : Int32) then
  f_X14_read_R235 n x0 x1 b_h v1 v2 v4 w_h_kind w_h_number w_h_position w_h_length 57 v2 else
  f_X14_read_R235 n x0 x1 b_h v1 v2 v4 w_h_kind w_h_number w_h_position w_h_length 58 v2 else
  f_X14_read_R239 n x0 x1 b_h v1 v2 v4 w_h_kind w_h_number w_h_position w_h_length
def f_X14_read_R165 (n : Nat) (x0 : Int32) (x1 : Int32) (b_h : bX14) (v1 : Int32) (v2 : Int32) (v4 : Int32) (w_h_kind : Nat → Int32) (w_h_number : Nat → Int32) (w_h_position : Nat → Int32) (w_h_length : Nat → Int32) (t0 : Int32) (t1 : Int32) : Option (Int32 × (Nat → Int32) × (Nat → Int32) × (Nat → Int32) × (Nat → Int32)) :=
  if t1 < 0 ∨ 402 ≤ t1.toNatClampNeg then none else
  f_X14_read_R239 n x0 x1 b_h v1 v2 v4 (upd w_h_kind t1.toNatClampNeg t0) w_h_number w_h_position w_h_length
def f_X14_read_L87 (n : Nat) (x0 : Int32) (x1 : Int32) (b_h : bX14) (v1 : Int32) (v2 : Int32) (v4 : Int32) (v5 : Int32) (w_h_kind : Nat → Int32) (w_h_number : Nat → Int32) (w_h_position : Nat → Int32) (w_h_length : Nat → Int32) : Option ((Int32 × Int32) ⊕ (Int32 × (Nat → Int32) × (Nat → Int32) × (Nat → Int32) × (Nat → Int32))) :=
  (f_X14_byteAt v4 ((X14_thrown b_h), (X14_tape b_h), (X14_bytes b_h), (X14_errorAt b_h), w_h_kind, w_h_number, w_h_position, w_h_length, (X14_token b_h), (X14_isWrong b_h), (X14_error b_h), (X14_errorToken b_h), (X14_deep b_h), (X14_frontName b_h), (X14_guestName b_h), (X14_value b_h), (X14_now b_h), (X14_kept b_h))).bind fun u19 =>
  (f_X14_isDigit u19).bind fun u20 =>
  if u20 = 0 then
  if v2 < 0 ∨ 402 ≤ v2.toNatClampNeg then none else
  if (v4 - v1) ≤ (6 : Int32) then
  (f_X14_read_R165 n x0 x1 b_h v1 v2 v4 w_h_kind (upd w_h_number v2.toNatClampNeg v5) w_h_position w_h_length 41 v2).bind (fun x => some (Sum.inr x)) else
  (f_X14_read_R165 n x0 x1 b_h v1 v2 v4 w_h_kind (upd w_h_number v2.toNatClampNeg v5) w_h_position w_h_length 42 v2).bind (fun x => some (Sum.inr x)) else
  if (7 : Int32) ≤ (v4 - v1) then
  some (Sum.inl ((v4 + 1), v5)) else
  (f_X14_byteAt v4 ((X14_thrown b_h), (X14_tape b_h), (X14_bytes b_h), (X14_errorAt b_h), w_h_kind, w_h_number, w_h_position, w_h_length, (X14_token b_h), (X14_isWrong b_h), (X14_error b_h), (X14_errorToken b_h), (X14_deep b_h), (X14_frontName b_h), (X14_guestName b_h), (X14_value b_h), (X14_now b_h), (X14_kept b_h))).bind fun u26 =>
  some (Sum.inl ((v4 + 1), (((10 * v5) + u26) - 48)))
def f_X14_read_L26 (n : Nat) (x0 : Int32) (x1 : Int32) (b_h : bX14) (v1 : Int32) (v2 : Int32) (v4 : Int32) (w_h_kind : Nat → Int32) (w_h_number : Nat → Int32) (w_h_position : Nat → Int32) (w_h_length : Nat → Int32) : Option ((Int32) ⊕ (Int32 × (Nat → Int32) × (Nat → Int32) × (Nat → Int32) × (Nat → Int32))) :=
  (f_X14_byteAt v4 ((X14_thrown b_h), (X14_tape b_h), (X14_bytes b_h), (X14_errorAt b_h), w_h_kind, w_h_number, w_h_position, w_h_length, (X14_token b_h), (X14_isWrong b_h), (X14_error b_h), (X14_errorToken b_h), (X14_deep b_h), (X14_frontName b_h), (X14_guestName b_h), (X14_value b_h), (X14_now b_h), (X14_kept b_h))).bind fun u27 =>
  (f_X14_isLetter u27).bind fun u28 =>
  if u28 = 0 then
  (f_X14_byteAt v4 ((X14_thrown b_h), (X14_tape b_h), (X14_bytes b_h), (X14_errorAt b_h), w_h_kind, w_h_number, w_h_position, w_h_length, (X14_token b_h), (X14_isWrong b_h), (X14_error b_h), (X14_errorToken b_h), (X14_deep b_h), (X14_frontName b_h), (X14_guestName b_h), (X14_value b_h), (X14_now b_h), (X14_kept b_h))).bind fun u30 =>
  (f_X14_isDigit u30).bind fun u31 =>
  if u31 = 0 then
  (f_X14_keyword n v1 (v4 - v1) ((X14_thrown b_h), (X14_tape b_h), (X14_bytes b_h), (X14_errorAt b_h), w_h_kind, w_h_number, w_h_position, w_h_length, (X14_token b_h), (X14_isWrong b_h), (X14_error b_h), (X14_errorToken b_h), (X14_deep b_h), (X14_frontName b_h), (X14_guestName b_h), (X14_value b_h), (X14_now b_h), (X14_kept b_h))).bind fun u33 =>
  if v2 < 0 ∨ 402 ≤ v2.toNatClampNeg then none else
  (f_X14_read_R239 n x0 x1 b_h v1 v2 v4 (upd w_h_kind v2.toNatClampNeg u33) w_h_number w_h_position w_h_length).bind (fun x => some (Sum.inr x)) else
  some (Sum.inl (v4 + 1)) else
  some (Sum.inl (v4 + 1))
def f_X14_read (n : Nat) (x0 : Int32) (x1 : Int32) (b_h : bX14) : Option (Int32 × (Nat → Int32) × (Nat → Int32) × (Nat → Int32) × (Nat → Int32)) :=
  if x0 < 0 ∨ 2000 ≤ x0.toNatClampNeg then none else
  if x1 < 0 ∨ 402 ≤ x1.toNatClampNeg then none else
  (f_X14_isLetter ((X14_tape b_h) x0.toNatClampNeg)).bind fun u3 =>
  if u3 = 0 then
  (f_X14_isDigit ((X14_tape b_h) x0.toNatClampNeg)).bind fun u5 =>
  if u5 = 0 then
  (f_X14_symbol ((X14_tape b_h) x0.toNatClampNeg)).bind fun u7 =>
  if x1 < 0 ∨ 402 ≤ x1.toNatClampNeg then none else
  if x1 < 0 ∨ 402 ≤ x1.toNatClampNeg then none else
  if ((upd (X14_kind b_h) x1.toNatClampNeg u7) x1.toNatClampNeg) = (54 : Int32) then
  f_X14_read_R201 n x0 x1 b_h x0 x1 (x0 + 1) (upd (X14_kind b_h) x1.toNatClampNeg u7) (X14_number b_h) (upd (X14_position b_h) x1.toNatClampNeg x0) (X14_length b_h) else
  if x1 < 0 ∨ 402 ≤ x1.toNatClampNeg then none else
  if ((upd (X14_kind b_h) x1.toNatClampNeg u7) x1.toNatClampNeg) = (55 : Int32) then
  f_X14_read_R201 n x0 x1 b_h x0 x1 (x0 + 1) (upd (X14_kind b_h) x1.toNatClampNeg u7) (X14_number b_h) (upd (X14_position b_h) x1.toNatClampNeg x0) (X14_length b_h) else
  f_X14_read_R239 n x0 x1 b_h x0 x1 (x0 + 1) (upd (X14_kind b_h) x1.toNatClampNeg u7) (X14_number b_h) (upd (X14_position b_h) x1.toNatClampNeg x0) (X14_length b_h) else
  iter (fun s : Int32 × Int32 => f_X14_read_L87 n x0 x1 b_h x0 x1 s.1 s.2 (X14_kind b_h) (X14_number b_h) (upd (X14_position b_h) x1.toNatClampNeg x0) (X14_length b_h)) n ((x0 + 1), (((X14_tape b_h) x0.toNatClampNeg) - 48)) else
  iter (fun s : Int32 => f_X14_read_L26 n x0 x1 b_h x0 x1 s (X14_kind b_h) (X14_number b_h) (upd (X14_position b_h) x1.toNatClampNeg x0) (X14_length b_h)) n (x0 + 1)

def f_X14_skip_L2 (n : Nat) (x0 : Int32) (b_h : bX14) (v2 : Int32) : Option ((Int32) ⊕ (Int32)) :=
  (f_X14_byteAt v2 b_h).bind fun u1 =>
  if u1 = (32 : Int32) then
  some (Sum.inl (v2 + 1)) else
  (f_X14_byteAt v2 b_h).bind fun u3 =>
  if u3 = (10 : Int32) then
  some (Sum.inl (v2 + 1)) else
  some (Sum.inr v2)
def f_X14_skip (n : Nat) (x0 : Int32) (b_h : bX14) : Option (Int32) :=
  iter (fun s : Int32 => f_X14_skip_L2 n x0 b_h s) n x0

def f_X14_readAll_R65 (n : Nat) (b_h : bX14) (v2 : Int32) (w_h_kind : Nat → Int32) (w_h_number : Nat → Int32) (w_h_position : Nat → Int32) (w_h_length : Nat → Int32) : Option ((Nat → Int32) × (Nat → Int32) × (Nat → Int32) × (Nat → Int32)) :=
  if v2 < 0 ∨ 402 ≤ v2.toNatClampNeg then none else
  if v2 < 0 ∨ 402 ≤ v2.toNatClampNeg then none else
  some ((upd w_h_kind v2.toNatClampNeg 43), w_h_number, (upd w_h_position v2.toNatClampNeg (X14_bytes b_h)), w_h_length)
def f_X14_readAll_R33 (n : Nat) (b_h : bX14) (v1 : Int32) (v2 : Int32) (w_h_kind : Nat → Int32) (w_h_number : Nat → Int32) (w_h_position : Nat → Int32) (w_h_length : Nat → Int32) : Option ((Int32 × Int32 × (Nat → Int32) × (Nat → Int32) × (Nat → Int32) × (Nat → Int32)) ⊕ ((Nat → Int32) × (Nat → Int32) × (Nat → Int32) × (Nat → Int32))) :=
  (f_X14_read n v1 v2 ((X14_thrown b_h), (X14_tape b_h), (X14_bytes b_h), (X14_errorAt b_h), w_h_kind, w_h_number, w_h_position, w_h_length, (X14_token b_h), (X14_isWrong b_h), (X14_error b_h), (X14_errorToken b_h), (X14_deep b_h), (X14_frontName b_h), (X14_guestName b_h), (X14_value b_h), (X14_now b_h), (X14_kept b_h))).bind fun u6 =>
  (f_X14_skip n u6.1 ((X14_thrown b_h), (X14_tape b_h), (X14_bytes b_h), (X14_errorAt b_h), u6.2.1, u6.2.2.1, u6.2.2.2.1, u6.2.2.2.2, (X14_token b_h), (X14_isWrong b_h), (X14_error b_h), (X14_errorToken b_h), (X14_deep b_h), (X14_frontName b_h), (X14_guestName b_h), (X14_value b_h), (X14_now b_h), (X14_kept b_h))).bind fun u7 =>
  if v2 = (400 : Int32) then
  if v2 < 0 ∨ 402 ≤ v2.toNatClampNeg then none else
  some (Sum.inl (u7, (v2 + 1), (upd u6.2.1 v2.toNatClampNeg 42), u6.2.2.1, u6.2.2.2.1, u6.2.2.2.2)) else
  some (Sum.inl (u7, (v2 + 1), u6.2.1, u6.2.2.1, u6.2.2.2.1, u6.2.2.2.2))
def f_X14_readAll_L8 (n : Nat) (b_h : bX14) (v1 : Int32) (v2 : Int32) (w_h_kind : Nat → Int32) (w_h_number : Nat → Int32) (w_h_position : Nat → Int32) (w_h_length : Nat → Int32) : Option ((Int32 × Int32 × (Nat → Int32) × (Nat → Int32) × (Nat → Int32) × (Nat → Int32)) ⊕ ((Nat → Int32) × (Nat → Int32) × (Nat → Int32) × (Nat → Int32))) :=
  if (X14_bytes b_h) ≤ v1 then
  (f_X14_readAll_R65 n b_h v2 w_h_kind w_h_number w_h_position w_h_length).bind (fun x => some (Sum.inr x)) else
  if v2 = 0 then
  f_X14_readAll_R33 n b_h v1 v2 w_h_kind w_h_number w_h_position w_h_length else
  if (v2 - 1) < 0 ∨ 402 ≤ (v2 - 1).toNatClampNeg then none else
  if (w_h_kind (v2 - 1).toNatClampNeg) = (42 : Int32) then
  (f_X14_readAll_R65 n b_h v2 w_h_kind w_h_number w_h_position w_h_length).bind (fun x => some (Sum.inr x)) else
  f_X14_readAll_R33 n b_h v1 v2 w_h_kind w_h_number w_h_position w_h_length
def f_X14_readAll (n : Nat) (b_h : bX14) : Option ((Nat → Int32) × (Nat → Int32) × (Nat → Int32) × (Nat → Int32)) :=
  (f_X14_skip n 0 b_h).bind fun u1 =>
  iter (fun s : Int32 × Int32 × (Nat → Int32) × (Nat → Int32) × (Nat → Int32) × (Nat → Int32) => f_X14_readAll_L8 n b_h s.1 s.2.1 s.2.2.1 s.2.2.2.1 s.2.2.2.2.1 s.2.2.2.2.2) n (u1, 0, (X14_kind b_h), (X14_number b_h), (X14_position b_h), (X14_length b_h))

def f_X14_saucer (b_h : bX14) : Option (Int32 × Int32 × (Nat → Int32)) :=
  if (5 : Int32) < 0 ∨ 58 ≤ (5 : Int32).toNatClampNeg then none else
  if ((X14_now b_h) (5 : Int32).toNatClampNeg) = 0 then
  (f_X14_no 1 b_h).bind fun u6 =>
  some (u6.1, u6.2, (X14_now b_h)) else
  (f_X14_calm b_h).bind fun u3 =>
  if (3 : Int32) < 0 ∨ 58 ≤ (3 : Int32).toNatClampNeg then none else
  (f_X14_ok (u3 (3 : Int32).toNatClampNeg) ((X14_thrown b_h), (X14_tape b_h), (X14_bytes b_h), (X14_errorAt b_h), (X14_kind b_h), (X14_number b_h), (X14_position b_h), (X14_length b_h), (X14_token b_h), (X14_isWrong b_h), (X14_error b_h), (X14_errorToken b_h), (X14_deep b_h), (X14_frontName b_h), (X14_guestName b_h), (X14_value b_h), u3, (X14_kept b_h))).bind fun u5 =>
  some (u5.1, u5.2, u3)

def f_X14_saucers (b_h : bX14) : Option (Int32 × Int32) :=
  if (5 : Int32) < 0 ∨ 58 ≤ (5 : Int32).toNatClampNeg then none else
  (f_X14_ok ((X14_now b_h) (5 : Int32).toNatClampNeg) b_h).bind fun u2 =>
  some (u2.1, u2.2)

def f_X14_seatedGuests (n : Nat) (b_h : bX14) (b_h_told : bX13) : Option (Int32 × Int32) :=
  (f_X14_guestsWith n 28 b_h b_h_told).bind fun u1 =>
  (f_X14_ok u1 b_h).bind fun u2 =>
  some (u2.1, u2.2)

def f_X14_serve (x0 : Int32) (b_h : bX14) (b_h_told : bX13) : Option (Int32 × Int32 × (Nat → Int32)) :=
  (f_X14_isGuest x0 b_h b_h_told).bind fun u1 =>
  if u1.1 = 0 then
  some (0, u1.2, (X14_now b_h)) else
  (f_X14_likes x0 (u1.2, (X14_tape b_h), (X14_bytes b_h), (X14_errorAt b_h), (X14_kind b_h), (X14_number b_h), (X14_position b_h), (X14_length b_h), (X14_token b_h), (X14_isWrong b_h), (X14_error b_h), (X14_errorToken b_h), (X14_deep b_h), (X14_frontName b_h), (X14_guestName b_h), (X14_value b_h), (X14_now b_h), (X14_kept b_h)) b_h_told).bind fun u3 =>
  if u3 = 0 then
  (f_X14_no 2 (u1.2, (X14_tape b_h), (X14_bytes b_h), (X14_errorAt b_h), (X14_kind b_h), (X14_number b_h), (X14_position b_h), (X14_length b_h), (X14_token b_h), (X14_isWrong b_h), (X14_error b_h), (X14_errorToken b_h), (X14_deep b_h), (X14_frontName b_h), (X14_guestName b_h), (X14_value b_h), (X14_now b_h), (X14_kept b_h))).bind fun u5 =>
  some (u5.1, u5.2, (X14_now b_h)) else
  (f_X14_serveIt x0 (u1.2, (X14_tape b_h), (X14_bytes b_h), (X14_errorAt b_h), (X14_kind b_h), (X14_number b_h), (X14_position b_h), (X14_length b_h), (X14_token b_h), (X14_isWrong b_h), (X14_error b_h), (X14_errorToken b_h), (X14_deep b_h), (X14_frontName b_h), (X14_guestName b_h), (X14_value b_h), (X14_now b_h), (X14_kept b_h))).bind fun u6 =>
  some (u6.1, u1.2, u6.2)

def f_X14_served (n : Nat) (b_h : bX14) (b_h_told : bX13) : Option (Int32 × Int32) :=
  (f_X14_guestsWith n 38 b_h b_h_told).bind fun u1 =>
  (f_X14_ok u1 b_h).bind fun u2 =>
  some (u2.1, u2.2)

def f_X14_steep (x0 : Int32) (b_h : bX14) (b_h_told : bX13) : Option (Int32 × Int32 × (Nat → Int32)) :=
  (f_X14_isFront x0 b_h b_h_told).bind fun u1 =>
  if u1.1 = 0 then
  some (0, u1.2, (X14_now b_h)) else
  (f_X14_canSteep x0 (u1.2, (X14_tape b_h), (X14_bytes b_h), (X14_errorAt b_h), (X14_kind b_h), (X14_number b_h), (X14_position b_h), (X14_length b_h), (X14_token b_h), (X14_isWrong b_h), (X14_error b_h), (X14_errorToken b_h), (X14_deep b_h), (X14_frontName b_h), (X14_guestName b_h), (X14_value b_h), (X14_now b_h), (X14_kept b_h))).bind fun u3 =>
  if u3 = 0 then
  (f_X14_no 2 (u1.2, (X14_tape b_h), (X14_bytes b_h), (X14_errorAt b_h), (X14_kind b_h), (X14_number b_h), (X14_position b_h), (X14_length b_h), (X14_token b_h), (X14_isWrong b_h), (X14_error b_h), (X14_errorToken b_h), (X14_deep b_h), (X14_frontName b_h), (X14_guestName b_h), (X14_value b_h), (X14_now b_h), (X14_kept b_h))).bind fun u7 =>
  some (u7.1, u7.2, (X14_now b_h)) else
  (f_X14_steepIt x0 (u1.2, (X14_tape b_h), (X14_bytes b_h), (X14_errorAt b_h), (X14_kind b_h), (X14_number b_h), (X14_position b_h), (X14_length b_h), (X14_token b_h), (X14_isWrong b_h), (X14_error b_h), (X14_errorToken b_h), (X14_deep b_h), (X14_frontName b_h), (X14_guestName b_h), (X14_value b_h), (X14_now b_h), (X14_kept b_h)) b_h_told).bind fun u5 =>
  if (2 : Int32) < 0 ∨ 58 ≤ (2 : Int32).toNatClampNeg then none else
  some ((u5 (2 : Int32).toNatClampNeg), u1.2, u5)

def f_X14_stormed (n : Nat) (b_h : bX14) (b_h_told : bX13) : Option (Int32 × Int32) :=
  (f_X14_guestsWith n 48 b_h b_h_told).bind fun u1 =>
  (f_X14_ok u1 b_h).bind fun u2 =>
  some (u2.1, u2.2)

def f_X14_storms (b_h : bX14) : Option (Int32 × Int32) :=
  if (6 : Int32) < 0 ∨ 58 ≤ (6 : Int32).toNatClampNeg then none else
  (f_X14_ok ((X14_now b_h) (6 : Int32).toNatClampNeg) b_h).bind fun u2 =>
  some (u2.1, u2.2)

def f_X14_strength (b_h : bX14) : Option (Int32 × Int32) :=
  if (2 : Int32) < 0 ∨ 58 ≤ (2 : Int32).toNatClampNeg then none else
  (f_X14_ok ((X14_now b_h) (2 : Int32).toNatClampNeg) b_h).bind fun u2 =>
  some (u2.1, u2.2)

def f_X14_teach_R96 (n : Nat) (b_h : bX14) (b_h_told : bX13) (b_h_fresh : bX13) (w_h_thrown : Int32) (w_h_bytes : Int32) (w_h_errorAt : Int32) (w_h_kind : Nat → Int32) (w_h_number : Nat → Int32) (w_h_position : Nat → Int32) (w_h_length : Nat → Int32) (w_h_token : Int32) (w_h_isWrong : Int32) (w_h_error : Int32) (w_h_errorToken : Int32) (w_h_deep : Int32) (w_h_frontName : Nat → Int32) (w_h_guestName : Nat → Int32) (w_h_now : Nat → Int32) (w_h_told_fronts : Int32) (w_h_told_warm : Nat → Int32) (w_h_told_force : Nat → Int32) (w_h_told_comes : Nat → Int32) (w_h_told_stays : Nat → Int32) (w_h_told_guests : Int32) (w_h_told_sits : Nat → Int32) (w_h_told_low : Nat → Int32) (w_h_told_high : Nat → Int32) (w_h_told_nerve : Nat → Int32) (w_h_told_orders : Int32) (w_h_told_does : Nat → Int32) (w_h_told_whom : Nat → Int32) (w_h_told_from : Nat → Int32) (w_h_told_to : Nat → Int32) (w_h_told_test : Nat → Int32) (w_h_told_nodes : Int32) (w_h_told_sort : Nat → Int32) (w_h_told_left : Nat → Int32) (w_h_told_right : Nat → Int32) (w_h_fresh_fronts : Int32) (w_h_fresh_warm : Nat → Int32) (w_h_fresh_force : Nat → Int32) (w_h_fresh_comes : Nat → Int32) (w_h_fresh_stays : Nat → Int32) (w_h_fresh_guests : Int32) (w_h_fresh_sits : Nat → Int32) (w_h_fresh_low : Nat → Int32) (w_h_fresh_high : Nat → Int32) (w_h_fresh_nerve : Nat → Int32) (w_h_fresh_orders : Int32) (w_h_fresh_does : Nat → Int32) (w_h_fresh_whom : Nat → Int32) (w_h_fresh_from : Nat → Int32) (w_h_fresh_to : Nat → Int32) (w_h_fresh_test : Nat → Int32) (w_h_fresh_nodes : Int32) (w_h_fresh_sort : Nat → Int32) (w_h_fresh_left : Nat → Int32) (w_h_fresh_right : Nat → Int32) (t0 : Int32) : Option (Int32 × Int32 × Int32 × Int32 × (Nat → Int32) × (Nat → Int32) × (Nat → Int32) × (Nat → Int32) × Int32 × Int32 × Int32 × Int32 × Int32 × (Nat → Int32) × (Nat → Int32) × (Nat → Int32) × Int32 × (Nat → Int32) × (Nat → Int32) × (Nat → Int32) × (Nat → Int32) × Int32 × (Nat → Int32) × (Nat → Int32) × (Nat → Int32) × (Nat → Int32) × Int32 × (Nat → Int32) × (Nat → Int32) × (Nat → Int32) × (Nat → Int32) × (Nat → Int32) × Int32 × (Nat → Int32) × (Nat → Int32) × (Nat → Int32) × Int32 × (Nat → Int32) × (Nat → Int32) × (Nat → Int32) × (Nat → Int32) × Int32 × (Nat → Int32) × (Nat → Int32) × (Nat → Int32) × (Nat → Int32) × Int32 × (Nat → Int32) × (Nat → Int32) × (Nat → Int32) × (Nat → Int32) × (Nat → Int32) × Int32 × (Nat → Int32) × (Nat → Int32) × (Nat → Int32)) :=
  if w_h_error = 0 then
  (f_X13_become (w_h_told_fronts, w_h_told_warm, w_h_told_force, w_h_told_comes, w_h_told_stays, w_h_told_guests, w_h_told_sits, w_h_told_low, w_h_told_high, w_h_told_nerve, w_h_told_orders, w_h_told_does, w_h_told_whom, w_h_told_from, w_h_told_to, w_h_told_test, w_h_told_nodes, w_h_told_sort, w_h_told_left, w_h_told_right) (w_h_fresh_fronts, w_h_fresh_warm, w_h_fresh_force, w_h_fresh_comes, w_h_fresh_stays, w_h_fresh_guests, w_h_fresh_sits, w_h_fresh_low, w_h_fresh_high, w_h_fresh_nerve, w_h_fresh_orders, w_h_fresh_does, w_h_fresh_whom, w_h_fresh_from, w_h_fresh_to, w_h_fresh_test, w_h_fresh_nodes, w_h_fresh_sort, w_h_fresh_left, w_h_fresh_right)).bind fun u7 =>
  (f_X14_anew n (w_h_thrown, (X14_tape b_h), w_h_bytes, t0, w_h_kind, w_h_number, w_h_position, w_h_length, w_h_token, w_h_isWrong, w_h_error, w_h_errorToken, w_h_deep, w_h_frontName, w_h_guestName, (X14_value b_h), w_h_now, (X14_kept b_h)) (u7.1, u7.2.1, u7.2.2.1, u7.2.2.2.1, u7.2.2.2.2.1, u7.2.2.2.2.2.1, u7.2.2.2.2.2.2.1, u7.2.2.2.2.2.2.2.1, u7.2.2.2.2.2.2.2.2.1, u7.2.2.2.2.2.2.2.2.2.1, u7.2.2.2.2.2.2.2.2.2.2.1, u7.2.2.2.2.2.2.2.2.2.2.2.1, u7.2.2.2.2.2.2.2.2.2.2.2.2.1, u7.2.2.2.2.2.2.2.2.2.2.2.2.2.1, u7.2.2.2.2.2.2.2.2.2.2.2.2.2.2.1, u7.2.2.2.2.2.2.2.2.2.2.2.2.2.2.2.1, u7.2.2.2.2.2.2.2.2.2.2.2.2.2.2.2.2.1, u7.2.2.2.2.2.2.2.2.2.2.2.2.2.2.2.2.2.1, u7.2.2.2.2.2.2.2.2.2.2.2.2.2.2.2.2.2.2.1, u7.2.2.2.2.2.2.2.2.2.2.2.2.2.2.2.2.2.2.2)).bind fun u8 =>
  some (0, w_h_thrown, w_h_bytes, t0, w_h_kind, w_h_number, w_h_position, w_h_length, w_h_token, w_h_isWrong, w_h_error, w_h_errorToken, w_h_deep, w_h_frontName, w_h_guestName, u8, u7.1, u7.2.1, u7.2.2.1, u7.2.2.2.1, u7.2.2.2.2.1, u7.2.2.2.2.2.1, u7.2.2.2.2.2.2.1, u7.2.2.2.2.2.2.2.1, u7.2.2.2.2.2.2.2.2.1, u7.2.2.2.2.2.2.2.2.2.1, u7.2.2.2.2.2.2.2.2.2.2.1, u7.2.2.2.2.2.2.2.2.2.2.2.1, u7.2.2.2.2.2.2.2.2.2.2.2.2.1, u7.2.2.2.2.2.2.2.2.2.2.2.2.2.1, u7.2.2.2.2.2.2.2.2.2.2.2.2.2.2.1, u7.2.2.2.2.2.2.2.2.2.2.2.2.2.2.2.1, u7.2.2.2.2.2.2.2.2.2.2.2.2.2.2.2.2.1, u7.2.2.2.2.2.2.2.2.2.2.2.2.2.2.2.2.2.1, u7.2.2.2.2.2.2.2.2.2.2.2.2.2.2.2.2.2.2.1, u7.2.2.2.2.2.2.2.2.2.2.2.2.2.2.2.2.2.2.2, w_h_fresh_fronts, w_h_fresh_warm, w_h_fresh_force, w_h_fresh_comes, w_h_fresh_stays, w_h_fresh_guests, w_h_fresh_sits, w_h_fresh_low, w_h_fresh_high, w_h_fresh_nerve, w_h_fresh_orders, w_h_fresh_does, w_h_fresh_whom, w_h_fresh_from, w_h_fresh_to, w_h_fresh_test, w_h_fresh_nodes, w_h_fresh_sort, w_h_fresh_left, w_h_fresh_right) else
  some (w_h_error, w_h_thrown, w_h_bytes, t0, w_h_kind, w_h_number, w_h_position, w_h_length, w_h_token, w_h_isWrong, w_h_error, w_h_errorToken, w_h_deep, w_h_frontName, w_h_guestName, w_h_now, w_h_told_fronts, w_h_told_warm, w_h_told_force, w_h_told_comes, w_h_told_stays, w_h_told_guests, w_h_told_sits, w_h_told_low, w_h_told_high, w_h_told_nerve, w_h_told_orders, w_h_told_does, w_h_told_whom, w_h_told_from, w_h_told_to, w_h_told_test, w_h_told_nodes, w_h_told_sort, w_h_told_left, w_h_told_right, w_h_fresh_fronts, w_h_fresh_warm, w_h_fresh_force, w_h_fresh_comes, w_h_fresh_stays, w_h_fresh_guests, w_h_fresh_sits, w_h_fresh_low, w_h_fresh_high, w_h_fresh_nerve, w_h_fresh_orders, w_h_fresh_does, w_h_fresh_whom, w_h_fresh_from, w_h_fresh_to, w_h_fresh_test, w_h_fresh_nodes, w_h_fresh_sort, w_h_fresh_left, w_h_fresh_right)
def f_X14_teach_R70 (n : Nat) (b_h : bX14) (b_h_told : bX13) (b_h_fresh : bX13) (w_h_thrown : Int32) (w_h_bytes : Int32) (w_h_errorAt : Int32) (w_h_kind : Nat → Int32) (w_h_number : Nat → Int32) (w_h_position : Nat → Int32) (w_h_length : Nat → Int32) (w_h_token : Int32) (w_h_isWrong : Int32) (w_h_error : Int32) (w_h_errorToken : Int32) (w_h_deep : Int32) (w_h_frontName : Nat → Int32) (w_h_guestName : Nat → Int32) (w_h_now : Nat → Int32) (w_h_told_fronts : Int32) (w_h_told_warm : Nat → Int32) (w_h_told_force : Nat → Int32) (w_h_told_comes : Nat → Int32) (w_h_told_stays : Nat → Int32) (w_h_told_guests : Int32) (w_h_told_sits : Nat → Int32) (w_h_told_low : Nat → Int32) (w_h_told_high : Nat → Int32) (w_h_told_nerve : Nat → Int32) (w_h_told_orders : Int32) (w_h_told_does : Nat → Int32) (w_h_told_whom : Nat → Int32) (w_h_told_from : Nat → Int32) (w_h_told_to : Nat → Int32) (w_h_told_test : Nat → Int32) (w_h_told_nodes : Int32) (w_h_told_sort : Nat → Int32) (w_h_told_left : Nat → Int32) (w_h_told_right : Nat → Int32) (w_h_fresh_fronts : Int32) (w_h_fresh_warm : Nat → Int32) (w_h_fresh_force : Nat → Int32) (w_h_fresh_comes : Nat → Int32) (w_h_fresh_stays : Nat → Int32) (w_h_fresh_guests : Int32) (w_h_fresh_sits : Nat → Int32) (w_h_fresh_low : Nat → Int32) (w_h_fresh_high : Nat → Int32) (w_h_fresh_nerve : Nat → Int32) (w_h_fresh_orders : Int32) (w_h_fresh_does : Nat → Int32) (w_h_fresh_whom : Nat → Int32) (w_h_fresh_from : Nat → Int32) (w_h_fresh_to : Nat → Int32) (w_h_fresh_test : Nat → Int32) (w_h_fresh_nodes : Int32) (w_h_fresh_sort : Nat → Int32) (w_h_fresh_left : Nat → Int32) (w_h_fresh_right : Nat → Int32) : Option (Int32 × Int32 × Int32 × Int32 × (Nat → Int32) × (Nat → Int32) × (Nat → Int32) × (Nat → Int32) × Int32 × Int32 × Int32 × Int32 × Int32 × (Nat → Int32) × (Nat → Int32) × (Nat → Int32) × Int32 × (Nat → Int32) × (Nat → Int32) × (Nat → Int32) × (Nat → Int32) × Int32 × (Nat → Int32) × (Nat → Int32) × (Nat → Int32) × (Nat → Int32) × Int32 × (Nat → Int32) × (Nat → Int32) × (Nat → Int32) × (Nat → Int32) × (Nat → Int32) × Int32 × (Nat → Int32) × (Nat → Int32) × (Nat → Int32) × Int32 × (Nat → Int32) × (Nat → Int32) × (Nat → Int32) × (Nat → Int32) × Int32 × (Nat → Int32) × (Nat → Int32) × (Nat → Int32) × (Nat → Int32) × Int32 × (Nat → Int32) × (Nat → Int32) × (Nat → Int32) × (Nat → Int32) × (Nat → Int32) × Int32 × (Nat → Int32) × (Nat → Int32) × (Nat → Int32)) :=
  if w_h_error = 0 then
  f_X14_teach_R96 n b_h b_h_told b_h_fresh w_h_thrown 0 w_h_errorAt w_h_kind w_h_number w_h_position w_h_length w_h_token w_h_isWrong w_h_error w_h_errorToken w_h_deep w_h_frontName w_h_guestName w_h_now w_h_told_fronts w_h_told_warm w_h_told_force w_h_told_comes w_h_told_stays w_h_told_guests w_h_told_sits w_h_told_low w_h_told_high w_h_told_nerve w_h_told_orders w_h_told_does w_h_told_whom w_h_told_from w_h_told_to w_h_told_test w_h_told_nodes w_h_told_sort w_h_told_left w_h_told_right w_h_fresh_fronts w_h_fresh_warm w_h_fresh_force w_h_fresh_comes w_h_fresh_stays w_h_fresh_guests w_h_fresh_sits w_h_fresh_low w_h_fresh_high w_h_fresh_nerve w_h_fresh_orders w_h_fresh_does w_h_fresh_whom w_h_fresh_from w_h_fresh_to w_h_fresh_test w_h_fresh_nodes w_h_fresh_sort w_h_fresh_left w_h_fresh_right (-1) else
  if w_h_errorToken < 0 ∨ 402 ≤ w_h_errorToken.toNatClampNeg then none else
  f_X14_teach_R96 n b_h b_h_told b_h_fresh w_h_thrown 0 w_h_errorAt w_h_kind w_h_number w_h_position w_h_length w_h_token w_h_isWrong w_h_error w_h_errorToken w_h_deep w_h_frontName w_h_guestName w_h_now w_h_told_fronts w_h_told_warm w_h_told_force w_h_told_comes w_h_told_stays w_h_told_guests w_h_told_sits w_h_told_low w_h_told_high w_h_told_nerve w_h_told_orders w_h_told_does w_h_told_whom w_h_told_from w_h_told_to w_h_told_test w_h_told_nodes w_h_told_sort w_h_told_left w_h_told_right w_h_fresh_fronts w_h_fresh_warm w_h_fresh_force w_h_fresh_comes w_h_fresh_stays w_h_fresh_guests w_h_fresh_sits w_h_fresh_low w_h_fresh_high w_h_fresh_nerve w_h_fresh_orders w_h_fresh_does w_h_fresh_whom w_h_fresh_from w_h_fresh_to w_h_fresh_test w_h_fresh_nodes w_h_fresh_sort w_h_fresh_left w_h_fresh_right (w_h_position w_h_errorToken.toNatClampNeg)
def f_X14_teach_L36 (n : Nat) (b_h : bX14) (b_h_told : bX13) (b_h_fresh : bX13) (w_h_thrown : Int32) (w_h_bytes : Int32) (w_h_errorAt : Int32) (w_h_kind : Nat → Int32) (w_h_number : Nat → Int32) (w_h_position : Nat → Int32) (w_h_length : Nat → Int32) (w_h_token : Int32) (w_h_isWrong : Int32) (w_h_error : Int32) (w_h_errorToken : Int32) (w_h_deep : Int32) (w_h_frontName : Nat → Int32) (w_h_guestName : Nat → Int32) (w_h_now : Nat → Int32) (w_h_told_fronts : Int32) (w_h_told_warm : Nat → Int32) (w_h_told_force : Nat → Int32) (w_h_told_comes : Nat → Int32) (w_h_told_stays : Nat → Int32) (w_h_told_guests : Int32) (w_h_told_sits : Nat → Int32) (w_h_told_low : Nat → Int32) (w_h_told_high : Nat → Int32) (w_h_told_nerve : Nat → Int32) (w_h_told_orders : Int32) (w_h_told_does : Nat → Int32) (w_h_told_whom : Nat → Int32) (w_h_told_from : Nat → Int32) (w_h_told_to : Nat → Int32) (w_h_told_test : Nat → Int32) (w_h_told_nodes : Int32) (w_h_told_sort : Nat → Int32) (w_h_told_left : Nat → Int32) (w_h_told_right : Nat → Int32) (w_h_fresh_fronts : Int32) (w_h_fresh_warm : Nat → Int32) (w_h_fresh_force : Nat → Int32) (w_h_fresh_comes : Nat → Int32) (w_h_fresh_stays : Nat → Int32) (w_h_fresh_guests : Int32) (w_h_fresh_sits : Nat → Int32) (w_h_fresh_low : Nat → Int32) (w_h_fresh_high : Nat → Int32) (w_h_fresh_nerve : Nat → Int32) (w_h_fresh_orders : Int32) (w_h_fresh_does : Nat → Int32) (w_h_fresh_whom : Nat → Int32) (w_h_fresh_from : Nat → Int32) (w_h_fresh_to : Nat → Int32) (w_h_fresh_test : Nat → Int32) (w_h_fresh_nodes : Int32) (w_h_fresh_sort : Nat → Int32) (w_h_fresh_left : Nat → Int32) (w_h_fresh_right : Nat → Int32) : Option ((Int32 × Int32 × Int32 × Int32 × Int32 × (Nat → Int32) × (Nat → Int32) × Int32 × (Nat → Int32) × (Nat → Int32) × (Nat → Int32) × (Nat → Int32) × Int32 × (Nat → Int32) × (Nat → Int32) × (Nat → Int32) × (Nat → Int32) × Int32 × (Nat → Int32) × (Nat → Int32) × (Nat → Int32) × (Nat → Int32) × (Nat → Int32) × Int32 × (Nat → Int32) × (Nat → Int32) × (Nat → Int32)) ⊕ (Int32 × Int32 × Int32 × Int32 × (Nat → Int32) × (Nat → Int32) × (Nat → Int32) × (Nat → Int32) × Int32 × Int32 × Int32 × Int32 × Int32 × (Nat → Int32) × (Nat → Int32) × (Nat → Int32) × Int32 × (Nat → Int32) × (Nat → Int32) × (Nat → Int32) × (Nat → Int32) × Int32 × (Nat → Int32) × (Nat → Int32) × (Nat → Int32) × (Nat → Int32) × Int32 × (Nat → Int32) × (Nat → Int32) × (Nat → Int32) × (Nat → Int32) × (Nat → Int32) × Int32 × (Nat → Int32) × (Nat → Int32) × (Nat → Int32) × Int32 × (Nat → Int32) × (Nat → Int32) × (Nat → Int32) × (Nat → Int32) × Int32 × (Nat → Int32) × (Nat → Int32) × (Nat → Int32) × (Nat → Int32) × Int32 × (Nat → Int32) × (Nat → Int32) × (Nat → Int32) × (Nat → Int32) × (Nat → Int32) × Int32 × (Nat → Int32) × (Nat → Int32) × (Nat → Int32))) :=
  if w_h_isWrong = 0 then
  if w_h_token < 0 ∨ 402 ≤ w_h_token.toNatClampNeg then none else
  if (w_h_kind w_h_token.toNatClampNeg) = (43 : Int32) then
  (f_X14_teach_R70 n b_h b_h_told b_h_fresh w_h_thrown w_h_bytes w_h_errorAt w_h_kind w_h_number w_h_position w_h_length w_h_token w_h_isWrong w_h_error w_h_errorToken w_h_deep w_h_frontName w_h_guestName w_h_now w_h_told_fronts w_h_told_warm w_h_told_force w_h_told_comes w_h_told_stays w_h_told_guests w_h_told_sits w_h_told_low w_h_told_high w_h_told_nerve w_h_told_orders w_h_told_does w_h_told_whom w_h_told_from w_h_told_to w_h_told_test w_h_told_nodes w_h_told_sort w_h_told_left w_h_told_right w_h_fresh_fronts w_h_fresh_warm w_h_fresh_force w_h_fresh_comes w_h_fresh_stays w_h_fresh_guests w_h_fresh_sits w_h_fresh_low w_h_fresh_high w_h_fresh_nerve w_h_fresh_orders w_h_fresh_does w_h_fresh_whom w_h_fresh_from w_h_fresh_to w_h_fresh_test w_h_fresh_nodes w_h_fresh_sort w_h_fresh_left w_h_fresh_right).bind (fun x => some (Sum.inr x)) else
  (f_X14_line n (w_h_thrown, (X14_tape b_h), w_h_bytes, w_h_errorAt, w_h_kind, w_h_number, w_h_position, w_h_length, w_h_token, w_h_isWrong, w_h_error, w_h_errorToken, w_h_deep, w_h_frontName, w_h_guestName, (X14_value b_h), w_h_now, (X14_kept b_h)) (w_h_fresh_fronts, w_h_fresh_warm, w_h_fresh_force, w_h_fresh_comes, w_h_fresh_stays, w_h_fresh_guests, w_h_fresh_sits, w_h_fresh_low, w_h_fresh_high, w_h_fresh_nerve, w_h_fresh_orders, w_h_fresh_does, w_h_fresh_whom, w_h_fresh_from, w_h_fresh_to, w_h_fresh_test, w_h_fresh_nodes, w_h_fresh_sort, w_h_fresh_left, w_h_fresh_right)).bind fun u11 =>
  (f_X14_take 63 (w_h_thrown, (X14_tape b_h), w_h_bytes, w_h_errorAt, w_h_kind, w_h_number, w_h_position, w_h_length, u11.1, u11.2.1, u11.2.2.1, u11.2.2.2.1, u11.2.2.2.2.1, u11.2.2.2.2.2.1, u11.2.2.2.2.2.2.1, (X14_value b_h), w_h_now, (X14_kept b_h))).bind fun u12 =>
  some (Sum.inl (u12.1, u12.2.1, u12.2.2.1, u12.2.2.2, u11.2.2.2.2.1, u11.2.2.2.2.2.1, u11.2.2.2.2.2.2.1, u11.2.2.2.2.2.2.2.1, u11.2.2.2.2.2.2.2.2.1, u11.2.2.2.2.2.2.2.2.2.1, u11.2.2.2.2.2.2.2.2.2.2.1, u11.2.2.2.2.2.2.2.2.2.2.2.1, u11.2.2.2.2.2.2.2.2.2.2.2.2.1, u11.2.2.2.2.2.2.2.2.2.2.2.2.2.1, u11.2.2.2.2.2.2.2.2.2.2.2.2.2.2.1, u11.2.2.2.2.2.2.2.2.2.2.2.2.2.2.2.1, u11.2.2.2.2.2.2.2.2.2.2.2.2.2.2.2.2.1, u11.2.2.2.2.2.2.2.2.2.2.2.2.2.2.2.2.2.1, u11.2.2.2.2.2.2.2.2.2.2.2.2.2.2.2.2.2.2.1, u11.2.2.2.2.2.2.2.2.2.2.2.2.2.2.2.2.2.2.2.1, u11.2.2.2.2.2.2.2.2.2.2.2.2.2.2.2.2.2.2.2.2.1, u11.2.2.2.2.2.2.2.2.2.2.2.2.2.2.2.2.2.2.2.2.2.1, u11.2.2.2.2.2.2.2.2.2.2.2.2.2.2.2.2.2.2.2.2.2.2.1, u11.2.2.2.2.2.2.2.2.2.2.2.2.2.2.2.2.2.2.2.2.2.2.2.1, u11.2.2.2.2.2.2.2.2.2.2.2.2.2.2.2.2.2.2.2.2.2.2.2.2.1, u11.2.2.2.2.2.2.2.2.2.2.2.2.2.2.2.2.2.2.2.2.2.2.2.2.2.1, u11.2.2.2.2.2.2.2.2.2.2.2.2.2.2.2.2.2.2.2.2.2.2.2.2.2.2)) else
  (f_X14_teach_R70 n b_h b_h_told b_h_fresh w_h_thrown w_h_bytes w_h_errorAt w_h_kind w_h_number w_h_position w_h_length w_h_token w_h_isWrong w_h_error w_h_errorToken w_h_deep w_h_frontName w_h_guestName w_h_now w_h_told_fronts w_h_told_warm w_h_told_force w_h_told_comes w_h_told_stays w_h_told_guests w_h_told_sits w_h_told_low w_h_told_high w_h_told_nerve w_h_told_orders w_h_told_does w_h_told_whom w_h_told_from w_h_told_to w_h_told_test w_h_told_nodes w_h_told_sort w_h_told_left w_h_told_right w_h_fresh_fronts w_h_fresh_warm w_h_fresh_force w_h_fresh_comes w_h_fresh_stays w_h_fresh_guests w_h_fresh_sits w_h_fresh_low w_h_fresh_high w_h_fresh_nerve w_h_fresh_orders w_h_fresh_does w_h_fresh_whom w_h_fresh_from w_h_fresh_to w_h_fresh_test w_h_fresh_nodes w_h_fresh_sort w_h_fresh_left w_h_fresh_right).bind (fun x => some (Sum.inr x))
def f_X14_teach (n : Nat) (b_h : bX14) (b_h_told : bX13) (b_h_fresh : bX13) : Option (Int32 × Int32 × Int32 × Int32 × (Nat → Int32) × (Nat → Int32) × (Nat → Int32) × (Nat → Int32) × Int32 × Int32 × Int32 × Int32 × Int32 × (Nat → Int32) × (Nat → Int32) × (Nat → Int32) × Int32 × (Nat → Int32) × (Nat → Int32) × (Nat → Int32) × (Nat → Int32) × Int32 × (Nat → Int32) × (Nat → Int32) × (Nat → Int32) × (Nat → Int32) × Int32 × (Nat → Int32) × (Nat → Int32) × (Nat → Int32) × (Nat → Int32) × (Nat → Int32) × Int32 × (Nat → Int32) × (Nat → Int32) × (Nat → Int32) × Int32 × (Nat → Int32) × (Nat → Int32) × (Nat → Int32) × (Nat → Int32) × Int32 × (Nat → Int32) × (Nat → Int32) × (Nat → Int32) × (Nat → Int32) × Int32 × (Nat → Int32) × (Nat → Int32) × (Nat → Int32) × (Nat → Int32) × (Nat → Int32) × Int32 × (Nat → Int32) × (Nat → Int32) × (Nat → Int32)) :=
  (f_X13_begin b_h_fresh).bind fun u1 =>
  (f_X14_readAll n (0, (X14_tape b_h), (X14_bytes b_h), (X14_errorAt b_h), (X14_kind b_h), (X14_number b_h), (X14_position b_h), (X14_length b_h), 0, 0, 0, (X14_errorToken b_h), 0, (X14_frontName b_h), (X14_guestName b_h), (X14_value b_h), (X14_now b_h), (X14_kept b_h))).bind fun u2 =>
  iter (fun s : Int32 × Int32 × Int32 × Int32 × Int32 × (Nat → Int32) × (Nat → Int32) × Int32 × (Nat → Int32) × (Nat → Int32) × (Nat → Int32) × (Nat → Int32) × Int32 × (Nat → Int32) × (Nat → Int32) × (Nat → Int32) × (Nat → Int32) × Int32 × (Nat → Int32) × (Nat → Int32) × (Nat → Int32) × (Nat → Int32) × (Nat → Int32) × Int32 × (Nat → Int32) × (Nat → Int32) × (Nat → Int32) => f_X14_teach_L36 n b_h b_h_told b_h_fresh 0 (X14_bytes b_h) (X14_errorAt b_h) u2.1 u2.2.1 u2.2.2.1 u2.2.2.2 s.1 s.2.1 s.2.2.1 s.2.2.2.1 s.2.2.2.2.1 s.2.2.2.2.2.1 s.2.2.2.2.2.2.1 (X14_now b_h) (X13_fronts b_h_told) (X13_warm b_h_told) (X13_force b_h_told) (X13_comes b_h_told) (X13_stays b_h_told) (X13_guests b_h_told) (X13_sits b_h_told) (X13_low b_h_told) (X13_high b_h_told) (X13_nerve b_h_told) (X13_orders b_h_told) (X13_does b_h_told) (X13_whom b_h_told) (X13_from b_h_told) (X13_to b_h_told) (X13_test b_h_told) (X13_nodes b_h_told) (X13_sort b_h_told) (X13_left b_h_told) (X13_right b_h_told) s.2.2.2.2.2.2.2.1 s.2.2.2.2.2.2.2.2.1 s.2.2.2.2.2.2.2.2.2.1 s.2.2.2.2.2.2.2.2.2.2.1 s.2.2.2.2.2.2.2.2.2.2.2.1 s.2.2.2.2.2.2.2.2.2.2.2.2.1 s.2.2.2.2.2.2.2.2.2.2.2.2.2.1 s.2.2.2.2.2.2.2.2.2.2.2.2.2.2.1 s.2.2.2.2.2.2.2.2.2.2.2.2.2.2.2.1 s.2.2.2.2.2.2.2.2.2.2.2.2.2.2.2.2.1 s.2.2.2.2.2.2.2.2.2.2.2.2.2.2.2.2.2.1 s.2.2.2.2.2.2.2.2.2.2.2.2.2.2.2.2.2.2.1 s.2.2.2.2.2.2.2.2.2.2.2.2.2.2.2.2.2.2.2.1 s.2.2.2.2.2.2.2.2.2.2.2.2.2.2.2.2.2.2.2.2.1 s.2.2.2.2.2.2.2.2.2.2.2.2.2.2.2.2.2.2.2.2.2.1 s.2.2.2.2.2.2.2.2.2.2.2.2.2.2.2.2.2.2.2.2.2.2.1 s.2.2.2.2.2.2.2.2.2.2.2.2.2.2.2.2.2.2.2.2.2.2.2.1 s.2.2.2.2.2.2.2.2.2.2.2.2.2.2.2.2.2.2.2.2.2.2.2.2.1 s.2.2.2.2.2.2.2.2.2.2.2.2.2.2.2.2.2.2.2.2.2.2.2.2.2.1 s.2.2.2.2.2.2.2.2.2.2.2.2.2.2.2.2.2.2.2.2.2.2.2.2.2.2) n (0, 0, 0, (X14_errorToken b_h), 0, (X14_frontName b_h), (X14_guestName b_h), u1.1, (X13_warm b_h_fresh), (X13_force b_h_fresh), (X13_comes b_h_fresh), (X13_stays b_h_fresh), u1.2.1, (X13_sits b_h_fresh), (X13_low b_h_fresh), (X13_high b_h_fresh), (X13_nerve b_h_fresh), u1.2.2.1, (X13_does b_h_fresh), (X13_whom b_h_fresh), (X13_from b_h_fresh), (X13_to b_h_fresh), (X13_test b_h_fresh), u1.2.2.2, (X13_sort b_h_fresh), (X13_left b_h_fresh), (X13_right b_h_fresh))

def f_X14_thrown (b_h : bX14) : Option (Int32) :=
  some (X14_thrown b_h)

def f_X14_trim (x0 : Int32) (b_h : bX14) : Option (Int32 × Int32 × Int32) :=
  (f_X14_isIn x0 0 (X14_bytes b_h)).bind fun u1 =>
  if u1 = 0 then
  (f_X14_no 1 (0, (X14_tape b_h), (X14_bytes b_h), (X14_errorAt b_h), (X14_kind b_h), (X14_number b_h), (X14_position b_h), (X14_length b_h), (X14_token b_h), (X14_isWrong b_h), (X14_error b_h), (X14_errorToken b_h), (X14_deep b_h), (X14_frontName b_h), (X14_guestName b_h), (X14_value b_h), (X14_now b_h), (X14_kept b_h))).bind fun u3 =>
  some (u3.1, u3.2, (X14_bytes b_h)) else
  some (x0, 0, x0)

def f_X14_warmth (b_h : bX14) : Option (Int32 × Int32) :=
  if (1 : Int32) < 0 ∨ 58 ≤ (1 : Int32).toNatClampNeg then none else
  (f_X14_ok ((X14_now b_h) (1 : Int32).toNatClampNeg) b_h).bind fun u2 =>
  some (u2.1, u2.2)

def f_X14_wasServed (x0 : Int32) (b_h : bX14) (b_h_told : bX13) : Option (Int32 × Int32) :=
  (f_X14_isGuest x0 b_h b_h_told).bind fun u1 =>
  if u1.1 = 0 then
  some (0, u1.2) else
  if (38 + x0) < 0 ∨ 58 ≤ (38 + x0).toNatClampNeg then none else
  if ((X14_now b_h) (38 + x0).toNatClampNeg) = (1 : Int32) then
  some (1, u1.2) else
  some (0, u1.2)

def f_X14_wasStormed (x0 : Int32) (b_h : bX14) (b_h_told : bX13) : Option (Int32 × Int32) :=
  (f_X14_isGuest x0 b_h b_h_told).bind fun u1 =>
  if u1.1 = 0 then
  some (0, u1.2) else
  if (48 + x0) < 0 ∨ 58 ≤ (48 + x0).toNatClampNeg then none else
  if ((X14_now b_h) (48 + x0).toNatClampNeg) = (1 : Int32) then
  some (1, u1.2) else
  some (0, u1.2)

def f_X6_addStep (x0 : Nat) (x1 : Int32) (b_h : bX6) : Option (Int32 × (Nat → Nat) × (Nat → Int32) × Int32) :=
  if (X6_steps b_h) < (400 : Int32) then
  if (X6_steps b_h) < 0 ∨ 400 ≤ (X6_steps b_h).toNatClampNeg then none else
  if x0 < 52 then
  if (X6_steps b_h) < 0 ∨ 400 ≤ (X6_steps b_h).toNatClampNeg then none else
  some (1, (va_up (X6_stepKinds b_h) (X6_steps b_h).toNatClampNeg x0), (upd (X6_stepValues b_h) (X6_steps b_h).toNatClampNeg x1), ((X6_steps b_h) + 1)) else none else
  some (0, (X6_stepKinds b_h), (X6_stepValues b_h), (X6_steps b_h))

def f_X3_test_L10 (n : Nat) (rec : Nat → Int32 → bX11 → bX6 → Option (Int32 × Int32 × (Nat → Nat) × (Nat → Int32) × Int32)) (x2 : Int32) (b_a0 : bX11) (b_a1 : bX6) (v2 : Int32) (v3 : Int32) (v4 : Int32) (w_a0_cursor : Int32) (w_a1_stepKinds : Nat → Nat) (w_a1_stepValues : Nat → Int32) (w_a1_steps : Int32) : Option ((Int32 × Int32 × Int32 × (Nat → Nat) × (Nat → Int32) × Int32) ⊕ (Int32 × Int32 × (Nat → Nat) × (Nat → Int32) × Int32)) :=
  if (400 : Int32) ≤ v4 then
  if vp_nar .boolean v3 = v3 then some (Sum.inr (v3, w_a0_cursor, w_a1_stepKinds, w_a1_stepValues, w_a1_steps)) else none else
  if v3 = 0 then
  if vp_nar .boolean v3 = v3 then some (Sum.inr (v3, w_a0_cursor, w_a1_stepKinds, w_a1_stepValues, w_a1_steps)) else none else
  (f_X11_take 29 ((X11_kinds b_a0), (X11_starts b_a0), (X11_values b_a0), (X11_count b_a0), w_a0_cursor, (X11_error b_a0), (X11_errorToken b_a0))).bind fun u6 =>
  if u6.1 = 0 then
  if vp_nar .boolean v3 = v3 then some (Sum.inr (v3, u6.2, w_a1_stepKinds, w_a1_stepValues, w_a1_steps)) else none else
  (rec 1 v2 ((X11_kinds b_a0), (X11_starts b_a0), (X11_values b_a0), (X11_count b_a0), u6.2, (X11_error b_a0), (X11_errorToken b_a0)) ((X6_deeds b_a1), (X6_targets b_a1), (X6_firstSteps b_a1), (X6_endSteps b_a1), w_a1_stepKinds, w_a1_stepValues, (X6_count b_a1), w_a1_steps)).bind fun u9 =>
  if u9.1 = 0 then
  some (Sum.inl (0, (v4 + 1), u9.2.1, u9.2.2.1, u9.2.2.2.1, u9.2.2.2.2)) else
  (f_X6_addStep 29 0 ((X6_deeds b_a1), (X6_targets b_a1), (X6_firstSteps b_a1), (X6_endSteps b_a1), u9.2.2.1, u9.2.2.2.1, (X6_count b_a1), u9.2.2.2.2)).bind fun u11 =>
  if u11.1 = 0 then
  some (Sum.inl (0, (v4 + 1), u9.2.1, u11.2.1, u11.2.2.1, u11.2.2.2)) else
  some (Sum.inl (1, (v4 + 1), u9.2.1, u11.2.1, u11.2.2.1, u11.2.2.2))
def f_X3_test (n : Nat) (rec : Nat → Int32 → bX11 → bX6 → Option (Int32 × Int32 × (Nat → Nat) × (Nat → Int32) × Int32)) (x2 : Int32) (b_a0 : bX11) (b_a1 : bX6) : Option (Int32 × Int32 × (Nat → Nat) × (Nat → Int32) × Int32) :=
  (rec 1 x2 b_a0 b_a1).bind fun u1 =>
  iter (fun s : Int32 × Int32 × Int32 × (Nat → Nat) × (Nat → Int32) × Int32 => f_X3_test_L10 n rec x2 b_a0 b_a1 x2 s.1 s.2.1 s.2.2.1 s.2.2.2.1 s.2.2.2.2.1 s.2.2.2.2.2) n (u1.1, 0, u1.2.1, u1.2.2.1, u1.2.2.2.1, u1.2.2.2.2)

def f_X3_both_L10 (n : Nat) (rec : Nat → Int32 → bX11 → bX6 → Option (Int32 × Int32 × (Nat → Nat) × (Nat → Int32) × Int32)) (x2 : Int32) (b_a0 : bX11) (b_a1 : bX6) (v2 : Int32) (v3 : Int32) (v4 : Int32) (w_a0_cursor : Int32) (w_a1_stepKinds : Nat → Nat) (w_a1_stepValues : Nat → Int32) (w_a1_steps : Int32) : Option ((Int32 × Int32 × Int32 × (Nat → Nat) × (Nat → Int32) × Int32) ⊕ (Int32 × Int32 × (Nat → Nat) × (Nat → Int32) × Int32)) :=
  if (400 : Int32) ≤ v4 then
  if vp_nar .boolean v3 = v3 then some (Sum.inr (v3, w_a0_cursor, w_a1_stepKinds, w_a1_stepValues, w_a1_steps)) else none else
  if v3 = 0 then
  if vp_nar .boolean v3 = v3 then some (Sum.inr (v3, w_a0_cursor, w_a1_stepKinds, w_a1_stepValues, w_a1_steps)) else none else
  (f_X11_take 28 ((X11_kinds b_a0), (X11_starts b_a0), (X11_values b_a0), (X11_count b_a0), w_a0_cursor, (X11_error b_a0), (X11_errorToken b_a0))).bind fun u6 =>
  if u6.1 = 0 then
  if vp_nar .boolean v3 = v3 then some (Sum.inr (v3, u6.2, w_a1_stepKinds, w_a1_stepValues, w_a1_steps)) else none else
  (rec 2 v2 ((X11_kinds b_a0), (X11_starts b_a0), (X11_values b_a0), (X11_count b_a0), u6.2, (X11_error b_a0), (X11_errorToken b_a0)) ((X6_deeds b_a1), (X6_targets b_a1), (X6_firstSteps b_a1), (X6_endSteps b_a1), w_a1_stepKinds, w_a1_stepValues, (X6_count b_a1), w_a1_steps)).bind fun u9 =>
  if u9.1 = 0 then
  some (Sum.inl (0, (v4 + 1), u9.2.1, u9.2.2.1, u9.2.2.2.1, u9.2.2.2.2)) else
  (f_X6_addStep 28 0 ((X6_deeds b_a1), (X6_targets b_a1), (X6_firstSteps b_a1), (X6_endSteps b_a1), u9.2.2.1, u9.2.2.2.1, (X6_count b_a1), u9.2.2.2.2)).bind fun u11 =>
  if u11.1 = 0 then
  some (Sum.inl (0, (v4 + 1), u9.2.1, u11.2.1, u11.2.2.1, u11.2.2.2)) else
  some (Sum.inl (1, (v4 + 1), u9.2.1, u11.2.1, u11.2.2.1, u11.2.2.2))
def f_X3_both (n : Nat) (rec : Nat → Int32 → bX11 → bX6 → Option (Int32 × Int32 × (Nat → Nat) × (Nat → Int32) × Int32)) (x2 : Int32) (b_a0 : bX11) (b_a1 : bX6) : Option (Int32 × Int32 × (Nat → Nat) × (Nat → Int32) × Int32) :=
  (rec 2 x2 b_a0 b_a1).bind fun u1 =>
  iter (fun s : Int32 × Int32 × Int32 × (Nat → Nat) × (Nat → Int32) × Int32 => f_X3_both_L10 n rec x2 b_a0 b_a1 x2 s.1 s.2.1 s.2.2.1 s.2.2.2.1 s.2.2.2.2.1 s.2.2.2.2.2) n (u1.1, 0, u1.2.1, u1.2.2.1, u1.2.2.2.1, u1.2.2.2.2)

def f_X3_single (n : Nat) (rec : Nat → Int32 → bX11 → bX6 → Option (Int32 × Int32 × (Nat → Nat) × (Nat → Int32) × Int32)) (x2 : Int32) (b_a0 : bX11) (b_a1 : bX6) : Option (Int32 × Int32 × (Nat → Nat) × (Nat → Int32) × Int32) :=
  (f_X11_next b_a0).bind fun u1 =>
  if u1 < 52 then
  if (smap u1) = 1 then
  if (8 : Int32) ≤ x2 then
  some (0, (X11_cursor b_a0), (X6_stepKinds b_a1), (X6_stepValues b_a1), (X6_steps b_a1)) else
  (f_X11_take 27 b_a0).bind fun u5 =>
  if u5.1 = 0 then
  some (0, u5.2, (X6_stepKinds b_a1), (X6_stepValues b_a1), (X6_steps b_a1)) else
  (rec 2 (x2 + 1) ((X11_kinds b_a0), (X11_starts b_a0), (X11_values b_a0), (X11_count b_a0), u5.2, (X11_error b_a0), (X11_errorToken b_a0)) b_a1).bind fun u7 =>
  if u7.1 = 0 then
  some (0, u7.2.1, u7.2.2.1, u7.2.2.2.1, u7.2.2.2.2) else
  (f_X6_addStep 27 0 ((X6_deeds b_a1), (X6_targets b_a1), (X6_firstSteps b_a1), (X6_endSteps b_a1), u7.2.2.1, u7.2.2.2.1, (X6_count b_a1), u7.2.2.2.2)).bind fun u9 =>
  if u9.1 = 0 then
  some (0, u7.2.1, u9.2.1, u9.2.2.1, u9.2.2.2) else
  some (1, u7.2.1, u9.2.1, u9.2.2.1, u9.2.2.2) else
  if (smap u1) = 2 then
  if (8 : Int32) ≤ x2 then
  some (0, (X11_cursor b_a0), (X6_stepKinds b_a1), (X6_stepValues b_a1), (X6_steps b_a1)) else
  (f_X11_take 34 b_a0).bind fun u13 =>
  if u13.1 = 0 then
  some (0, u13.2, (X6_stepKinds b_a1), (X6_stepValues b_a1), (X6_steps b_a1)) else
  (rec 0 (x2 + 1) ((X11_kinds b_a0), (X11_starts b_a0), (X11_values b_a0), (X11_count b_a0), u13.2, (X11_error b_a0), (X11_errorToken b_a0)) b_a1).bind fun u15 =>
  if u15.1 = 0 then
  some (0, u15.2.1, u15.2.2.1, u15.2.2.2.1, u15.2.2.2.2) else
  (f_X11_take 35 ((X11_kinds b_a0), (X11_starts b_a0), (X11_values b_a0), (X11_count b_a0), u15.2.1, (X11_error b_a0), (X11_errorToken b_a0))).bind fun u17 =>
  if u17.1 = 0 then
  some (0, u17.2, u15.2.2.1, u15.2.2.2.1, u15.2.2.2.2) else
  some (1, u17.2, u15.2.2.1, u15.2.2.2.1, u15.2.2.2.2) else
  if (smap u1) = 3 ∨ (smap u1) = 4 ∨ (smap u1) = 5 then
  (f_X11_take u1 b_a0).bind fun u20 =>
  if u20.1 = 0 then
  some (0, u20.2, (X6_stepKinds b_a1), (X6_stepValues b_a1), (X6_steps b_a1)) else
  (f_X6_addStep u1 u20.2 b_a1).bind fun u22 =>
  if u22.1 = 0 then
  some (0, u20.2, u22.2.1, u22.2.2.1, u22.2.2.2) else
  (f_X11_take 47 ((X11_kinds b_a0), (X11_starts b_a0), (X11_values b_a0), (X11_count b_a0), u20.2, (X11_error b_a0), (X11_errorToken b_a0))).bind fun u24 =>
  if u24.1 = 0 then
  some (0, u24.2, u22.2.1, u22.2.2.1, u22.2.2.2) else
  some (1, u24.2, u22.2.1, u22.2.2.1, u22.2.2.2) else
  (rec 3 x2 b_a0 b_a1).bind fun u26 =>
  if vp_nar .boolean u26.1 = u26.1 then some (u26.1, u26.2.1, u26.2.2.1, u26.2.2.2.1, u26.2.2.2.2) else none else none

def f_X3_comparison_R71 (n : Nat) (rec : Nat → Int32 → bX11 → bX6 → Option (Int32 × Int32 × (Nat → Nat) × (Nat → Int32) × Int32)) (x2 : Int32) (b_a0 : bX11) (b_a1 : bX6) (v2 : Int32) (v3 : Nat) (w_a0_cursor : Int32) (w_a1_stepKinds : Nat → Nat) (w_a1_stepValues : Nat → Int32) (w_a1_steps : Int32) (t0 : Int32) : Option (Int32 × Int32 × (Nat → Nat) × (Nat → Int32) × Int32) :=
  if t0 = 0 then
  some (0, w_a0_cursor, w_a1_stepKinds, w_a1_stepValues, w_a1_steps) else
  (rec 4 v2 ((X11_kinds b_a0), (X11_starts b_a0), (X11_values b_a0), (X11_count b_a0), w_a0_cursor, (X11_error b_a0), (X11_errorToken b_a0)) ((X6_deeds b_a1), (X6_targets b_a1), (X6_firstSteps b_a1), (X6_endSteps b_a1), w_a1_stepKinds, w_a1_stepValues, (X6_count b_a1), w_a1_steps)).bind fun u7 =>
  if u7.1 = 0 then
  some (0, u7.2.1, u7.2.2.1, u7.2.2.2.1, u7.2.2.2.2) else
  (f_X6_addStep v3 0 ((X6_deeds b_a1), (X6_targets b_a1), (X6_firstSteps b_a1), (X6_endSteps b_a1), u7.2.2.1, u7.2.2.2.1, (X6_count b_a1), u7.2.2.2.2)).bind fun u9 =>
  if u9.1 = 0 then
  some (0, u7.2.1, u9.2.1, u9.2.2.1, u9.2.2.2) else
  some (1, u7.2.1, u9.2.1, u9.2.2.1, u9.2.2.2)
def f_X3_comparison_R66 (n : Nat) (rec : Nat → Int32 → bX11 → bX6 → Option (Int32 × Int32 × (Nat → Nat) × (Nat → Int32) × Int32)) (x2 : Int32) (b_a0 : bX11) (b_a1 : bX6) (v2 : Int32) (v3 : Nat) (w_a0_cursor : Int32) (w_a1_stepKinds : Nat → Nat) (w_a1_stepValues : Nat → Int32) (w_a1_steps : Int32) : Option (Int32 × Int32 × (Nat → Nat) × (Nat → Int32) × Int32) :=
  f_X3_comparison_R71 n rec x2 b_a0 b_a1 v2 v3 w_a0_cursor w_a1_stepKinds w_a1_stepValues w_a1_steps 1
def f_X3_comparison (n : Nat) (rec : Nat → Int32 → bX11 → bX6 → Option (Int32 × Int32 × (Nat → Nat) × (Nat → Int32) × Int32)) (x2 : Int32) (b_a0 : bX11) (b_a1 : bX6) : Option (Int32 × Int32 × (Nat → Nat) × (Nat → Int32) × Int32) :=
  (rec 4 x2 b_a0 b_a1).bind fun u1 =>
  if u1.1 = 0 then
  some (0, u1.2.1, u1.2.2.1, u1.2.2.2.1, u1.2.2.2.2) else
  (f_X11_next ((X11_kinds b_a0), (X11_starts b_a0), (X11_values b_a0), (X11_count b_a0), u1.2.1, (X11_error b_a0), (X11_errorToken b_a0))).bind fun u3 =>
  (f_X11_take 42 ((X11_kinds b_a0), (X11_starts b_a0), (X11_values b_a0), (X11_count b_a0), u1.2.1, (X11_error b_a0), (X11_errorToken b_a0))).bind fun u4 =>
  if u4.1 = 0 then
  (f_X11_take 43 ((X11_kinds b_a0), (X11_starts b_a0), (X11_values b_a0), (X11_count b_a0), u4.2, (X11_error b_a0), (X11_errorToken b_a0))).bind fun u11 =>
  if u11.1 = 0 then
  (f_X11_take 44 ((X11_kinds b_a0), (X11_starts b_a0), (X11_values b_a0), (X11_count b_a0), u11.2, (X11_error b_a0), (X11_errorToken b_a0))).bind fun u13 =>
  if u13.1 = 0 then
  (f_X11_take 45 ((X11_kinds b_a0), (X11_starts b_a0), (X11_values b_a0), (X11_count b_a0), u13.2, (X11_error b_a0), (X11_errorToken b_a0))).bind fun u15 =>
  if u15.1 = 0 then
  (f_X11_take 46 ((X11_kinds b_a0), (X11_starts b_a0), (X11_values b_a0), (X11_count b_a0), u15.2, (X11_error b_a0), (X11_errorToken b_a0))).bind fun u17 =>
  if u17.1 = 0 then
  f_X3_comparison_R71 n rec x2 b_a0 b_a1 x2 u3 u17.2 u1.2.2.1 u1.2.2.2.1 u1.2.2.2.2 0 else
  f_X3_comparison_R66 n rec x2 b_a0 b_a1 x2 u3 u17.2 u1.2.2.1 u1.2.2.2.1 u1.2.2.2.2 else
  f_X3_comparison_R66 n rec x2 b_a0 b_a1 x2 u3 u15.2 u1.2.2.1 u1.2.2.2.1 u1.2.2.2.2 else
  f_X3_comparison_R66 n rec x2 b_a0 b_a1 x2 u3 u13.2 u1.2.2.1 u1.2.2.2.1 u1.2.2.2.2 else
  f_X3_comparison_R66 n rec x2 b_a0 b_a1 x2 u3 u11.2 u1.2.2.1 u1.2.2.2.1 u1.2.2.2.2 else
  f_X3_comparison_R66 n rec x2 b_a0 b_a1 x2 u3 u4.2 u1.2.2.1 u1.2.2.2.1 u1.2.2.2.2

def f_X3_sum_R72 (n : Nat) (rec : Nat → Int32 → bX11 → bX6 → Option (Int32 × Int32 × (Nat → Nat) × (Nat → Int32) × Int32)) (x2 : Int32) (b_a0 : bX11) (b_a1 : bX6) (v2 : Int32) (v5 : Int32) (w_a0_cursor : Int32) (w_a1_stepKinds : Nat → Nat) (w_a1_stepValues : Nat → Int32) (w_a1_steps : Int32) (t0 : Int32) : Option ((Int32 × Nat × Int32 × Int32 × (Nat → Nat) × (Nat → Int32) × Int32) ⊕ (Int32 × Int32 × (Nat → Nat) × (Nat → Int32) × Int32)) :=
  (f_X11_next ((X11_kinds b_a0), (X11_starts b_a0), (X11_values b_a0), (X11_count b_a0), w_a0_cursor, (X11_error b_a0), (X11_errorToken b_a0))).bind fun u11 =>
  some (Sum.inl (t0, u11, (v5 + 1), w_a0_cursor, w_a1_stepKinds, w_a1_stepValues, w_a1_steps))
def f_X3_sum_R71 (n : Nat) (rec : Nat → Int32 → bX11 → bX6 → Option (Int32 × Int32 × (Nat → Nat) × (Nat → Int32) × Int32)) (x2 : Int32) (b_a0 : bX11) (b_a1 : bX6) (v2 : Int32) (v5 : Int32) (w_a0_cursor : Int32) (w_a1_stepKinds : Nat → Nat) (w_a1_stepValues : Nat → Int32) (w_a1_steps : Int32) : Option ((Int32 × Nat × Int32 × Int32 × (Nat → Nat) × (Nat → Int32) × Int32) ⊕ (Int32 × Int32 × (Nat → Nat) × (Nat → Int32) × Int32)) :=
  f_X3_sum_R72 n rec x2 b_a0 b_a1 v2 v5 w_a0_cursor w_a1_stepKinds w_a1_stepValues w_a1_steps 0
def f_X3_sum_R48 (n : Nat) (rec : Nat → Int32 → bX11 → bX6 → Option (Int32 × Int32 × (Nat → Nat) × (Nat → Int32) × Int32)) (x2 : Int32) (b_a0 : bX11) (b_a1 : bX6) (v2 : Int32) (v4 : Nat) (v5 : Int32) (w_a0_cursor : Int32) (w_a1_stepKinds : Nat → Nat) (w_a1_stepValues : Nat → Int32) (w_a1_steps : Int32) : Option ((Int32 × Nat × Int32 × Int32 × (Nat → Nat) × (Nat → Int32) × Int32) ⊕ (Int32 × Int32 × (Nat → Nat) × (Nat → Int32) × Int32)) :=
  (rec 5 v2 ((X11_kinds b_a0), (X11_starts b_a0), (X11_values b_a0), (X11_count b_a0), w_a0_cursor, (X11_error b_a0), (X11_errorToken b_a0)) ((X6_deeds b_a1), (X6_targets b_a1), (X6_firstSteps b_a1), (X6_endSteps b_a1), w_a1_stepKinds, w_a1_stepValues, (X6_count b_a1), w_a1_steps)).bind fun u9 =>
  if u9.1 = 0 then
  f_X3_sum_R71 n rec x2 b_a0 b_a1 v2 v5 u9.2.1 u9.2.2.1 u9.2.2.2.1 u9.2.2.2.2 else
  (f_X6_addStep v4 0 ((X6_deeds b_a1), (X6_targets b_a1), (X6_firstSteps b_a1), (X6_endSteps b_a1), u9.2.2.1, u9.2.2.2.1, (X6_count b_a1), u9.2.2.2.2)).bind fun u12 =>
  if u12.1 = 0 then
  f_X3_sum_R71 n rec x2 b_a0 b_a1 v2 v5 u9.2.1 u12.2.1 u12.2.2.1 u12.2.2.2 else
  f_X3_sum_R72 n rec x2 b_a0 b_a1 v2 v5 u9.2.1 u12.2.1 u12.2.2.1 u12.2.2.2 1
def f_X3_sum_L16 (n : Nat) (rec : Nat → Int32 → bX11 → bX6 → Option (Int32 × Int32 × (Nat → Nat) × (Nat → Int32) × Int32)) (x2 : Int32) (b_a0 : bX11) (b_a1 : bX6) (v2 : Int32) (v3 : Int32) (v4 : Nat) (v5 : Int32) (w_a0_cursor : Int32) (w_a1_stepKinds : Nat → Nat) (w_a1_stepValues : Nat → Int32) (w_a1_steps : Int32) : Option ((Int32 × Nat × Int32 × Int32 × (Nat → Nat) × (Nat → Int32) × Int32) ⊕ (Int32 × Int32 × (Nat → Nat) × (Nat → Int32) × Int32)) :=
  if (400 : Int32) ≤ v5 then
  if vp_nar .boolean v3 = v3 then some (Sum.inr (v3, w_a0_cursor, w_a1_stepKinds, w_a1_stepValues, w_a1_steps)) else none else
  if v3 = 0 then
  if vp_nar .boolean v3 = v3 then some (Sum.inr (v3, w_a0_cursor, w_a1_stepKinds, w_a1_stepValues, w_a1_steps)) else none else
  (f_X11_take 38 ((X11_kinds b_a0), (X11_starts b_a0), (X11_values b_a0), (X11_count b_a0), w_a0_cursor, (X11_error b_a0), (X11_errorToken b_a0))).bind fun u7 =>
  if u7.1 = 0 then
  (f_X11_take 39 ((X11_kinds b_a0), (X11_starts b_a0), (X11_values b_a0), (X11_count b_a0), u7.2, (X11_error b_a0), (X11_errorToken b_a0))).bind fun u14 =>
  if u14.1 = 0 then
  if vp_nar .boolean v3 = v3 then some (Sum.inr (v3, u14.2, w_a1_stepKinds, w_a1_stepValues, w_a1_steps)) else none else
  f_X3_sum_R48 n rec x2 b_a0 b_a1 v2 v4 v5 u14.2 w_a1_stepKinds w_a1_stepValues w_a1_steps else
  f_X3_sum_R48 n rec x2 b_a0 b_a1 v2 v4 v5 u7.2 w_a1_stepKinds w_a1_stepValues w_a1_steps
def f_X3_sum (n : Nat) (rec : Nat → Int32 → bX11 → bX6 → Option (Int32 × Int32 × (Nat → Nat) × (Nat → Int32) × Int32)) (x2 : Int32) (b_a0 : bX11) (b_a1 : bX6) : Option (Int32 × Int32 × (Nat → Nat) × (Nat → Int32) × Int32) :=
  (rec 5 x2 b_a0 b_a1).bind fun u1 =>
  (f_X11_next ((X11_kinds b_a0), (X11_starts b_a0), (X11_values b_a0), (X11_count b_a0), u1.2.1, (X11_error b_a0), (X11_errorToken b_a0))).bind fun u2 =>
  iter (fun s : Int32 × Nat × Int32 × Int32 × (Nat → Nat) × (Nat → Int32) × Int32 => f_X3_sum_L16 n rec x2 b_a0 b_a1 x2 s.1 s.2.1 s.2.2.1 s.2.2.2.1 s.2.2.2.2.1 s.2.2.2.2.2.1 s.2.2.2.2.2.2) n (u1.1, u2, 0, u1.2.1, u1.2.2.1, u1.2.2.2.1, u1.2.2.2.2)

def f_X3_product_R72 (n : Nat) (rec : Nat → Int32 → bX11 → bX6 → Option (Int32 × Int32 × (Nat → Nat) × (Nat → Int32) × Int32)) (x2 : Int32) (b_a0 : bX11) (b_a1 : bX6) (v2 : Int32) (v5 : Int32) (w_a0_cursor : Int32) (w_a1_stepKinds : Nat → Nat) (w_a1_stepValues : Nat → Int32) (w_a1_steps : Int32) (t0 : Int32) : Option ((Int32 × Nat × Int32 × Int32 × (Nat → Nat) × (Nat → Int32) × Int32) ⊕ (Int32 × Int32 × (Nat → Nat) × (Nat → Int32) × Int32)) :=
  (f_X11_next ((X11_kinds b_a0), (X11_starts b_a0), (X11_values b_a0), (X11_count b_a0), w_a0_cursor, (X11_error b_a0), (X11_errorToken b_a0))).bind fun u11 =>
  some (Sum.inl (t0, u11, (v5 + 1), w_a0_cursor, w_a1_stepKinds, w_a1_stepValues, w_a1_steps))
def f_X3_product_R71 (n : Nat) (rec : Nat → Int32 → bX11 → bX6 → Option (Int32 × Int32 × (Nat → Nat) × (Nat → Int32) × Int32)) (x2 : Int32) (b_a0 : bX11) (b_a1 : bX6) (v2 : Int32) (v5 : Int32) (w_a0_cursor : Int32) (w_a1_stepKinds : Nat → Nat) (w_a1_stepValues : Nat → Int32) (w_a1_steps : Int32) : Option ((Int32 × Nat × Int32 × Int32 × (Nat → Nat) × (Nat → Int32) × Int32) ⊕ (Int32 × Int32 × (Nat → Nat) × (Nat → Int32) × Int32)) :=
  f_X3_product_R72 n rec x2 b_a0 b_a1 v2 v5 w_a0_cursor w_a1_stepKinds w_a1_stepValues w_a1_steps 0
def f_X3_product_R48 (n : Nat) (rec : Nat → Int32 → bX11 → bX6 → Option (Int32 × Int32 × (Nat → Nat) × (Nat → Int32) × Int32)) (x2 : Int32) (b_a0 : bX11) (b_a1 : bX6) (v2 : Int32) (v4 : Nat) (v5 : Int32) (w_a0_cursor : Int32) (w_a1_stepKinds : Nat → Nat) (w_a1_stepValues : Nat → Int32) (w_a1_steps : Int32) : Option ((Int32 × Nat × Int32 × Int32 × (Nat → Nat) × (Nat → Int32) × Int32) ⊕ (Int32 × Int32 × (Nat → Nat) × (Nat → Int32) × Int32)) :=
  (rec 6 v2 ((X11_kinds b_a0), (X11_starts b_a0), (X11_values b_a0), (X11_count b_a0), w_a0_cursor, (X11_error b_a0), (X11_errorToken b_a0)) ((X6_deeds b_a1), (X6_targets b_a1), (X6_firstSteps b_a1), (X6_endSteps b_a1), w_a1_stepKinds, w_a1_stepValues, (X6_count b_a1), w_a1_steps)).bind fun u9 =>
  if u9.1 = 0 then
  f_X3_product_R71 n rec x2 b_a0 b_a1 v2 v5 u9.2.1 u9.2.2.1 u9.2.2.2.1 u9.2.2.2.2 else
  (f_X6_addStep v4 0 ((X6_deeds b_a1), (X6_targets b_a1), (X6_firstSteps b_a1), (X6_endSteps b_a1), u9.2.2.1, u9.2.2.2.1, (X6_count b_a1), u9.2.2.2.2)).bind fun u12 =>
  if u12.1 = 0 then
  f_X3_product_R71 n rec x2 b_a0 b_a1 v2 v5 u9.2.1 u12.2.1 u12.2.2.1 u12.2.2.2 else
  f_X3_product_R72 n rec x2 b_a0 b_a1 v2 v5 u9.2.1 u12.2.1 u12.2.2.1 u12.2.2.2 1
def f_X3_product_L16 (n : Nat) (rec : Nat → Int32 → bX11 → bX6 → Option (Int32 × Int32 × (Nat → Nat) × (Nat → Int32) × Int32)) (x2 : Int32) (b_a0 : bX11) (b_a1 : bX6) (v2 : Int32) (v3 : Int32) (v4 : Nat) (v5 : Int32) (w_a0_cursor : Int32) (w_a1_stepKinds : Nat → Nat) (w_a1_stepValues : Nat → Int32) (w_a1_steps : Int32) : Option ((Int32 × Nat × Int32 × Int32 × (Nat → Nat) × (Nat → Int32) × Int32) ⊕ (Int32 × Int32 × (Nat → Nat) × (Nat → Int32) × Int32)) :=
  if (400 : Int32) ≤ v5 then
  if vp_nar .boolean v3 = v3 then some (Sum.inr (v3, w_a0_cursor, w_a1_stepKinds, w_a1_stepValues, w_a1_steps)) else none else
  if v3 = 0 then
  if vp_nar .boolean v3 = v3 then some (Sum.inr (v3, w_a0_cursor, w_a1_stepKinds, w_a1_stepValues, w_a1_steps)) else none else
  (f_X11_take 40 ((X11_kinds b_a0), (X11_starts b_a0), (X11_values b_a0), (X11_count b_a0), w_a0_cursor, (X11_error b_a0), (X11_errorToken b_a0))).bind fun u7 =>
  if u7.1 = 0 then
  (f_X11_take 41 ((X11_kinds b_a0), (X11_starts b_a0), (X11_values b_a0), (X11_count b_a0), u7.2, (X11_error b_a0), (X11_errorToken b_a0))).bind fun u14 =>
  if u14.1 = 0 then
  if vp_nar .boolean v3 = v3 then some (Sum.inr (v3, u14.2, w_a1_stepKinds, w_a1_stepValues, w_a1_steps)) else none else
  f_X3_product_R48 n rec x2 b_a0 b_a1 v2 v4 v5 u14.2 w_a1_stepKinds w_a1_stepValues w_a1_steps else
  f_X3_product_R48 n rec x2 b_a0 b_a1 v2 v4 v5 u7.2 w_a1_stepKinds w_a1_stepValues w_a1_steps
def f_X3_product (n : Nat) (rec : Nat → Int32 → bX11 → bX6 → Option (Int32 × Int32 × (Nat → Nat) × (Nat → Int32) × Int32)) (x2 : Int32) (b_a0 : bX11) (b_a1 : bX6) : Option (Int32 × Int32 × (Nat → Nat) × (Nat → Int32) × Int32) :=
  (rec 6 x2 b_a0 b_a1).bind fun u1 =>
  (f_X11_next ((X11_kinds b_a0), (X11_starts b_a0), (X11_values b_a0), (X11_count b_a0), u1.2.1, (X11_error b_a0), (X11_errorToken b_a0))).bind fun u2 =>
  iter (fun s : Int32 × Nat × Int32 × Int32 × (Nat → Nat) × (Nat → Int32) × Int32 => f_X3_product_L16 n rec x2 b_a0 b_a1 x2 s.1 s.2.1 s.2.2.1 s.2.2.2.1 s.2.2.2.2.1 s.2.2.2.2.2.1 s.2.2.2.2.2.2) n (u1.1, u2, 0, u1.2.1, u1.2.2.1, u1.2.2.2.1, u1.2.2.2.2)

def f_X3_value (n : Nat) (rec : Nat → Int32 → bX11 → bX6 → Option (Int32 × Int32 × (Nat → Nat) × (Nat → Int32) × Int32)) (x2 : Int32) (b_a0 : bX11) (b_a1 : bX6) : Option (Int32 × Int32 × (Nat → Nat) × (Nat → Int32) × Int32) :=
  (f_X11_next b_a0).bind fun u1 =>
  if u1 < 52 then
  if (smap u1) = 6 ∨ (smap u1) = 7 ∨ (smap u1) = 8 ∨ (smap u1) = 9 ∨ (smap u1) = 10 ∨ (smap u1) = 11 ∨ (smap u1) = 12 ∨ (smap u1) = 13 then
  (f_X6_addStep u1 (X11_cursor b_a0) b_a1).bind fun u4 =>
  if u4.1 = 0 then
  some (0, (X11_cursor b_a0), u4.2.1, u4.2.2.1, u4.2.2.2) else
  (f_X11_take u1 b_a0).bind fun u6 =>
  if u6.1 = 0 then
  some (0, u6.2, u4.2.1, u4.2.2.1, u4.2.2.2) else
  some (1, u6.2, u4.2.1, u4.2.2.1, u4.2.2.2) else
  if (smap u1) = 14 then
  (f_X11_take 6 b_a0).bind fun u9 =>
  if u9.1 = 0 then
  some (0, u9.2, (X6_stepKinds b_a1), (X6_stepValues b_a1), (X6_steps b_a1)) else
  (f_X11_take 26 ((X11_kinds b_a0), (X11_starts b_a0), (X11_values b_a0), (X11_count b_a0), u9.2, (X11_error b_a0), (X11_errorToken b_a0))).bind fun u11 =>
  if u11.1 = 0 then
  some (0, u11.2, (X6_stepKinds b_a1), (X6_stepValues b_a1), (X6_steps b_a1)) else
  (f_X6_addStep 6 u11.2 b_a1).bind fun u13 =>
  if u13.1 = 0 then
  some (0, u11.2, u13.2.1, u13.2.2.1, u13.2.2.2) else
  (f_X11_take 47 ((X11_kinds b_a0), (X11_starts b_a0), (X11_values b_a0), (X11_count b_a0), u11.2, (X11_error b_a0), (X11_errorToken b_a0))).bind fun u15 =>
  if u15.1 = 0 then
  some (0, u15.2, u13.2.1, u13.2.2.1, u13.2.2.2) else
  some (1, u15.2, u13.2.1, u13.2.2.1, u13.2.2.2) else
  if (smap u1) = 15 then
  if (8 : Int32) ≤ x2 then
  some (0, (X11_cursor b_a0), (X6_stepKinds b_a1), (X6_stepValues b_a1), (X6_steps b_a1)) else
  (f_X11_take 39 b_a0).bind fun u19 =>
  if u19.1 = 0 then
  some (0, u19.2, (X6_stepKinds b_a1), (X6_stepValues b_a1), (X6_steps b_a1)) else
  (rec 6 (x2 + 1) ((X11_kinds b_a0), (X11_starts b_a0), (X11_values b_a0), (X11_count b_a0), u19.2, (X11_error b_a0), (X11_errorToken b_a0)) b_a1).bind fun u21 =>
  if u21.1 = 0 then
  some (0, u21.2.1, u21.2.2.1, u21.2.2.2.1, u21.2.2.2.2) else
  (f_X6_addStep 51 0 ((X6_deeds b_a1), (X6_targets b_a1), (X6_firstSteps b_a1), (X6_endSteps b_a1), u21.2.2.1, u21.2.2.2.1, (X6_count b_a1), u21.2.2.2.2)).bind fun u23 =>
  if u23.1 = 0 then
  some (0, u21.2.1, u23.2.1, u23.2.2.1, u23.2.2.2) else
  some (1, u21.2.1, u23.2.1, u23.2.2.1, u23.2.2.2) else
  if (smap u1) = 16 then
  if (8 : Int32) ≤ x2 then
  some (0, (X11_cursor b_a0), (X6_stepKinds b_a1), (X6_stepValues b_a1), (X6_steps b_a1)) else
  (f_X11_take 32 b_a0).bind fun u27 =>
  if u27.1 = 0 then
  some (0, u27.2, (X6_stepKinds b_a1), (X6_stepValues b_a1), (X6_steps b_a1)) else
  (rec 4 (x2 + 1) ((X11_kinds b_a0), (X11_starts b_a0), (X11_values b_a0), (X11_count b_a0), u27.2, (X11_error b_a0), (X11_errorToken b_a0)) b_a1).bind fun u29 =>
  if u29.1 = 0 then
  some (0, u29.2.1, u29.2.2.1, u29.2.2.2.1, u29.2.2.2.2) else
  (f_X11_take 33 ((X11_kinds b_a0), (X11_starts b_a0), (X11_values b_a0), (X11_count b_a0), u29.2.1, (X11_error b_a0), (X11_errorToken b_a0))).bind fun u31 =>
  if u31.1 = 0 then
  some (0, u31.2, u29.2.2.1, u29.2.2.2.1, u29.2.2.2.2) else
  some (1, u31.2, u29.2.2.1, u29.2.2.2.1, u29.2.2.2.2) else
  if (smap u1) = 17 ∨ (smap u1) = 18 then
  (f_X11_take u1 b_a0).bind fun u34 =>
  if u34.1 = 0 then
  some (0, u34.2, (X6_stepKinds b_a1), (X6_stepValues b_a1), (X6_steps b_a1)) else
  if (8 : Int32) ≤ x2 then
  some (0, u34.2, (X6_stepKinds b_a1), (X6_stepValues b_a1), (X6_steps b_a1)) else
  (f_X11_take 32 ((X11_kinds b_a0), (X11_starts b_a0), (X11_values b_a0), (X11_count b_a0), u34.2, (X11_error b_a0), (X11_errorToken b_a0))).bind fun u37 =>
  if u37.1 = 0 then
  some (0, u37.2, (X6_stepKinds b_a1), (X6_stepValues b_a1), (X6_steps b_a1)) else
  (rec 4 (x2 + 1) ((X11_kinds b_a0), (X11_starts b_a0), (X11_values b_a0), (X11_count b_a0), u37.2, (X11_error b_a0), (X11_errorToken b_a0)) b_a1).bind fun u39 =>
  if u39.1 = 0 then
  some (0, u39.2.1, u39.2.2.1, u39.2.2.2.1, u39.2.2.2.2) else
  (f_X11_take 37 ((X11_kinds b_a0), (X11_starts b_a0), (X11_values b_a0), (X11_count b_a0), u39.2.1, (X11_error b_a0), (X11_errorToken b_a0))).bind fun u41 =>
  if u41.1 = 0 then
  some (0, u41.2, u39.2.2.1, u39.2.2.2.1, u39.2.2.2.2) else
  (rec 4 (x2 + 1) ((X11_kinds b_a0), (X11_starts b_a0), (X11_values b_a0), (X11_count b_a0), u41.2, (X11_error b_a0), (X11_errorToken b_a0)) ((X6_deeds b_a1), (X6_targets b_a1), (X6_firstSteps b_a1), (X6_endSteps b_a1), u39.2.2.1, u39.2.2.2.1, (X6_count b_a1), u39.2.2.2.2)).bind fun u43 =>
  if u43.1 = 0 then
  some (0, u43.2.1, u43.2.2.1, u43.2.2.2.1, u43.2.2.2.2) else
  (f_X11_take 33 ((X11_kinds b_a0), (X11_starts b_a0), (X11_values b_a0), (X11_count b_a0), u43.2.1, (X11_error b_a0), (X11_errorToken b_a0))).bind fun u45 =>
  if u45.1 = 0 then
  some (0, u45.2, u43.2.2.1, u43.2.2.2.1, u43.2.2.2.2) else
  (f_X6_addStep u1 0 ((X6_deeds b_a1), (X6_targets b_a1), (X6_firstSteps b_a1), (X6_endSteps b_a1), u43.2.2.1, u43.2.2.2.1, (X6_count b_a1), u43.2.2.2.2)).bind fun u47 =>
  if u47.1 = 0 then
  some (0, u45.2, u47.2.1, u47.2.2.1, u47.2.2.2) else
  some (1, u45.2, u47.2.1, u47.2.2.1, u47.2.2.2) else
  some (0, (X11_cursor b_a0), (X6_stepKinds b_a1), (X6_stepValues b_a1), (X6_steps b_a1)) else none

def sel_X3 (n : Nat) (rec : Nat → Int32 → bX11 → bX6 → Option (Int32 × Int32 × (Nat → Nat) × (Nat → Int32) × Int32)) (j : Nat) (x : Int32) (b_a0 : bX11) (b_a1 : bX6) : Option (Int32 × Int32 × (Nat → Nat) × (Nat → Int32) × Int32) := match j with
  | 0 => f_X3_test n rec x b_a0 b_a1
  | 1 => f_X3_both n rec x b_a0 b_a1
  | 2 => f_X3_single n rec x b_a0 b_a1
  | 3 => f_X3_comparison n rec x b_a0 b_a1
  | 4 => f_X3_sum n rec x b_a0 b_a1
  | 5 => f_X3_product n rec x b_a0 b_a1
  | 6 => f_X3_value n rec x b_a0 b_a1
  | _ => none
def g_X3 (n : Nat) : Nat → Nat → Int32 → bX11 → bX6 → Option (Int32 × Int32 × (Nat → Nat) × (Nat → Int32) × Int32)
  | 0 => fun _ _ _ _ => none
  | d + 1 => sel_X3 n (g_X3 n d)

def f_X6_add (x0 : Nat) (x1 : Int32) (b_h : bX6) : Option ((Nat → Nat) × (Nat → Int32) × (Nat → Int32) × (Nat → Int32) × Int32) :=
  if (16 : Int32) ≤ (X6_count b_h) then
  some ((X6_deeds b_h), (X6_targets b_h), (X6_firstSteps b_h), (X6_endSteps b_h), (X6_count b_h)) else
  if (X6_count b_h) < 0 ∨ 16 ≤ (X6_count b_h).toNatClampNeg then none else
  if x0 < 52 then
  if (X6_count b_h) < 0 ∨ 16 ≤ (X6_count b_h).toNatClampNeg then none else
  if (X6_count b_h) < 0 ∨ 16 ≤ (X6_count b_h).toNatClampNeg then none else
  if (X6_count b_h) < 0 ∨ 16 ≤ (X6_count b_h).toNatClampNeg then none else
  some ((va_up (X6_deeds b_h) (X6_count b_h).toNatClampNeg x0), (upd (X6_targets b_h) (X6_count b_h).toNatClampNeg x1), (upd (X6_firstSteps b_h) (X6_count b_h).toNatClampNeg (X6_steps b_h)), (upd (X6_endSteps b_h) (X6_count b_h).toNatClampNeg (X6_steps b_h)), ((X6_count b_h) + 1)) else none

def f_X6_endTest (b_h : bX6) : Option ((Nat → Int32)) :=
  if (X6_count b_h) ≤ 0 then
  some (X6_endSteps b_h) else
  if (16 : Int32) < (X6_count b_h) then
  some (X6_endSteps b_h) else
  if ((X6_count b_h) - 1) < 0 ∨ 16 ≤ ((X6_count b_h) - 1).toNatClampNeg then none else
  some (upd (X6_endSteps b_h) ((X6_count b_h) - 1).toNatClampNeg (X6_steps b_h))

def f_X3_order_R104 (n : Nat) (b_a0 : bX11) (b_a1 : bX6) (w_a0_cursor : Int32) (w_a1_deeds : Nat → Nat) (w_a1_targets : Nat → Int32) (w_a1_firstSteps : Nat → Int32) (w_a1_endSteps : Nat → Int32) (w_a1_stepKinds : Nat → Nat) (w_a1_stepValues : Nat → Int32) (w_a1_count : Int32) (w_a1_steps : Int32) (t0 : Int32) : Option (Int32 × Int32 × (Nat → Nat) × (Nat → Int32) × (Nat → Int32) × (Nat → Int32) × (Nat → Nat) × (Nat → Int32) × Int32 × Int32) :=
  (f_X6_endTest (w_a1_deeds, w_a1_targets, w_a1_firstSteps, w_a1_endSteps, w_a1_stepKinds, w_a1_stepValues, w_a1_count, w_a1_steps)).bind fun u9 =>
  if vp_nar .boolean t0 = t0 then some (t0, w_a0_cursor, w_a1_deeds, w_a1_targets, w_a1_firstSteps, u9, w_a1_stepKinds, w_a1_stepValues, w_a1_count, w_a1_steps) else none
def f_X3_order_R99 (n : Nat) (b_a0 : bX11) (b_a1 : bX6) (w_a0_cursor : Int32) (w_a1_deeds : Nat → Nat) (w_a1_targets : Nat → Int32) (w_a1_firstSteps : Nat → Int32) (w_a1_endSteps : Nat → Int32) (w_a1_stepKinds : Nat → Nat) (w_a1_stepValues : Nat → Int32) (w_a1_count : Int32) (w_a1_steps : Int32) : Option (Int32 × Int32 × (Nat → Nat) × (Nat → Int32) × (Nat → Int32) × (Nat → Int32) × (Nat → Nat) × (Nat → Int32) × Int32 × Int32) :=
  f_X3_order_R104 n b_a0 b_a1 w_a0_cursor w_a1_deeds w_a1_targets w_a1_firstSteps w_a1_endSteps w_a1_stepKinds w_a1_stepValues w_a1_count w_a1_steps 1
def f_X3_order_R80 (n : Nat) (b_a0 : bX11) (b_a1 : bX6) (w_a0_cursor : Int32) (w_a1_deeds : Nat → Nat) (w_a1_targets : Nat → Int32) (w_a1_firstSteps : Nat → Int32) (w_a1_endSteps : Nat → Int32) (w_a1_stepKinds : Nat → Nat) (w_a1_stepValues : Nat → Int32) (w_a1_count : Int32) (w_a1_steps : Int32) : Option (Int32 × Int32 × (Nat → Nat) × (Nat → Int32) × (Nat → Int32) × (Nat → Int32) × (Nat → Nat) × (Nat → Int32) × Int32 × Int32) :=
  (f_X11_take 15 ((X11_kinds b_a0), (X11_starts b_a0), (X11_values b_a0), (X11_count b_a0), w_a0_cursor, (X11_error b_a0), (X11_errorToken b_a0))).bind fun u7 =>
  if u7.1 = 0 then
  f_X3_order_R99 n b_a0 b_a1 u7.2 w_a1_deeds w_a1_targets w_a1_firstSteps w_a1_endSteps w_a1_stepKinds w_a1_stepValues w_a1_count w_a1_steps else
  (g_X3 n 100 0 0 ((X11_kinds b_a0), (X11_starts b_a0), (X11_values b_a0), (X11_count b_a0), u7.2, (X11_error b_a0), (X11_errorToken b_a0)) (w_a1_deeds, w_a1_targets, w_a1_firstSteps, w_a1_endSteps, w_a1_stepKinds, w_a1_stepValues, w_a1_count, w_a1_steps)).bind fun u11 =>
  if u11.1 = 0 then
  f_X3_order_R104 n b_a0 b_a1 u11.2.1 w_a1_deeds w_a1_targets w_a1_firstSteps w_a1_endSteps u11.2.2.1 u11.2.2.2.1 w_a1_count u11.2.2.2.2 0 else
  f_X3_order_R99 n b_a0 b_a1 u11.2.1 w_a1_deeds w_a1_targets w_a1_firstSteps w_a1_endSteps u11.2.2.1 u11.2.2.2.1 w_a1_count u11.2.2.2.2
def f_X3_order_R25 (n : Nat) (b_a0 : bX11) (b_a1 : bX6) (v2 : Nat) (w_a0_cursor : Int32) (w_a1_deeds : Nat → Nat) (w_a1_targets : Nat → Int32) (w_a1_firstSteps : Nat → Int32) (w_a1_endSteps : Nat → Int32) (w_a1_stepKinds : Nat → Nat) (w_a1_stepValues : Nat → Int32) (w_a1_count : Int32) (w_a1_steps : Int32) : Option (Int32 × Int32 × (Nat → Nat) × (Nat → Int32) × (Nat → Int32) × (Nat → Int32) × (Nat → Nat) × (Nat → Int32) × Int32 × Int32) :=
  (f_X6_add v2 w_a0_cursor (w_a1_deeds, w_a1_targets, w_a1_firstSteps, w_a1_endSteps, w_a1_stepKinds, w_a1_stepValues, w_a1_count, w_a1_steps)).bind fun u4 =>
  (f_X11_take 47 ((X11_kinds b_a0), (X11_starts b_a0), (X11_values b_a0), (X11_count b_a0), w_a0_cursor, (X11_error b_a0), (X11_errorToken b_a0))).bind fun u5 =>
  if u5.1 = 0 then
  some (0, u5.2, u4.1, u4.2.1, u4.2.2.1, u4.2.2.2.1, w_a1_stepKinds, w_a1_stepValues, u4.2.2.2.2, w_a1_steps) else
  f_X3_order_R80 n b_a0 b_a1 u5.2 u4.1 u4.2.1 u4.2.2.1 u4.2.2.2.1 w_a1_stepKinds w_a1_stepValues u4.2.2.2.2 w_a1_steps
def f_X3_order_R66 (n : Nat) (b_a0 : bX11) (b_a1 : bX6) (v2 : Nat) (w_a0_cursor : Int32) (w_a1_deeds : Nat → Nat) (w_a1_targets : Nat → Int32) (w_a1_firstSteps : Nat → Int32) (w_a1_endSteps : Nat → Int32) (w_a1_stepKinds : Nat → Nat) (w_a1_stepValues : Nat → Int32) (w_a1_count : Int32) (w_a1_steps : Int32) : Option (Int32 × Int32 × (Nat → Nat) × (Nat → Int32) × (Nat → Int32) × (Nat → Int32) × (Nat → Nat) × (Nat → Int32) × Int32 × Int32) :=
  (f_X6_add v2 w_a0_cursor (w_a1_deeds, w_a1_targets, w_a1_firstSteps, w_a1_endSteps, w_a1_stepKinds, w_a1_stepValues, w_a1_count, w_a1_steps)).bind fun u17 =>
  f_X3_order_R80 n b_a0 b_a1 w_a0_cursor u17.1 u17.2.1 u17.2.2.1 u17.2.2.2.1 w_a1_stepKinds w_a1_stepValues u17.2.2.2.2 w_a1_steps
def f_X3_order (n : Nat) (b_a0 : bX11) (b_a1 : bX6) : Option (Int32 × Int32 × (Nat → Nat) × (Nat → Int32) × (Nat → Int32) × (Nat → Int32) × (Nat → Nat) × (Nat → Int32) × Int32 × Int32) :=
  (f_X11_next b_a0).bind fun u1 =>
  (f_X11_take 11 b_a0).bind fun u2 =>
  if u2.1 = 0 then
  (f_X11_take 14 ((X11_kinds b_a0), (X11_starts b_a0), (X11_values b_a0), (X11_count b_a0), u2.2, (X11_error b_a0), (X11_errorToken b_a0))).bind fun u13 =>
  if u13.1 = 0 then
  (f_X11_take 12 ((X11_kinds b_a0), (X11_starts b_a0), (X11_values b_a0), (X11_count b_a0), u13.2, (X11_error b_a0), (X11_errorToken b_a0))).bind fun u15 =>
  if u15.1 = 0 then
  (f_X11_take 13 ((X11_kinds b_a0), (X11_starts b_a0), (X11_values b_a0), (X11_count b_a0), u15.2, (X11_error b_a0), (X11_errorToken b_a0))).bind fun u18 =>
  if u18.1 = 0 then
  some (0, u18.2, (X6_deeds b_a1), (X6_targets b_a1), (X6_firstSteps b_a1), (X6_endSteps b_a1), (X6_stepKinds b_a1), (X6_stepValues b_a1), (X6_count b_a1), (X6_steps b_a1)) else
  f_X3_order_R66 n b_a0 b_a1 u1 u18.2 (X6_deeds b_a1) (X6_targets b_a1) (X6_firstSteps b_a1) (X6_endSteps b_a1) (X6_stepKinds b_a1) (X6_stepValues b_a1) (X6_count b_a1) (X6_steps b_a1) else
  f_X3_order_R66 n b_a0 b_a1 u1 u15.2 (X6_deeds b_a1) (X6_targets b_a1) (X6_firstSteps b_a1) (X6_endSteps b_a1) (X6_stepKinds b_a1) (X6_stepValues b_a1) (X6_count b_a1) (X6_steps b_a1) else
  f_X3_order_R25 n b_a0 b_a1 u1 u13.2 (X6_deeds b_a1) (X6_targets b_a1) (X6_firstSteps b_a1) (X6_endSteps b_a1) (X6_stepKinds b_a1) (X6_stepValues b_a1) (X6_count b_a1) (X6_steps b_a1) else
  f_X3_order_R25 n b_a0 b_a1 u1 u2.2 (X6_deeds b_a1) (X6_targets b_a1) (X6_firstSteps b_a1) (X6_endSteps b_a1) (X6_stepKinds b_a1) (X6_stepValues b_a1) (X6_count b_a1) (X6_steps b_a1)

def f_X3_line_R50 (n : Nat) (b_a0 : bX11) (b_a1 : bX6) (w_a0_cursor : Int32) (w_a1_deeds : Nat → Nat) (w_a1_targets : Nat → Int32) (w_a1_firstSteps : Nat → Int32) (w_a1_endSteps : Nat → Int32) (w_a1_stepKinds : Nat → Nat) (w_a1_stepValues : Nat → Int32) (w_a1_count : Int32) (w_a1_steps : Int32) : Option (Int32 × Int32 × (Nat → Nat) × (Nat → Int32) × (Nat → Int32) × (Nat → Int32) × (Nat → Nat) × (Nat → Int32) × Int32 × Int32) :=
  (f_X11_takeNumber 6 ((X11_kinds b_a0), (X11_starts b_a0), (X11_values b_a0), (X11_count b_a0), w_a0_cursor, (X11_error b_a0), (X11_errorToken b_a0))).bind fun u23 =>
  if u23.1 = 0 then
  some (0, u23.2, w_a1_deeds, w_a1_targets, w_a1_firstSteps, w_a1_endSteps, w_a1_stepKinds, w_a1_stepValues, w_a1_count, w_a1_steps) else
  (f_X11_takeNumber 4 ((X11_kinds b_a0), (X11_starts b_a0), (X11_values b_a0), (X11_count b_a0), u23.2, (X11_error b_a0), (X11_errorToken b_a0))).bind fun u25 =>
  if u25.1 = 0 then
  some (0, u25.2, w_a1_deeds, w_a1_targets, w_a1_firstSteps, w_a1_endSteps, w_a1_stepKinds, w_a1_stepValues, w_a1_count, w_a1_steps) else
  (f_X11_takeNumber 5 ((X11_kinds b_a0), (X11_starts b_a0), (X11_values b_a0), (X11_count b_a0), u25.2, (X11_error b_a0), (X11_errorToken b_a0))).bind fun u27 =>
  if u27.1 = 0 then
  some (0, u27.2, w_a1_deeds, w_a1_targets, w_a1_firstSteps, w_a1_endSteps, w_a1_stepKinds, w_a1_stepValues, w_a1_count, w_a1_steps) else
  some (1, u27.2, w_a1_deeds, w_a1_targets, w_a1_firstSteps, w_a1_endSteps, w_a1_stepKinds, w_a1_stepValues, w_a1_count, w_a1_steps)
def f_X3_line (n : Nat) (b_a0 : bX11) (b_a1 : bX6) : Option (Int32 × Int32 × (Nat → Nat) × (Nat → Int32) × (Nat → Int32) × (Nat → Int32) × (Nat → Nat) × (Nat → Int32) × Int32 × Int32) :=
  (f_X11_take 0 b_a0).bind fun u1 =>
  if u1.1 = 0 then
  (f_X11_take 7 ((X11_kinds b_a0), (X11_starts b_a0), (X11_values b_a0), (X11_count b_a0), u1.2, (X11_error b_a0), (X11_errorToken b_a0))).bind fun u3 =>
  if u3.1 = 0 then
  (f_X3_order n ((X11_kinds b_a0), (X11_starts b_a0), (X11_values b_a0), (X11_count b_a0), u3.2, (X11_error b_a0), (X11_errorToken b_a0)) b_a1).bind fun u5 =>
  if vp_nar .boolean u5.1 = u5.1 then some (u5.1, u5.2.1, u5.2.2.1, u5.2.2.2.1, u5.2.2.2.2.1, u5.2.2.2.2.2.1, u5.2.2.2.2.2.2.1, u5.2.2.2.2.2.2.2.1, u5.2.2.2.2.2.2.2.2.1, u5.2.2.2.2.2.2.2.2.2) else none else
  (f_X11_take 47 ((X11_kinds b_a0), (X11_starts b_a0), (X11_values b_a0), (X11_count b_a0), u3.2, (X11_error b_a0), (X11_errorToken b_a0))).bind fun u7 =>
  if u7.1 = 0 then
  some (0, u7.2, (X6_deeds b_a1), (X6_targets b_a1), (X6_firstSteps b_a1), (X6_endSteps b_a1), (X6_stepKinds b_a1), (X6_stepValues b_a1), (X6_count b_a1), (X6_steps b_a1)) else
  (f_X11_takeNumber 4 ((X11_kinds b_a0), (X11_starts b_a0), (X11_values b_a0), (X11_count b_a0), u7.2, (X11_error b_a0), (X11_errorToken b_a0))).bind fun u9 =>
  if u9.1 = 0 then
  some (0, u9.2, (X6_deeds b_a1), (X6_targets b_a1), (X6_firstSteps b_a1), (X6_endSteps b_a1), (X6_stepKinds b_a1), (X6_stepValues b_a1), (X6_count b_a1), (X6_steps b_a1)) else
  (f_X11_takeNumber 8 ((X11_kinds b_a0), (X11_starts b_a0), (X11_values b_a0), (X11_count b_a0), u9.2, (X11_error b_a0), (X11_errorToken b_a0))).bind fun u11 =>
  if u11.1 = 0 then
  some (0, u11.2, (X6_deeds b_a1), (X6_targets b_a1), (X6_firstSteps b_a1), (X6_endSteps b_a1), (X6_stepKinds b_a1), (X6_stepValues b_a1), (X6_count b_a1), (X6_steps b_a1)) else
  (f_X11_takeNumber 9 ((X11_kinds b_a0), (X11_starts b_a0), (X11_values b_a0), (X11_count b_a0), u11.2, (X11_error b_a0), (X11_errorToken b_a0))).bind fun u13 =>
  if u13.1 = 0 then
  some (0, u13.2, (X6_deeds b_a1), (X6_targets b_a1), (X6_firstSteps b_a1), (X6_endSteps b_a1), (X6_stepKinds b_a1), (X6_stepValues b_a1), (X6_count b_a1), (X6_steps b_a1)) else
  (f_X11_takeNumber 10 ((X11_kinds b_a0), (X11_starts b_a0), (X11_values b_a0), (X11_count b_a0), u13.2, (X11_error b_a0), (X11_errorToken b_a0))).bind fun u15 =>
  if u15.1 = 0 then
  some (0, u15.2, (X6_deeds b_a1), (X6_targets b_a1), (X6_firstSteps b_a1), (X6_endSteps b_a1), (X6_stepKinds b_a1), (X6_stepValues b_a1), (X6_count b_a1), (X6_steps b_a1)) else
  some (1, u15.2, (X6_deeds b_a1), (X6_targets b_a1), (X6_firstSteps b_a1), (X6_endSteps b_a1), (X6_stepKinds b_a1), (X6_stepValues b_a1), (X6_count b_a1), (X6_steps b_a1)) else
  (f_X11_take 47 ((X11_kinds b_a0), (X11_starts b_a0), (X11_values b_a0), (X11_count b_a0), u1.2, (X11_error b_a0), (X11_errorToken b_a0))).bind fun u17 =>
  if u17.1 = 0 then
  some (0, u17.2, (X6_deeds b_a1), (X6_targets b_a1), (X6_firstSteps b_a1), (X6_endSteps b_a1), (X6_stepKinds b_a1), (X6_stepValues b_a1), (X6_count b_a1), (X6_steps b_a1)) else
  (f_X11_take 1 ((X11_kinds b_a0), (X11_starts b_a0), (X11_values b_a0), (X11_count b_a0), u17.2, (X11_error b_a0), (X11_errorToken b_a0))).bind fun u19 =>
  if u19.1 = 0 then
  some (0, u19.2, (X6_deeds b_a1), (X6_targets b_a1), (X6_firstSteps b_a1), (X6_endSteps b_a1), (X6_stepKinds b_a1), (X6_stepValues b_a1), (X6_count b_a1), (X6_steps b_a1)) else
  (f_X11_take 2 ((X11_kinds b_a0), (X11_starts b_a0), (X11_values b_a0), (X11_count b_a0), u19.2, (X11_error b_a0), (X11_errorToken b_a0))).bind fun u21 =>
  if u21.1 = 0 then
  (f_X11_take 3 ((X11_kinds b_a0), (X11_starts b_a0), (X11_values b_a0), (X11_count b_a0), u21.2, (X11_error b_a0), (X11_errorToken b_a0))).bind fun u29 =>
  if u29.1 = 0 then
  some (0, u29.2, (X6_deeds b_a1), (X6_targets b_a1), (X6_firstSteps b_a1), (X6_endSteps b_a1), (X6_stepKinds b_a1), (X6_stepValues b_a1), (X6_count b_a1), (X6_steps b_a1)) else
  f_X3_line_R50 n b_a0 b_a1 u29.2 (X6_deeds b_a1) (X6_targets b_a1) (X6_firstSteps b_a1) (X6_endSteps b_a1) (X6_stepKinds b_a1) (X6_stepValues b_a1) (X6_count b_a1) (X6_steps b_a1) else
  f_X3_line_R50 n b_a0 b_a1 u21.2 (X6_deeds b_a1) (X6_targets b_a1) (X6_firstSteps b_a1) (X6_endSteps b_a1) (X6_stepKinds b_a1) (X6_stepValues b_a1) (X6_count b_a1) (X6_steps b_a1)

def f_X3_read_R75 (n : Nat) (b_a0 : bX11) (b_a1 : bX6) (w_a0_cursor : Int32) (w_a0_error : Int32) (w_a0_errorToken : Int32) (w_a1_deeds : Nat → Nat) (w_a1_targets : Nat → Int32) (w_a1_firstSteps : Nat → Int32) (w_a1_endSteps : Nat → Int32) (w_a1_stepKinds : Nat → Nat) (w_a1_stepValues : Nat → Int32) (w_a1_count : Int32) (w_a1_steps : Int32) (t0 : Int32) : Option (Int32 × Int32 × Int32 × (Nat → Nat) × (Nat → Int32) × (Nat → Int32) × (Nat → Int32) × (Nat → Nat) × (Nat → Int32) × Int32 × Int32) :=
  (f_X11_failUnless t0 1 w_a0_cursor ((X11_kinds b_a0), (X11_starts b_a0), (X11_values b_a0), (X11_count b_a0), w_a0_cursor, w_a0_error, w_a0_errorToken)).bind fun u5 =>
  some (w_a0_cursor, u5.1, u5.2, w_a1_deeds, w_a1_targets, w_a1_firstSteps, w_a1_endSteps, w_a1_stepKinds, w_a1_stepValues, w_a1_count, w_a1_steps)
def f_X3_read_R74 (n : Nat) (b_a0 : bX11) (b_a1 : bX6) (w_a0_cursor : Int32) (w_a0_error : Int32) (w_a0_errorToken : Int32) (w_a1_deeds : Nat → Nat) (w_a1_targets : Nat → Int32) (w_a1_firstSteps : Nat → Int32) (w_a1_endSteps : Nat → Int32) (w_a1_stepKinds : Nat → Nat) (w_a1_stepValues : Nat → Int32) (w_a1_count : Int32) (w_a1_steps : Int32) : Option (Int32 × Int32 × Int32 × (Nat → Nat) × (Nat → Int32) × (Nat → Int32) × (Nat → Int32) × (Nat → Nat) × (Nat → Int32) × Int32 × Int32) :=
  f_X3_read_R75 n b_a0 b_a1 w_a0_cursor w_a0_error w_a0_errorToken w_a1_deeds w_a1_targets w_a1_firstSteps w_a1_endSteps w_a1_stepKinds w_a1_stepValues w_a1_count w_a1_steps 0
def f_X3_read_R55 (n : Nat) (b_a0 : bX11) (b_a1 : bX6) (v2 : Int32) (w_a0_cursor : Int32) (w_a0_error : Int32) (w_a0_errorToken : Int32) (w_a1_deeds : Nat → Nat) (w_a1_targets : Nat → Int32) (w_a1_firstSteps : Nat → Int32) (w_a1_endSteps : Nat → Int32) (w_a1_stepKinds : Nat → Nat) (w_a1_stepValues : Nat → Int32) (w_a1_count : Int32) (w_a1_steps : Int32) : Option (Int32 × Int32 × Int32 × (Nat → Nat) × (Nat → Int32) × (Nat → Int32) × (Nat → Int32) × (Nat → Nat) × (Nat → Int32) × Int32 × Int32) :=
  (f_X11_next ((X11_kinds b_a0), (X11_starts b_a0), (X11_values b_a0), (X11_count b_a0), w_a0_cursor, w_a0_error, w_a0_errorToken)).bind fun u2 =>
  if u2 < 52 then
  if u2 = 49 then
  if v2 = 0 then
  f_X3_read_R74 n b_a0 b_a1 w_a0_cursor w_a0_error w_a0_errorToken w_a1_deeds w_a1_targets w_a1_firstSteps w_a1_endSteps w_a1_stepKinds w_a1_stepValues w_a1_count w_a1_steps else
  f_X3_read_R75 n b_a0 b_a1 w_a0_cursor w_a0_error w_a0_errorToken w_a1_deeds w_a1_targets w_a1_firstSteps w_a1_endSteps w_a1_stepKinds w_a1_stepValues w_a1_count w_a1_steps 1 else
  f_X3_read_R74 n b_a0 b_a1 w_a0_cursor w_a0_error w_a0_errorToken w_a1_deeds w_a1_targets w_a1_firstSteps w_a1_endSteps w_a1_stepKinds w_a1_stepValues w_a1_count w_a1_steps else none
def f_X3_read_L4 (n : Nat) (b_a0 : bX11) (b_a1 : bX6) (v2 : Int32) (v3 : Int32) (w_a0_cursor : Int32) (w_a0_error : Int32) (w_a0_errorToken : Int32) (w_a1_deeds : Nat → Nat) (w_a1_targets : Nat → Int32) (w_a1_firstSteps : Nat → Int32) (w_a1_endSteps : Nat → Int32) (w_a1_stepKinds : Nat → Nat) (w_a1_stepValues : Nat → Int32) (w_a1_count : Int32) (w_a1_steps : Int32) : Option ((Int32 × Int32 × Int32 × (Nat → Nat) × (Nat → Int32) × (Nat → Int32) × (Nat → Int32) × (Nat → Nat) × (Nat → Int32) × Int32 × Int32) ⊕ (Int32 × Int32 × Int32 × (Nat → Nat) × (Nat → Int32) × (Nat → Int32) × (Nat → Int32) × (Nat → Nat) × (Nat → Int32) × Int32 × Int32)) :=
  if (400 : Int32) ≤ v3 then
  (f_X3_read_R55 n b_a0 b_a1 v2 w_a0_cursor w_a0_error w_a0_errorToken w_a1_deeds w_a1_targets w_a1_firstSteps w_a1_endSteps w_a1_stepKinds w_a1_stepValues w_a1_count w_a1_steps).bind (fun x => some (Sum.inr x)) else
  if v2 = 0 then
  (f_X3_read_R55 n b_a0 b_a1 v2 w_a0_cursor w_a0_error w_a0_errorToken w_a1_deeds w_a1_targets w_a1_firstSteps w_a1_endSteps w_a1_stepKinds w_a1_stepValues w_a1_count w_a1_steps).bind (fun x => some (Sum.inr x)) else
  (f_X11_next ((X11_kinds b_a0), (X11_starts b_a0), (X11_values b_a0), (X11_count b_a0), w_a0_cursor, w_a0_error, w_a0_errorToken)).bind fun u8 =>
  if u8 < 52 then
  if u8 = 49 then
  (f_X3_read_R55 n b_a0 b_a1 v2 w_a0_cursor w_a0_error w_a0_errorToken w_a1_deeds w_a1_targets w_a1_firstSteps w_a1_endSteps w_a1_stepKinds w_a1_stepValues w_a1_count w_a1_steps).bind (fun x => some (Sum.inr x)) else
  (f_X3_line n ((X11_kinds b_a0), (X11_starts b_a0), (X11_values b_a0), (X11_count b_a0), w_a0_cursor, w_a0_error, w_a0_errorToken) (w_a1_deeds, w_a1_targets, w_a1_firstSteps, w_a1_endSteps, w_a1_stepKinds, w_a1_stepValues, w_a1_count, w_a1_steps)).bind fun u11 =>
  if u11.1 = 0 then
  some (Sum.inl (0, (v3 + 1), u11.2.1, u11.2.2.1, u11.2.2.2.1, u11.2.2.2.2.1, u11.2.2.2.2.2.1, u11.2.2.2.2.2.2.1, u11.2.2.2.2.2.2.2.1, u11.2.2.2.2.2.2.2.2.1, u11.2.2.2.2.2.2.2.2.2)) else
  (f_X11_take 36 ((X11_kinds b_a0), (X11_starts b_a0), (X11_values b_a0), (X11_count b_a0), u11.2.1, w_a0_error, w_a0_errorToken)).bind fun u13 =>
  if u13.1 = 0 then
  some (Sum.inl (0, (v3 + 1), u13.2, u11.2.2.1, u11.2.2.2.1, u11.2.2.2.2.1, u11.2.2.2.2.2.1, u11.2.2.2.2.2.2.1, u11.2.2.2.2.2.2.2.1, u11.2.2.2.2.2.2.2.2.1, u11.2.2.2.2.2.2.2.2.2)) else
  some (Sum.inl (1, (v3 + 1), u13.2, u11.2.2.1, u11.2.2.2.1, u11.2.2.2.2.1, u11.2.2.2.2.2.1, u11.2.2.2.2.2.2.1, u11.2.2.2.2.2.2.2.1, u11.2.2.2.2.2.2.2.2.1, u11.2.2.2.2.2.2.2.2.2)) else none
def f_X3_read (n : Nat) (b_a0 : bX11) (b_a1 : bX6) : Option (Int32 × Int32 × Int32 × (Nat → Nat) × (Nat → Int32) × (Nat → Int32) × (Nat → Int32) × (Nat → Nat) × (Nat → Int32) × Int32 × Int32) :=
  iter (fun s : Int32 × Int32 × Int32 × (Nat → Nat) × (Nat → Int32) × (Nat → Int32) × (Nat → Int32) × (Nat → Nat) × (Nat → Int32) × Int32 × Int32 => f_X3_read_L4 n b_a0 b_a1 s.1 s.2.1 s.2.2.1 (X11_error b_a0) (X11_errorToken b_a0) s.2.2.2.1 s.2.2.2.2.1 s.2.2.2.2.2.1 s.2.2.2.2.2.2.1 s.2.2.2.2.2.2.2.1 s.2.2.2.2.2.2.2.2.1 s.2.2.2.2.2.2.2.2.2.1 s.2.2.2.2.2.2.2.2.2.2) n (1, 0, (X11_cursor b_a0), (X6_deeds b_a1), (X6_targets b_a1), (X6_firstSteps b_a1), (X6_endSteps b_a1), (X6_stepKinds b_a1), (X6_stepValues b_a1), (X6_count b_a1), (X6_steps b_a1))

def f_X6_resolve_L35 (n : Nat) (b_h : bX6) (b_a0 : bX11) (v2 : Int32) (w_h_targets : Nat → Int32) (w_h_stepValues : Nat → Int32) : Option ((Int32 × (Nat → Int32)) ⊕ ((Nat → Int32) × (Nat → Int32))) :=
  if (X6_steps b_h) ≤ v2 then
  some (Sum.inr (w_h_targets, w_h_stepValues)) else
  if v2 < 0 ∨ 400 ≤ v2.toNatClampNeg then none else
  (f_X11_valueAt (w_h_stepValues v2.toNatClampNeg) b_a0).bind fun u4 =>
  if v2 < 0 ∨ 400 ≤ v2.toNatClampNeg then none else
  some (Sum.inl ((v2 + 1), (upd w_h_stepValues v2.toNatClampNeg (Int64.toInt32 u4))))
def f_X6_resolve_L2 (n : Nat) (b_h : bX6) (b_a0 : bX11) (v2 : Int32) (w_h_targets : Nat → Int32) (w_h_stepValues : Nat → Int32) : Option ((Int32 × (Nat → Int32)) ⊕ ((Nat → Int32) × (Nat → Int32))) :=
  if (X6_count b_h) ≤ v2 then
  (iter (fun s : Int32 × (Nat → Int32) => f_X6_resolve_L35 n b_h b_a0 s.1 w_h_targets s.2) n (0, w_h_stepValues)).bind (fun x => some (Sum.inr x)) else
  if v2 < 0 ∨ 16 ≤ v2.toNatClampNeg then none else
  (f_X11_valueAt (w_h_targets v2.toNatClampNeg) b_a0).bind fun u7 =>
  if v2 < 0 ∨ 16 ≤ v2.toNatClampNeg then none else
  some (Sum.inl ((v2 + 1), (upd w_h_targets v2.toNatClampNeg (Int64.toInt32 u7))))
def f_X6_resolve (n : Nat) (b_h : bX6) (b_a0 : bX11) : Option ((Nat → Int32) × (Nat → Int32)) :=
  iter (fun s : Int32 × (Nat → Int32) => f_X6_resolve_L2 n b_h b_a0 s.1 s.2 (X6_stepValues b_h)) n (0, (X6_targets b_h))

def f_X7_clear (b_h_fronts : bX2) (b_h_guests : bX4) (b_h_orders : bX6) : Option (Int32 × Int32 × Int32 × Int32) :=
  some (0, 0, 0, 0)

def f_X8_begin_L69 (n : Nat) (b_h : bX8) (v2 : Int32) (w_h_hour : Int32) (w_h_warmth : Int32) (w_h_strength : Int32) (w_h_charge : Int32) (w_h_lemons : Int32) (w_h_saucers : Int32) (w_h_coins : Int32) (w_h_storms : Int32) (w_h_frontSteeped : Nat → Int32) (w_h_guestServed : Nat → Int32) (w_h_guestStormed : Nat → Int32) : Option ((Int32 × (Nat → Int32) × (Nat → Int32)) ⊕ (Int32 × Int32 × Int32 × Int32 × Int32 × Int32 × Int32 × Int32 × (Nat → Int32) × (Nat → Int32) × (Nat → Int32))) :=
  if (10 : Int32) ≤ v2 then
  some (Sum.inr (w_h_hour, w_h_warmth, w_h_strength, w_h_charge, w_h_lemons, w_h_saucers, w_h_coins, w_h_storms, w_h_frontSteeped, w_h_guestServed, w_h_guestStormed)) else
  if v2 < 0 ∨ 10 ≤ v2.toNatClampNeg then none else
  if v2 < 0 ∨ 10 ≤ v2.toNatClampNeg then none else
  some (Sum.inl ((v2 + 1), (upd w_h_guestServed v2.toNatClampNeg 0), (upd w_h_guestStormed v2.toNatClampNeg 0)))
def f_X8_begin_L48 (n : Nat) (b_h : bX8) (v2 : Int32) (w_h_hour : Int32) (w_h_warmth : Int32) (w_h_strength : Int32) (w_h_charge : Int32) (w_h_lemons : Int32) (w_h_saucers : Int32) (w_h_coins : Int32) (w_h_storms : Int32) (w_h_frontSteeped : Nat → Int32) (w_h_guestServed : Nat → Int32) (w_h_guestStormed : Nat → Int32) : Option ((Int32 × (Nat → Int32)) ⊕ (Int32 × Int32 × Int32 × Int32 × Int32 × Int32 × Int32 × Int32 × (Nat → Int32) × (Nat → Int32) × (Nat → Int32))) :=
  if (10 : Int32) ≤ v2 then
  (iter (fun s : Int32 × (Nat → Int32) × (Nat → Int32) => f_X8_begin_L69 n b_h s.1 w_h_hour w_h_warmth w_h_strength w_h_charge w_h_lemons w_h_saucers w_h_coins w_h_storms w_h_frontSteeped s.2.1 s.2.2) n (0, w_h_guestServed, w_h_guestStormed)).bind (fun x => some (Sum.inr x)) else
  if v2 < 0 ∨ 10 ≤ v2.toNatClampNeg then none else
  some (Sum.inl ((v2 + 1), (upd w_h_frontSteeped v2.toNatClampNeg 0)))
def f_X8_begin (n : Nat) (b_h : bX8) : Option (Int32 × Int32 × Int32 × Int32 × Int32 × Int32 × Int32 × Int32 × (Nat → Int32) × (Nat → Int32) × (Nat → Int32)) :=
  iter (fun s : Int32 × (Nat → Int32) => f_X8_begin_L48 n b_h s.1 0 20 0 0 3 3 0 0 s.2 (X8_guestServed b_h) (X8_guestStormed b_h)) n (0, (X8_frontSteeped b_h))
