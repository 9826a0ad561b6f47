/-! the law's methods that catch, as functions -/
def f_L_feed (n : Nat) (x1 : Int32) (x2 : Int32) (x3 : Int32) (x4 : Int32) (x5 : Int32) (b_a0 : bX12) (b_a0_tape : bX10) (m_a6 : Nat) (f_a6 : Nat → Int64) : Option (Int32 × (Nat → Int32) × Int32 × (Nat → Int64)) :=
  (f_X12_feed n x1 x2 x3 x4 x5 b_a0 b_a0_tape).bind (Sum.elim (fun u1 =>
  if (0 : Int32) < 0 ∨ m_a6 ≤ (0 : Int32).toNatClampNeg then none else
  some (0, u1.2.1, u1.2.2, (vp_updL f_a6 (0 : Int32).toNatClampNeg (Int32.toInt64 u1.1)))) (fun E2 =>
  if E2.1 = "java/lang/IllegalStateException" then
  some (1, E2.2.1, E2.2.2, f_a6) else
  none))

def f_L_trim (x1 : Int32) (b_a0 : bX12) (b_a0_tape : bX10) (m_a2 : Nat) (f_a2 : Nat → Int64) : Option (Int32 × Int32 × (Nat → Int64)) :=
  (f_X12_trim x1 b_a0 b_a0_tape).bind (Sum.elim (fun u1 =>
  if (0 : Int32) < 0 ∨ m_a2 ≤ (0 : Int32).toNatClampNeg then none else
  some (0, u1.2, (vp_updL f_a2 (0 : Int32).toNatClampNeg (Int32.toInt64 u1.1)))) (fun E2 =>
  if E2.1 = "java/lang/IllegalArgumentException" then
  some (1, E2.2, f_a2) else
  none))

def f_L_isWarm (x1 : Int32) (b_a0 : bX12) (b_a0_pot : bX8) (b_a0_pot_plan_fronts : bX2) (m_a2 : Nat) (f_a2 : Nat → Int64) : Option (Int32 × (Nat → Int64)) :=
  (f_X12_isWarm x1 b_a0 b_a0_pot b_a0_pot_plan_fronts).bind (Sum.elim (fun u1 =>
  if u1 = 0 then
  if (0 : Int32) < 0 ∨ m_a2 ≤ (0 : Int32).toNatClampNeg then none else
  some (0, (vp_updL f_a2 (0 : Int32).toNatClampNeg 0)) else
  if (0 : Int32) < 0 ∨ m_a2 ≤ (0 : Int32).toNatClampNeg then none else
  some (0, (vp_updL f_a2 (0 : Int32).toNatClampNeg 1))) (fun E2 =>
  if E2.1 = "java/lang/IndexOutOfBoundsException" then
  some (1, f_a2) else
  none))

def f_L_forceOf (x1 : Int32) (b_a0 : bX12) (b_a0_pot : bX8) (b_a0_pot_plan_fronts : bX2) (m_a2 : Nat) (f_a2 : Nat → Int64) : Option (Int32 × (Nat → Int64)) :=
  (f_X12_forceOf x1 b_a0 b_a0_pot b_a0_pot_plan_fronts).bind (Sum.elim (fun u1 =>
  if (0 : Int32) < 0 ∨ m_a2 ≤ (0 : Int32).toNatClampNeg then none else
  some (0, (vp_updL f_a2 (0 : Int32).toNatClampNeg (Int32.toInt64 u1)))) (fun E2 =>
  if E2.1 = "java/lang/IndexOutOfBoundsException" then
  some (1, f_a2) else
  none))

def f_L_isOver (x1 : Int32) (b_a0 : bX12) (b_a0_pot : bX8) (b_a0_pot_plan_fronts : bX2) (m_a2 : Nat) (f_a2 : Nat → Int64) : Option (Int32 × (Nat → Int64)) :=
  (f_X12_isOver x1 b_a0 b_a0_pot b_a0_pot_plan_fronts).bind (Sum.elim (fun u1 =>
  if u1 = 0 then
  if (0 : Int32) < 0 ∨ m_a2 ≤ (0 : Int32).toNatClampNeg then none else
  some (0, (vp_updL f_a2 (0 : Int32).toNatClampNeg 0)) else
  if (0 : Int32) < 0 ∨ m_a2 ≤ (0 : Int32).toNatClampNeg then none else
  some (0, (vp_updL f_a2 (0 : Int32).toNatClampNeg 1))) (fun E2 =>
  if E2.1 = "java/lang/IndexOutOfBoundsException" then
  some (1, f_a2) else
  none))

def f_L_isSteeped (x1 : Int32) (b_a0 : bX12) (b_a0_pot : bX8) (b_a0_pot_plan_fronts : bX2) (m_a2 : Nat) (f_a2 : Nat → Int64) : Option (Int32 × (Nat → Int64)) :=
  (f_X12_isSteeped x1 b_a0 b_a0_pot b_a0_pot_plan_fronts).bind (Sum.elim (fun u1 =>
  if u1 = 0 then
  if (0 : Int32) < 0 ∨ m_a2 ≤ (0 : Int32).toNatClampNeg then none else
  some (0, (vp_updL f_a2 (0 : Int32).toNatClampNeg 0)) else
  if (0 : Int32) < 0 ∨ m_a2 ≤ (0 : Int32).toNatClampNeg then none else
  some (0, (vp_updL f_a2 (0 : Int32).toNatClampNeg 1))) (fun E2 =>
  if E2.1 = "java/lang/IndexOutOfBoundsException" then
  some (1, f_a2) else
  none))

def f_L_isSeated (x1 : Int32) (b_a0 : bX12) (b_a0_pot : bX8) (b_a0_pot_plan_guests : bX4) (m_a2 : Nat) (f_a2 : Nat → Int64) : Option (Int32 × (Nat → Int64)) :=
  (f_X12_isSeated x1 b_a0 b_a0_pot b_a0_pot_plan_guests).bind (Sum.elim (fun u1 =>
  if u1 = 0 then
  if (0 : Int32) < 0 ∨ m_a2 ≤ (0 : Int32).toNatClampNeg then none else
  some (0, (vp_updL f_a2 (0 : Int32).toNatClampNeg 0)) else
  if (0 : Int32) < 0 ∨ m_a2 ≤ (0 : Int32).toNatClampNeg then none else
  some (0, (vp_updL f_a2 (0 : Int32).toNatClampNeg 1))) (fun E2 =>
  if E2.1 = "java/lang/IndexOutOfBoundsException" then
  some (1, f_a2) else
  none))

def f_L_isContent (x1 : Int32) (b_a0 : bX12) (b_a0_pot : bX8) (b_a0_pot_plan_guests : bX4) (m_a2 : Nat) (f_a2 : Nat → Int64) : Option (Int32 × (Nat → Int64)) :=
  (f_X12_isContent x1 b_a0 b_a0_pot b_a0_pot_plan_guests).bind (Sum.elim (fun u1 =>
  if u1 = 0 then
  if (0 : Int32) < 0 ∨ m_a2 ≤ (0 : Int32).toNatClampNeg then none else
  some (0, (vp_updL f_a2 (0 : Int32).toNatClampNeg 0)) else
  if (0 : Int32) < 0 ∨ m_a2 ≤ (0 : Int32).toNatClampNeg then none else
  some (0, (vp_updL f_a2 (0 : Int32).toNatClampNeg 1))) (fun E2 =>
  if E2.1 = "java/lang/IndexOutOfBoundsException" then
  some (1, f_a2) else
  none))

def f_L_wasServed (x1 : Int32) (b_a0 : bX12) (b_a0_pot : bX8) (b_a0_pot_plan_guests : bX4) (m_a2 : Nat) (f_a2 : Nat → Int64) : Option (Int32 × (Nat → Int64)) :=
  (f_X12_wasServed x1 b_a0 b_a0_pot b_a0_pot_plan_guests).bind (Sum.elim (fun u1 =>
  if u1 = 0 then
  if (0 : Int32) < 0 ∨ m_a2 ≤ (0 : Int32).toNatClampNeg then none else
  some (0, (vp_updL f_a2 (0 : Int32).toNatClampNeg 0)) else
  if (0 : Int32) < 0 ∨ m_a2 ≤ (0 : Int32).toNatClampNeg then none else
  some (0, (vp_updL f_a2 (0 : Int32).toNatClampNeg 1))) (fun E2 =>
  if E2.1 = "java/lang/IndexOutOfBoundsException" then
  some (1, f_a2) else
  none))

def f_L_wasStormed (x1 : Int32) (b_a0 : bX12) (b_a0_pot : bX8) (b_a0_pot_plan_guests : bX4) (m_a2 : Nat) (f_a2 : Nat → Int64) : Option (Int32 × (Nat → Int64)) :=
  (f_X12_wasStormed x1 b_a0 b_a0_pot b_a0_pot_plan_guests).bind (Sum.elim (fun u1 =>
  if u1 = 0 then
  if (0 : Int32) < 0 ∨ m_a2 ≤ (0 : Int32).toNatClampNeg then none else
  some (0, (vp_updL f_a2 (0 : Int32).toNatClampNeg 0)) else
  if (0 : Int32) < 0 ∨ m_a2 ≤ (0 : Int32).toNatClampNeg then none else
  some (0, (vp_updL f_a2 (0 : Int32).toNatClampNeg 1))) (fun E2 =>
  if E2.1 = "java/lang/IndexOutOfBoundsException" then
  some (1, f_a2) else
  none))

def f_L_steep (x1 : Int32) (b_a0 : bX12) (b_a0_pot : bX8) (b_a0_pot_plan_fronts : bX2) (m_a2 : Nat) (f_a2 : Nat → Int64) : Option (Int32 × Int32 × (Nat → Int32) × (Nat → Int64)) :=
  (f_X12_steep x1 b_a0 b_a0_pot b_a0_pot_plan_fronts).bind (Sum.elim (fun u1 =>
  if (0 : Int32) < 0 ∨ m_a2 ≤ (0 : Int32).toNatClampNeg then none else
  some (0, u1.2.1, u1.2.2, (vp_updL f_a2 (0 : Int32).toNatClampNeg (Int32.toInt64 u1.1)))) (fun E2 =>
  if E2.1 = "java/lang/IndexOutOfBoundsException" then
  some (1, E2.2.1, E2.2.2, f_a2) else
  if E2.1 = "java/lang/IllegalStateException" then
  some (2, E2.2.1, E2.2.2, f_a2) else
  none))

def f_L_lemon (b_a0 : bX12) (b_a0_pot : bX8) (m_a1 : Nat) (f_a1 : Nat → Int64) : Option (Int32 × Int32 × Int32 × (Nat → Int64)) :=
  (f_X12_lemon b_a0 b_a0_pot).bind (Sum.elim (fun u1 =>
  if (0 : Int32) < 0 ∨ m_a1 ≤ (0 : Int32).toNatClampNeg then none else
  some (0, u1.2.1, u1.2.2, (vp_updL f_a1 (0 : Int32).toNatClampNeg (Int32.toInt64 u1.1)))) (fun E2 =>
  if E2.1 = "java/lang/IllegalStateException" then
  some (1, E2.2.1, E2.2.2, f_a1) else
  none))

def f_L_saucer (b_a0 : bX12) (b_a0_pot : bX8) (m_a1 : Nat) (f_a1 : Nat → Int64) : Option (Int32 × Int32 × Int32 × (Nat → Int64)) :=
  (f_X12_saucer b_a0 b_a0_pot).bind (Sum.elim (fun u1 =>
  if (0 : Int32) < 0 ∨ m_a1 ≤ (0 : Int32).toNatClampNeg then none else
  some (0, u1.2.1, u1.2.2, (vp_updL f_a1 (0 : Int32).toNatClampNeg (Int32.toInt64 u1.1)))) (fun E2 =>
  if E2.1 = "java/lang/IllegalStateException" then
  some (1, E2.2.1, E2.2.2, f_a1) else
  none))

def f_L_serve (x1 : Int32) (b_a0 : bX12) (b_a0_pot : bX8) (b_a0_pot_plan_guests : bX4) (m_a2 : Nat) (f_a2 : Nat → Int64) : Option (Int32 × Int32 × Int32 × (Nat → Int32) × (Nat → Int64)) :=
  (f_X12_serve x1 b_a0 b_a0_pot b_a0_pot_plan_guests).bind (Sum.elim (fun u1 =>
  if (0 : Int32) < 0 ∨ m_a2 ≤ (0 : Int32).toNatClampNeg then none else
  some (0, u1.2.1, u1.2.2.1, u1.2.2.2, (vp_updL f_a2 (0 : Int32).toNatClampNeg (Int32.toInt64 u1.1)))) (fun E2 =>
  if E2.1 = "java/lang/IndexOutOfBoundsException" then
  some (1, E2.2.1, E2.2.2.1, E2.2.2.2, f_a2) else
  if E2.1 = "java/lang/IllegalStateException" then
  some (2, E2.2.1, E2.2.2.1, E2.2.2.2, f_a2) else
  none))

def f_L_heat (x1 : Int32) (b_a0 : bX12) (b_a0_pot : bX8) (m_a2 : Nat) (f_a2 : Nat → Int64) : Option (Int32 × Int32 × (Nat → Int64)) :=
  (f_X12_heat x1 b_a0 b_a0_pot).bind (Sum.elim (fun u1 =>
  if (0 : Int32) < 0 ∨ m_a2 ≤ (0 : Int32).toNatClampNeg then none else
  some (0, u1.2, (vp_updL f_a2 (0 : Int32).toNatClampNeg (Int32.toInt64 u1.1)))) (fun E2 =>
  if E2.1 = "java/lang/IllegalArgumentException" then
  some (1, E2.2, f_a2) else
  none))

def f_L_passHours (n : Nat) (x1 : Int32) (b_a0 : bX12) (b_a0_pot : bX8) (b_a0_pot_reckoner : bX9) (b_a0_pot_plan_fronts : bX2) (b_a0_pot_plan_guests : bX4) (b_a0_pot_plan_orders : bX6) (m_a2 : Nat) (f_a2 : Nat → Int64) : Option (Int32 × Int32 × Int32 × Int32 × Int32 × Int32 × Int32 × Int32 × Int32 × (Nat → Int32) × (Nat → Int32) × (Nat → Int32) × (Nat → Int32) × Int32 × (Nat → Int64)) :=
  (f_X12_passHours n x1 b_a0 b_a0_pot b_a0_pot_reckoner b_a0_pot_plan_fronts b_a0_pot_plan_guests b_a0_pot_plan_orders).bind (Sum.elim (fun u1 =>
  if (0 : Int32) < 0 ∨ m_a2 ≤ (0 : Int32).toNatClampNeg then none else
  some (0, u1.2.1, u1.2.2.1, u1.2.2.2.1, u1.2.2.2.2.1, u1.2.2.2.2.2.1, u1.2.2.2.2.2.2.1, u1.2.2.2.2.2.2.2.1, u1.2.2.2.2.2.2.2.2.1, u1.2.2.2.2.2.2.2.2.2.1, u1.2.2.2.2.2.2.2.2.2.2.1, u1.2.2.2.2.2.2.2.2.2.2.2.1, u1.2.2.2.2.2.2.2.2.2.2.2.2.1, u1.2.2.2.2.2.2.2.2.2.2.2.2.2, (vp_updL f_a2 (0 : Int32).toNatClampNeg (Int32.toInt64 u1.1)))) (fun E2 =>
  if E2.1 = "java/lang/IllegalArgumentException" then
  some (1, E2.2.1, E2.2.2.1, E2.2.2.2.1, E2.2.2.2.2.1, E2.2.2.2.2.2.1, E2.2.2.2.2.2.2.1, E2.2.2.2.2.2.2.2.1, E2.2.2.2.2.2.2.2.2.1, E2.2.2.2.2.2.2.2.2.2.1, E2.2.2.2.2.2.2.2.2.2.2.1, E2.2.2.2.2.2.2.2.2.2.2.2.1, E2.2.2.2.2.2.2.2.2.2.2.2.2.1, E2.2.2.2.2.2.2.2.2.2.2.2.2.2, f_a2) else
  none))

def f_L_coinsAfter (n : Nat) (x1 : Int32) (b_a0 : bX12) (b_a0_pot : bX8) (b_a0_pot_plan_fronts : bX2) (b_a0_pot_plan_guests : bX4) (b_a0_pot_plan_orders : bX6) (b_a0_trial : bX8) (b_a0_trial_reckoner : bX9) (m_a2 : Nat) (f_a2 : Nat → Int64) : Option (Int32 × Int32 × Int32 × Int32 × Int32 × Int32 × Int32 × Int32 × Int32 × (Nat → Int32) × (Nat → Int32) × (Nat → Int32) × (Nat → Int32) × Int32 × (Nat → Int64)) :=
  (f_X12_coinsAfter n x1 b_a0 b_a0_pot b_a0_pot_plan_fronts b_a0_pot_plan_guests b_a0_pot_plan_orders b_a0_trial b_a0_trial_reckoner).bind (Sum.elim (fun u1 =>
  if (0 : Int32) < 0 ∨ m_a2 ≤ (0 : Int32).toNatClampNeg then none else
  some (0, u1.2.1, u1.2.2.1, u1.2.2.2.1, u1.2.2.2.2.1, u1.2.2.2.2.2.1, u1.2.2.2.2.2.2.1, u1.2.2.2.2.2.2.2.1, u1.2.2.2.2.2.2.2.2.1, u1.2.2.2.2.2.2.2.2.2.1, u1.2.2.2.2.2.2.2.2.2.2.1, u1.2.2.2.2.2.2.2.2.2.2.2.1, u1.2.2.2.2.2.2.2.2.2.2.2.2.1, u1.2.2.2.2.2.2.2.2.2.2.2.2.2, (vp_updL f_a2 (0 : Int32).toNatClampNeg (Int32.toInt64 u1.1)))) (fun E2 =>
  if E2.1 = "java/lang/IllegalArgumentException" then
  some (1, E2.2.1, E2.2.2.1, E2.2.2.2.1, E2.2.2.2.2.1, E2.2.2.2.2.2.1, E2.2.2.2.2.2.2.1, E2.2.2.2.2.2.2.2.1, E2.2.2.2.2.2.2.2.2.1, E2.2.2.2.2.2.2.2.2.2.1, E2.2.2.2.2.2.2.2.2.2.2.1, E2.2.2.2.2.2.2.2.2.2.2.2.1, E2.2.2.2.2.2.2.2.2.2.2.2.2.1, E2.2.2.2.2.2.2.2.2.2.2.2.2.2, f_a2) else
  none))

def f_L_hoursUntilServed (n : Nat) (x1 : Int32) (b_a0 : bX12) (b_a0_pot : bX8) (b_a0_pot_plan_fronts : bX2) (b_a0_pot_plan_guests : bX4) (b_a0_pot_plan_orders : bX6) (b_a0_trial : bX8) (b_a0_trial_reckoner : bX9) (m_a2 : Nat) (f_a2 : Nat → Int64) : Option (Int32 × Int32 × Int32 × Int32 × Int32 × Int32 × Int32 × Int32 × Int32 × (Nat → Int32) × (Nat → Int32) × (Nat → Int32) × (Nat → Int32) × Int32 × (Nat → Int64)) :=
  (f_X12_hoursUntilServed n x1 b_a0 b_a0_pot b_a0_pot_plan_fronts b_a0_pot_plan_guests b_a0_pot_plan_orders b_a0_trial b_a0_trial_reckoner).bind (Sum.elim (fun u1 =>
  if (0 : Int32) < 0 ∨ m_a2 ≤ (0 : Int32).toNatClampNeg then none else
  some (0, u1.2.1, u1.2.2.1, u1.2.2.2.1, u1.2.2.2.2.1, u1.2.2.2.2.2.1, u1.2.2.2.2.2.2.1, u1.2.2.2.2.2.2.2.1, u1.2.2.2.2.2.2.2.2.1, u1.2.2.2.2.2.2.2.2.2.1, u1.2.2.2.2.2.2.2.2.2.2.1, u1.2.2.2.2.2.2.2.2.2.2.2.1, u1.2.2.2.2.2.2.2.2.2.2.2.2.1, u1.2.2.2.2.2.2.2.2.2.2.2.2.2, (vp_updL f_a2 (0 : Int32).toNatClampNeg (Int32.toInt64 u1.1)))) (fun E2 =>
  if E2.1 = "java/lang/IndexOutOfBoundsException" then
  some (1, E2.2.1, E2.2.2.1, E2.2.2.2.1, E2.2.2.2.2.1, E2.2.2.2.2.2.1, E2.2.2.2.2.2.2.1, E2.2.2.2.2.2.2.2.1, E2.2.2.2.2.2.2.2.2.1, E2.2.2.2.2.2.2.2.2.2.1, E2.2.2.2.2.2.2.2.2.2.2.1, E2.2.2.2.2.2.2.2.2.2.2.2.1, E2.2.2.2.2.2.2.2.2.2.2.2.2.1, E2.2.2.2.2.2.2.2.2.2.2.2.2.2, f_a2) else
  none))
