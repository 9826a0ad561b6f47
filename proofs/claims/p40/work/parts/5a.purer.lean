/-! calls that do not throw -/
def f_X12_requireFront_r (x0 : Int32) (b_h : bX12) (b_h_pot : bX8) (b_h_pot_plan_fronts : bX2) : Option (Unit) :=
  (f_X2_has x0 b_h_pot_plan_fronts).bind fun u1 =>
  if u1 = 0 then
  none else
  some ()

def f_X12_requireGuest_r (x0 : Int32) (b_h : bX12) (b_h_pot : bX8) (b_h_pot_plan_guests : bX4) : Option (Unit) :=
  (f_X4_has x0 b_h_pot_plan_guests).bind fun u1 =>
  if u1 = 0 then
  none else
  some ()

def f_X12_requireHours_r (x0 : Int32) : Option (Unit) :=
  if x0 < (1 : Int32) then
  none else
  if x0 ≤ (30 : Int32) then
  some () else
  none

def f_X12_feed_r (n : Nat) (x0 : Int32) (x1 : Int32) (x2 : Int32) (x3 : Int32) (x4 : Int32) (b_h : bX12) (b_h_tape : bX10) : Option (Int32 × (Nat → Int32) × Int32) :=
  if ((X10_length b_h_tape) + 20) ≤ (2000 : Int32) then
  (f_X10_append n x0 b_h_tape).bind fun u2 =>
  (f_X10_append n x1 (u2.1, u2.2)).bind fun u3 =>
  (f_X10_append n x2 (u3.1, u3.2)).bind fun u4 =>
  (f_X10_append n x3 (u4.1, u4.2)).bind fun u5 =>
  (f_X10_append n x4 (u5.1, u5.2)).bind fun u6 =>
  some (u6.2, u6.1, u6.2) else
  none

def f_X12_trim_r (x0 : Int32) (b_h : bX12) (b_h_tape : bX10) : Option (Int32 × Int32) :=
  if x0 < 0 then
  none else
  if x0 ≤ (X10_length b_h_tape) then
  some (x0, x0) else
  none

def f_X12_isWarm_r (x0 : Int32) (b_h : bX12) (b_h_pot : bX8) (b_h_pot_plan_fronts : bX2) : Option (Int32) :=
  (f_X12_requireFront_r x0 b_h b_h_pot b_h_pot_plan_fronts).bind fun u1 =>
  if x0 < 0 ∨ 10 ≤ x0.toNatClampNeg then none else
  if vp_nar .boolean ((X2_warm b_h_pot_plan_fronts) x0.toNatClampNeg) = ((X2_warm b_h_pot_plan_fronts) x0.toNatClampNeg) then some ((X2_warm b_h_pot_plan_fronts) x0.toNatClampNeg) else none

def f_X12_forceOf_r (x0 : Int32) (b_h : bX12) (b_h_pot : bX8) (b_h_pot_plan_fronts : bX2) : Option (Int32) :=
  (f_X12_requireFront_r x0 b_h b_h_pot b_h_pot_plan_fronts).bind fun u1 =>
  if x0 < 0 ∨ 10 ≤ x0.toNatClampNeg then none else
  some ((X2_force b_h_pot_plan_fronts) x0.toNatClampNeg)

def f_X12_isOver_r (x0 : Int32) (b_h : bX12) (b_h_pot : bX8) (b_h_pot_plan_fronts : bX2) : Option (Int32) :=
  (f_X12_requireFront_r x0 b_h b_h_pot b_h_pot_plan_fronts).bind fun u1 =>
  (f_X8_hangsOver x0 b_h_pot b_h_pot_plan_fronts).bind fun u2 =>
  if vp_nar .boolean u2 = u2 then some u2 else none

def f_X12_isSteeped_r (x0 : Int32) (b_h : bX12) (b_h_pot : bX8) (b_h_pot_plan_fronts : bX2) : Option (Int32) :=
  (f_X12_requireFront_r x0 b_h b_h_pot b_h_pot_plan_fronts).bind fun u1 =>
  if x0 < 0 ∨ 10 ≤ x0.toNatClampNeg then none else
  if vp_nar .boolean ((X8_frontSteeped b_h_pot) x0.toNatClampNeg) = ((X8_frontSteeped b_h_pot) x0.toNatClampNeg) then some ((X8_frontSteeped b_h_pot) x0.toNatClampNeg) else none

def f_X12_isSeated_r (x0 : Int32) (b_h : bX12) (b_h_pot : bX8) (b_h_pot_plan_guests : bX4) : Option (Int32) :=
  (f_X12_requireGuest_r x0 b_h b_h_pot b_h_pot_plan_guests).bind fun u1 =>
  (f_X8_sits x0 b_h_pot b_h_pot_plan_guests).bind fun u2 =>
  if vp_nar .boolean u2 = u2 then some u2 else none

def f_X12_isContent_r (x0 : Int32) (b_h : bX12) (b_h_pot : bX8) (b_h_pot_plan_guests : bX4) : Option (Int32) :=
  (f_X12_requireGuest_r x0 b_h b_h_pot b_h_pot_plan_guests).bind fun u1 =>
  (f_X8_wouldLike x0 (X8_strength b_h_pot) b_h_pot b_h_pot_plan_guests).bind fun u2 =>
  if vp_nar .boolean u2 = u2 then some u2 else none

def f_X12_wasServed_r (x0 : Int32) (b_h : bX12) (b_h_pot : bX8) (b_h_pot_plan_guests : bX4) : Option (Int32) :=
  (f_X12_requireGuest_r x0 b_h b_h_pot b_h_pot_plan_guests).bind fun u1 =>
  if x0 < 0 ∨ 10 ≤ x0.toNatClampNeg then none else
  if vp_nar .boolean ((X8_guestServed b_h_pot) x0.toNatClampNeg) = ((X8_guestServed b_h_pot) x0.toNatClampNeg) then some ((X8_guestServed b_h_pot) x0.toNatClampNeg) else none

def f_X12_wasStormed_r (x0 : Int32) (b_h : bX12) (b_h_pot : bX8) (b_h_pot_plan_guests : bX4) : Option (Int32) :=
  (f_X12_requireGuest_r x0 b_h b_h_pot b_h_pot_plan_guests).bind fun u1 =>
  if x0 < 0 ∨ 10 ≤ x0.toNatClampNeg then none else
  if vp_nar .boolean ((X8_guestStormed b_h_pot) x0.toNatClampNeg) = ((X8_guestStormed b_h_pot) x0.toNatClampNeg) then some ((X8_guestStormed b_h_pot) x0.toNatClampNeg) else none

def f_X12_passHours_r_L14 (n : Nat) (x0 : Int32) (b_h : bX12) (b_h_pot : bX8) (b_h_pot_reckoner : bX9) (b_h_pot_plan_fronts : bX2) (b_h_pot_plan_guests : bX4) (b_h_pot_plan_orders : bX6) (v1 : Int32) (v2 : Int32) (v3 : Int32) (w_h_pot_hour : Int32) (w_h_pot_warmth : Int32) (w_h_pot_strength : Int32) (w_h_pot_charge : Int32) (w_h_pot_lemons : Int32) (w_h_pot_saucers : Int32) (w_h_pot_coins : Int32) (w_h_pot_storms : Int32) (w_h_pot_frontSteeped : Nat → Int32) (w_h_pot_guestServed : Nat → Int32) (w_h_pot_guestStormed : Nat → Int32) (w_h_pot_reckoner_stack : Nat → Int32) (w_h_pot_reckoner_height : Int32) : Option ((Int32 × Int32 × Int32 × Int32 × Int32 × Int32 × Int32 × Int32 × Int32 × (Nat → Int32) × (Nat → Int32) × (Nat → Int32) × (Nat → Int32) × Int32) ⊕ (Int32 × Int32 × Int32 × Int32 × Int32 × Int32 × Int32 × Int32 × Int32 × (Nat → Int32) × (Nat → Int32) × (Nat → Int32) × (Nat → Int32) × Int32)) :=
  if v1 ≤ v3 then
  some (Sum.inr ((w_h_pot_storms - v2), w_h_pot_hour, w_h_pot_warmth, w_h_pot_strength, w_h_pot_charge, w_h_pot_lemons, w_h_pot_saucers, w_h_pot_coins, w_h_pot_storms, w_h_pot_frontSteeped, w_h_pot_guestServed, w_h_pot_guestStormed, w_h_pot_reckoner_stack, w_h_pot_reckoner_height)) else
  (f_X8_passHour n (w_h_pot_hour, w_h_pot_warmth, w_h_pot_strength, w_h_pot_charge, w_h_pot_lemons, w_h_pot_saucers, w_h_pot_coins, w_h_pot_storms, w_h_pot_frontSteeped, w_h_pot_guestServed, w_h_pot_guestStormed) (w_h_pot_reckoner_stack, w_h_pot_reckoner_height) b_h_pot_plan_fronts b_h_pot_plan_guests b_h_pot_plan_orders).bind fun u3 =>
  some (Sum.inl ((v3 + 1), u3.1, u3.2.1, u3.2.2.1, u3.2.2.2.1, u3.2.2.2.2.1, u3.2.2.2.2.2.1, u3.2.2.2.2.2.2.1, u3.2.2.2.2.2.2.2.1, u3.2.2.2.2.2.2.2.2.1, u3.2.2.2.2.2.2.2.2.2.1, u3.2.2.2.2.2.2.2.2.2.2.1, u3.2.2.2.2.2.2.2.2.2.2.2.1, u3.2.2.2.2.2.2.2.2.2.2.2.2))
def f_X12_passHours_r (n : Nat) (x0 : Int32) (b_h : bX12) (b_h_pot : bX8) (b_h_pot_reckoner : bX9) (b_h_pot_plan_fronts : bX2) (b_h_pot_plan_guests : bX4) (b_h_pot_plan_orders : bX6) : Option (Int32 × Int32 × Int32 × Int32 × Int32 × Int32 × Int32 × Int32 × Int32 × (Nat → Int32) × (Nat → Int32) × (Nat → Int32) × (Nat → Int32) × Int32) :=
  (f_X12_requireHours_r x0).bind fun u1 =>
  iter (fun s : Int32 × Int32 × Int32 × Int32 × Int32 × Int32 × Int32 × Int32 × Int32 × (Nat → Int32) × (Nat → Int32) × (Nat → Int32) × (Nat → Int32) × Int32 => f_X12_passHours_r_L14 n x0 b_h b_h_pot b_h_pot_reckoner b_h_pot_plan_fronts b_h_pot_plan_guests b_h_pot_plan_orders x0 (X8_storms b_h_pot) s.1 s.2.1 s.2.2.1 s.2.2.2.1 s.2.2.2.2.1 s.2.2.2.2.2.1 s.2.2.2.2.2.2.1 s.2.2.2.2.2.2.2.1 s.2.2.2.2.2.2.2.2.1 s.2.2.2.2.2.2.2.2.2.1 s.2.2.2.2.2.2.2.2.2.2.1 s.2.2.2.2.2.2.2.2.2.2.2.1 s.2.2.2.2.2.2.2.2.2.2.2.2.1 s.2.2.2.2.2.2.2.2.2.2.2.2.2) n (0, (X8_hour b_h_pot), (X8_warmth b_h_pot), (X8_strength b_h_pot), (X8_charge b_h_pot), (X8_lemons b_h_pot), (X8_saucers b_h_pot), (X8_coins b_h_pot), (X8_storms b_h_pot), (X8_frontSteeped b_h_pot), (X8_guestServed b_h_pot), (X8_guestStormed b_h_pot), (X9_stack b_h_pot_reckoner), (X9_height b_h_pot_reckoner))

def f_X12_coinsAfter_r_L17 (n : Nat) (x0 : Int32) (b_h : bX12) (b_h_pot : bX8) (b_h_pot_plan_fronts : bX2) (b_h_pot_plan_guests : bX4) (b_h_pot_plan_orders : bX6) (b_h_trial : bX8) (b_h_trial_reckoner : bX9) (v1 : Int32) (v2 : Int32) (w_h_trial_hour : Int32) (w_h_trial_warmth : Int32) (w_h_trial_strength : Int32) (w_h_trial_charge : Int32) (w_h_trial_lemons : Int32) (w_h_trial_saucers : Int32) (w_h_trial_coins : Int32) (w_h_trial_storms : Int32) (w_h_trial_frontSteeped : Nat → Int32) (w_h_trial_guestServed : Nat → Int32) (w_h_trial_guestStormed : Nat → Int32) (w_h_trial_reckoner_stack : Nat → Int32) (w_h_trial_reckoner_height : Int32) : Option ((Int32 × Int32 × Int32 × Int32 × Int32 × Int32 × Int32 × Int32 × Int32 × (Nat → Int32) × (Nat → Int32) × (Nat → Int32) × (Nat → Int32) × Int32) ⊕ (Int32 × Int32 × Int32 × Int32 × Int32 × Int32 × Int32 × Int32 × Int32 × (Nat → Int32) × (Nat → Int32) × (Nat → Int32) × (Nat → Int32) × Int32)) :=
  if v1 ≤ v2 then
  some (Sum.inr (w_h_trial_coins, w_h_trial_hour, w_h_trial_warmth, w_h_trial_strength, w_h_trial_charge, w_h_trial_lemons, w_h_trial_saucers, w_h_trial_coins, w_h_trial_storms, w_h_trial_frontSteeped, w_h_trial_guestServed, w_h_trial_guestStormed, w_h_trial_reckoner_stack, w_h_trial_reckoner_height)) else
  (f_X8_passHour n (w_h_trial_hour, w_h_trial_warmth, w_h_trial_strength, w_h_trial_charge, w_h_trial_lemons, w_h_trial_saucers, w_h_trial_coins, w_h_trial_storms, w_h_trial_frontSteeped, w_h_trial_guestServed, w_h_trial_guestStormed) (w_h_trial_reckoner_stack, w_h_trial_reckoner_height) b_h_pot_plan_fronts b_h_pot_plan_guests b_h_pot_plan_orders).bind fun u4 =>
  some (Sum.inl ((v2 + 1), u4.1, u4.2.1, u4.2.2.1, u4.2.2.2.1, u4.2.2.2.2.1, u4.2.2.2.2.2.1, u4.2.2.2.2.2.2.1, u4.2.2.2.2.2.2.2.1, u4.2.2.2.2.2.2.2.2.1, u4.2.2.2.2.2.2.2.2.2.1, u4.2.2.2.2.2.2.2.2.2.2.1, u4.2.2.2.2.2.2.2.2.2.2.2.1, u4.2.2.2.2.2.2.2.2.2.2.2.2))
def f_X12_coinsAfter_r (n : Nat) (x0 : Int32) (b_h : bX12) (b_h_pot : bX8) (b_h_pot_plan_fronts : bX2) (b_h_pot_plan_guests : bX4) (b_h_pot_plan_orders : bX6) (b_h_trial : bX8) (b_h_trial_reckoner : bX9) : Option (Int32 × Int32 × Int32 × Int32 × Int32 × Int32 × Int32 × Int32 × Int32 × (Nat → Int32) × (Nat → Int32) × (Nat → Int32) × (Nat → Int32) × Int32) :=
  (f_X12_requireHours_r x0).bind fun u1 =>
  (f_X8_copyFrom n b_h_trial b_h_pot).bind fun u2 =>
  iter (fun s : Int32 × Int32 × Int32 × Int32 × Int32 × Int32 × Int32 × Int32 × Int32 × (Nat → Int32) × (Nat → Int32) × (Nat → Int32) × (Nat → Int32) × Int32 => f_X12_coinsAfter_r_L17 n x0 b_h b_h_pot b_h_pot_plan_fronts b_h_pot_plan_guests b_h_pot_plan_orders b_h_trial b_h_trial_reckoner x0 s.1 s.2.1 s.2.2.1 s.2.2.2.1 s.2.2.2.2.1 s.2.2.2.2.2.1 s.2.2.2.2.2.2.1 s.2.2.2.2.2.2.2.1 s.2.2.2.2.2.2.2.2.1 s.2.2.2.2.2.2.2.2.2.1 s.2.2.2.2.2.2.2.2.2.2.1 s.2.2.2.2.2.2.2.2.2.2.2.1 s.2.2.2.2.2.2.2.2.2.2.2.2.1 s.2.2.2.2.2.2.2.2.2.2.2.2.2) n (0, u2.1, u2.2.1, u2.2.2.1, u2.2.2.2.1, u2.2.2.2.2.1, u2.2.2.2.2.2.1, u2.2.2.2.2.2.2.1, u2.2.2.2.2.2.2.2.1, u2.2.2.2.2.2.2.2.2.1, u2.2.2.2.2.2.2.2.2.2.1, u2.2.2.2.2.2.2.2.2.2.2, (X9_stack b_h_trial_reckoner), (X9_height b_h_trial_reckoner))

def f_X12_hoursUntilServed_r_L18 (n : Nat) (x0 : Int32) (b_h : bX12) (b_h_pot : bX8) (b_h_pot_plan_fronts : bX2) (b_h_pot_plan_guests : bX4) (b_h_pot_plan_orders : bX6) (b_h_trial : bX8) (b_h_trial_reckoner : bX9) (v1 : Int32) (v2 : Int32) (w_h_trial_hour : Int32) (w_h_trial_warmth : Int32) (w_h_trial_strength : Int32) (w_h_trial_charge : Int32) (w_h_trial_lemons : Int32) (w_h_trial_saucers : Int32) (w_h_trial_coins : Int32) (w_h_trial_storms : Int32) (w_h_trial_frontSteeped : Nat → Int32) (w_h_trial_guestServed : Nat → Int32) (w_h_trial_guestStormed : Nat → Int32) (w_h_trial_reckoner_stack : Nat → Int32) (w_h_trial_reckoner_height : Int32) : Option ((Int32 × Int32 × Int32 × Int32 × Int32 × Int32 × Int32 × Int32 × Int32 × (Nat → Int32) × (Nat → Int32) × (Nat → Int32) × (Nat → Int32) × Int32) ⊕ (Int32 × Int32 × Int32 × Int32 × Int32 × Int32 × Int32 × Int32 × Int32 × (Nat → Int32) × (Nat → Int32) × (Nat → Int32) × (Nat → Int32) × Int32)) :=
  if (60 : Int32) ≤ v2 then
  if v1 < 0 ∨ 10 ≤ v1.toNatClampNeg then none else
  if (w_h_trial_guestServed v1.toNatClampNeg) = 0 then
  some (Sum.inr ((-1), w_h_trial_hour, w_h_trial_warmth, w_h_trial_strength, w_h_trial_charge, w_h_trial_lemons, w_h_trial_saucers, w_h_trial_coins, w_h_trial_storms, w_h_trial_frontSteeped, w_h_trial_guestServed, w_h_trial_guestStormed, w_h_trial_reckoner_stack, w_h_trial_reckoner_height)) else
  some (Sum.inr (60, w_h_trial_hour, w_h_trial_warmth, w_h_trial_strength, w_h_trial_charge, w_h_trial_lemons, w_h_trial_saucers, w_h_trial_coins, w_h_trial_storms, w_h_trial_frontSteeped, w_h_trial_guestServed, w_h_trial_guestStormed, w_h_trial_reckoner_stack, w_h_trial_reckoner_height)) else
  if v1 < 0 ∨ 10 ≤ v1.toNatClampNeg then none else
  if (w_h_trial_guestServed v1.toNatClampNeg) = 0 then
  (f_X8_passHour n (w_h_trial_hour, w_h_trial_warmth, w_h_trial_strength, w_h_trial_charge, w_h_trial_lemons, w_h_trial_saucers, w_h_trial_coins, w_h_trial_storms, w_h_trial_frontSteeped, w_h_trial_guestServed, w_h_trial_guestStormed) (w_h_trial_reckoner_stack, w_h_trial_reckoner_height) b_h_pot_plan_fronts b_h_pot_plan_guests b_h_pot_plan_orders).bind fun u8 =>
  some (Sum.inl ((v2 + 1), u8.1, u8.2.1, u8.2.2.1, u8.2.2.2.1, u8.2.2.2.2.1, u8.2.2.2.2.2.1, u8.2.2.2.2.2.2.1, u8.2.2.2.2.2.2.2.1, u8.2.2.2.2.2.2.2.2.1, u8.2.2.2.2.2.2.2.2.2.1, u8.2.2.2.2.2.2.2.2.2.2.1, u8.2.2.2.2.2.2.2.2.2.2.2.1, u8.2.2.2.2.2.2.2.2.2.2.2.2)) else
  some (Sum.inr (v2, w_h_trial_hour, w_h_trial_warmth, w_h_trial_strength, w_h_trial_charge, w_h_trial_lemons, w_h_trial_saucers, w_h_trial_coins, w_h_trial_storms, w_h_trial_frontSteeped, w_h_trial_guestServed, w_h_trial_guestStormed, w_h_trial_reckoner_stack, w_h_trial_reckoner_height))
def f_X12_hoursUntilServed_r (n : Nat) (x0 : Int32) (b_h : bX12) (b_h_pot : bX8) (b_h_pot_plan_fronts : bX2) (b_h_pot_plan_guests : bX4) (b_h_pot_plan_orders : bX6) (b_h_trial : bX8) (b_h_trial_reckoner : bX9) : Option (Int32 × Int32 × Int32 × Int32 × Int32 × Int32 × Int32 × Int32 × Int32 × (Nat → Int32) × (Nat → Int32) × (Nat → Int32) × (Nat → Int32) × Int32) :=
  (f_X12_requireGuest_r x0 b_h b_h_pot b_h_pot_plan_guests).bind fun u1 =>
  (f_X8_copyFrom n b_h_trial b_h_pot).bind fun u2 =>
  iter (fun s : Int32 × Int32 × Int32 × Int32 × Int32 × Int32 × Int32 × Int32 × Int32 × (Nat → Int32) × (Nat → Int32) × (Nat → Int32) × (Nat → Int32) × Int32 => f_X12_hoursUntilServed_r_L18 n x0 b_h b_h_pot b_h_pot_plan_fronts b_h_pot_plan_guests b_h_pot_plan_orders b_h_trial b_h_trial_reckoner x0 s.1 s.2.1 s.2.2.1 s.2.2.2.1 s.2.2.2.2.1 s.2.2.2.2.2.1 s.2.2.2.2.2.2.1 s.2.2.2.2.2.2.2.1 s.2.2.2.2.2.2.2.2.1 s.2.2.2.2.2.2.2.2.2.1 s.2.2.2.2.2.2.2.2.2.2.1 s.2.2.2.2.2.2.2.2.2.2.2.1 s.2.2.2.2.2.2.2.2.2.2.2.2.1 s.2.2.2.2.2.2.2.2.2.2.2.2.2) n (0, u2.1, u2.2.1, u2.2.2.1, u2.2.2.2.1, u2.2.2.2.2.1, u2.2.2.2.2.2.1, u2.2.2.2.2.2.2.1, u2.2.2.2.2.2.2.2.1, u2.2.2.2.2.2.2.2.2.1, u2.2.2.2.2.2.2.2.2.2.1, u2.2.2.2.2.2.2.2.2.2.2, (X9_stack b_h_trial_reckoner), (X9_height b_h_trial_reckoner))
