def f_X16_both (x0 : Int32) (x1 : Int32) (x2 : Int32) : Option (Int32) :=
  if x0 = 4 then
  if x2 ≤ x1 then
  some x2 else
  some x1 else
  if x0 = 5 then
  if x2 ≤ x1 then
  some x1 else
  some x2 else
  if x0 = 6 then
  some (x1 + x2) else
  if x0 = 7 then
  some (x1 - x2) else
  if x0 = 8 then
  some (x1 * x2) else
  if x0 = 9 then
  if x2 = 0 then
  some 0 else
  if x2 = 0 then none else
  some (x1 / x2) else
  if x0 = 19 then
  some (x1 * x2) else
  if x0 = 20 then
  if (x1 + x2) ≤ 0 then
  some 0 else
  some 1 else
  if x0 = (10 : Int32) then
  if x2 ≤ x1 then
  some 0 else
  some 1 else
  if x0 = (11 : Int32) then
  if x1 ≤ x2 then
  some 0 else
  some 1 else
  if x0 = (12 : Int32) then
  if x1 = x2 then
  some 1 else
  some 0 else
  if x0 = (13 : Int32) then
  if x2 < x1 then
  some 0 else
  some 1 else
  if x1 < x2 then
  some 0 else
  some 1

def f_X16_value : (h : Nat) → Nd h → bY18 → Option Int32
  | 0, _, _ => none
  | h + 1, t, b_a0 =>
  if (nI t.1) = 0 then
  some (nI t.2.1) else
  if (nI t.1) = 1 then
  if (nI t.2.1) = 0 then
  some (Y18_hour b_a0) else
  if (nI t.2.1) = (1 : Int32) then
  some (Y18_warmth b_a0) else
  if (nI t.2.1) = (2 : Int32) then
  some (Y18_strength b_a0) else
  if (nI t.2.1) = (3 : Int32) then
  some (Y18_charge b_a0) else
  if (nI t.2.1) = (4 : Int32) then
  some (Y18_lemons b_a0) else
  if (nI t.2.1) = (5 : Int32) then
  some (Y18_saucers b_a0) else
  some (Y18_storms b_a0) else
  if (nI t.1) = 2 then
  if (nI t.2.1) < 0 ∨ (Y18_nf b_a0) ≤ (nI t.2.1).toNatClampNeg then none else
  some ((Y18_Ff b_a0) ((nI t.2.1).toNatClampNeg)) else
  if (nI t.1) = 3 then
  (t.2.2.1).bind fun c13 =>
  (f_X16_value h c13 b_a0).bind fun u12 =>
  some (0 - u12) else
  if (nI t.1) = 15 then
  if (nI t.2.1) < 0 ∨ (Y18_nf b_a0) ≤ (nI t.2.1).toNatClampNeg then none else
  if ((Y18_Fp b_a0) ((nI t.2.1).toNatClampNeg)) = (1 : Int32) then
  some 1 else
  some 0 else
  if (nI t.1) = 16 then
  if (nI t.2.1) < 0 ∨ (Y18_ng b_a0) ≤ (nI t.2.1).toNatClampNeg then none else
  if ((Y18_Gp b_a0) ((nI t.2.1).toNatClampNeg)) = (1 : Int32) then
  some 1 else
  some 0 else
  if (nI t.1) = 17 then
  if (nI t.2.1) < 0 ∨ (Y18_ng b_a0) ≤ (nI t.2.1).toNatClampNeg then none else
  (f_X18_likes ((nI t.2.1).toNatClampNeg) (Y18_strength b_a0) b_a0).bind fun u22 =>
  if u22 = 0 then
  some 0 else
  some 1 else
  if (nI t.1) = 18 then
  (t.2.2.1).bind fun c26 =>
  (f_X16_value h c26 b_a0).bind fun u25 =>
  some (1 - u25) else
  (t.2.2.1).bind fun c28 =>
  (f_X16_value h c28 b_a0).bind fun u27 =>
  (t.2.2.2).bind fun c30 =>
  (f_X16_value h c30 b_a0).bind fun u29 =>
  (f_X16_both (nI t.1) u27 u29).bind fun u31 =>
  some u31

def f_X17_carryOut_R19 (t : Od) (b_a0 : bY18) (w_a0_strength : Int32) (w_a0_charge : Int32) (w_a0_lemons : Int32) (w_a0_saucers : Int32) (w_a0_coins : Int32) (w_a0_Fp : Nat → Int32) (w_a0_Gp : Nat → Int32) : Option (Int32 × Int32 × Int32 × Int32 × Int32 × (Nat → Int32) × (Nat → Int32)) :=
  if (nI t.1) = 0 then
  (f_X18_isSteeped (nI t.2.1) ((Y18_hour b_a0), (Y18_warmth b_a0), w_a0_strength, w_a0_charge, w_a0_lemons, w_a0_saucers, w_a0_coins, (Y18_storms b_a0), (Y18_Fw b_a0), (Y18_Ff b_a0), (Y18_Fa b_a0), (Y18_Fs b_a0), w_a0_Fp, (Y18_Ga b_a0), (Y18_Gl b_a0), (Y18_Gh b_a0), (Y18_Gn b_a0), w_a0_Gp, (Y18_nf b_a0), (Y18_ng b_a0))).bind fun u9 =>
  some (u9.2.1, w_a0_charge, w_a0_lemons, w_a0_saucers, w_a0_coins, u9.2.2, w_a0_Gp) else
  if (nI t.1) = (1 : Int32) then
  (f_X18_isServed (nI t.2.1) ((Y18_hour b_a0), (Y18_warmth b_a0), w_a0_strength, w_a0_charge, w_a0_lemons, w_a0_saucers, w_a0_coins, (Y18_storms b_a0), (Y18_Fw b_a0), (Y18_Ff b_a0), (Y18_Fa b_a0), (Y18_Fs b_a0), w_a0_Fp, (Y18_Ga b_a0), (Y18_Gl b_a0), (Y18_Gh b_a0), (Y18_Gn b_a0), w_a0_Gp, (Y18_nf b_a0), (Y18_ng b_a0))).bind fun u8 =>
  some (u8.2.1, w_a0_charge, w_a0_lemons, w_a0_saucers, u8.2.2.1, w_a0_Fp, u8.2.2.2) else
  if (nI t.1) = (2 : Int32) then
  (f_X18_isSqueezed ((Y18_hour b_a0), (Y18_warmth b_a0), w_a0_strength, w_a0_charge, w_a0_lemons, w_a0_saucers, w_a0_coins, (Y18_storms b_a0), (Y18_Fw b_a0), (Y18_Ff b_a0), (Y18_Fa b_a0), (Y18_Fs b_a0), w_a0_Fp, (Y18_Ga b_a0), (Y18_Gl b_a0), (Y18_Gh b_a0), (Y18_Gn b_a0), w_a0_Gp, (Y18_nf b_a0), (Y18_ng b_a0))).bind fun u7 =>
  some (w_a0_strength, u7.2.1, u7.2.2, w_a0_saucers, w_a0_coins, w_a0_Fp, w_a0_Gp) else
  (f_X18_isCalmed ((Y18_hour b_a0), (Y18_warmth b_a0), w_a0_strength, w_a0_charge, w_a0_lemons, w_a0_saucers, w_a0_coins, (Y18_storms b_a0), (Y18_Fw b_a0), (Y18_Ff b_a0), (Y18_Fa b_a0), (Y18_Fs b_a0), w_a0_Fp, (Y18_Ga b_a0), (Y18_Gl b_a0), (Y18_Gh b_a0), (Y18_Gn b_a0), w_a0_Gp, (Y18_nf b_a0), (Y18_ng b_a0))).bind fun u6 =>
  some (w_a0_strength, u6.2.1, w_a0_lemons, u6.2.2, w_a0_coins, w_a0_Fp, w_a0_Gp)
def f_odo (t : Od) (b_a0 : bY18) : Option (Int32 × Int32 × Int32 × Int32 × Int32 × (Nat → Int32) × (Nat → Int32)) :=
  Option.elim (t.2.2) (f_X17_carryOut_R19 t b_a0 (Y18_strength b_a0) (Y18_charge b_a0) (Y18_lemons b_a0) (Y18_saucers b_a0) (Y18_coins b_a0) (Y18_Fp b_a0) (Y18_Gp b_a0)) (fun c1 =>
  (f_X16_value (3 + 1) c1 b_a0).bind fun u10 =>
  if u10 = 0 then
  some ((Y18_strength b_a0), (Y18_charge b_a0), (Y18_lemons b_a0), (Y18_saucers b_a0), (Y18_coins b_a0), (Y18_Fp b_a0), (Y18_Gp b_a0)) else
  f_X17_carryOut_R19 t b_a0 (Y18_strength b_a0) (Y18_charge b_a0) (Y18_lemons b_a0) (Y18_saucers b_a0) (Y18_coins b_a0) (Y18_Fp b_a0) (Y18_Gp b_a0))

def f_X17_carryOut (os : List Od) (q : Nat) (b_a0 : bY18) : Option (Int32 × Int32 × Int32 × Int32 × Int32 × (Nat → Int32) × (Nat → Int32)) := (os[q]?).bind (fun t => f_odo t b_a0)
