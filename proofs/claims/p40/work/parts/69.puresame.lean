/-! what same reckons -/
def f_X18_isSame_R429 (n : Nat) (b_h : bY18) (b_a0 : bX12) (b_a0_pot : bX8) (b_a0_pot_plan_fronts : bX2) (b_a0_pot_plan_guests : bX4) (t0 : UInt64) (t1 : UInt64) : Option (Int32) :=
  if (Op.cmpValue (FP.dcmp t1 t0) .l) = 0 then
  some 1 else
  some 0
def f_X18_isSame_R253 (n : Nat) (b_h : bY18) (b_a0 : bX12) (b_a0_pot : bX8) (b_a0_pot_plan_fronts : bX2) (b_a0_pot_plan_guests : bX4) (v2 : Int32) (v3 : Int32) (v4 : Int32) (t0 : Int32) (t1 : Int32) : Option ((Int32) ⊕ (Int32)) :=
  if t1 = t0 then
  some (Sum.inl (v4 + 1)) else
  some (Sum.inr 0)
def f_X18_isSame_R230 (n : Nat) (b_h : bY18) (b_a0 : bX12) (b_a0_pot : bX8) (b_a0_pot_plan_fronts : bX2) (b_a0_pot_plan_guests : bX4) (v2 : Int32) (v3 : Int32) (v4 : Int32) (v5 : Nat) (t0 : Int32) (t1 : Int32) : Option ((Int32) ⊕ (Int32)) :=
  if t1 = t0 then
  (f_X12_wasStormed_r v4 b_a0 b_a0_pot b_a0_pot_plan_guests).bind fun u47 =>
  if v5 < (Y18_ng b_h) then
  if ((Y18_Gp b_h) v5) = (3 : Int32) then
  f_X18_isSame_R253 n b_h b_a0 b_a0_pot b_a0_pot_plan_fronts b_a0_pot_plan_guests v2 v3 v4 1 u47 else
  f_X18_isSame_R253 n b_h b_a0 b_a0_pot b_a0_pot_plan_fronts b_a0_pot_plan_guests v2 v3 v4 0 u47 else none else
  some (Sum.inr 0)
def f_X18_isSame_R188 (n : Nat) (b_h : bY18) (b_a0 : bX12) (b_a0_pot : bX8) (b_a0_pot_plan_fronts : bX2) (b_a0_pot_plan_guests : bX4) (v2 : Int32) (v3 : Int32) (v4 : Int32) (v5 : Nat) (t0 : Int32) (t1 : Int32) : Option ((Int32) ⊕ (Int32)) :=
  if t1 = t0 then
  (f_X12_isContent_r v4 b_a0 b_a0_pot b_a0_pot_plan_guests).bind fun u40 =>
  (f_X18_likes v5 (Y18_strength b_h) b_h).bind fun u41 =>
  if u40 = u41 then
  (f_X12_wasServed_r v4 b_a0 b_a0_pot b_a0_pot_plan_guests).bind fun u43 =>
  if v5 < (Y18_ng b_h) then
  if ((Y18_Gp b_h) v5) = (2 : Int32) then
  f_X18_isSame_R230 n b_h b_a0 b_a0_pot b_a0_pot_plan_fronts b_a0_pot_plan_guests v2 v3 v4 v5 1 u43 else
  f_X18_isSame_R230 n b_h b_a0 b_a0_pot b_a0_pot_plan_fronts b_a0_pot_plan_guests v2 v3 v4 v5 0 u43 else none else
  some (Sum.inr 0) else
  some (Sum.inr 0)
def f_X18_isSame_L149 (n : Nat) (b_h : bY18) (b_a0 : bX12) (b_a0_pot : bX8) (b_a0_pot_plan_fronts : bX2) (b_a0_pot_plan_guests : bX4) (v2 : Int32) (v3 : Int32) (v4 : Int32) : Option ((Int32) ⊕ (Int32)) :=
  if (nI (Y18_ng b_h)) ≤ v4 then
  (f_X12_fronts b_a0 b_a0_pot b_a0_pot_plan_fronts).bind fun u3 =>
  if u3 = (nI (Y18_nf b_h)) then
  (f_X12_guests b_a0 b_a0_pot b_a0_pot_plan_guests).bind fun u5 =>
  if u5 = (nI (Y18_ng b_h)) then
  (f_X12_hour b_a0 b_a0_pot).bind fun u7 =>
  if u7 = (Y18_hour b_h) then
  (f_X12_warmth b_a0 b_a0_pot).bind fun u9 =>
  if u9 = (Y18_warmth b_h) then
  (f_X12_strength b_a0 b_a0_pot).bind fun u11 =>
  if u11 = (Y18_strength b_h) then
  (f_X12_charge b_a0 b_a0_pot).bind fun u13 =>
  if u13 = (Y18_charge b_h) then
  (f_X12_lemons b_a0 b_a0_pot).bind fun u15 =>
  if u15 = (Y18_lemons b_h) then
  (f_X12_saucers b_a0 b_a0_pot).bind fun u17 =>
  if u17 = (Y18_saucers b_h) then
  (f_X12_coins b_a0 b_a0_pot).bind fun u19 =>
  if u19 = (Y18_coins b_h) then
  (f_X12_storms b_a0 b_a0_pot).bind fun u21 =>
  if u21 = (Y18_storms b_h) then
  (f_X12_seatedGuests n b_a0 b_a0_pot b_a0_pot_plan_guests).bind fun u23 =>
  (f_X18_guestsAt n 1 b_h).bind fun u24 =>
  if u23 = u24 then
  (f_X12_served n b_a0 b_a0_pot b_a0_pot_plan_guests).bind fun u26 =>
  (f_X18_guestsAt n 2 b_h).bind fun u27 =>
  if u26 = u27 then
  (f_X12_stormed n b_a0 b_a0_pot b_a0_pot_plan_guests).bind fun u29 =>
  (f_X18_guestsAt n 3 b_h).bind fun u30 =>
  if u29 = u30 then
  (f_X12_meanForce n b_a0 b_a0_pot b_a0_pot_plan_fronts).bind fun u32 =>
  if v3 = 0 then
  (f_X18_isSame_R429 n b_h b_a0 b_a0_pot b_a0_pot_plan_fronts b_a0_pot_plan_guests 0 u32).bind (fun x => some (Sum.inr x)) else
  if (FP.ddiv (FP.i2d v2) (FP.i2d v3)) &&& 0x7fffffffffffffff ≤ 0x7ff0000000000000 then
  (f_X18_isSame_R429 n b_h b_a0 b_a0_pot b_a0_pot_plan_fronts b_a0_pot_plan_guests (FP.ddiv (FP.i2d v2) (FP.i2d v3)) u32).bind (fun x => some (Sum.inr x)) else none else
  some (Sum.inr 0) else
  some (Sum.inr 0) else
  some (Sum.inr 0) else
  some (Sum.inr 0) else
  some (Sum.inr 0) else
  some (Sum.inr 0) else
  some (Sum.inr 0) else
  some (Sum.inr 0) else
  some (Sum.inr 0) else
  some (Sum.inr 0) else
  some (Sum.inr 0) else
  some (Sum.inr 0) else
  some (Sum.inr 0) else
  if v4 < 0 ∨ (Y18_ng b_h) ≤ v4.toNatClampNeg then none else
  (f_X12_isSeated_r v4 b_a0 b_a0_pot b_a0_pot_plan_guests).bind fun u37 =>
  if ((Y18_Gp b_h) v4.toNatClampNeg) = (1 : Int32) then
  f_X18_isSame_R188 n b_h b_a0 b_a0_pot b_a0_pot_plan_fronts b_a0_pot_plan_guests v2 v3 v4 v4.toNatClampNeg 1 u37 else
  f_X18_isSame_R188 n b_h b_a0 b_a0_pot b_a0_pot_plan_fronts b_a0_pot_plan_guests v2 v3 v4 v4.toNatClampNeg 0 u37
def f_X18_isSame_R121 (n : Nat) (b_h : bY18) (b_a0 : bX12) (b_a0_pot : bX8) (b_a0_pot_plan_fronts : bX2) (b_a0_pot_plan_guests : bX4) (v3 : Int32) (v4 : Int32) (v5 : Nat) (t0 : Int32) (t1 : Int32) : Option ((Int32 × Int32 × Int32) ⊕ (Int32)) :=
  if v5 < (Y18_nf b_h) then
  if ((Y18_Fp b_h) v5) = (1 : Int32) then
  some (Sum.inl ((t1 + t0), (v3 + 1), (v4 + 1))) else
  some (Sum.inl ((t1 + t0), (v3 + 0), (v4 + 1))) else none
def f_X18_isSame_R97 (n : Nat) (b_h : bY18) (b_a0 : bX12) (b_a0_pot : bX8) (b_a0_pot_plan_fronts : bX2) (b_a0_pot_plan_guests : bX4) (v2 : Int32) (v3 : Int32) (v4 : Int32) (v5 : Nat) (t0 : Int32) (t1 : Int32) : Option ((Int32 × Int32 × Int32) ⊕ (Int32)) :=
  if t1 = t0 then
  if v5 < (Y18_nf b_h) then
  if ((Y18_Fp b_h) v5) = (1 : Int32) then
  f_X18_isSame_R121 n b_h b_a0 b_a0_pot b_a0_pot_plan_fronts b_a0_pot_plan_guests v3 v4 v5 ((Y18_Ff b_h) v5) v2 else
  f_X18_isSame_R121 n b_h b_a0 b_a0_pot b_a0_pot_plan_fronts b_a0_pot_plan_guests v3 v4 v5 0 v2 else none else
  some (Sum.inr 0)
def f_X18_isSame_R74 (n : Nat) (b_h : bY18) (b_a0 : bX12) (b_a0_pot : bX8) (b_a0_pot_plan_fronts : bX2) (b_a0_pot_plan_guests : bX4) (v2 : Int32) (v3 : Int32) (v4 : Int32) (v5 : Nat) (t0 : Int32) (t1 : Int32) : Option ((Int32 × Int32 × Int32) ⊕ (Int32)) :=
  if t1 = t0 then
  (f_X12_isSteeped_r v4 b_a0 b_a0_pot b_a0_pot_plan_fronts).bind fun u59 =>
  if v5 < (Y18_nf b_h) then
  if ((Y18_Fp b_h) v5) = (2 : Int32) then
  f_X18_isSame_R97 n b_h b_a0 b_a0_pot b_a0_pot_plan_fronts b_a0_pot_plan_guests v2 v3 v4 v5 1 u59 else
  f_X18_isSame_R97 n b_h b_a0 b_a0_pot b_a0_pot_plan_fronts b_a0_pot_plan_guests v2 v3 v4 v5 0 u59 else none else
  some (Sum.inr 0)
def f_X18_isSame_L7 (n : Nat) (b_h : bY18) (b_a0 : bX12) (b_a0_pot : bX8) (b_a0_pot_plan_fronts : bX2) (b_a0_pot_plan_guests : bX4) (v2 : Int32) (v3 : Int32) (v4 : Int32) : Option ((Int32 × Int32 × Int32) ⊕ (Int32)) :=
  if (nI (Y18_nf b_h)) ≤ v4 then
  (iter (fun s : Int32 => f_X18_isSame_L149 n b_h b_a0 b_a0_pot b_a0_pot_plan_fronts b_a0_pot_plan_guests v2 v3 s) n 0).bind (fun x => some (Sum.inr x)) else
  if v4 < 0 ∨ (Y18_nf b_h) ≤ v4.toNatClampNeg then none else
  (f_X12_isWarm_r v4 b_a0 b_a0_pot b_a0_pot_plan_fronts).bind fun u52 =>
  if u52 = ((Y18_Fw b_h) v4.toNatClampNeg) then
  (f_X12_forceOf_r v4 b_a0 b_a0_pot b_a0_pot_plan_fronts).bind fun u54 =>
  if u54 = ((Y18_Ff b_h) v4.toNatClampNeg) then
  (f_X12_isOver_r v4 b_a0 b_a0_pot b_a0_pot_plan_fronts).bind fun u56 =>
  if ((Y18_Fp b_h) v4.toNatClampNeg) = (1 : Int32) then
  f_X18_isSame_R74 n b_h b_a0 b_a0_pot b_a0_pot_plan_fronts b_a0_pot_plan_guests v2 v3 v4 v4.toNatClampNeg 1 u56 else
  f_X18_isSame_R74 n b_h b_a0 b_a0_pot b_a0_pot_plan_fronts b_a0_pot_plan_guests v2 v3 v4 v4.toNatClampNeg 0 u56 else
  some (Sum.inr 0) else
  some (Sum.inr 0)
def f_X18_isSame (n : Nat) (b_h : bY18) (b_a0 : bX12) (b_a0_pot : bX8) (b_a0_pot_plan_fronts : bX2) (b_a0_pot_plan_guests : bX4) : Option (Int32) :=
  iter (fun s : Int32 × Int32 × Int32 => f_X18_isSame_L7 n b_h b_a0 b_a0_pot b_a0_pot_plan_fronts b_a0_pot_plan_guests s.1 s.2.1 s.2.2) n (0, 0, 0)
