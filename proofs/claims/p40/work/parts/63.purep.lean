/-! the pot by hand: what its cells hold, with its fronts and guests -/
abbrev bY18 : Type := Int32 × Int32 × Int32 × Int32 × Int32 × Int32 × Int32 × Int32 × (Nat → Int32) × (Nat → Int32) × (Nat → Int32) × (Nat → Int32) × (Nat → Int32) × (Nat → Int32) × (Nat → Int32) × (Nat → Int32) × (Nat → Int32) × (Nat → Int32) × Nat × Nat
abbrev Y18_hour (b : bY18) : Int32 := b.1
abbrev Y18_warmth (b : bY18) : Int32 := b.2.1
abbrev Y18_strength (b : bY18) : Int32 := b.2.2.1
abbrev Y18_charge (b : bY18) : Int32 := b.2.2.2.1
abbrev Y18_lemons (b : bY18) : Int32 := b.2.2.2.2.1
abbrev Y18_saucers (b : bY18) : Int32 := b.2.2.2.2.2.1
abbrev Y18_coins (b : bY18) : Int32 := b.2.2.2.2.2.2.1
abbrev Y18_storms (b : bY18) : Int32 := b.2.2.2.2.2.2.2.1
abbrev Y18_Fw (b : bY18) : Nat → Int32 := b.2.2.2.2.2.2.2.2.1
abbrev Y18_Ff (b : bY18) : Nat → Int32 := b.2.2.2.2.2.2.2.2.2.1
abbrev Y18_Fa (b : bY18) : Nat → Int32 := b.2.2.2.2.2.2.2.2.2.2.1
abbrev Y18_Fs (b : bY18) : Nat → Int32 := b.2.2.2.2.2.2.2.2.2.2.2.1
abbrev Y18_Fp (b : bY18) : Nat → Int32 := b.2.2.2.2.2.2.2.2.2.2.2.2.1
abbrev Y18_Ga (b : bY18) : Nat → Int32 := b.2.2.2.2.2.2.2.2.2.2.2.2.2.1
abbrev Y18_Gl (b : bY18) : Nat → Int32 := b.2.2.2.2.2.2.2.2.2.2.2.2.2.2.1
abbrev Y18_Gh (b : bY18) : Nat → Int32 := b.2.2.2.2.2.2.2.2.2.2.2.2.2.2.2.1
abbrev Y18_Gn (b : bY18) : Nat → Int32 := b.2.2.2.2.2.2.2.2.2.2.2.2.2.2.2.2.1
abbrev Y18_Gp (b : bY18) : Nat → Int32 := b.2.2.2.2.2.2.2.2.2.2.2.2.2.2.2.2.2.1
abbrev Y18_nf (b : bY18) : Nat := b.2.2.2.2.2.2.2.2.2.2.2.2.2.2.2.2.2.2.1
abbrev Y18_ng (b : bY18) : Nat := b.2.2.2.2.2.2.2.2.2.2.2.2.2.2.2.2.2.2.2

def f_L_below (x0 : Int32) (x1 : Int32) : Option (Int32) :=
  if x1 = 0 then none else
  some ((x0 &&& 2147483647) - (x0 &&& 2147483647) / x1 * x1)

def f_X13_next (x0 : Int32) (b_h : bX13) : Option (Int32 × Int32) :=
  (f_L_below ((((X13_state b_h) * 1103515245) + 12345) >>> (9 &&& 31)) x0).bind fun u1 =>
  some (u1, (((X13_state b_h) * 1103515245) + 12345))

def f_X18_likes (x0 : Nat) (x1 : Int32) (b_h : bY18) : Option (Int32) :=
  if x0 < (Y18_ng b_h) then
  if ((Y18_Gp b_h) x0) = (1 : Int32) then
  if x1 < ((Y18_Gl b_h) x0) then
  some 0 else
  if ((Y18_Gh b_h) x0) < x1 then
  some 0 else
  if (Y18_warmth b_h) ≤ (14 : Int32) then
  some 0 else
  some 1 else
  some 0 else none

def f_X18_isSteeped (x0 : Int32) (b_h : bY18) : Option (Int32 × Int32 × (Nat → Int32)) :=
  if x0 < 0 ∨ (Y18_nf b_h) ≤ x0.toNatClampNeg then none else
  if ((Y18_Fp b_h) x0.toNatClampNeg) = (1 : Int32) then
  if x0 < 0 ∨ (Y18_nf b_h) ≤ x0.toNatClampNeg then none else
  if x0 < 0 ∨ (Y18_nf b_h) ≤ x0.toNatClampNeg then none else
  if ((Y18_strength b_h) + ((Y18_Ff b_h) x0.toNatClampNeg)) ≤ (30 : Int32) then
  if x0 < 0 ∨ (Y18_nf b_h) ≤ x0.toNatClampNeg then none else
  some (1, ((Y18_strength b_h) + ((Y18_Ff b_h) x0.toNatClampNeg)), (upd (Y18_Fp b_h) x0.toNatClampNeg 2)) else
  some (1, 30, (upd (Y18_Fp b_h) x0.toNatClampNeg 2)) else
  some (0, (Y18_strength b_h), (Y18_Fp b_h))

def f_X18_isSqueezed (b_h : bY18) : Option (Int32 × Int32 × Int32) :=
  if (Y18_lemons b_h) = 0 then
  some (0, (Y18_charge b_h), (Y18_lemons b_h)) else
  if (Y18_charge b_h) ≤ (24 : Int32) then
  some (1, ((Y18_charge b_h) + 6), ((Y18_lemons b_h) - 1)) else
  some (1, 30, ((Y18_lemons b_h) - 1))

def f_X18_isCalmed (b_h : bY18) : Option (Int32 × Int32 × Int32) :=
  if (Y18_saucers b_h) = 0 then
  some (0, (Y18_charge b_h), (Y18_saucers b_h)) else
  if (5 : Int32) ≤ (Y18_charge b_h) then
  some (1, ((Y18_charge b_h) - 5), ((Y18_saucers b_h) - 1)) else
  some (1, 0, ((Y18_saucers b_h) - 1))

def f_X18_isServed (x0 : Int32) (b_h : bY18) : Option (Int32 × Int32 × Int32 × (Nat → Int32)) :=
  if x0 < 0 ∨ (Y18_ng b_h) ≤ x0.toNatClampNeg then none else
  (f_X18_likes x0.toNatClampNeg (Y18_strength b_h) b_h).bind fun u2 =>
  if u2 = 0 then
  some (0, (Y18_strength b_h), (Y18_coins b_h), (Y18_Gp b_h)) else
  if x0 < 0 ∨ (Y18_ng b_h) ≤ x0.toNatClampNeg then none else
  if (3 : Int32) ≤ (Y18_strength b_h) then
  some (1, ((Y18_strength b_h) - 3), ((Y18_coins b_h) + (Y18_strength b_h)), (upd (Y18_Gp b_h) x0.toNatClampNeg 2)) else
  some (1, 0, ((Y18_coins b_h) + (Y18_strength b_h)), (upd (Y18_Gp b_h) x0.toNatClampNeg 2))

def f_X18_come_L54 (n : Nat) (b_h : bY18) (v2 : Int32) (v3 : Int32) (w_h_Fp : Nat → Int32) (w_h_Gp : Nat → Int32) : Option ((Int32 × (Nat → Int32)) ⊕ ((Nat → Int32) × (Nat → Int32))) :=
  if v2 ≤ v3 then
  some (Sum.inr (w_h_Fp, w_h_Gp)) else
  if v3 < 0 ∨ (Y18_ng b_h) ≤ v3.toNatClampNeg then none else
  if ((Y18_Ga b_h) v3.toNatClampNeg) = (Y18_hour b_h) then
  some (Sum.inl ((v3 + 1), (upd w_h_Gp v3.toNatClampNeg 1))) else
  some (Sum.inl ((v3 + 1), w_h_Gp))
def f_X18_come_L10 (n : Nat) (b_h : bY18) (v2 : Int32) (v3 : Int32) (w_h_Fp : Nat → Int32) (w_h_Gp : Nat → Int32) : Option ((Int32 × (Nat → Int32)) ⊕ ((Nat → Int32) × (Nat → Int32))) :=
  if v2 ≤ v3 then
  (iter (fun s : Int32 × (Nat → Int32) => f_X18_come_L54 n b_h (nI (Y18_ng b_h)) s.1 w_h_Fp s.2) n (0, w_h_Gp)).bind (fun x => some (Sum.inr x)) else
  if v3 < 0 ∨ (Y18_nf b_h) ≤ v3.toNatClampNeg then none else
  if ((Y18_Fa b_h) v3.toNatClampNeg) = (Y18_hour b_h) then
  some (Sum.inl ((v3 + 1), (upd w_h_Fp v3.toNatClampNeg 1))) else
  some (Sum.inl ((v3 + 1), w_h_Fp))
def f_X18_come (n : Nat) (b_h : bY18) : Option ((Nat → Int32) × (Nat → Int32)) :=
  iter (fun s : Int32 × (Nat → Int32) => f_X18_come_L10 n b_h (nI (Y18_nf b_h)) s.1 s.2 (Y18_Gp b_h)) n (0, (Y18_Fp b_h))

def f_X18_guestsAt_L14 (n : Nat) (x0 : Int32) (b_h : bY18) (v1 : Int32) (v2 : Int32) (v4 : Int32) (v5 : Int32) : Option ((Int32 × Int32) ⊕ (Int32)) :=
  if v4 ≤ v5 then
  some (Sum.inr v2) else
  if v5 < 0 ∨ (Y18_ng b_h) ≤ v5.toNatClampNeg then none else
  if ((Y18_Gp b_h) v5.toNatClampNeg) = v1 then
  some (Sum.inl ((v2 + 1), (v5 + 1))) else
  some (Sum.inl ((v2 + 0), (v5 + 1)))
def f_X18_guestsAt (n : Nat) (x0 : Int32) (b_h : bY18) : Option (Int32) :=
  iter (fun s : Int32 × Int32 => f_X18_guestsAt_L14 n x0 b_h x0 s.1 (nI (Y18_ng b_h)) s.2) n (0, 0)
