/-! what pass reckons -/
def f_X18_pass_L434 (n : Nat) (os : List Od) (b_h : bY18) (v4 : Int32) (v6 : Int32) (v7 : Int32) (w_h_hour : Int32) (w_h_warmth : Int32) (w_h_strength : Int32) (w_h_charge : Int32) (w_h_lemons : Int32) (w_h_saucers : Int32) (w_h_coins : Int32) (w_h_storms : Int32) (w_h_Fp : Nat → Int32) (w_h_Gp : Nat → Int32) : Option ((Int32 × (Nat → Int32)) ⊕ (Int32 × Int32 × Int32 × Int32 × Int32 × Int32 × Int32 × Int32 × Int32 × (Nat → Int32) × (Nat → Int32))) :=
  if v6 ≤ v7 then
  (f_X18_come n (w_h_hour, w_h_warmth, w_h_strength, w_h_charge, w_h_lemons, w_h_saucers, w_h_coins, w_h_storms, (Y18_Fw b_h), (Y18_Ff b_h), (Y18_Fa b_h), (Y18_Fs b_h), w_h_Fp, (Y18_Ga b_h), (Y18_Gl b_h), (Y18_Gh b_h), (Y18_Gn b_h), w_h_Gp, (Y18_nf b_h), (Y18_ng b_h))).bind fun u12 =>
  if v4 = 0 then
  some (Sum.inr (0, w_h_hour, w_h_warmth, w_h_strength, w_h_charge, w_h_lemons, w_h_saucers, w_h_coins, w_h_storms, u12.1, u12.2)) else
  some (Sum.inr (1, w_h_hour, w_h_warmth, w_h_strength, w_h_charge, w_h_lemons, w_h_saucers, w_h_coins, w_h_storms, u12.1, u12.2)) else
  if v7 < 0 ∨ (Y18_ng b_h) ≤ v7.toNatClampNeg then none else
  if (w_h_Gp v7.toNatClampNeg) = (1 : Int32) then
  if w_h_hour < (((Y18_Ga b_h) v7.toNatClampNeg) + 8) then
  some (Sum.inl ((v7 + 1), w_h_Gp)) else
  some (Sum.inl ((v7 + 1), (upd w_h_Gp v7.toNatClampNeg 0))) else
  some (Sum.inl ((v7 + 1), w_h_Gp))
def f_X18_pass_L367 (n : Nat) (os : List Od) (b_h : bY18) (v4 : Int32) (v6 : Int32) (v7 : Int32) (w_h_hour : Int32) (w_h_warmth : Int32) (w_h_strength : Int32) (w_h_charge : Int32) (w_h_lemons : Int32) (w_h_saucers : Int32) (w_h_coins : Int32) (w_h_storms : Int32) (w_h_Fp : Nat → Int32) (w_h_Gp : Nat → Int32) : Option ((Int32 × (Nat → Int32)) ⊕ (Int32 × Int32 × Int32 × Int32 × Int32 × Int32 × Int32 × Int32 × Int32 × (Nat → Int32) × (Nat → Int32))) :=
  if v6 ≤ v7 then
  (iter (fun s : Int32 × (Nat → Int32) => f_X18_pass_L434 n os b_h v4 (nI (Y18_ng b_h)) s.1 w_h_hour w_h_warmth w_h_strength w_h_charge w_h_lemons w_h_saucers w_h_coins w_h_storms w_h_Fp s.2) n (0, w_h_Gp)).bind (fun x => some (Sum.inr x)) else
  if v7 < 0 ∨ (Y18_nf b_h) ≤ v7.toNatClampNeg then none else
  if (w_h_Fp v7.toNatClampNeg) = (1 : Int32) then
  if w_h_hour < (((Y18_Fa b_h) v7.toNatClampNeg) + ((Y18_Fs b_h) v7.toNatClampNeg)) then
  some (Sum.inl ((v7 + 1), w_h_Fp)) else
  some (Sum.inl ((v7 + 1), (upd w_h_Fp v7.toNatClampNeg 0))) else
  some (Sum.inl ((v7 + 1), w_h_Fp))
def f_X18_pass_R343 (n : Nat) (os : List Od) (b_h : bY18) (v4 : Int32) (w_h_hour : Int32) (w_h_warmth : Int32) (w_h_strength : Int32) (w_h_charge : Int32) (w_h_lemons : Int32) (w_h_saucers : Int32) (w_h_coins : Int32) (w_h_storms : Int32) (w_h_Fp : Nat → Int32) (w_h_Gp : Nat → Int32) : Option (Int32 × Int32 × Int32 × Int32 × Int32 × Int32 × Int32 × Int32 × Int32 × (Nat → Int32) × (Nat → Int32)) :=
  iter (fun s : Int32 × (Nat → Int32) => f_X18_pass_L367 n os b_h v4 (nI (Y18_nf b_h)) s.1 (w_h_hour + 1) w_h_warmth w_h_strength w_h_charge w_h_lemons w_h_saucers w_h_coins w_h_storms s.2 w_h_Gp) n (0, w_h_Fp)
def f_X18_pass_L265 (n : Nat) (os : List Od) (b_h : bY18) (v4 : Int32) (v6 : Int32) (v7 : Int32) (w_h_hour : Int32) (w_h_warmth : Int32) (w_h_strength : Int32) (w_h_charge : Int32) (w_h_lemons : Int32) (w_h_saucers : Int32) (w_h_coins : Int32) (w_h_storms : Int32) (w_h_Fp : Nat → Int32) (w_h_Gp : Nat → Int32) : Option ((Int32 × (Nat → Int32)) ⊕ (Int32 × Int32 × Int32 × Int32 × Int32 × Int32 × Int32 × Int32 × Int32 × (Nat → Int32) × (Nat → Int32))) :=
  if v6 ≤ v7 then
  (f_X18_pass_R343 n os b_h v4 w_h_hour w_h_warmth (w_h_strength / 2) (w_h_charge - 12) w_h_lemons w_h_saucers w_h_coins (w_h_storms + 1) w_h_Fp w_h_Gp).bind (fun x => some (Sum.inr x)) else
  if v7 < 0 ∨ (Y18_ng b_h) ≤ v7.toNatClampNeg then none else
  if (w_h_Gp v7.toNatClampNeg) = (1 : Int32) then
  if w_h_charge ≤ ((Y18_Gn b_h) v7.toNatClampNeg) then
  some (Sum.inl ((v7 + 1), w_h_Gp)) else
  some (Sum.inl ((v7 + 1), (upd w_h_Gp v7.toNatClampNeg 3))) else
  some (Sum.inl ((v7 + 1), w_h_Gp))
def f_X18_pass_R244 (n : Nat) (os : List Od) (b_h : bY18) (w_h_hour : Int32) (w_h_warmth : Int32) (w_h_strength : Int32) (w_h_charge : Int32) (w_h_lemons : Int32) (w_h_saucers : Int32) (w_h_coins : Int32) (w_h_storms : Int32) (w_h_Fp : Nat → Int32) (w_h_Gp : Nat → Int32) (t0 : Int32) : Option (Int32 × Int32 × Int32 × Int32 × Int32 × Int32 × Int32 × Int32 × Int32 × (Nat → Int32) × (Nat → Int32)) :=
  if t0 = 0 then
  f_X18_pass_R343 n os b_h t0 w_h_hour w_h_warmth w_h_strength w_h_charge w_h_lemons w_h_saucers w_h_coins w_h_storms w_h_Fp w_h_Gp else
  iter (fun s : Int32 × (Nat → Int32) => f_X18_pass_L265 n os b_h t0 (nI (Y18_ng b_h)) s.1 w_h_hour w_h_warmth w_h_strength w_h_charge w_h_lemons w_h_saucers w_h_coins w_h_storms w_h_Fp s.2) n (0, w_h_Gp)
def f_X18_pass_R230 (n : Nat) (os : List Od) (b_h : bY18) (w_h_hour : Int32) (w_h_warmth : Int32) (w_h_strength : Int32) (w_h_charge : Int32) (w_h_lemons : Int32) (w_h_saucers : Int32) (w_h_coins : Int32) (w_h_storms : Int32) (w_h_Fp : Nat → Int32) (w_h_Gp : Nat → Int32) : Option (Int32 × Int32 × Int32 × Int32 × Int32 × Int32 × Int32 × Int32 × Int32 × (Nat → Int32) × (Nat → Int32)) :=
  if w_h_charge < (12 : Int32) then
  f_X18_pass_R244 n os b_h w_h_hour w_h_warmth w_h_strength w_h_charge w_h_lemons w_h_saucers w_h_coins w_h_storms w_h_Fp w_h_Gp 0 else
  f_X18_pass_R244 n os b_h w_h_hour w_h_warmth w_h_strength w_h_charge w_h_lemons w_h_saucers w_h_coins w_h_storms w_h_Fp w_h_Gp 1
def f_X18_pass_R211 (n : Nat) (os : List Od) (b_h : bY18) (w_h_hour : Int32) (w_h_warmth : Int32) (w_h_strength : Int32) (w_h_charge : Int32) (w_h_lemons : Int32) (w_h_saucers : Int32) (w_h_coins : Int32) (w_h_storms : Int32) (w_h_Fp : Nat → Int32) (w_h_Gp : Nat → Int32) (t0 : Int32) (t1 : Int32) : Option (Int32 × Int32 × Int32 × Int32 × Int32 × Int32 × Int32 × Int32 × Int32 × (Nat → Int32) × (Nat → Int32)) :=
  if (t1 + t0) ≤ (30 : Int32) then
  f_X18_pass_R230 n os b_h w_h_hour w_h_warmth w_h_strength (t1 + t0) w_h_lemons w_h_saucers w_h_coins w_h_storms w_h_Fp w_h_Gp else
  f_X18_pass_R230 n os b_h w_h_hour w_h_warmth w_h_strength 30 w_h_lemons w_h_saucers w_h_coins w_h_storms w_h_Fp w_h_Gp
def f_X18_pass_R196 (n : Nat) (os : List Od) (b_h : bY18) (v2 : Int32) (v3 : Int32) (w_h_hour : Int32) (w_h_warmth : Int32) (w_h_strength : Int32) (w_h_charge : Int32) (w_h_lemons : Int32) (w_h_saucers : Int32) (w_h_coins : Int32) (w_h_storms : Int32) (w_h_Fp : Nat → Int32) (w_h_Gp : Nat → Int32) : Option (Int32 × Int32 × Int32 × Int32 × Int32 × Int32 × Int32 × Int32 × Int32 × (Nat → Int32) × (Nat → Int32)) :=
  if v3 ≤ v2 then
  f_X18_pass_R211 n os b_h w_h_hour w_h_warmth w_h_strength w_h_charge w_h_lemons w_h_saucers w_h_coins w_h_storms w_h_Fp w_h_Gp v3 w_h_charge else
  f_X18_pass_R211 n os b_h w_h_hour w_h_warmth w_h_strength w_h_charge w_h_lemons w_h_saucers w_h_coins w_h_storms w_h_Fp w_h_Gp v2 w_h_charge
def f_X18_pass_R181 (n : Nat) (os : List Od) (b_h : bY18) (v2 : Int32) (v3 : Int32) (w_h_hour : Int32) (w_h_warmth : Int32) (w_h_strength : Int32) (w_h_charge : Int32) (w_h_lemons : Int32) (w_h_saucers : Int32) (w_h_coins : Int32) (w_h_storms : Int32) (w_h_Fp : Nat → Int32) (w_h_Gp : Nat → Int32) : Option (Int32 × Int32 × Int32 × Int32 × Int32 × Int32 × Int32 × Int32 × Int32 × (Nat → Int32) × (Nat → Int32)) :=
  if w_h_warmth ≤ (40 : Int32) then
  f_X18_pass_R196 n os b_h v2 v3 w_h_hour w_h_warmth w_h_strength w_h_charge w_h_lemons w_h_saucers w_h_coins w_h_storms w_h_Fp w_h_Gp else
  f_X18_pass_R196 n os b_h v2 v3 w_h_hour 40 w_h_strength w_h_charge w_h_lemons w_h_saucers w_h_coins w_h_storms w_h_Fp w_h_Gp
def f_X18_pass_R150 (n : Nat) (os : List Od) (b_h : bY18) (v2 : Int32) (v3 : Int32) (w_h_hour : Int32) (w_h_warmth : Int32) (w_h_strength : Int32) (w_h_charge : Int32) (w_h_lemons : Int32) (w_h_saucers : Int32) (w_h_coins : Int32) (w_h_storms : Int32) (w_h_Fp : Nat → Int32) (w_h_Gp : Nat → Int32) (t0 : Int32) (t1 : Int32) : Option (Int32 × Int32 × Int32 × Int32 × Int32 × Int32 × Int32 × Int32 × Int32 × (Nat → Int32) × (Nat → Int32)) :=
  f_X18_pass_R196 n os b_h v2 v3 w_h_hour (t1 + t0) w_h_strength w_h_charge w_h_lemons w_h_saucers w_h_coins w_h_storms w_h_Fp w_h_Gp
def f_X18_pass_L52 (n : Nat) (os : List Od) (b_h : bY18) (v1 : Int32) (v2 : Int32) (v3 : Int32) (v5 : Int32) (v6 : Int32) (w_h_hour : Int32) (w_h_warmth : Int32) (w_h_strength : Int32) (w_h_charge : Int32) (w_h_lemons : Int32) (w_h_saucers : Int32) (w_h_coins : Int32) (w_h_storms : Int32) (w_h_Fp : Nat → Int32) (w_h_Gp : Nat → Int32) : Option ((Int32 × Int32 × Int32 × Int32) ⊕ (Int32 × Int32 × Int32 × Int32 × Int32 × Int32 × Int32 × Int32 × Int32 × (Nat → Int32) × (Nat → Int32))) :=
  if v5 ≤ v6 then
  if v1 = 0 then
  if (20 : Int32) ≤ w_h_warmth then
  if w_h_warmth ≤ (20 : Int32) then
  (f_X18_pass_R150 n os b_h v2 v3 w_h_hour w_h_warmth w_h_strength w_h_charge w_h_lemons w_h_saucers w_h_coins w_h_storms w_h_Fp w_h_Gp 0 w_h_warmth).bind (fun x => some (Sum.inr x)) else
  (f_X18_pass_R150 n os b_h v2 v3 w_h_hour w_h_warmth w_h_strength w_h_charge w_h_lemons w_h_saucers w_h_coins w_h_storms w_h_Fp w_h_Gp (-1) w_h_warmth).bind (fun x => some (Sum.inr x)) else
  (f_X18_pass_R150 n os b_h v2 v3 w_h_hour w_h_warmth w_h_strength w_h_charge w_h_lemons w_h_saucers w_h_coins w_h_storms w_h_Fp w_h_Gp 1 w_h_warmth).bind (fun x => some (Sum.inr x)) else
  if 0 ≤ (w_h_warmth + (v2 - v3)) then
  (f_X18_pass_R181 n os b_h v2 v3 w_h_hour (w_h_warmth + (v2 - v3)) w_h_strength w_h_charge w_h_lemons w_h_saucers w_h_coins w_h_storms w_h_Fp w_h_Gp).bind (fun x => some (Sum.inr x)) else
  (f_X18_pass_R181 n os b_h v2 v3 w_h_hour 0 w_h_strength w_h_charge w_h_lemons w_h_saucers w_h_coins w_h_storms w_h_Fp w_h_Gp).bind (fun x => some (Sum.inr x)) else
  if v6 < 0 ∨ (Y18_nf b_h) ≤ v6.toNatClampNeg then none else
  if (w_h_Fp v6.toNatClampNeg) = (1 : Int32) then
  if ((Y18_Fw b_h) v6.toNatClampNeg) = 0 then
  some (Sum.inl ((v1 + 1), v2, (v3 + ((Y18_Ff b_h) v6.toNatClampNeg)), (v6 + 1))) else
  some (Sum.inl ((v1 + 1), (v2 + ((Y18_Ff b_h) v6.toNatClampNeg)), v3, (v6 + 1))) else
  some (Sum.inl (v1, v2, v3, (v6 + 1)))
def f_X18_pass_L10 (n : Nat) (os : List Od) (b_h : bY18) (v2 : Int32) (v3 : Int32) (w_h_hour : Int32) (w_h_warmth : Int32) (w_h_strength : Int32) (w_h_charge : Int32) (w_h_lemons : Int32) (w_h_saucers : Int32) (w_h_coins : Int32) (w_h_storms : Int32) (w_h_Fp : Nat → Int32) (w_h_Gp : Nat → Int32) : Option ((Int32 × Int32 × Int32 × Int32 × Int32 × Int32 × (Nat → Int32) × (Nat → Int32)) ⊕ (Int32 × Int32 × Int32 × Int32 × Int32 × Int32 × Int32 × Int32 × Int32 × (Nat → Int32) × (Nat → Int32))) :=
  if v2 ≤ v3 then
  (iter (fun s : Int32 × Int32 × Int32 × Int32 => f_X18_pass_L52 n os b_h s.1 s.2.1 s.2.2.1 (nI (Y18_nf b_h)) s.2.2.2 w_h_hour w_h_warmth w_h_strength w_h_charge w_h_lemons w_h_saucers w_h_coins w_h_storms w_h_Fp w_h_Gp) n (0, 0, 0, 0)).bind (fun x => some (Sum.inr x)) else
  if v3 < 0 ∨ os.length ≤ v3.toNatClampNeg then none else
  (f_X17_carryOut os v3.toNatClampNeg (w_h_hour, w_h_warmth, w_h_strength, w_h_charge, w_h_lemons, w_h_saucers, w_h_coins, w_h_storms, (Y18_Fw b_h), (Y18_Ff b_h), (Y18_Fa b_h), (Y18_Fs b_h), w_h_Fp, (Y18_Ga b_h), (Y18_Gl b_h), (Y18_Gh b_h), (Y18_Gn b_h), w_h_Gp, (Y18_nf b_h), (Y18_ng b_h))).bind fun u31 =>
  some (Sum.inl ((v3 + 1), u31.1, u31.2.1, u31.2.2.1, u31.2.2.2.1, u31.2.2.2.2.1, u31.2.2.2.2.2.1, u31.2.2.2.2.2.2))
def f_X18_pass (n : Nat) (os : List Od) (b_h : bY18) : Option (Int32 × Int32 × Int32 × Int32 × Int32 × Int32 × Int32 × Int32 × Int32 × (Nat → Int32) × (Nat → Int32)) :=
  iter (fun s : Int32 × Int32 × Int32 × Int32 × Int32 × Int32 × (Nat → Int32) × (Nat → Int32) => f_X18_pass_L10 n os b_h (nI os.length) s.1 (Y18_hour b_h) (Y18_warmth b_h) s.2.1 s.2.2.1 s.2.2.2.1 s.2.2.2.2.1 s.2.2.2.2.2.1 (Y18_storms b_h) s.2.2.2.2.2.2.1 s.2.2.2.2.2.2.2) n (0, (Y18_strength b_h), (Y18_charge b_h), (Y18_lemons b_h), (Y18_saucers b_h), (Y18_coins b_h), (Y18_Fp b_h), (Y18_Gp b_h))

def f_X18_pass__L4 (n : Nat) (os : List Od) (x0 : Int32) (b_h : bY18) (v1 : Int32) (v2 : Int32) (v3 : Int32) (w_h_hour : Int32) (w_h_warmth : Int32) (w_h_strength : Int32) (w_h_charge : Int32) (w_h_lemons : Int32) (w_h_saucers : Int32) (w_h_coins : Int32) (w_h_storms : Int32) (w_h_Fp : Nat → Int32) (w_h_Gp : Nat → Int32) : Option ((Int32 × Int32 × Int32 × Int32 × Int32 × Int32 × Int32 × Int32 × Int32 × Int32 × (Nat → Int32) × (Nat → Int32)) ⊕ (Int32 × Int32 × Int32 × Int32 × Int32 × Int32 × Int32 × Int32 × Int32 × (Nat → Int32) × (Nat → Int32))) :=
  if v1 ≤ v3 then
  some (Sum.inr (v2, w_h_hour, w_h_warmth, w_h_strength, w_h_charge, w_h_lemons, w_h_saucers, w_h_coins, w_h_storms, w_h_Fp, w_h_Gp)) else
  (f_X18_pass n os (w_h_hour, w_h_warmth, w_h_strength, w_h_charge, w_h_lemons, w_h_saucers, w_h_coins, w_h_storms, (Y18_Fw b_h), (Y18_Ff b_h), (Y18_Fa b_h), (Y18_Fs b_h), w_h_Fp, (Y18_Ga b_h), (Y18_Gl b_h), (Y18_Gh b_h), (Y18_Gn b_h), w_h_Gp, (Y18_nf b_h), (Y18_ng b_h))).bind fun u2 =>
  some (Sum.inl ((v2 + u2.1), (v3 + 1), u2.2.1, u2.2.2.1, u2.2.2.2.1, u2.2.2.2.2.1, u2.2.2.2.2.2.1, u2.2.2.2.2.2.2.1, u2.2.2.2.2.2.2.2.1, u2.2.2.2.2.2.2.2.2.1, u2.2.2.2.2.2.2.2.2.2.1, u2.2.2.2.2.2.2.2.2.2.2))
def f_X18_pass_ (n : Nat) (os : List Od) (x0 : Int32) (b_h : bY18) : Option (Int32 × Int32 × Int32 × Int32 × Int32 × Int32 × Int32 × Int32 × Int32 × (Nat → Int32) × (Nat → Int32)) :=
  iter (fun s : Int32 × Int32 × Int32 × Int32 × Int32 × Int32 × Int32 × Int32 × Int32 × Int32 × (Nat → Int32) × (Nat → Int32) => f_X18_pass__L4 n os x0 b_h x0 s.1 s.2.1 s.2.2.1 s.2.2.2.1 s.2.2.2.2.1 s.2.2.2.2.2.1 s.2.2.2.2.2.2.1 s.2.2.2.2.2.2.2.1 s.2.2.2.2.2.2.2.2.1 s.2.2.2.2.2.2.2.2.2.1 s.2.2.2.2.2.2.2.2.2.2.1 s.2.2.2.2.2.2.2.2.2.2.2) n (0, 0, (Y18_hour b_h), (Y18_warmth b_h), (Y18_strength b_h), (Y18_charge b_h), (Y18_lemons b_h), (Y18_saucers b_h), (Y18_coins b_h), (Y18_storms b_h), (Y18_Fp b_h), (Y18_Gp b_h))
