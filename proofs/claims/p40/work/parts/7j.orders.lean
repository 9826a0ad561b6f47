/-! tests have a value; an order is carried out -/
theorem both_tot (x a b : Int32) : ∃ v, f_X16_both x a b = some v := by
  refine Option.isSome_iff_exists.mp ?_
  have h2 : ∀ (p : Prop) [Decidable p] (u v : Option Int32), u.isSome = true → v.isSome = true → (if p then u else v).isSome = true := fun p _ u v hu hv => by
    by_cases hp : p
    · rw [if_pos hp]; exact hu
    · rw [if_neg hp]; exact hv
  have h9 : (if b = 0 then some 0 else if b = 0 then none else some (a / b) : Option Int32).isSome = true := by
    by_cases hb : b = 0
    · rw [if_pos hb]; rfl
    · rw [if_neg hb, if_neg hb]; rfl
  unfold f_X16_both
  repeat' (first | exact h9 | rfl | apply h2)
theorem val_s (h : Nat) (t : Nd (h + 1)) (b : bY18) : f_X16_value (h + 1) t b = if (nI t.1) = 0 then some (nI t.2.1) else if (nI t.1) = 1 then (if (nI t.2.1) = 0 then some (Y18_hour b) else if (nI t.2.1) = (1 : Int32) then some (Y18_warmth b) else if (nI t.2.1) = (2 : Int32) then some (Y18_strength b) else if (nI t.2.1) = (3 : Int32) then some (Y18_charge b) else if (nI t.2.1) = (4 : Int32) then some (Y18_lemons b) else if (nI t.2.1) = (5 : Int32) then some (Y18_saucers b) else some (Y18_storms b)) else if (nI t.1) = 2 then (if (nI t.2.1) < 0 ∨ (Y18_nf b) ≤ (nI t.2.1).toNatClampNeg then none else some ((Y18_Ff b) ((nI t.2.1).toNatClampNeg))) else if (nI t.1) = 3 then (t.2.2.1).bind (fun c13 => (f_X16_value h c13 b).bind fun u12 => some (0 - u12)) else if (nI t.1) = 15 then (if (nI t.2.1) < 0 ∨ (Y18_nf b) ≤ (nI t.2.1).toNatClampNeg then none else if ((Y18_Fp b) ((nI t.2.1).toNatClampNeg)) = (1 : Int32) then some 1 else some 0) else if (nI t.1) = 16 then (if (nI t.2.1) < 0 ∨ (Y18_ng b) ≤ (nI t.2.1).toNatClampNeg then none else if ((Y18_Gp b) ((nI t.2.1).toNatClampNeg)) = (1 : Int32) then some 1 else some 0) else if (nI t.1) = 17 then (if (nI t.2.1) < 0 ∨ (Y18_ng b) ≤ (nI t.2.1).toNatClampNeg then none else (f_X18_likes ((nI t.2.1).toNatClampNeg) (Y18_strength b) b).bind fun u22 => if u22 = 0 then some 0 else some 1) else if (nI t.1) = 18 then (t.2.2.1).bind (fun c26 => (f_X16_value h c26 b).bind fun u25 => some (1 - u25)) else (t.2.2.1).bind fun c28 => (f_X16_value h c28 b).bind fun u27 => (t.2.2.2).bind fun c30 => (f_X16_value h c30 b).bind fun u29 => (f_X16_both (nI t.1) u27 u29).bind fun u31 => some u31 := rfl
def VlOk (nf ng : Nat) : (h : Nat) → Nd h → Prop
  | 0, _ => False
  | h + 1, t => (t.1 ≤ 1) ∨ (t.1 = 2 ∧ t.2.1 < nf) ∨ (t.1 = 3 ∧ one (VlOk nf ng h) t.2.2.1) ∨ (t.1 = 15 ∧ t.2.1 < nf) ∨ ((t.1 = 16 ∨ t.1 = 17) ∧ t.2.1 < ng) ∨ (t.1 = 18 ∧ one (VlOk nf ng h) t.2.2.1) ∨ (((4 ≤ t.1 ∧ t.1 < 15) ∨ t.1 = 19 ∨ t.1 = 20) ∧ one (VlOk nf ng h) t.2.2.1 ∧ one (VlOk nf ng h) t.2.2.2)
theorem S0_vl {nf ng h : Nat} {t : Nd (h + 1)} (H : S0 nf h t) : VlOk nf ng (h + 1) t := by
  obtain ⟨⟨h1, h2⟩ | ⟨h1, h2⟩ | ⟨h1, h2⟩, -⟩ := H
  · exact Or.inl (by omega)
  · exact Or.inl (by omega)
  · exact Or.inr (Or.inl ⟨h1, h2⟩)
theorem one_mono {α : Type} {P Q : α → Prop} {o : Option α} (h : one P o) (hf : ∀ x, P x → Q x) : one Q o := by
  obtain ⟨x, rfl, hx⟩ := h
  exact ⟨x, rfl, hf x hx⟩
theorem S1_vl {nf ng h : Nat} {t : Nd (h + 2)} (H : S1 nf h t) : VlOk nf ng (h + 2) t := by
  rcases H with H | ⟨h1, ha, -⟩ | ⟨h1, h2, ha, hb⟩
  · exact S0_vl H
  · exact Or.inr (Or.inr (Or.inl ⟨h1, one_mono ha (fun x hx => S0_vl hx)⟩))
  · exact Or.inr (Or.inr (Or.inr (Or.inr (Or.inr (Or.inr ⟨Or.inl ⟨h1, by omega⟩, one_mono ha (fun x hx => S0_vl hx), one_mono hb (fun x hx => S0_vl hx)⟩)))))
theorem T0_vl {nf ng h : Nat} {t : Nd (h + 3)} (H : T0 nf ng h t) : VlOk nf ng (h + 3) t := by
  rcases H with ⟨h1, h2, -⟩ | ⟨h1, h2, -⟩ | ⟨h1, h2, ha, hb⟩
  · exact Or.inr (Or.inr (Or.inr (Or.inl ⟨h1, h2⟩)))
  · exact Or.inr (Or.inr (Or.inr (Or.inr (Or.inl ⟨h1, h2⟩))))
  · exact Or.inr (Or.inr (Or.inr (Or.inr (Or.inr (Or.inr ⟨Or.inl ⟨by omega, h2⟩, one_mono ha (fun x hx => S1_vl hx), one_mono hb (fun x hx => S0_vl hx)⟩)))))
theorem T1_vl {nf ng h : Nat} {t : Nd (h + 4)} (H : T1 nf ng h t) : VlOk nf ng (h + 4) t := by
  rcases H with H | ⟨h1, ha, -⟩ | ⟨h1, ha, hb⟩
  · exact T0_vl H
  · exact Or.inr (Or.inr (Or.inr (Or.inr (Or.inr (Or.inl ⟨h1, one_mono ha (fun x hx => T0_vl hx)⟩)))))
  · exact Or.inr (Or.inr (Or.inr (Or.inr (Or.inr (Or.inr ⟨Or.inr h1, one_mono ha (fun x hx => T0_vl hx), one_mono hb (fun x hx => T0_vl hx)⟩)))))
theorem vl_val {P : Pl} (hP : PlOk P) {S : Sp} (hS : SpB S) : ∀ (h : Nat) (t : Nd h), VlOk P.nf P.ng h t → ∃ v, f_X16_value h t (hb P S) = some v := by
  intro h
  induction h with
  | zero => intro t H; exact H.elim
  | succ h ih =>
    intro t H
    have hf8 := hP.1
    have hg7 := hP.2.1
    rw [val_s]
    rcases H with h1 | ⟨h1, h2⟩ | ⟨h1, x, ha, hx⟩ | ⟨h1, h2⟩ | ⟨h1, h2⟩ | ⟨h1, x, ha, hx⟩ | ⟨h1, ⟨x, ha, hx⟩, y, hb', hy⟩
    · by_cases h0 : t.1 = 0
      · rw [if_pos (by rw [h0]; rfl)]
        exact ⟨_, rfl⟩
      · have h01 : t.1 = 1 := by omega
        rw [if_neg (nI_ne0 (by omega) (by omega)), if_pos (by rw [h01]; rfl)]
        repeat' split
        all_goals exact ⟨_, rfl⟩
    · simp (disch := omega) only [h1, hb_hour, hb_warmth, hb_strength, hb_charge, hb_lemons, hb_saucers, hb_coins, hb_storms, hb_Fw, hb_Ff, hb_Fa, hb_Fs, hb_Fp, hb_Ga, hb_Gl, hb_Gh, hb_Gn, hb_Gp, hb_nf, hb_ng, in_rng h2, sb, nJ_of, nJ_lt, nJ_le, nJ_eq, nJ_clamp, nJ_add, nJ_sub, if_pos, if_neg, if_true, if_false, nL_0, nL_1, nL_2, nL_3, nL_4, nL_5, nL_6, nL_7, nL_8, nL_9, nL_10, nL_11, nL_12, nL_13, nL_14, nL_15, nL_16, nL_17, nL_18, nL_19, nL_20, nL_21, nL_22, nL_23, nL_24, nL_25, nL_26, nL_27, nL_28, nL_30, nL_38, nL_40, nL_48, nL_58, nL_60]
      exact ⟨_, rfl⟩
    · obtain ⟨v, hv⟩ := ih x hx
      simp (disch := omega) only [h1, ha, hv, sb, nJ_of, nJ_lt, nJ_le, nJ_eq, nJ_clamp, nJ_add, nJ_sub, if_pos, if_neg, if_true, if_false, nL_0, nL_1, nL_2, nL_3, nL_4, nL_5, nL_6, nL_7, nL_8, nL_9, nL_10, nL_11, nL_12, nL_13, nL_14, nL_15, nL_16, nL_17, nL_18, nL_19, nL_20, nL_21, nL_22, nL_23, nL_24, nL_25, nL_26, nL_27, nL_28, nL_30, nL_38, nL_40, nL_48, nL_58, nL_60]
      exact ⟨_, rfl⟩
    · simp (disch := omega) only [h1, hb_hour, hb_warmth, hb_strength, hb_charge, hb_lemons, hb_saucers, hb_coins, hb_storms, hb_Fw, hb_Ff, hb_Fa, hb_Fs, hb_Fp, hb_Ga, hb_Gl, hb_Gh, hb_Gn, hb_Gp, hb_nf, hb_ng, in_rng h2, sb, nJ_of, nJ_lt, nJ_le, nJ_eq, nJ_clamp, nJ_add, nJ_sub, if_pos, if_neg, if_true, if_false, nL_0, nL_1, nL_2, nL_3, nL_4, nL_5, nL_6, nL_7, nL_8, nL_9, nL_10, nL_11, nL_12, nL_13, nL_14, nL_15, nL_16, nL_17, nL_18, nL_19, nL_20, nL_21, nL_22, nL_23, nL_24, nL_25, nL_26, nL_27, nL_28, nL_30, nL_38, nL_40, nL_48, nL_58, nL_60]
      split
      · exact ⟨_, rfl⟩
      · exact ⟨_, rfl⟩
    · rcases h1 with h1 | h1
      · simp (disch := omega) only [h1, hb_hour, hb_warmth, hb_strength, hb_charge, hb_lemons, hb_saucers, hb_coins, hb_storms, hb_Fw, hb_Ff, hb_Fa, hb_Fs, hb_Fp, hb_Ga, hb_Gl, hb_Gh, hb_Gn, hb_Gp, hb_nf, hb_ng, in_rng h2, sb, nJ_of, nJ_lt, nJ_le, nJ_eq, nJ_clamp, nJ_add, nJ_sub, if_pos, if_neg, if_true, if_false, nL_0, nL_1, nL_2, nL_3, nL_4, nL_5, nL_6, nL_7, nL_8, nL_9, nL_10, nL_11, nL_12, nL_13, nL_14, nL_15, nL_16, nL_17, nL_18, nL_19, nL_20, nL_21, nL_22, nL_23, nL_24, nL_25, nL_26, nL_27, nL_28, nL_30, nL_38, nL_40, nL_48, nL_58, nL_60]
        split
        · exact ⟨_, rfl⟩
        · exact ⟨_, rfl⟩
      · have hL := likes_ok hP hS h2 (x := S.strength) (by have := hS.2.1; omega)
        simp (disch := omega) only [h1, hb_hour, hb_warmth, hb_strength, hb_charge, hb_lemons, hb_saucers, hb_coins, hb_storms, hb_Fw, hb_Ff, hb_Fa, hb_Fs, hb_Fp, hb_Ga, hb_Gl, hb_Gh, hb_Gn, hb_Gp, hb_nf, hb_ng, in_rng h2, hL, sb, nJ_of, nJ_lt, nJ_le, nJ_eq, nJ_clamp, nJ_add, nJ_sub, if_pos, if_neg, if_true, if_false, nL_0, nL_1, nL_2, nL_3, nL_4, nL_5, nL_6, nL_7, nL_8, nL_9, nL_10, nL_11, nL_12, nL_13, nL_14, nL_15, nL_16, nL_17, nL_18, nL_19, nL_20, nL_21, nL_22, nL_23, nL_24, nL_25, nL_26, nL_27, nL_28, nL_30, nL_38, nL_40, nL_48, nL_58, nL_60]
        split
        · exact ⟨_, rfl⟩
        · exact ⟨_, rfl⟩
    · obtain ⟨v, hv⟩ := ih x hx
      simp (disch := omega) only [h1, ha, hv, sb, nJ_of, nJ_lt, nJ_le, nJ_eq, nJ_clamp, nJ_add, nJ_sub, if_pos, if_neg, if_true, if_false, nL_0, nL_1, nL_2, nL_3, nL_4, nL_5, nL_6, nL_7, nL_8, nL_9, nL_10, nL_11, nL_12, nL_13, nL_14, nL_15, nL_16, nL_17, nL_18, nL_19, nL_20, nL_21, nL_22, nL_23, nL_24, nL_25, nL_26, nL_27, nL_28, nL_30, nL_38, nL_40, nL_48, nL_58, nL_60]
      exact ⟨_, rfl⟩
    · obtain ⟨v, hv⟩ := ih x hx
      obtain ⟨u, hu⟩ := ih y hy
      obtain ⟨w, hw⟩ := both_tot (nI t.1) v u
      simp (disch := omega) only [ha, hb', hv, hu, hw, sb, nJ_of, nJ_lt, nJ_le, nJ_eq, nJ_clamp, nJ_add, nJ_sub, if_pos, if_neg, if_true, if_false, nL_0, nL_1, nL_2, nL_3, nL_4, nL_5, nL_6, nL_7, nL_8, nL_9, nL_10, nL_11, nL_12, nL_13, nL_14, nL_15, nL_16, nL_17, nL_18, nL_19, nL_20, nL_21, nL_22, nL_23, nL_24, nL_25, nL_26, nL_27, nL_28, nL_30, nL_38, nL_40, nL_48, nL_58, nL_60]
      exact ⟨_, rfl⟩
def valS (P : Pl) (S : Sp) (t : Nd 4) : Int32 := (f_X16_value 4 t (hb P S)).getD 0
theorem valS_ok {P : Pl} (hP : PlOk P) {S : Sp} (hS : SpB S) {t : Nd 4} (H : T1 P.nf P.ng 0 t) : f_X16_value 4 t (hb P S) = some (valS P S t) := by
  obtain ⟨v, hv⟩ := vl_val hP hS 4 t (T1_vl H)
  unfold valS
  rw [hv]
  rfl
def doS (P : Pl) (S : Sp) (o : Od) : Sp := if o.1 = 0 then steepS P S o.2.1 else if o.1 = 1 then serveS P S o.2.1 else if o.1 = 2 then squeezeS S else calmS S
def odoS (P : Pl) (S : Sp) (o : Od) : Sp := match o.2.2 with
  | none => doS P S o
  | some t => if valS P S t = 0 then S else doS P S o
/-- what an order may change, in the order of the cells -/
abbrev spO (S : Sp) : Int32 × Int32 × Int32 × Int32 × Int32 × (Nat → Int32) × (Nat → Int32) := (nI S.strength, nI S.charge, nI S.lemons, nI S.saucers, nI S.coins, (fun j => nI (S.fp j)), fun j => nI (S.gp j))
theorem steepS_x (P : Pl) (S : Sp) (f : Nat) : (steepS P S f).charge = S.charge ∧ (steepS P S f).lemons = S.lemons ∧ (steepS P S f).saucers = S.saucers ∧ (steepS P S f).coins = S.coins ∧ (steepS P S f).gp = S.gp ∧ (steepS P S f).hour = S.hour ∧ (steepS P S f).warmth = S.warmth ∧ (steepS P S f).storms = S.storms := by
  unfold steepS
  split <;> exact ⟨rfl, rfl, rfl, rfl, rfl, rfl, rfl, rfl⟩
theorem squeezeS_x (S : Sp) : (squeezeS S).strength = S.strength ∧ (squeezeS S).saucers = S.saucers ∧ (squeezeS S).coins = S.coins ∧ (squeezeS S).fp = S.fp ∧ (squeezeS S).gp = S.gp ∧ (squeezeS S).hour = S.hour ∧ (squeezeS S).warmth = S.warmth ∧ (squeezeS S).storms = S.storms := by
  unfold squeezeS
  split <;> exact ⟨rfl, rfl, rfl, rfl, rfl, rfl, rfl, rfl⟩
theorem calmS_x (S : Sp) : (calmS S).strength = S.strength ∧ (calmS S).lemons = S.lemons ∧ (calmS S).coins = S.coins ∧ (calmS S).fp = S.fp ∧ (calmS S).gp = S.gp ∧ (calmS S).hour = S.hour ∧ (calmS S).warmth = S.warmth ∧ (calmS S).storms = S.storms := by
  unfold calmS
  split <;> exact ⟨rfl, rfl, rfl, rfl, rfl, rfl, rfl, rfl⟩
theorem serveS_x (P : Pl) (S : Sp) (g : Nat) : (serveS P S g).charge = S.charge ∧ (serveS P S g).lemons = S.lemons ∧ (serveS P S g).saucers = S.saucers ∧ (serveS P S g).fp = S.fp ∧ (serveS P S g).hour = S.hour ∧ (serveS P S g).warmth = S.warmth ∧ (serveS P S g).storms = S.storms := by
  unfold serveS
  split <;> exact ⟨rfl, rfl, rfl, rfl, rfl, rfl, rfl⟩
theorem do_ok {P : Pl} (hP : PlOk P) {S : Sp} (hS : SpB S) {o : Od} (ho : OdOk P.nf P.ng o) : f_X17_carryOut_R19 o (hb P S) (nI S.strength) (nI S.charge) (nI S.lemons) (nI S.saucers) (nI S.coins) (fun j => nI (S.fp j)) (fun j => nI (S.gp j)) = some (spO (doS P S o)) := by
  have hf8 := hP.1
  have hg7 := hP.2.1
  obtain ⟨ho, -⟩ := ho
  unfold f_X17_carryOut_R19 doS
  by_cases h0 : o.1 = 0
  · have hw : o.2.1 < P.nf := by omega
    rw [if_pos (by rw [h0]; rfl), if_pos h0]
    show (f_X18_isSteeped (nI o.2.1) (hb P S)).bind _ = _
    obtain ⟨x1, x2, x3, x4, x5, x6, x7, x8⟩ := steepS_x P S o.2.1
    rw [steeped_ok hP hS hw, sb]
    unfold spO
    rw [x1, x2, x3, x4, x5]
  rw [if_neg (nI_ne0 (by omega) (by omega)), if_neg h0]
  by_cases h1 : o.1 = 1
  · have hw : o.2.1 < P.ng := by omega
    rw [if_pos (show nI o.1 = 1 by rw [h1]; rfl), if_pos h1]
    show (f_X18_isServed (nI o.2.1) (hb P S)).bind _ = _
    obtain ⟨x1, x2, x3, x4, x5, x6, x7⟩ := serveS_x P S o.2.1
    rw [served_ok hP hS hw, sb]
    unfold spO
    rw [x1, x2, x3, x4]
  rw [if_neg (show ¬ nI o.1 = 1 from fun z => h1 ((nI_eq (b := 1) (by omega) (by decide)).mp z)), if_neg h1]
  by_cases h2 : o.1 = 2
  · rw [if_pos (show nI o.1 = 2 by rw [h2]; rfl), if_pos h2]
    show (f_X18_isSqueezed (hb P S)).bind _ = _
    obtain ⟨x1, x2, x3, x4, x5, x6, x7, x8⟩ := squeezeS_x S
    rw [squeezed_ok hS, sb]
    unfold spO
    rw [x1, x2, x3, x4, x5]
  · rw [if_neg (show ¬ nI o.1 = 2 from fun z => h2 ((nI_eq (b := 2) (by omega) (by decide)).mp z)), if_neg h2]
    show (f_X18_isCalmed (hb P S)).bind _ = _
    obtain ⟨x1, x2, x3, x4, x5, x6, x7, x8⟩ := calmS_x S
    rw [calmed_ok hS, sb]
    unfold spO
    rw [x1, x2, x3, x4, x5]
theorem odo_ok {P : Pl} (hP : PlOk P) {S : Sp} (hS : SpB S) {o : Od} (ho : OdOk P.nf P.ng o) : f_odo o (hb P S) = some (spO (odoS P S o)) := by
  have hd := do_ok hP hS ho
  unfold f_odo odoS
  rcases ho.2 with h | ⟨t, h, ht⟩
  · rw [h]
    exact hd
  · rw [h]
    show ((f_X16_value (3 + 1) t (hb P S)).bind _) = _
    rw [show f_X16_value (3 + 1) t (hb P S) = _ from valS_ok hP hS ht, sb]
    show (if valS P S t = 0 then _ else _) = some (spO (if valS P S t = 0 then S else doS P S o))
    by_cases hv : valS P S t = 0
    · rw [if_pos hv, if_pos hv]
      rfl
    · rw [if_neg hv, if_neg hv]
      exact hd
