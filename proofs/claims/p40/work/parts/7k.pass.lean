/-! AN HOUR by hand -/
abbrev spA (S : Sp) : Int32 × Int32 × Int32 × Int32 × Int32 × Int32 × Int32 × Int32 × (Nat → Int32) × (Nat → Int32) := (nI S.hour, nI S.warmth, nI S.strength, nI S.charge, nI S.lemons, nI S.saucers, nI S.coins, nI S.storms, (fun j => nI (S.fp j)), fun j => nI (S.gp j))
theorem mk1_le {N : Nat} {c : Nat → Prop} [DecidablePred c] {x b : Nat} {w : Nat → Nat} (h : ∀ j, w j ≤ b) (hx : x ≤ b) : ∀ j, mk1 N c x w j ≤ b := fun j => by
  unfold mk1
  by_cases hc : j < N ∧ c j
  · rw [if_pos hc]; exact hx
  · rw [if_neg hc]; exact h j
def leaveS (P : Pl) (S : Sp) : Sp := Sp.mk (S.hour + 1) S.warmth S.strength S.charge S.lemons S.saucers S.coins S.storms (mk1 P.nf (fun f => S.fp f = 1 ∧ (P.fr f).2.2.1 + (P.fr f).2.2.2 ≤ S.hour + 1) 0 S.fp) (mk1 P.ng (fun g => S.gp g = 1 ∧ (P.gu g).1 + 8 ≤ S.hour + 1) 0 S.gp)
theorem tail_ok {P : Pl} (hP : PlOk P) {S S0 : Sp} (hS : SpB S) (hh : S.hour < 2 ^ 30) {n : Nat} (hn : 10 < n) (os : List Od) (t : Nat) (ht : t ≤ 1) : f_X18_pass_R343 n os (hb P S0) (nI t) (nI S.hour) (nI S.warmth) (nI S.strength) (nI S.charge) (nI S.lemons) (nI S.saucers) (nI S.coins) (nI S.storms) (fun j => nI (S.fp j)) (fun j => nI (S.gp j)) = some (nI t, spA (comeS P (leaveS P S))) := by
  have hcome := come_ok hP (S := leaveS P S) (show S.hour + 1 < 2 ^ 31 by omega) hn
  obtain ⟨hnf, hng, hfr, hgu, -, -⟩ := hP
  obtain ⟨b1, b2, b3, b4, b5, b6, b7⟩ := hS
  unfold f_X18_pass_R343
  rw [nI_1]
  have hg : iter (fun s : Int32 × (Nat → Int32) => f_X18_pass_L434 n os (hb P S0) (nI t) (nI P.ng) s.1 (nI (S.hour + 1)) (nI S.warmth) (nI S.strength) (nI S.charge) (nI S.lemons) (nI S.saucers) (nI S.coins) (nI S.storms) (fun j => nI ((leaveS P S).fp j)) s.2) n (0, fun j => nI (S.gp j)) = some (nI t, spA (comeS P (leaveS P S))) := by
    refine iter_mark _ P.ng _ (fun g => S.gp g = 1 ∧ (P.gu g).1 + 8 ≤ S.hour + 1) (nI 0) _ (fun i v hi hv => ?_) ?_ (by omega)
    · show f_X18_pass_L434 n os (hb P S0) (nI t) (nI P.ng) (nI i) _ _ _ _ _ _ _ _ _ v = _
      have h1 := (hgu i hi).1
      have h2 := b7 i
      unfold f_X18_pass_L434
      by_cases hc : S.gp i = 1
      · by_cases hd : S.hour + 1 < (P.gu i).1 + 8
        · simp (disch := omega) only [true_and, false_and, hb_hour, hb_warmth, hb_strength, hb_charge, hb_lemons, hb_saucers, hb_coins, hb_storms, hb_Fw, hb_Ff, hb_Fa, hb_Fs, hb_Fp, hb_Ga, hb_Gl, hb_Gh, hb_Gn, hb_Gp, hb_nf, hb_ng, in_rng hi, hc, hv, hd, sb, nJ_of, nJ_lt, nJ_le, nJ_eq, nJ_clamp, nJ_add, nJ_sub, if_pos, if_neg, if_true, if_false, nL_0, nL_1, nL_2, nL_3, nL_4, nL_5, nL_6, nL_7, nL_8, nL_9, nL_10, nL_11, nL_12, nL_13, nL_14, nL_15, nL_16, nL_17, nL_18, nL_19, nL_20, nL_21, nL_22, nL_23, nL_24, nL_25, nL_26, nL_27, nL_28, nL_30, nL_38, nL_40, nL_48, nL_58, nL_60]
        · simp (disch := omega) only [true_and, false_and, hb_hour, hb_warmth, hb_strength, hb_charge, hb_lemons, hb_saucers, hb_coins, hb_storms, hb_Fw, hb_Ff, hb_Fa, hb_Fs, hb_Fp, hb_Ga, hb_Gl, hb_Gh, hb_Gn, hb_Gp, hb_nf, hb_ng, in_rng hi, hc, hv, hd, sb, nJ_of, nJ_lt, nJ_le, nJ_eq, nJ_clamp, nJ_add, nJ_sub, if_pos, if_neg, if_true, if_false, nL_0, nL_1, nL_2, nL_3, nL_4, nL_5, nL_6, nL_7, nL_8, nL_9, nL_10, nL_11, nL_12, nL_13, nL_14, nL_15, nL_16, nL_17, nL_18, nL_19, nL_20, nL_21, nL_22, nL_23, nL_24, nL_25, nL_26, nL_27, nL_28, nL_30, nL_38, nL_40, nL_48, nL_58, nL_60]
      · simp (disch := omega) only [true_and, false_and, hb_hour, hb_warmth, hb_strength, hb_charge, hb_lemons, hb_saucers, hb_coins, hb_storms, hb_Fw, hb_Ff, hb_Fa, hb_Fs, hb_Fp, hb_Ga, hb_Gl, hb_Gh, hb_Gn, hb_Gp, hb_nf, hb_ng, in_rng hi, hc, hv, sb, nJ_of, nJ_lt, nJ_le, nJ_eq, nJ_clamp, nJ_add, nJ_sub, if_pos, if_neg, if_true, if_false, nL_0, nL_1, nL_2, nL_3, nL_4, nL_5, nL_6, nL_7, nL_8, nL_9, nL_10, nL_11, nL_12, nL_13, nL_14, nL_15, nL_16, nL_17, nL_18, nL_19, nL_20, nL_21, nL_22, nL_23, nL_24, nL_25, nL_26, nL_27, nL_28, nL_30, nL_38, nL_40, nL_48, nL_58, nL_60]
    · show f_X18_pass_L434 n os (hb P S0) (nI t) (nI P.ng) (nI P.ng) _ _ _ _ _ _ _ _ _ _ = _
      unfold f_X18_pass_L434
      rw [if_pos (Int32.le_refl _), mk1_nI]
      show (f_X18_come n (hb P (leaveS P S))).bind _ = _
      rw [hcome, sb]
      rcases Nat.le_one_iff_eq_zero_or_eq_one.mp ht with rfl | rfl
      · rw [if_pos (show nI 0 = 0 from rfl)]; rfl
      · rw [if_neg (show ¬ nI 1 = 0 by decide)]; rfl
  refine iter_mark _ P.nf _ (fun f => S.fp f = 1 ∧ (P.fr f).2.2.1 + (P.fr f).2.2.2 ≤ S.hour + 1) (nI 0) _ (fun i v hi hv => ?_) ?_ (by omega)
  · show f_X18_pass_L367 n os (hb P S0) (nI t) (nI P.nf) (nI i) _ _ _ _ _ _ _ _ v _ = _
    obtain ⟨f1, f2, f3, f4, f5, f6⟩ := hfr i hi
    have h2 := b6 i
    unfold f_X18_pass_L367
    by_cases hc : S.fp i = 1
    · by_cases hd : S.hour + 1 < (P.fr i).2.2.1 + (P.fr i).2.2.2
      · simp (disch := omega) only [true_and, false_and, hb_hour, hb_warmth, hb_strength, hb_charge, hb_lemons, hb_saucers, hb_coins, hb_storms, hb_Fw, hb_Ff, hb_Fa, hb_Fs, hb_Fp, hb_Ga, hb_Gl, hb_Gh, hb_Gn, hb_Gp, hb_nf, hb_ng, in_rng hi, hc, hv, hd, sb, nJ_of, nJ_lt, nJ_le, nJ_eq, nJ_clamp, nJ_add, nJ_sub, if_pos, if_neg, if_true, if_false, nL_0, nL_1, nL_2, nL_3, nL_4, nL_5, nL_6, nL_7, nL_8, nL_9, nL_10, nL_11, nL_12, nL_13, nL_14, nL_15, nL_16, nL_17, nL_18, nL_19, nL_20, nL_21, nL_22, nL_23, nL_24, nL_25, nL_26, nL_27, nL_28, nL_30, nL_38, nL_40, nL_48, nL_58, nL_60]
      · simp (disch := omega) only [true_and, false_and, hb_hour, hb_warmth, hb_strength, hb_charge, hb_lemons, hb_saucers, hb_coins, hb_storms, hb_Fw, hb_Ff, hb_Fa, hb_Fs, hb_Fp, hb_Ga, hb_Gl, hb_Gh, hb_Gn, hb_Gp, hb_nf, hb_ng, in_rng hi, hc, hv, hd, sb, nJ_of, nJ_lt, nJ_le, nJ_eq, nJ_clamp, nJ_add, nJ_sub, if_pos, if_neg, if_true, if_false, nL_0, nL_1, nL_2, nL_3, nL_4, nL_5, nL_6, nL_7, nL_8, nL_9, nL_10, nL_11, nL_12, nL_13, nL_14, nL_15, nL_16, nL_17, nL_18, nL_19, nL_20, nL_21, nL_22, nL_23, nL_24, nL_25, nL_26, nL_27, nL_28, nL_30, nL_38, nL_40, nL_48, nL_58, nL_60]
    · simp (disch := omega) only [true_and, false_and, hb_hour, hb_warmth, hb_strength, hb_charge, hb_lemons, hb_saucers, hb_coins, hb_storms, hb_Fw, hb_Ff, hb_Fa, hb_Fs, hb_Fp, hb_Ga, hb_Gl, hb_Gh, hb_Gn, hb_Gp, hb_nf, hb_ng, in_rng hi, hc, hv, sb, nJ_of, nJ_lt, nJ_le, nJ_eq, nJ_clamp, nJ_add, nJ_sub, if_pos, if_neg, if_true, if_false, nL_0, nL_1, nL_2, nL_3, nL_4, nL_5, nL_6, nL_7, nL_8, nL_9, nL_10, nL_11, nL_12, nL_13, nL_14, nL_15, nL_16, nL_17, nL_18, nL_19, nL_20, nL_21, nL_22, nL_23, nL_24, nL_25, nL_26, nL_27, nL_28, nL_30, nL_38, nL_40, nL_48, nL_58, nL_60]
  · show f_X18_pass_L367 n os (hb P S0) (nI t) (nI P.nf) (nI P.nf) _ _ _ _ _ _ _ _ _ _ = _
    unfold f_X18_pass_L367
    rw [if_pos (Int32.le_refl _), mk1_nI]
    show (iter (fun s : Int32 × (Nat → Int32) => f_X18_pass_L434 n os (hb P S0) (nI t) (nI P.ng) s.1 (nI (S.hour + 1)) (nI S.warmth) (nI S.strength) (nI S.charge) (nI S.lemons) (nI S.saucers) (nI S.coins) (nI S.storms) (fun j => nI ((leaveS P S).fp j)) s.2) n (0, fun j => nI (S.gp j))).bind _ = _
    rw [hg]
    rfl
/-- a storm, or none -/
def stormS (P : Pl) (S : Sp) : Sp := Sp.mk S.hour S.warmth (S.strength / 2) (S.charge - 12) S.lemons S.saucers S.coins (S.storms + 1) S.fp (mk1 P.ng (fun g => S.gp g = 1 ∧ (P.gu g).2.2.2 < S.charge) 3 S.gp)
def isStorm (S : Sp) : Nat := if S.charge < 12 then 0 else 1
def weatherS (P : Pl) (S : Sp) : Sp := if S.charge < 12 then S else stormS P S
theorem SpB_storm {P : Pl} {S : Sp} (hS : SpB S) : SpB (weatherS P S) := by
  obtain ⟨b1, b2, b3, b4, b5, b6, b7⟩ := hS
  unfold weatherS
  split
  · exact ⟨b1, b2, b3, b4, b5, b6, b7⟩
  · refine ⟨b1, (show S.strength / 2 ≤ 30 by omega), (show S.charge - 12 ≤ 30 by omega), b4, b5, b6, mk1_le b7 (by decide)⟩
theorem weather_ok {P : Pl} (hP : PlOk P) {S S0 : Sp} (hS : SpB S) (hh : S.hour < 2 ^ 30) {n : Nat} (hn : 10 < n) (os : List Od) : f_X18_pass_R230 n os (hb P S0) (nI S.hour) (nI S.warmth) (nI S.strength) (nI S.charge) (nI S.lemons) (nI S.saucers) (nI S.coins) (nI S.storms) (fun j => nI (S.fp j)) (fun j => nI (S.gp j)) = some (nI (isStorm S), spA (comeS P (leaveS P (weatherS P S)))) := by
  have hT := tail_ok hP (S := weatherS P S) (S0 := S0) (SpB_storm hS) (by unfold weatherS; split <;> exact hh) hn os
  obtain ⟨hnf, hng, hfr, hgu, -, -⟩ := hP
  obtain ⟨b1, b2, b3, b4, b5, b6, b7⟩ := hS
  unfold f_X18_pass_R230 isStorm
  unfold weatherS at hT ⊢
  by_cases hc : S.charge < 12
  · rw [if_pos hc] at hT
    rw [if_pos (show nI S.charge < 12 from nI_lt (b := 12) hc (by decide)), if_pos hc, if_pos hc]
    unfold f_X18_pass_R244
    rw [if_pos rfl]
    exact hT 0 (by decide)
  · rw [if_neg hc] at hT
    rw [if_neg (show ¬ nI S.charge < 12 from nI_nlt (b := 12) (by omega) (by omega)), if_neg hc, if_neg hc]
    unfold f_X18_pass_R244
    rw [if_neg (by decide)]
    refine iter_mark _ P.ng _ (fun g => S.gp g = 1 ∧ (P.gu g).2.2.2 < S.charge) (nI 3) _ (fun i v hi hv => ?_) ?_ (by omega)
    · show f_X18_pass_L265 n os (hb P S0) 1 (nI P.ng) (nI i) _ _ _ _ _ _ _ _ _ v = _
      obtain ⟨g1, g2, g3, g4, g5⟩ := hgu i hi
      have h2 := b7 i
      unfold f_X18_pass_L265
      by_cases hc2 : S.gp i = 1
      · by_cases hd : S.charge ≤ (P.gu i).2.2.2
        · simp (disch := omega) only [true_and, false_and, hb_hour, hb_warmth, hb_strength, hb_charge, hb_lemons, hb_saucers, hb_coins, hb_storms, hb_Fw, hb_Ff, hb_Fa, hb_Fs, hb_Fp, hb_Ga, hb_Gl, hb_Gh, hb_Gn, hb_Gp, hb_nf, hb_ng, in_rng hi, hc2, hv, hd, sb, nJ_of, nJ_lt, nJ_le, nJ_eq, nJ_clamp, nJ_add, nJ_sub, if_pos, if_neg, if_true, if_false, nL_0, nL_1, nL_2, nL_3, nL_4, nL_5, nL_6, nL_7, nL_8, nL_9, nL_10, nL_11, nL_12, nL_13, nL_14, nL_15, nL_16, nL_17, nL_18, nL_19, nL_20, nL_21, nL_22, nL_23, nL_24, nL_25, nL_26, nL_27, nL_28, nL_30, nL_38, nL_40, nL_48, nL_58, nL_60]
        · simp (disch := omega) only [true_and, false_and, hb_hour, hb_warmth, hb_strength, hb_charge, hb_lemons, hb_saucers, hb_coins, hb_storms, hb_Fw, hb_Ff, hb_Fa, hb_Fs, hb_Fp, hb_Ga, hb_Gl, hb_Gh, hb_Gn, hb_Gp, hb_nf, hb_ng, in_rng hi, hc2, hv, hd, sb, nJ_of, nJ_lt, nJ_le, nJ_eq, nJ_clamp, nJ_add, nJ_sub, if_pos, if_neg, if_true, if_false, nL_0, nL_1, nL_2, nL_3, nL_4, nL_5, nL_6, nL_7, nL_8, nL_9, nL_10, nL_11, nL_12, nL_13, nL_14, nL_15, nL_16, nL_17, nL_18, nL_19, nL_20, nL_21, nL_22, nL_23, nL_24, nL_25, nL_26, nL_27, nL_28, nL_30, nL_38, nL_40, nL_48, nL_58, nL_60]
      · simp (disch := omega) only [true_and, false_and, hb_hour, hb_warmth, hb_strength, hb_charge, hb_lemons, hb_saucers, hb_coins, hb_storms, hb_Fw, hb_Ff, hb_Fa, hb_Fs, hb_Fp, hb_Ga, hb_Gl, hb_Gh, hb_Gn, hb_Gp, hb_nf, hb_ng, in_rng hi, hc2, hv, sb, nJ_of, nJ_lt, nJ_le, nJ_eq, nJ_clamp, nJ_add, nJ_sub, if_pos, if_neg, if_true, if_false, nL_0, nL_1, nL_2, nL_3, nL_4, nL_5, nL_6, nL_7, nL_8, nL_9, nL_10, nL_11, nL_12, nL_13, nL_14, nL_15, nL_16, nL_17, nL_18, nL_19, nL_20, nL_21, nL_22, nL_23, nL_24, nL_25, nL_26, nL_27, nL_28, nL_30, nL_38, nL_40, nL_48, nL_58, nL_60]
    · show f_X18_pass_L265 n os (hb P S0) 1 (nI P.ng) (nI P.ng) _ _ _ _ _ _ _ _ _ _ = _
      unfold f_X18_pass_L265
      rw [if_pos (Int32.le_refl _), mk1_nI, nI_1, show nI S.strength / 2 = nI (S.strength / 2) from pk_div (d := 2) (by omega) (by decide) (by decide), show nI S.charge - 12 = nI (S.charge - 12) from pk_sub (b := 12) (by omega)]
      have := hT 1 (by decide)
      show (f_X18_pass_R343 n os (hb P S0) (nI 1) (nI S.hour) (nI S.warmth) (nI (S.strength / 2)) (nI (S.charge - 12)) (nI S.lemons) (nI S.saucers) (nI S.coins) (nI (S.storms + 1)) (fun j => nI (S.fp j)) (fun j => nI ((stormS P S).gp j))).bind _ = _
      rw [show f_X18_pass_R343 n os (hb P S0) (nI 1) (nI S.hour) (nI S.warmth) (nI (S.strength / 2)) (nI (S.charge - 12)) (nI S.lemons) (nI S.saucers) (nI S.coins) (nI (S.storms + 1)) (fun j => nI (S.fp j)) (fun j => nI ((stormS P S).gp j)) = _ from this]
      rfl
