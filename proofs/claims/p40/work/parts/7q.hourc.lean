/-! AN HOUR in the code -/
theorem mk1_c {N : Nat} {c : Nat → Prop} [DecidablePred c] {x : Nat} {w : Nat → Nat} (j : Nat) : (j < N ∧ c j → mk1 N c x w j = x) ∧ (¬ (j < N ∧ c j) → mk1 N c x w j = w j) := ⟨fun h => if_pos h, fun h => if_neg h⟩
theorem rng10 {i : Nat} (hi : i < 10) : ¬ (nI i < 0 ∨ 10 ≤ i) := fun z => z.elim (fun q => nI_pos (by omega) q) (fun q => absurd q (by omega))
section HOURC
variable {P : Pl} {S : Sp} {c2 : bX2} {c4 : bX4} {c6 : bX6}
theorem mny_0 (hP : PlOk P) (S : Sp) : ∀ n, n ≤ P.nf → (sumN (mnyF S) n = 0 ↔ sumN (wrmF P S) n + sumN (cldF P S) n = 0) := by
  intro n
  induction n with
  | zero => intro _; exact ⟨fun _ => rfl, fun _ => rfl⟩
  | succ n ih =>
    intro hn
    have h := ih (by omega)
    have hf := (hP.2.2.1 n (by omega)).2.1
    have e : mnyF S n = 0 ↔ wrmF P S n + cldF P S n = 0 := by
      unfold mnyF wrmF cldF
      by_cases h1 : S.fp n = 1
      · rw [if_pos h1, if_pos h1, if_pos h1]
        by_cases h2 : (P.fr n).1 = 0
        · rw [if_pos h2, if_pos h2]
          omega
        · rw [if_neg h2, if_neg h2]
          omega
      · rw [if_neg h1, if_neg h1, if_neg h1]
    show sumN (mnyF S) n + mnyF S n = 0 ↔ (sumN (wrmF P S) n + wrmF P S n) + (sumN (cldF P S) n + cldF P S n) = 0
    omega
theorem cmp_ok {w : Nat} (hw : w ≤ 40) : ∃ d, f_J6_compare_7cf53 20 (nI w) = some d ∧ nI w + d = nI (if 20 ≤ w then (if w ≤ 20 then w else w - 1) else w + 1) := by
  unfold f_J6_compare_7cf53
  by_cases h1 : 20 < w
  · rw [if_neg (show ¬ nI w ≤ 20 from nI_ge (a := 20) h1 (by omega))]
    refine ⟨_, rfl, ?_⟩
    obtain ⟨v, rfl⟩ : ∃ v, w = v + 1 := ⟨w - 1, by omega⟩
    rw [if_pos (by omega), if_neg (by omega)]
    exact pk_m1 v
  · rw [if_pos (show nI w ≤ 20 from nI_le (b := 20) (by omega) (by decide))]
    by_cases h2 : w = 20
    · subst h2
      exact ⟨_, rfl, rfl⟩
    · rw [if_neg (show ¬ (20 : Int32) = nI w from fun z => h2 ((nI_eq (a := 20) (by decide) (by omega)).mp z).symm)]
      refine ⟨_, rfl, ?_⟩
      rw [if_neg (by omega)]
      exact nI_1 w
theorem blowc_ok (hP : PlOk P) (hS : SpB S) (hI : SpI P S) (hh : S.hour < 2 ^ 30) {F G W : Nat → Int32} (hbr : RPt S (cbO S F G W)) (h2 : RFr P c2) {n : Nat} (hn : 10 < n) : f_X8_blow n (cbO S F G W) c2 = some (nI (blowS P S).warmth, nI (blowS P S).charge) := by
  have k1 := sumN_le (n := P.nf) (wrm_le hP S)
  have k2 := sumN_le (n := P.nf) (cld_le hP S)
  have k0 := mny_0 hP S P.nf (Nat.le_refl _)
  obtain ⟨b1, b2, b3, b4, b5, b6, b7⟩ := hS
  have hnf := hP.1
  unfold f_X8_blow
  refine iter_count _ (fun i => (nI (sumN (wrmF P S) i), nI (sumN (cldF P S) i), nI i)) P.nf _ (fun i hi => ?_) ?_ (by omega)
  · show f_X8_blow_L6 n (cbO S F G W) c2 (nI (sumN (wrmF P S) i)) (nI (sumN (cldF P S) i)) (nI i) (nI S.warmth) (nI S.charge) = _
    obtain ⟨f1, f2, f3, f4, f5, f6⟩ := hP.2.2.1 i hi
    obtain ⟨q1, q2, q3, q4⟩ := h2.2 i hi
    have hH := hangs_ok hP hI hh hbr h2 (j := i) (by omega)
    unfold f_X8_blow_L6 f_X8_blow_R61
    rw [h2.1, if_neg (nI_ge (a := i) (b := P.nf) hi (by omega))]
    show (f_X8_hangsOver (nI i) (cbO S F G W) c2).bind _ = _
    rw [hH, sb]
    unfold b01
    by_cases hc : S.fp i = 1
    · by_cases hd : (P.fr i).1 = 0
      · have e2 : wrmF P S i = 0 := by unfold wrmF; rw [if_pos hc, if_pos hd]
        have e3 : cldF P S i = (P.fr i).2.1 := by unfold cldF; rw [if_pos hc, if_pos hd]
        rw [if_pos hc, if_neg (show ¬ nI 1 = 0 by decide), if_neg (vp_in_nI (show i < 10 by omega) (by decide)), nI_clamp (by omega), q1, if_pos (show nI (P.fr i).1 = 0 by rw [hd]; rfl)]
        rw [sb, if_neg (show ¬ nI 1 = 0 by decide), if_neg (rng10 (show i < 10 by omega)), q2, nI_add, nI_1, sumN, sumN, e2, e3]
        rfl
      · have e2 : wrmF P S i = (P.fr i).2.1 := by unfold wrmF; rw [if_pos hc, if_neg hd]
        have e3 : cldF P S i = 0 := by unfold cldF; rw [if_pos hc, if_neg hd]
        rw [if_pos hc, if_neg (show ¬ nI 1 = 0 by decide), if_neg (vp_in_nI (show i < 10 by omega) (by decide)), nI_clamp (by omega), q1, if_neg (show ¬ nI (P.fr i).1 = 0 from nI_ne0 (by omega) (by omega)), if_neg (rng10 (show i < 10 by omega)), q2, nI_add, nI_1, sumN, sumN, e2, e3]
        rfl
    · have e2 : wrmF P S i = 0 := by unfold wrmF; rw [if_neg hc]
      have e3 : cldF P S i = 0 := by unfold cldF; rw [if_neg hc]
      rw [if_neg hc, if_pos (show nI 0 = 0 from rfl)]
      rw [sb, if_pos (show nI 0 = 0 from rfl), nI_1, sumN, sumN, e2, e3]
      rfl
  · show f_X8_blow_L6 n (cbO S F G W) c2 (nI (sumN (wrmF P S) P.nf)) (nI (sumN (cldF P S) P.nf)) (nI P.nf) (nI S.warmth) (nI S.charge) = _
    unfold blowS
    generalize hm : sumN (mnyF S) P.nf = many at *
    generalize hw : sumN (wrmF P S) P.nf = wa at *
    generalize hk : sumN (cldF P S) P.nf = co at *
    show _ = some (Sum.inr (nI (airS S.warmth many wa co), nI (chgS S.charge wa co)))
    have hch : (if (nI S.charge + (if nI co < nI wa then nI co else nI wa)) < 30 then (nI S.charge + (if nI co < nI wa then nI co else nI wa)) else 30) = nI (chgS S.charge wa co) := by
      unfold chgS minS
      by_cases z1 : co < wa
      · by_cases z2 : S.charge + co < 30
        · simp (disch := omega) only [z1, z2, sb, nJ_of, nJ_lt, nJ_le, nJ_eq, nJ_clamp, nJ_add, nJ_sub, if_pos, if_neg, if_true, if_false, nL_0, nL_1, nL_2, nL_3, nL_4, nL_5, nL_6, nL_7, nL_8, nL_9, nL_10, nL_11, nL_12, nL_13, nL_14, nL_15, nL_16, nL_17, nL_18, nL_19, nL_20, nL_21, nL_22, nL_23, nL_24, nL_25, nL_26, nL_27, nL_28, nL_30, nL_38, nL_40, nL_48, nL_58, nL_60]
        · by_cases z3 : S.charge + co = 30
          · simp (disch := omega) only [z1, z2, z3, sb, nJ_of, nJ_lt, nJ_le, nJ_eq, nJ_clamp, nJ_add, nJ_sub, if_pos, if_neg, if_true, if_false, nL_0, nL_1, nL_2, nL_3, nL_4, nL_5, nL_6, nL_7, nL_8, nL_9, nL_10, nL_11, nL_12, nL_13, nL_14, nL_15, nL_16, nL_17, nL_18, nL_19, nL_20, nL_21, nL_22, nL_23, nL_24, nL_25, nL_26, nL_27, nL_28, nL_30, nL_38, nL_40, nL_48, nL_58, nL_60]
          · simp (disch := omega) only [z1, z2, z3, sb, nJ_of, nJ_lt, nJ_le, nJ_eq, nJ_clamp, nJ_add, nJ_sub, if_pos, if_neg, if_true, if_false, nL_0, nL_1, nL_2, nL_3, nL_4, nL_5, nL_6, nL_7, nL_8, nL_9, nL_10, nL_11, nL_12, nL_13, nL_14, nL_15, nL_16, nL_17, nL_18, nL_19, nL_20, nL_21, nL_22, nL_23, nL_24, nL_25, nL_26, nL_27, nL_28, nL_30, nL_38, nL_40, nL_48, nL_58, nL_60]
      · by_cases z4 : co = wa
        · subst z4
          by_cases z2 : S.charge + co < 30
          · simp (disch := omega) only [z1, z2, sb, nJ_of, nJ_lt, nJ_le, nJ_eq, nJ_clamp, nJ_add, nJ_sub, if_pos, if_neg, if_true, if_false, nL_0, nL_1, nL_2, nL_3, nL_4, nL_5, nL_6, nL_7, nL_8, nL_9, nL_10, nL_11, nL_12, nL_13, nL_14, nL_15, nL_16, nL_17, nL_18, nL_19, nL_20, nL_21, nL_22, nL_23, nL_24, nL_25, nL_26, nL_27, nL_28, nL_30, nL_38, nL_40, nL_48, nL_58, nL_60]
          · by_cases z3 : S.charge + co = 30
            · simp (disch := omega) only [z1, z2, z3, sb, nJ_of, nJ_lt, nJ_le, nJ_eq, nJ_clamp, nJ_add, nJ_sub, if_pos, if_neg, if_true, if_false, nL_0, nL_1, nL_2, nL_3, nL_4, nL_5, nL_6, nL_7, nL_8, nL_9, nL_10, nL_11, nL_12, nL_13, nL_14, nL_15, nL_16, nL_17, nL_18, nL_19, nL_20, nL_21, nL_22, nL_23, nL_24, nL_25, nL_26, nL_27, nL_28, nL_30, nL_38, nL_40, nL_48, nL_58, nL_60]
            · simp (disch := omega) only [z1, z2, z3, sb, nJ_of, nJ_lt, nJ_le, nJ_eq, nJ_clamp, nJ_add, nJ_sub, if_pos, if_neg, if_true, if_false, nL_0, nL_1, nL_2, nL_3, nL_4, nL_5, nL_6, nL_7, nL_8, nL_9, nL_10, nL_11, nL_12, nL_13, nL_14, nL_15, nL_16, nL_17, nL_18, nL_19, nL_20, nL_21, nL_22, nL_23, nL_24, nL_25, nL_26, nL_27, nL_28, nL_30, nL_38, nL_40, nL_48, nL_58, nL_60]
        · by_cases z2 : S.charge + wa < 30
          · simp (disch := omega) only [z1, z2, sb, nJ_of, nJ_lt, nJ_le, nJ_eq, nJ_clamp, nJ_add, nJ_sub, if_pos, if_neg, if_true, if_false, nL_0, nL_1, nL_2, nL_3, nL_4, nL_5, nL_6, nL_7, nL_8, nL_9, nL_10, nL_11, nL_12, nL_13, nL_14, nL_15, nL_16, nL_17, nL_18, nL_19, nL_20, nL_21, nL_22, nL_23, nL_24, nL_25, nL_26, nL_27, nL_28, nL_30, nL_38, nL_40, nL_48, nL_58, nL_60]
          · by_cases z3 : S.charge + wa = 30
            · simp (disch := omega) only [z1, z2, z3, sb, nJ_of, nJ_lt, nJ_le, nJ_eq, nJ_clamp, nJ_add, nJ_sub, if_pos, if_neg, if_true, if_false, nL_0, nL_1, nL_2, nL_3, nL_4, nL_5, nL_6, nL_7, nL_8, nL_9, nL_10, nL_11, nL_12, nL_13, nL_14, nL_15, nL_16, nL_17, nL_18, nL_19, nL_20, nL_21, nL_22, nL_23, nL_24, nL_25, nL_26, nL_27, nL_28, nL_30, nL_38, nL_40, nL_48, nL_58, nL_60]
            · simp (disch := omega) only [z1, z2, z3, sb, nJ_of, nJ_lt, nJ_le, nJ_eq, nJ_clamp, nJ_add, nJ_sub, if_pos, if_neg, if_true, if_false, nL_0, nL_1, nL_2, nL_3, nL_4, nL_5, nL_6, nL_7, nL_8, nL_9, nL_10, nL_11, nL_12, nL_13, nL_14, nL_15, nL_16, nL_17, nL_18, nL_19, nL_20, nL_21, nL_22, nL_23, nL_24, nL_25, nL_26, nL_27, nL_28, nL_30, nL_38, nL_40, nL_48, nL_58, nL_60]
    unfold f_X8_blow_L6 f_X8_blow_R138
    rw [h2.1, if_pos (Int32.le_refl _), hch, nI_add]
    by_cases h0 : many = 0
    · have hz := k0.mp h0
      obtain ⟨d, hd, hd2⟩ := cmp_ok b1
      rw [if_pos (show nI (wa + co) ≤ 0 by rw [hz]; decide), hd, sb, sb]
      unfold airS
      rw [if_pos h0, hd2]
    · have hz : 0 < wa + co := Nat.pos_of_ne_zero (fun z => h0 (k0.mpr z))
      rw [if_neg (nI_nle hz (by omega)), sb, nI_add]
      unfold airS
      rw [if_neg h0]
      by_cases h1 : co ≤ S.warmth + wa
      · rw [if_pos h1, pk_sub h1]
        by_cases h3 : S.warmth + wa - co < 40
        · by_cases h4 : S.warmth + wa - co = 0
          · rw [h4]; rfl
          · simp (disch := omega) only [h3, h4, sb, nJ_of, nJ_lt, nJ_le, nJ_eq, nJ_clamp, nJ_add, nJ_sub, if_pos, if_neg, if_true, if_false, nL_0, nL_1, nL_2, nL_3, nL_4, nL_5, nL_6, nL_7, nL_8, nL_9, nL_10, nL_11, nL_12, nL_13, nL_14, nL_15, nL_16, nL_17, nL_18, nL_19, nL_20, nL_21, nL_22, nL_23, nL_24, nL_25, nL_26, nL_27, nL_28, nL_30, nL_38, nL_40, nL_48, nL_58, nL_60]
        · by_cases h4 : S.warmth + wa - co = 40
          · rw [h4]; rfl
          · simp (disch := omega) only [h3, h4, sb, nJ_of, nJ_lt, nJ_le, nJ_eq, nJ_clamp, nJ_add, nJ_sub, if_pos, if_neg, if_true, if_false, nL_0, nL_1, nL_2, nL_3, nL_4, nL_5, nL_6, nL_7, nL_8, nL_9, nL_10, nL_11, nL_12, nL_13, nL_14, nL_15, nL_16, nL_17, nL_18, nL_19, nL_20, nL_21, nL_22, nL_23, nL_24, nL_25, nL_26, nL_27, nL_28, nL_30, nL_38, nL_40, nL_48, nL_58, nL_60]
      · rw [if_neg h1]
        have hn0 := pk_sneg (a := S.warmth + wa) (b := co) (by omega) (by omega)
        have hn1 : nI (S.warmth + wa) - nI co < 40 := Int32.lt_trans hn0 (by decide)
        rw [if_pos hn1, if_neg (fun z => Int32.lt_asymm z hn0)]
        rfl
/-- some of those who sit flee -/
theorem SpI_mark (hI : SpI P S) {N : Nat} (hN : N ≤ P.ng) {c : Nat → Prop} [DecidablePred c] (hc : ∀ j, c j → S.gp j = 1) (a1 a2 a3 a4 a5 a6 a7 : Nat) : SpI P (Sp.mk S.hour a1 a2 a3 a4 a5 a6 a7 S.fp (mk1 N c 3 S.gp)) := by
  obtain ⟨i1, i2, i3, i4⟩ := hI
  refine ⟨i1, i2, fun j hj => ?_, fun j hj => ?_⟩
  · obtain ⟨q1, q2⟩ := i3 j hj
    show ((2 ≤ mk1 N c 3 S.gp j → _) ∧ (mk1 N c 3 S.gp j = 1 ↔ mk1 N c 3 S.gp j < 2 ∧ _))
    by_cases hm : j < N ∧ c j
    · rw [(mk1_c j).1 hm]
      exact ⟨fun _ => (q2.mp (hc j hm.2)).2.1, fun z => absurd z (by decide), fun z => absurd z.1 (by decide)⟩
    · rw [(mk1_c j).2 hm]
      exact ⟨q1, q2⟩
  · show mk1 N c 3 S.gp j = 0
    rw [(mk1_c j).2 (fun z => absurd z.1 (by omega))]
    exact i4 j hj
theorem stormc_ok (hP : PlOk P) (hS : SpB S) (hI : SpI P S) (hh : S.hour < 2 ^ 30) {F G W : Nat → Int32} (hbr : RPt S (cbO S F G W)) (h4 : RGu P c4) (hc12 : 12 ≤ S.charge) {n : Nat} (hn : 10 < n) : ∃ W', f_X8_storm n (cbO S F G W) c4 = some (nI (stormS P S).strength, nI (stormS P S).charge, nI (stormS P S).storms, W') ∧ ∀ j, j < 10 → W' j = nI (b01 ((stormS P S).gp j = 3)) := by
  have hng := hP.2.1
  have q9 := hbr.2.2.2.2.2.2.2.2.1
  have q10 := hbr.2.2.2.2.2.2.2.2.2.1
  have q11 := hbr.2.2.2.2.2.2.2.2.2.2
  have hS0 := hS
  obtain ⟨b1, b2, b3, b4, b5, b6, b7⟩ := hS
  let M : Nat → Nat → Nat := fun i => mk1 i (fun g => S.gp g = 1 ∧ (P.gu g).2.2.2 < S.charge) 3 S.gp
  have hM2 : ∀ i j, (M i j = 2 ↔ S.gp j = 2) := fun i j => by
    show mk1 _ _ _ _ j = 2 ↔ _
    by_cases hm : j < i ∧ (S.gp j = 1 ∧ (P.gu j).2.2.2 < S.charge)
    · rw [(mk1_c j).1 hm, hm.2.1]
      exact ⟨fun z => absurd z (by decide), fun z => absurd z (by decide)⟩
    · rw [(mk1_c j).2 hm]
  unfold f_X8_storm
  have hit := iter_inv (fun s : Int32 × (Nat → Int32) => f_X8_storm_L2 n (cbO S F G W) c4 s.1 (X8_strength (cbO S F G W)) (X8_charge (cbO S F G W)) (X8_storms (cbO S F G W)) s.2) (fun i s => s.1 = nI i ∧ ∀ j, j < 10 → s.2 j = nI (b01 (M i j = 3))) (fun r => ∃ W', r = (nI (stormS P S).strength, nI (stormS P S).charge, nI (stormS P S).storms, W') ∧ ∀ j, j < 10 → W' j = nI (b01 ((stormS P S).gp j = 3))) P.ng (fun i s hi hI2 => ?_) n 0 (0, X8_guestStormed (cbO S F G W)) (Nat.zero_le _) (by omega) ⟨rfl, fun j hj => ?_⟩
  · obtain ⟨r, hr, hq⟩ := hit
    obtain ⟨W', e, hW⟩ := hq
    exact ⟨W', by rw [← e]; exact hr, hW⟩
  · obtain ⟨v, w⟩ := s
    obtain ⟨rfl, hw⟩ : v = nI i ∧ ∀ j, j < 10 → w j = nI (b01 (M i j = 3)) := hI2
    show (∃ s', f_X8_storm_L2 n (cbO S F G W) c4 (nI i) (nI S.strength) (nI S.charge) (nI S.storms) w = some (.inl s') ∧ _) ∨ (∃ r, f_X8_storm_L2 n (cbO S F G W) c4 (nI i) (nI S.strength) (nI S.charge) (nI S.storms) w = some (.inr r) ∧ _)
    unfold f_X8_storm_L2
    rw [h4.1]
    by_cases hiN : i < P.ng
    · refine Or.inl ?_
      rw [if_neg (nI_ge (a := i) (b := P.ng) hiN (by omega))]
      have hSi : SpB (Sp.mk S.hour S.warmth S.strength S.charge S.lemons S.saucers S.coins S.storms S.fp (M i)) := ⟨b1, b2, b3, b4, b5, b6, mk1_le b7 (by decide)⟩
      have hIi : SpI P (Sp.mk S.hour S.warmth S.strength S.charge S.lemons S.saucers S.coins S.storms S.fp (M i)) := SpI_mark hI (by omega) (fun j hj => hj.1) _ _ _ _ _ _ _
      have hRi : RPt (Sp.mk S.hour S.warmth S.strength S.charge S.lemons S.saucers S.coins S.storms S.fp (M i)) (cbO S F G w) := ⟨rfl, rfl, rfl, rfl, rfl, rfl, rfl, rfl, q9, fun j hj => by
        rw [show X8_guestServed (cbO S F G w) j = G j from rfl, show G j = _ from q10 j hj]
        unfold b01
        by_cases h2 : S.gp j = 2
        · rw [if_pos h2, if_pos ((hM2 i j).mpr h2)]
        · rw [if_neg h2, if_neg (fun z => h2 ((hM2 i j).mp z))], hw⟩
      have hs := sits_ok hP hSi hIi hh hRi h4 (j := i) (by omega)
      have hMi : M i i = S.gp i := (mk1_c i).2 (fun z => absurd z.1 (by omega))
      show ∃ s', (f_X8_sits (nI i) (cbO S F G w) c4).bind _ = _ ∧ _
      rw [hs, sb]
      show ∃ s', (if nI (b01 (M i i = 1)) = 0 then _ else _) = _ ∧ _
      rw [hMi]
      have hsucc : ∀ j, j < 10 → j ≠ i → M (i + 1) j = M i j := fun j _ hji => by
        show mk1 _ _ _ _ j = mk1 _ _ _ _ j
        by_cases hm : j < i ∧ (S.gp j = 1 ∧ (P.gu j).2.2.2 < S.charge)
        · rw [(mk1_c j).1 ⟨by omega, hm.2⟩, (mk1_c j).1 hm]
        · rw [(mk1_c j).2 (fun z => hm ⟨by omega, z.2⟩), (mk1_c j).2 hm]
      have hkeep : ¬ (S.gp i = 1 ∧ (P.gu i).2.2.2 < S.charge) → ∀ j, j < 10 → w j = nI (b01 (M (i + 1) j = 3)) := fun hno j hj => by
        rw [hw j hj]
        by_cases hji : j = i
        · subst hji
          rw [hMi, show M (j + 1) j = S.gp j from (mk1_c j).2 (fun z => hno z.2)]
        · rw [hsucc j hj hji]
      unfold b01
      by_cases hc : S.gp i = 1
      · rw [if_pos hc, if_neg (show ¬ nI 1 = 0 by decide), if_neg (vp_in_nI (show i < 10 by omega) (by decide)), nI_clamp (by omega), (h4.2 i hiN).2.2.2]
        obtain ⟨g1, g2, g3, g4, g5⟩ := hP.2.2.2.1 i hiN
        by_cases hd : S.charge ≤ (P.gu i).2.2.2
        · rw [if_pos (nI_le hd (by omega))]
          exact ⟨_, rfl, hiN, nI_1 i, hkeep (fun z => absurd z.2 (by omega))⟩
        · rw [if_neg (nI_ge (a := (P.gu i).2.2.2) (b := S.charge) (by omega) (by omega)), if_neg (rng10 (show i < 10 by omega))]
          refine ⟨_, rfl, hiN, nI_1 i, fun j hj => ?_⟩
          show upd w i 1 j = _
          by_cases hji : j = i
          · subst hji
            rw [pk_us, show M (j + 1) j = 3 from (mk1_c j).1 ⟨Nat.lt_succ_self j, hc, by omega⟩]
            rfl
          · rw [pk_un hji, hw j hj, hsucc j hj hji]
            rfl
      · rw [if_neg hc, if_pos (show nI 0 = 0 from rfl)]
        exact ⟨_, rfl, hiN, nI_1 i, hkeep (fun z => hc z.1)⟩
    · refine Or.inr ?_
      have hi2 : i = P.ng := by omega
      subst hi2
      rw [if_pos (Int32.le_refl _)]
      refine ⟨_, rfl, w, ?_, hw⟩
      rw [show nI S.strength / 2 = nI (S.strength / 2) from pk_div (d := 2) (by omega) (by decide) (by decide), show nI S.charge - 12 = nI (S.charge - 12) from pk_sub (b := 12) hc12, nI_1]
      rfl
  · show W j = nI (b01 (M 0 j = 3))
    rw [show M 0 j = S.gp j from (mk1_c j).2 (fun z => absurd z.1 (by omega))]
    exact q11 j hj
/-- those who leave and those who come leave the flags alone -/
theorem SpI_next (hP : PlOk P) (hS : SpB S) (hI : SpI P S) : SpI P (comeS P (leaveS P S)) ∧ (∀ j, ((comeS P (leaveS P S)).fp j = 2 ↔ S.fp j = 2)) ∧ (∀ j, ((comeS P (leaveS P S)).gp j = 2 ↔ S.gp j = 2)) ∧ ∀ j, ((comeS P (leaveS P S)).gp j = 3 ↔ S.gp j = 3) := by
  obtain ⟨i1, i2, i3, i4⟩ := hI
  have hfr := hP.2.2.1
  obtain ⟨b1, b2, b3, b4, b5, b6, b7⟩ := hS
  have F1 : ∀ j, j < P.nf → (comeS P (leaveS P S)).fp j = if (P.fr j).2.2.1 = S.hour + 1 then 1 else if S.fp j = 1 ∧ (P.fr j).2.2.1 + (P.fr j).2.2.2 ≤ S.hour + 1 then 0 else S.fp j := fun j hj => by
    show mk1 P.nf (fun j => (P.fr j).2.2.1 = S.hour + 1) 1 (mk1 P.nf (fun f => S.fp f = 1 ∧ (P.fr f).2.2.1 + (P.fr f).2.2.2 ≤ S.hour + 1) 0 S.fp) j = _
    unfold mk1
    by_cases h1 : (P.fr j).2.2.1 = S.hour + 1
    · rw [if_pos ⟨hj, h1⟩, if_pos h1]
    · rw [if_neg (fun z => h1 z.2), if_neg h1]
      by_cases h2 : S.fp j = 1 ∧ (P.fr j).2.2.1 + (P.fr j).2.2.2 ≤ S.hour + 1
      · rw [if_pos ⟨hj, h2⟩, if_pos h2]
      · rw [if_neg (fun z => h2 z.2), if_neg h2]
  have F2 : ∀ j, P.nf ≤ j → (comeS P (leaveS P S)).fp j = S.fp j := fun j hj => by
    show mk1 P.nf (fun j => (P.fr j).2.2.1 = S.hour + 1) 1 (mk1 P.nf (fun f => S.fp f = 1 ∧ (P.fr f).2.2.1 + (P.fr f).2.2.2 ≤ S.hour + 1) 0 S.fp) j = _
    unfold mk1
    rw [if_neg (fun z => absurd z.1 (by omega)), if_neg (fun z => absurd z.1 (by omega))]
  have G1 : ∀ j, j < P.ng → (comeS P (leaveS P S)).gp j = if (P.gu j).1 = S.hour + 1 then 1 else if S.gp j = 1 ∧ (P.gu j).1 + 8 ≤ S.hour + 1 then 0 else S.gp j := fun j hj => by
    show mk1 P.ng (fun j => (P.gu j).1 = S.hour + 1) 1 (mk1 P.ng (fun g => S.gp g = 1 ∧ (P.gu g).1 + 8 ≤ S.hour + 1) 0 S.gp) j = _
    unfold mk1
    by_cases h1 : (P.gu j).1 = S.hour + 1
    · rw [if_pos ⟨hj, h1⟩, if_pos h1]
    · rw [if_neg (fun z => h1 z.2), if_neg h1]
      by_cases h2 : S.gp j = 1 ∧ (P.gu j).1 + 8 ≤ S.hour + 1
      · rw [if_pos ⟨hj, h2⟩, if_pos h2]
      · rw [if_neg (fun z => h2 z.2), if_neg h2]
  have G2 : ∀ j, P.ng ≤ j → (comeS P (leaveS P S)).gp j = S.gp j := fun j hj => by
    show mk1 P.ng (fun j => (P.gu j).1 = S.hour + 1) 1 (mk1 P.ng (fun g => S.gp g = 1 ∧ (P.gu g).1 + 8 ≤ S.hour + 1) 0 S.gp) j = _
    unfold mk1
    rw [if_neg (fun z => absurd z.1 (by omega)), if_neg (fun z => absurd z.1 (by omega))]
  refine ⟨⟨fun j hj => ?_, fun j hj => by rw [F2 j hj]; exact i2 j hj, fun j hj => ?_, fun j hj => by rw [G2 j hj]; exact i4 j hj⟩, fun j => ?_, fun j => ?_, fun j => ?_⟩
  · obtain ⟨a1, a2⟩ := i1 j hj
    obtain ⟨f1, f2, f3, f4, f5, f6⟩ := hfr j hj
    have a6 := b6 j
    rw [F1 j hj]
    show ((if _ then 1 else if _ then 0 else S.fp j) = 2 → (P.fr j).2.2.1 ≤ S.hour + 1) ∧ ((if _ then 1 else if _ then 0 else S.fp j) = 1 ↔ (if _ then 1 else if _ then 0 else S.fp j) ≠ 2 ∧ (P.fr j).2.2.1 ≤ S.hour + 1 ∧ S.hour + 1 < (P.fr j).2.2.1 + (P.fr j).2.2.2)
    by_cases h1 : (P.fr j).2.2.1 = S.hour + 1
    · rw [if_pos h1]
      omega
    · rw [if_neg h1]
      by_cases h2 : S.fp j = 1 ∧ (P.fr j).2.2.1 + (P.fr j).2.2.2 ≤ S.hour + 1
      · rw [if_pos h2]
        omega
      · rw [if_neg h2]
        omega
  · obtain ⟨a1, a2⟩ := i3 j hj
    have a6 := b7 j
    rw [G1 j hj]
    show (2 ≤ (if _ then 1 else if _ then 0 else S.gp j) → (P.gu j).1 ≤ S.hour + 1) ∧ ((if _ then 1 else if _ then 0 else S.gp j) = 1 ↔ (if _ then 1 else if _ then 0 else S.gp j) < 2 ∧ (P.gu j).1 ≤ S.hour + 1 ∧ S.hour + 1 < (P.gu j).1 + 8)
    by_cases h1 : (P.gu j).1 = S.hour + 1
    · rw [if_pos h1]
      omega
    · rw [if_neg h1]
      by_cases h2 : S.gp j = 1 ∧ (P.gu j).1 + 8 ≤ S.hour + 1
      · rw [if_pos h2]
        omega
      · rw [if_neg h2]
        omega
  · by_cases hj : j < P.nf
    · obtain ⟨a1, a2⟩ := i1 j hj
      rw [F1 j hj]
      split
      · omega
      · split <;> omega
    · rw [F2 j (by omega)]
  · by_cases hj : j < P.ng
    · obtain ⟨a1, a2⟩ := i3 j hj
      rw [G1 j hj]
      split
      · omega
      · split <;> omega
    · rw [G2 j (by omega)]
  · by_cases hj : j < P.ng
    · obtain ⟨a1, a2⟩ := i3 j hj
      rw [G1 j hj]
      split
      · omega
      · split <;> omega
    · rw [G2 j (by omega)]
theorem SpI_weather (hI : SpI P S) : SpI P (weatherS P S) := by
  unfold weatherS
  split
  · exact hI
  · exact SpI_mark hI (Nat.le_refl _) (fun j hj => hj.1) _ _ _ _ _ _ _
theorem SpI_hour (hP : PlOk P) (hS : SpB S) (hI : SpI P S) : SpI P (hourS P S) := by
  have h1 := SpI_ord hP P.os S hI hP.2.2.2.2.2
  have h2 : SpI P (blowS P (ordS P S P.os)) := h1
  exact (SpI_next hP (SpB_storm (SpB_blow (ord_x P P.os S hS).1)) (SpI_weather h2)).1
theorem b01_iff {p q : Prop} [Decidable p] [Decidable q] (h : p ↔ q) : b01 p = b01 q := by
  unfold b01
  by_cases hp : p
  · rw [if_pos hp, if_pos (h.mp hp)]
  · rw [if_neg hp, if_neg (fun z => hp (h.mpr z))]
theorem passc_ok (hP : PlOk P) (hS : SpB S) (hI : SpI P S) (hh : S.hour < 2 ^ 29) {F G W : Nat → Int32} (hbr : RPt S (cbO S F G W)) (h2 : RFr P c2) (h4 : RGu P c4) (h6 : ROs P c6) (b9 : bX9) {n : Nat} (hn : 401 < n) : ∃ F' G' W' st ht, f_X8_passHour n (cbO S F G W) b9 c2 c4 c6 = some (nI (hourS P S).hour, nI (hourS P S).warmth, nI (hourS P S).strength, nI (hourS P S).charge, nI (hourS P S).lemons, nI (hourS P S).saucers, nI (hourS P S).coins, nI (hourS P S).storms, F', G', W', st, ht) ∧ RPt (hourS P S) (cbO (hourS P S) F' G' W') := by
  have hlen := hP.2.2.2.2.1
  have hods := hP.2.2.2.2.2
  have hit := iter_inv (fun s : Int32 × Int32 × Int32 × Int32 × Int32 × Int32 × (Nat → Int32) × (Nat → Int32) × (Nat → Int32) × Int32 => f_X8_passHour_L2 n (cbO S F G W) b9 c2 c4 c6 s.1 (nI S.hour) (nI S.warmth) s.2.1 s.2.2.1 s.2.2.2.1 s.2.2.2.2.1 s.2.2.2.2.2.1 (nI S.storms) s.2.2.2.2.2.2.1 s.2.2.2.2.2.2.2.1 W s.2.2.2.2.2.2.2.2.1 s.2.2.2.2.2.2.2.2.2)
    (fun i s => ∃ F1 G1 st ht, s = (nI i, nI (ordS P S (P.os.take i)).strength, nI (ordS P S (P.os.take i)).charge, nI (ordS P S (P.os.take i)).lemons, nI (ordS P S (P.os.take i)).saucers, nI (ordS P S (P.os.take i)).coins, F1, G1, st, ht) ∧ RPt (ordS P S (P.os.take i)) (cbO (ordS P S (P.os.take i)) F1 G1 W))
    (fun r => ∃ F' G' W' st ht, r = (nI (hourS P S).hour, nI (hourS P S).warmth, nI (hourS P S).strength, nI (hourS P S).charge, nI (hourS P S).lemons, nI (hourS P S).saucers, nI (hourS P S).coins, nI (hourS P S).storms, F', G', W', st, ht) ∧ RPt (hourS P S) (cbO (hourS P S) F' G' W')) P.os.length (fun i s hi hI2 => ?_) n 0 (0, nI S.strength, nI S.charge, nI S.lemons, nI S.saucers, nI S.coins, F, G, X9_stack b9, X9_height b9) (Nat.zero_le _) (by omega) ⟨F, G, X9_stack b9, X9_height b9, rfl, hbr⟩
  · obtain ⟨r, hr, F', G', W', st, ht, e, hq⟩ := hit
    exact ⟨F', G', W', st, ht, by rw [← e]; exact hr, hq⟩
  · obtain ⟨F1, G1, st, ht, rfl, hb1⟩ := hI2
    obtain ⟨x0, x1, x2, x3⟩ := ord_x P (P.os.take i) S hS
    have hI1 : SpI P (ordS P S (P.os.take i)) := SpI_ord hP _ S hI (fun o ho => hods o (List.mem_of_mem_take ho))
    generalize hSi : ordS P S (P.os.take i) = Si at *
    show (∃ s', f_X8_passHour_L2 n (cbO S F G W) b9 c2 c4 c6 (nI i) (nI S.hour) (nI S.warmth) (nI Si.strength) (nI Si.charge) (nI Si.lemons) (nI Si.saucers) (nI Si.coins) (nI S.storms) F1 G1 W st ht = some (.inl s') ∧ _) ∨ (∃ r, f_X8_passHour_L2 n (cbO S F G W) b9 c2 c4 c6 (nI i) (nI S.hour) (nI S.warmth) (nI Si.strength) (nI Si.charge) (nI Si.lemons) (nI Si.saucers) (nI Si.coins) (nI S.storms) F1 G1 W st ht = some (.inr r) ∧ _)
    rw [← x1, ← x2, ← x3]
    unfold f_X8_passHour_L2
    rw [h6.1]
    by_cases hiN : i < P.os.length
    · refine Or.inl ?_
      have ho : P.os[i]? = some (P.os[i]) := List.getElem?_eq_getElem hiN
      have hOd := hods _ (List.getElem_mem hiN)
      have hro := h6.2 i _ ho
      obtain ⟨r9, w9, h9, e9, q9⟩ := holds_ok hP x0 hI1 (by omega) hb1 h2 h4 (i := i) (by omega) hOd hro (st, ht) hn
      rw [if_neg (nI_ge (a := i) (b := P.os.length) hiN (by omega)), show f_X9_holds n (nI i) (st, ht) c6 (nI Si.hour, nI Si.warmth, nI Si.strength, nI Si.charge, nI Si.lemons, nI Si.saucers, nI Si.coins, nI Si.storms, F1, G1, W) c2 c4 = _ from e9, sb]
      have htk := take_s P S P.os i _ ho
      rw [hSi] at htk
      by_cases ht0 : tstS P Si P.os[i]
      · have hr0 : ¬ r9 = 0 := fun z => q9.mp z ht0
        rw [if_neg hr0, if_neg (vp_in_nI (show i < 16 by omega) (by decide)), if_neg (vp_in_nI (show i < 16 by omega) (by decide)), nI_clamp (by omega), hro.1]
        obtain ⟨F2, G2, e2, hb2⟩ := follow_ok hP x0 hI1 (by omega) hb1 h2 h4 hOd (x := X6_targets c6 i) hro.2.1
        rw [show f_X8_follow (dK P.os[i].1) (X6_targets c6 i) (nI Si.hour, nI Si.warmth, nI Si.strength, nI Si.charge, nI Si.lemons, nI Si.saucers, nI Si.coins, nI Si.storms, F1, G1, W) c2 c4 = _ from e2, sb]
        rw [(odo_t P Si P.os[i]).1 ht0] at htk
        refine ⟨_, rfl, hiN, F2, G2, w9, h9, ?_, ?_⟩
        · rw [htk, nI_1]
        · rw [htk]; exact hb2
      · rw [if_pos (q9.mpr ht0)]
        rw [(odo_t P Si P.os[i]).2 ht0] at htk
        refine ⟨_, rfl, hiN, F1, G1, w9, h9, ?_, ?_⟩
        · rw [htk, nI_1]
        · rw [htk]; exact hb1
    · refine Or.inr ?_
      have hi2 : i = P.os.length := by omega
      subst hi2
      rw [List.take_length] at hSi
      have hbl := blowc_ok hP x0 hI1 (by omega) hb1 h2 (n := n) (by omega)
      rw [if_pos (Int32.le_refl _), show f_X8_blow n (nI Si.hour, nI Si.warmth, nI Si.strength, nI Si.charge, nI Si.lemons, nI Si.saucers, nI Si.coins, nI Si.storms, F1, G1, W) c2 = _ from hbl, sb]
      have hSb := SpB_blow (P := P) x0
      have hIb : SpI P (blowS P Si) := hI1
      have hbb : RPt (blowS P Si) (cbO (blowS P Si) F1 G1 W) := RPt_cb hb1.2.2.2.2.2.2.2.2.1 hb1.2.2.2.2.2.2.2.2.2.1 hb1.2.2.2.2.2.2.2.2.2.2
      have hhS : hourS P S = comeS P (leaveS P (weatherS P (blowS P Si))) := by unfold hourS; rw [hSi]
      have hN := SpI_next hP (SpB_storm (P := P) hSb) (SpI_weather hIb)
      obtain ⟨n1, n2, n3, n4⟩ := hN
      by_cases hc : (blowS P Si).charge < 12
      · rw [if_pos (show nI (blowS P Si).charge < 12 from nI_lt (b := 12) hc (by decide))]
        unfold f_X8_passHour_R86
        have hwS : weatherS P (blowS P Si) = blowS P Si := if_pos hc
        rw [hwS] at hhS n1 n2 n3 n4
        refine ⟨_, rfl, F1, G1, W, st, ht, ?_, ?_⟩
        · rw [hhS, nI_1]; rfl
        · rw [hhS]
          exact RPt_cb (fun j hj => by rw [b01_iff (n2 j)]; exact hb1.2.2.2.2.2.2.2.2.1 j hj) (fun j hj => by rw [b01_iff (n3 j)]; exact hb1.2.2.2.2.2.2.2.2.2.1 j hj) (fun j hj => by rw [b01_iff (n4 j)]; exact hb1.2.2.2.2.2.2.2.2.2.2 j hj)
      · rw [if_neg (show ¬ nI (blowS P Si).charge < 12 from nI_nlt (b := 12) (by omega) (by have := hSb.2.2.1; omega))]
        obtain ⟨W2, e2, hW2⟩ := stormc_ok hP hSb hIb (show Si.hour < 2 ^ 30 by omega) hbb h4 (by omega) (n := n) (by omega)
        rw [show f_X8_storm n (nI Si.hour, nI (blowS P Si).warmth, nI Si.strength, nI (blowS P Si).charge, nI Si.lemons, nI Si.saucers, nI Si.coins, nI Si.storms, F1, G1, W) c4 = _ from e2, sb]
        unfold f_X8_passHour_R86
        have hwS : weatherS P (blowS P Si) = stormS P (blowS P Si) := if_neg hc
        rw [hwS] at hhS n1 n2 n3 n4
        refine ⟨_, rfl, F1, G1, W2, st, ht, ?_, ?_⟩
        · rw [hhS, nI_1]; rfl
        · rw [hhS]
          refine RPt_cb (fun j hj => by rw [b01_iff (n2 j)]; exact hb1.2.2.2.2.2.2.2.2.1 j hj) (fun j hj => ?_) (fun j hj => by rw [b01_iff (n4 j)]; exact hW2 j hj)
          rw [b01_iff (n3 j)]
          have hg2 : (stormS P (blowS P Si)).gp j = 2 ↔ Si.gp j = 2 := by
            show mk1 P.ng (fun g => Si.gp g = 1 ∧ (P.gu g).2.2.2 < (blowS P Si).charge) 3 Si.gp j = 2 ↔ _
            by_cases hm : j < P.ng ∧ (Si.gp j = 1 ∧ (P.gu j).2.2.2 < (blowS P Si).charge)
            · rw [(mk1_c j).1 hm, hm.2.1]
              exact ⟨fun z => absurd z (by decide), fun z => absurd z (by decide)⟩
            · rw [(mk1_c j).2 hm]
          rw [b01_iff hg2]
          exact hb1.2.2.2.2.2.2.2.2.2.1 j hj
end HOURC
