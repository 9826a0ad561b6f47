/-! THE CLASS'S POT in the same numbers: what it looks at, what its deeds do -/
def b01 (p : Prop) [Decidable p] : Nat := if p then 1 else 0
theorem b01_le (p : Prop) [Decidable p] : b01 p ≤ 1 := by
  unfold b01
  split <;> decide
def RPt (S : Sp) (b : bX8) : Prop := X8_hour b = nI S.hour ∧ X8_warmth b = nI S.warmth ∧ X8_strength b = nI S.strength ∧ X8_charge b = nI S.charge ∧ X8_lemons b = nI S.lemons ∧ X8_saucers b = nI S.saucers ∧ X8_coins b = nI S.coins ∧ X8_storms b = nI S.storms ∧ (∀ j, j < 10 → X8_frontSteeped b j = nI (b01 (S.fp j = 2))) ∧ (∀ j, j < 10 → X8_guestServed b j = nI (b01 (S.gp j = 2))) ∧ ∀ j, j < 10 → X8_guestStormed b j = nI (b01 (S.gp j = 3))
def RFr (P : Pl) (c : bX2) : Prop := X2_count c = nI P.nf ∧ ∀ j, j < P.nf → X2_warm c j = nI (P.fr j).1 ∧ X2_force c j = nI (P.fr j).2.1 ∧ X2_from c j = nI (P.fr j).2.2.1 ∧ X2_hours c j = nI (P.fr j).2.2.2
def RGu (P : Pl) (c : bX4) : Prop := X4_count c = nI P.ng ∧ ∀ j, j < P.ng → X4_from c j = nI (P.gu j).1 ∧ X4_weakest c j = nI (P.gu j).2.1 ∧ X4_strongest c j = nI (P.gu j).2.2.1 ∧ X4_nerve c j = nI (P.gu j).2.2.2
/-- when a front hangs over the pot, when a guest sits -/
def SpI (P : Pl) (S : Sp) : Prop := (∀ j, j < P.nf → (S.fp j = 2 → (P.fr j).2.2.1 ≤ S.hour) ∧ (S.fp j = 1 ↔ S.fp j ≠ 2 ∧ (P.fr j).2.2.1 ≤ S.hour ∧ S.hour < (P.fr j).2.2.1 + (P.fr j).2.2.2)) ∧ (∀ j, P.nf ≤ j → S.fp j = 0) ∧ (∀ j, j < P.ng → (2 ≤ S.gp j → (P.gu j).1 ≤ S.hour) ∧ (S.gp j = 1 ↔ S.gp j < 2 ∧ (P.gu j).1 ≤ S.hour ∧ S.hour < (P.gu j).1 + 8)) ∧ ∀ j, P.ng ≤ j → S.gp j = 0
theorem has2_ok {P : Pl} (hP : PlOk P) {c : bX2} (h : RFr P c) {j : Nat} (hj : j < 2 ^ 31) : f_X2_has (nI j) c = some (nI (b01 (j < P.nf))) := by
  have h1 := hP.1
  unfold f_X2_has b01
  by_cases hc : j < P.nf
  · simp (disch := omega) only [h.1, hc, sb, nJ_of, nJ_lt, nJ_le, nJ_eq, nJ_clamp, nJ_add, nJ_sub, if_pos, if_neg, if_true, if_false, nL_0, nL_1, nL_2, nL_3, nL_4, nL_5, nL_6, nL_7, nL_8, nL_9, nL_10, nL_11, nL_12, nL_13, nL_14, nL_15, nL_16, nL_17, nL_18, nL_19, nL_20, nL_21, nL_22, nL_23, nL_24, nL_25, nL_26, nL_27, nL_28, nL_30, nL_38, nL_40, nL_48, nL_58, nL_60]
  · simp (disch := omega) only [h.1, hc, sb, nJ_of, nJ_lt, nJ_le, nJ_eq, nJ_clamp, nJ_add, nJ_sub, if_pos, if_neg, if_true, if_false, nL_0, nL_1, nL_2, nL_3, nL_4, nL_5, nL_6, nL_7, nL_8, nL_9, nL_10, nL_11, nL_12, nL_13, nL_14, nL_15, nL_16, nL_17, nL_18, nL_19, nL_20, nL_21, nL_22, nL_23, nL_24, nL_25, nL_26, nL_27, nL_28, nL_30, nL_38, nL_40, nL_48, nL_58, nL_60]
theorem has4_ok {P : Pl} (hP : PlOk P) {c : bX4} (h : RGu P c) {j : Nat} (hj : j < 2 ^ 31) : f_X4_has (nI j) c = some (nI (b01 (j < P.ng))) := by
  have h1 := hP.2.1
  unfold f_X4_has b01
  by_cases hc : j < P.ng
  · simp (disch := omega) only [h.1, hc, sb, nJ_of, nJ_lt, nJ_le, nJ_eq, nJ_clamp, nJ_add, nJ_sub, if_pos, if_neg, if_true, if_false, nL_0, nL_1, nL_2, nL_3, nL_4, nL_5, nL_6, nL_7, nL_8, nL_9, nL_10, nL_11, nL_12, nL_13, nL_14, nL_15, nL_16, nL_17, nL_18, nL_19, nL_20, nL_21, nL_22, nL_23, nL_24, nL_25, nL_26, nL_27, nL_28, nL_30, nL_38, nL_40, nL_48, nL_58, nL_60]
  · simp (disch := omega) only [h.1, hc, sb, nJ_of, nJ_lt, nJ_le, nJ_eq, nJ_clamp, nJ_add, nJ_sub, if_pos, if_neg, if_true, if_false, nL_0, nL_1, nL_2, nL_3, nL_4, nL_5, nL_6, nL_7, nL_8, nL_9, nL_10, nL_11, nL_12, nL_13, nL_14, nL_15, nL_16, nL_17, nL_18, nL_19, nL_20, nL_21, nL_22, nL_23, nL_24, nL_25, nL_26, nL_27, nL_28, nL_30, nL_38, nL_40, nL_48, nL_58, nL_60]
theorem hangs_ok {P : Pl} (hP : PlOk P) {S : Sp} (hI : SpI P S) (hh : S.hour < 2 ^ 30) {b : bX8} (hb : RPt S b) {c : bX2} (h : RFr P c) {j : Nat} (hj : j < 10) : f_X8_hangsOver (nI j) b c = some (nI (b01 (S.fp j = 1))) := by
  have hH := has2_ok hP h (j := j) (by omega)
  have hnf := hP.1
  obtain ⟨r1, -, -, -, -, -, -, -, r9, -, -⟩ := hb
  unfold f_X8_hangsOver
  by_cases hc : j < P.nf
  · obtain ⟨f1, f2, f3, f4, f5, f6⟩ := hP.2.2.1 j hc
    obtain ⟨-, q⟩ := h
    obtain ⟨q1, q2, q3, q4⟩ := q j hc
    obtain ⟨-, i1⟩ := hI.1 j hc
    have e := r9 j (by omega)
    unfold b01 at hH e ⊢
    by_cases h2 : S.fp j = 2
    · simp (disch := omega) only [hH, hc, e, h2, in_rng (show j < 10 by omega), sb, nJ_of, nJ_lt, nJ_le, nJ_eq, nJ_clamp, nJ_add, nJ_sub, if_pos, if_neg, if_true, if_false, nL_0, nL_1, nL_2, nL_3, nL_4, nL_5, nL_6, nL_7, nL_8, nL_9, nL_10, nL_11, nL_12, nL_13, nL_14, nL_15, nL_16, nL_17, nL_18, nL_19, nL_20, nL_21, nL_22, nL_23, nL_24, nL_25, nL_26, nL_27, nL_28, nL_30, nL_38, nL_40, nL_48, nL_58, nL_60]
    · by_cases h3 : S.hour < (P.fr j).2.2.1
      · simp (disch := omega) only [hH, hc, e, h2, r1, q3, h3, in_rng (show j < 10 by omega), sb, nJ_of, nJ_lt, nJ_le, nJ_eq, nJ_clamp, nJ_add, nJ_sub, if_pos, if_neg, if_true, if_false, nL_0, nL_1, nL_2, nL_3, nL_4, nL_5, nL_6, nL_7, nL_8, nL_9, nL_10, nL_11, nL_12, nL_13, nL_14, nL_15, nL_16, nL_17, nL_18, nL_19, nL_20, nL_21, nL_22, nL_23, nL_24, nL_25, nL_26, nL_27, nL_28, nL_30, nL_38, nL_40, nL_48, nL_58, nL_60]
      · by_cases h4 : (P.fr j).2.2.1 + (P.fr j).2.2.2 ≤ S.hour
        · simp (disch := omega) only [hH, hc, e, h2, r1, q3, q4, h3, h4, in_rng (show j < 10 by omega), sb, nJ_of, nJ_lt, nJ_le, nJ_eq, nJ_clamp, nJ_add, nJ_sub, if_pos, if_neg, if_true, if_false, nL_0, nL_1, nL_2, nL_3, nL_4, nL_5, nL_6, nL_7, nL_8, nL_9, nL_10, nL_11, nL_12, nL_13, nL_14, nL_15, nL_16, nL_17, nL_18, nL_19, nL_20, nL_21, nL_22, nL_23, nL_24, nL_25, nL_26, nL_27, nL_28, nL_30, nL_38, nL_40, nL_48, nL_58, nL_60]
        · simp (disch := omega) only [hH, hc, e, h2, r1, q3, q4, h3, h4, in_rng (show j < 10 by omega), sb, nJ_of, nJ_lt, nJ_le, nJ_eq, nJ_clamp, nJ_add, nJ_sub, if_pos, if_neg, if_true, if_false, nL_0, nL_1, nL_2, nL_3, nL_4, nL_5, nL_6, nL_7, nL_8, nL_9, nL_10, nL_11, nL_12, nL_13, nL_14, nL_15, nL_16, nL_17, nL_18, nL_19, nL_20, nL_21, nL_22, nL_23, nL_24, nL_25, nL_26, nL_27, nL_28, nL_30, nL_38, nL_40, nL_48, nL_58, nL_60]
  · have := hI.2.1 j (by omega)
    unfold b01 at hH ⊢
    simp (disch := omega) only [hH, hc, this, sb, nJ_of, nJ_lt, nJ_le, nJ_eq, nJ_clamp, nJ_add, nJ_sub, if_pos, if_neg, if_true, if_false, nL_0, nL_1, nL_2, nL_3, nL_4, nL_5, nL_6, nL_7, nL_8, nL_9, nL_10, nL_11, nL_12, nL_13, nL_14, nL_15, nL_16, nL_17, nL_18, nL_19, nL_20, nL_21, nL_22, nL_23, nL_24, nL_25, nL_26, nL_27, nL_28, nL_30, nL_38, nL_40, nL_48, nL_58, nL_60]
theorem sits_ok {P : Pl} (hP : PlOk P) {S : Sp} (hS : SpB S) (hI : SpI P S) (hh : S.hour < 2 ^ 30) {b : bX8} (hb : RPt S b) {c : bX4} (h : RGu P c) {j : Nat} (hj : j < 10) : f_X8_sits (nI j) b c = some (nI (b01 (S.gp j = 1))) := by
  have hH := has4_ok hP h (j := j) (by omega)
  have hng := hP.2.1
  have h3' := hS.2.2.2.2.2.2 j
  obtain ⟨r1, -, -, -, -, -, -, -, -, r10, r11⟩ := hb
  unfold f_X8_sits
  by_cases hc : j < P.ng
  · obtain ⟨g1, g2, g3, g4, g5⟩ := hP.2.2.2.1 j hc
    obtain ⟨-, q⟩ := h
    obtain ⟨q1, q2, q3, q4⟩ := q j hc
    obtain ⟨-, i1⟩ := hI.2.2.1 j hc
    have e := r10 j (by omega)
    have e' := r11 j (by omega)
    unfold b01 at hH e e' ⊢
    by_cases h2 : S.gp j = 2
    · simp (disch := omega) only [hH, hc, e, e', h2, in_rng (show j < 10 by omega), sb, nJ_of, nJ_lt, nJ_le, nJ_eq, nJ_clamp, nJ_add, nJ_sub, if_pos, if_neg, if_true, if_false, nL_0, nL_1, nL_2, nL_3, nL_4, nL_5, nL_6, nL_7, nL_8, nL_9, nL_10, nL_11, nL_12, nL_13, nL_14, nL_15, nL_16, nL_17, nL_18, nL_19, nL_20, nL_21, nL_22, nL_23, nL_24, nL_25, nL_26, nL_27, nL_28, nL_30, nL_38, nL_40, nL_48, nL_58, nL_60]
    · by_cases h2' : S.gp j = 3
      · simp (disch := omega) only [hH, hc, e, e', h2, h2', in_rng (show j < 10 by omega), sb, nJ_of, nJ_lt, nJ_le, nJ_eq, nJ_clamp, nJ_add, nJ_sub, if_pos, if_neg, if_true, if_false, nL_0, nL_1, nL_2, nL_3, nL_4, nL_5, nL_6, nL_7, nL_8, nL_9, nL_10, nL_11, nL_12, nL_13, nL_14, nL_15, nL_16, nL_17, nL_18, nL_19, nL_20, nL_21, nL_22, nL_23, nL_24, nL_25, nL_26, nL_27, nL_28, nL_30, nL_38, nL_40, nL_48, nL_58, nL_60]
      · by_cases h3 : S.hour < (P.gu j).1
        · simp (disch := omega) only [hH, hc, e, e', h2, h2', r1, q1, h3, in_rng (show j < 10 by omega), sb, nJ_of, nJ_lt, nJ_le, nJ_eq, nJ_clamp, nJ_add, nJ_sub, if_pos, if_neg, if_true, if_false, nL_0, nL_1, nL_2, nL_3, nL_4, nL_5, nL_6, nL_7, nL_8, nL_9, nL_10, nL_11, nL_12, nL_13, nL_14, nL_15, nL_16, nL_17, nL_18, nL_19, nL_20, nL_21, nL_22, nL_23, nL_24, nL_25, nL_26, nL_27, nL_28, nL_30, nL_38, nL_40, nL_48, nL_58, nL_60]
        · by_cases h4 : (P.gu j).1 + 8 ≤ S.hour
          · simp (disch := omega) only [hH, hc, e, e', h2, h2', r1, q1, h3, h4, in_rng (show j < 10 by omega), sb, nJ_of, nJ_lt, nJ_le, nJ_eq, nJ_clamp, nJ_add, nJ_sub, if_pos, if_neg, if_true, if_false, nL_0, nL_1, nL_2, nL_3, nL_4, nL_5, nL_6, nL_7, nL_8, nL_9, nL_10, nL_11, nL_12, nL_13, nL_14, nL_15, nL_16, nL_17, nL_18, nL_19, nL_20, nL_21, nL_22, nL_23, nL_24, nL_25, nL_26, nL_27, nL_28, nL_30, nL_38, nL_40, nL_48, nL_58, nL_60]
          · simp (disch := omega) only [hH, hc, e, e', h2, h2', r1, q1, h3, h4, in_rng (show j < 10 by omega), sb, nJ_of, nJ_lt, nJ_le, nJ_eq, nJ_clamp, nJ_add, nJ_sub, if_pos, if_neg, if_true, if_false, nL_0, nL_1, nL_2, nL_3, nL_4, nL_5, nL_6, nL_7, nL_8, nL_9, nL_10, nL_11, nL_12, nL_13, nL_14, nL_15, nL_16, nL_17, nL_18, nL_19, nL_20, nL_21, nL_22, nL_23, nL_24, nL_25, nL_26, nL_27, nL_28, nL_30, nL_38, nL_40, nL_48, nL_58, nL_60]
  · have := hI.2.2.2 j (by omega)
    unfold b01 at hH ⊢
    simp (disch := omega) only [hH, hc, this, sb, nJ_of, nJ_lt, nJ_le, nJ_eq, nJ_clamp, nJ_add, nJ_sub, if_pos, if_neg, if_true, if_false, nL_0, nL_1, nL_2, nL_3, nL_4, nL_5, nL_6, nL_7, nL_8, nL_9, nL_10, nL_11, nL_12, nL_13, nL_14, nL_15, nL_16, nL_17, nL_18, nL_19, nL_20, nL_21, nL_22, nL_23, nL_24, nL_25, nL_26, nL_27, nL_28, nL_30, nL_38, nL_40, nL_48, nL_58, nL_60]
theorem like_ok {P : Pl} (hP : PlOk P) {S : Sp} (hS : SpB S) (hI : SpI P S) (hh : S.hour < 2 ^ 30) {b : bX8} (hb : RPt S b) {c : bX4} (h : RGu P c) {j x : Nat} (hj : j < 10) (hx : x ≤ 60) : f_X8_wouldLike (nI j) (nI x) b c = some (nI (b01 (likeS P S j x))) := by
  have hs := sits_ok hP hS hI hh hb h hj
  have hw := hS.1
  have h1' := hI.2.2.2 j
  obtain ⟨-, r2, -⟩ := hb
  unfold f_X8_wouldLike
  unfold b01 at hs ⊢
  by_cases h1 : S.gp j = 1
  · have hc : j < P.ng := by omega
    obtain ⟨g1, g2, g3, g4, g5⟩ := hP.2.2.2.1 j hc
    obtain ⟨-, q⟩ := h
    obtain ⟨q1, q2, q3, q4⟩ := q j hc
    by_cases h2 : S.warmth < 15
    · simp (disch := omega) only [hs, h1, r2, h2, sb, nJ_of, nJ_lt, nJ_le, nJ_eq, nJ_clamp, nJ_add, nJ_sub, if_pos, if_neg, if_true, if_false, nL_0, nL_1, nL_2, nL_3, nL_4, nL_5, nL_6, nL_7, nL_8, nL_9, nL_10, nL_11, nL_12, nL_13, nL_14, nL_15, nL_16, nL_17, nL_18, nL_19, nL_20, nL_21, nL_22, nL_23, nL_24, nL_25, nL_26, nL_27, nL_28, nL_30, nL_38, nL_40, nL_48, nL_58, nL_60]
    · by_cases h3 : x < (P.gu j).2.1
      · simp (disch := omega) only [hs, h1, r2, h2, q2, h3, in_rng (show j < 10 by omega), sb, nJ_of, nJ_lt, nJ_le, nJ_eq, nJ_clamp, nJ_add, nJ_sub, if_pos, if_neg, if_true, if_false, nL_0, nL_1, nL_2, nL_3, nL_4, nL_5, nL_6, nL_7, nL_8, nL_9, nL_10, nL_11, nL_12, nL_13, nL_14, nL_15, nL_16, nL_17, nL_18, nL_19, nL_20, nL_21, nL_22, nL_23, nL_24, nL_25, nL_26, nL_27, nL_28, nL_30, nL_38, nL_40, nL_48, nL_58, nL_60]
      · by_cases h4 : (P.gu j).2.2.1 < x
        · simp (disch := omega) only [hs, h1, r2, h2, q2, q3, h3, h4, in_rng (show j < 10 by omega), sb, nJ_of, nJ_lt, nJ_le, nJ_eq, nJ_clamp, nJ_add, nJ_sub, if_pos, if_neg, if_true, if_false, nL_0, nL_1, nL_2, nL_3, nL_4, nL_5, nL_6, nL_7, nL_8, nL_9, nL_10, nL_11, nL_12, nL_13, nL_14, nL_15, nL_16, nL_17, nL_18, nL_19, nL_20, nL_21, nL_22, nL_23, nL_24, nL_25, nL_26, nL_27, nL_28, nL_30, nL_38, nL_40, nL_48, nL_58, nL_60]
        · simp (disch := omega) only [hs, h1, r2, h2, q2, q3, h3, h4, in_rng (show j < 10 by omega), sb, nJ_of, nJ_lt, nJ_le, nJ_eq, nJ_clamp, nJ_add, nJ_sub, if_pos, if_neg, if_true, if_false, nL_0, nL_1, nL_2, nL_3, nL_4, nL_5, nL_6, nL_7, nL_8, nL_9, nL_10, nL_11, nL_12, nL_13, nL_14, nL_15, nL_16, nL_17, nL_18, nL_19, nL_20, nL_21, nL_22, nL_23, nL_24, nL_25, nL_26, nL_27, nL_28, nL_30, nL_38, nL_40, nL_48, nL_58, nL_60]
  · simp (disch := omega) only [hs, h1, sb, nJ_of, nJ_lt, nJ_le, nJ_eq, nJ_clamp, nJ_add, nJ_sub, if_pos, if_neg, if_true, if_false, nL_0, nL_1, nL_2, nL_3, nL_4, nL_5, nL_6, nL_7, nL_8, nL_9, nL_10, nL_11, nL_12, nL_13, nL_14, nL_15, nL_16, nL_17, nL_18, nL_19, nL_20, nL_21, nL_22, nL_23, nL_24, nL_25, nL_26, nL_27, nL_28, nL_30, nL_38, nL_40, nL_48, nL_58, nL_60]
theorem swith_ok {P : Pl} (hP : PlOk P) {S : Sp} (hS : SpB S) {b : bX8} (hb : RPt S b) {c : bX2} (h : RFr P c) {j : Nat} (hj : j < P.nf) : f_X8_strengthWith (nI j) b c = some (nI (if S.strength + (P.fr j).2.1 ≤ 30 then S.strength + (P.fr j).2.1 else 30)) := by
  have hnf := hP.1
  have hH := has2_ok hP h (j := j) (by omega)
  obtain ⟨f1, f2, f3, f4, f5, f6⟩ := hP.2.2.1 j hj
  obtain ⟨-, q⟩ := h
  obtain ⟨q1, q2, q3, q4⟩ := q j hj
  have b2 := hS.2.1
  obtain ⟨-, -, r3, -⟩ := hb
  unfold f_X8_strengthWith f_X8_strengthWith_R30
  unfold b01 at hH
  by_cases h1 : S.strength + (P.fr j).2.1 < 30
  · simp (disch := omega) only [hH, hj, r3, q2, h1, in_rng (show j < 10 by omega), sb, nJ_of, nJ_lt, nJ_le, nJ_eq, nJ_clamp, nJ_add, nJ_sub, if_pos, if_neg, if_true, if_false, nL_0, nL_1, nL_2, nL_3, nL_4, nL_5, nL_6, nL_7, nL_8, nL_9, nL_10, nL_11, nL_12, nL_13, nL_14, nL_15, nL_16, nL_17, nL_18, nL_19, nL_20, nL_21, nL_22, nL_23, nL_24, nL_25, nL_26, nL_27, nL_28, nL_30, nL_38, nL_40, nL_48, nL_58, nL_60]
  · by_cases h2 : S.strength + (P.fr j).2.1 = 30
    · simp (disch := omega) only [hH, hj, r3, q2, h1, h2, in_rng (show j < 10 by omega), sb, nJ_of, nJ_lt, nJ_le, nJ_eq, nJ_clamp, nJ_add, nJ_sub, if_pos, if_neg, if_true, if_false, nL_0, nL_1, nL_2, nL_3, nL_4, nL_5, nL_6, nL_7, nL_8, nL_9, nL_10, nL_11, nL_12, nL_13, nL_14, nL_15, nL_16, nL_17, nL_18, nL_19, nL_20, nL_21, nL_22, nL_23, nL_24, nL_25, nL_26, nL_27, nL_28, nL_30, nL_38, nL_40, nL_48, nL_58, nL_60]
    · simp (disch := omega) only [hH, hj, r3, q2, h1, h2, in_rng (show j < 10 by omega), sb, nJ_of, nJ_lt, nJ_le, nJ_eq, nJ_clamp, nJ_add, nJ_sub, if_pos, if_neg, if_true, if_false, nL_0, nL_1, nL_2, nL_3, nL_4, nL_5, nL_6, nL_7, nL_8, nL_9, nL_10, nL_11, nL_12, nL_13, nL_14, nL_15, nL_16, nL_17, nL_18, nL_19, nL_20, nL_21, nL_22, nL_23, nL_24, nL_25, nL_26, nL_27, nL_28, nL_30, nL_38, nL_40, nL_48, nL_58, nL_60]
/-! deeds -/
theorem RPt_mk {S' : Sp} {b : bX8} (h : RPt S' b) : RPt S' b := h
theorem steep_ok {P : Pl} (hP : PlOk P) {S : Sp} (hS : SpB S) (hI : SpI P S) (hh : S.hour < 2 ^ 30) {b : bX8} (hb : RPt S b) {c : bX2} (h : RFr P c) {j : Nat} (hj : j < P.nf) : ∃ F, f_X8_steepFront (nI j) b c = some (nI (b01 (S.fp j = 1)), nI (steepS P S j).strength, F) ∧ ∀ i, i < 10 → F i = nI (b01 ((steepS P S j).fp i = 2)) := by
  have hnf := hP.1
  have h1 := hangs_ok hP hI hh hb h (j := j) (by omega)
  have h2 := swith_ok hP hS hb h hj
  obtain ⟨-, -, r3, -, -, -, -, -, r9, -⟩ := hb
  unfold f_X8_steepFront steepS
  unfold b01 at h1 ⊢
  by_cases hc : S.fp j = 1
  · refine ⟨upd (X8_frontSteeped b) j 1, ?_, fun i hi => ?_⟩
    · simp (disch := omega) only [h1, h2, hc, in_rng (show j < 10 by omega), sb, nJ_of, nJ_lt, nJ_le, nJ_eq, nJ_clamp, nJ_add, nJ_sub, if_pos, if_neg, if_true, if_false, nL_0, nL_1, nL_2, nL_3, nL_4, nL_5, nL_6, nL_7, nL_8, nL_9, nL_10, nL_11, nL_12, nL_13, nL_14, nL_15, nL_16, nL_17, nL_18, nL_19, nL_20, nL_21, nL_22, nL_23, nL_24, nL_25, nL_26, nL_27, nL_28, nL_30, nL_38, nL_40, nL_48, nL_58, nL_60]
    · rw [if_pos hc]
      show upd (X8_frontSteeped b) j 1 i = nI (if updT S.fp j 2 i = 2 then 1 else 0)
      by_cases hij : i = j
      · subst hij
        rw [pk_us, updT_s]
        rfl
      · rw [pk_un hij, updT_o _ _ hij]
        exact r9 i hi
  · refine ⟨X8_frontSteeped b, ?_, fun i hi => ?_⟩
    · simp (disch := omega) only [h1, hc, sb, nJ_of, nJ_lt, nJ_le, nJ_eq, nJ_clamp, nJ_add, nJ_sub, if_pos, if_neg, if_true, if_false, nL_0, nL_1, nL_2, nL_3, nL_4, nL_5, nL_6, nL_7, nL_8, nL_9, nL_10, nL_11, nL_12, nL_13, nL_14, nL_15, nL_16, nL_17, nL_18, nL_19, nL_20, nL_21, nL_22, nL_23, nL_24, nL_25, nL_26, nL_27, nL_28, nL_30, nL_38, nL_40, nL_48, nL_58, nL_60]
      rw [r3]
    · rw [if_neg hc]
      exact r9 i hi
theorem serve_ok {P : Pl} (hP : PlOk P) {S : Sp} (hS : SpB S) (hI : SpI P S) (hh : S.hour < 2 ^ 30) {b : bX8} (hb : RPt S b) {c : bX4} (h : RGu P c) {j : Nat} (hj : j < P.ng) : ∃ G, f_X8_serveGuest (nI j) b c = some (nI (b01 (likeS P S j S.strength)), nI (serveS P S j).strength, nI (serveS P S j).coins, G) ∧ (∀ i, i < 10 → G i = nI (b01 ((serveS P S j).gp i = 2))) ∧ ∀ i, i < 10 → X8_guestStormed b i = nI (b01 ((serveS P S j).gp i = 3)) := by
  have hng := hP.2.1
  have b2 := hS.2.1
  have h1 := like_ok hP hS hI hh hb h (j := j) (x := S.strength) (by omega) (by omega)
  obtain ⟨-, -, r3, -, -, -, r7, -, -, r10, r11⟩ := hb
  rw [← r3] at h1
  unfold f_X8_serveGuest serveS
  unfold b01 at h1 ⊢
  by_cases hc : likeS P S j S.strength
  · rw [if_pos hc] at h1
    refine ⟨upd (X8_guestServed b) j 1, ?_, fun i hi => ?_, fun i hi => ?_⟩
    · rw [h1, sb, if_neg (show ¬ nI 1 = 0 by decide), if_neg (vp_in_nI (show j < 10 by omega) (by decide)), nI_clamp (by omega), if_pos hc, if_pos hc, r3, r7]
      by_cases h3 : 3 < S.strength
      · simp (disch := omega) only [h3, sb, nJ_of, nJ_lt, nJ_le, nJ_eq, nJ_clamp, nJ_add, nJ_sub, if_pos, if_neg, if_true, if_false, nL_0, nL_1, nL_2, nL_3, nL_4, nL_5, nL_6, nL_7, nL_8, nL_9, nL_10, nL_11, nL_12, nL_13, nL_14, nL_15, nL_16, nL_17, nL_18, nL_19, nL_20, nL_21, nL_22, nL_23, nL_24, nL_25, nL_26, nL_27, nL_28, nL_30, nL_38, nL_40, nL_48, nL_58, nL_60]
      · by_cases h4 : S.strength = 3
        · rw [h4]; simp (disch := omega) only [sb, nJ_of, nJ_lt, nJ_le, nJ_eq, nJ_clamp, nJ_add, nJ_sub, if_pos, if_neg, if_true, if_false, nL_0, nL_1, nL_2, nL_3, nL_4, nL_5, nL_6, nL_7, nL_8, nL_9, nL_10, nL_11, nL_12, nL_13, nL_14, nL_15, nL_16, nL_17, nL_18, nL_19, nL_20, nL_21, nL_22, nL_23, nL_24, nL_25, nL_26, nL_27, nL_28, nL_30, nL_38, nL_40, nL_48, nL_58, nL_60]
        · have h5 : nI S.strength - 3 < 0 := pk_sneg (b := 3) (by decide) (by omega)
          rw [if_neg (fun z => Int32.lt_asymm z h5), nI_add]
          show _ = some (nI 1, nI (S.strength - 3), _, _)
          rw [show S.strength - 3 = 0 by omega]
          rfl
    · rw [if_pos hc]
      show upd (X8_guestServed b) j 1 i = nI (if updT S.gp j 2 i = 2 then 1 else 0)
      by_cases hij : i = j
      · subst hij
        rw [pk_us, updT_s]
        rfl
      · rw [pk_un hij, updT_o _ _ hij]
        exact r10 i hi
    · rw [if_pos hc]
      show X8_guestStormed b i = nI (if updT S.gp j 2 i = 3 then 1 else 0)
      by_cases hij : i = j
      · subst hij
        rw [updT_s]
        have := r11 i hi
        unfold b01 at this
        rw [if_neg (by rw [hc.1]; decide)] at this
        exact this
      · rw [updT_o _ _ hij]
        exact r11 i hi
  · rw [if_neg hc] at h1
    refine ⟨X8_guestServed b, ?_, fun i hi => ?_, fun i hi => ?_⟩
    · rw [h1, sb, if_pos (show nI 0 = 0 from rfl), if_neg hc, if_neg hc, r3, r7]
      rfl
    · rw [if_neg hc]
      exact r10 i hi
    · rw [if_neg hc]
      exact r11 i hi
theorem lemon_ok {S : Sp} (hS : SpB S) {b : bX8} (hb : RPt S b) : f_X8_squeezeLemon b = some (nI (if S.lemons = 0 then 0 else 1), nI (squeezeS S).charge, nI (squeezeS S).lemons) := by
  obtain ⟨b1, b2, b3, b4, b5, b6, b7⟩ := hS
  obtain ⟨-, -, -, r4, r5, -⟩ := hb
  unfold f_X8_squeezeLemon squeezeS
  by_cases h1 : S.lemons = 0
  · simp (disch := omega) only [r4, r5, h1, sb, nJ_of, nJ_lt, nJ_le, nJ_eq, nJ_clamp, nJ_add, nJ_sub, if_pos, if_neg, if_true, if_false, nL_0, nL_1, nL_2, nL_3, nL_4, nL_5, nL_6, nL_7, nL_8, nL_9, nL_10, nL_11, nL_12, nL_13, nL_14, nL_15, nL_16, nL_17, nL_18, nL_19, nL_20, nL_21, nL_22, nL_23, nL_24, nL_25, nL_26, nL_27, nL_28, nL_30, nL_38, nL_40, nL_48, nL_58, nL_60]
  · by_cases h2 : S.charge + 6 < 30
    · simp (disch := omega) only [r4, r5, h1, h2, sb, nJ_of, nJ_lt, nJ_le, nJ_eq, nJ_clamp, nJ_add, nJ_sub, if_pos, if_neg, if_true, if_false, nL_0, nL_1, nL_2, nL_3, nL_4, nL_5, nL_6, nL_7, nL_8, nL_9, nL_10, nL_11, nL_12, nL_13, nL_14, nL_15, nL_16, nL_17, nL_18, nL_19, nL_20, nL_21, nL_22, nL_23, nL_24, nL_25, nL_26, nL_27, nL_28, nL_30, nL_38, nL_40, nL_48, nL_58, nL_60]
    · by_cases h3 : S.charge = 24
      · simp (disch := omega) only [r4, r5, h1, h2, h3, sb, nJ_of, nJ_lt, nJ_le, nJ_eq, nJ_clamp, nJ_add, nJ_sub, if_pos, if_neg, if_true, if_false, nL_0, nL_1, nL_2, nL_3, nL_4, nL_5, nL_6, nL_7, nL_8, nL_9, nL_10, nL_11, nL_12, nL_13, nL_14, nL_15, nL_16, nL_17, nL_18, nL_19, nL_20, nL_21, nL_22, nL_23, nL_24, nL_25, nL_26, nL_27, nL_28, nL_30, nL_38, nL_40, nL_48, nL_58, nL_60]
      · simp (disch := omega) only [r4, r5, h1, h2, h3, sb, nJ_of, nJ_lt, nJ_le, nJ_eq, nJ_clamp, nJ_add, nJ_sub, if_pos, if_neg, if_true, if_false, nL_0, nL_1, nL_2, nL_3, nL_4, nL_5, nL_6, nL_7, nL_8, nL_9, nL_10, nL_11, nL_12, nL_13, nL_14, nL_15, nL_16, nL_17, nL_18, nL_19, nL_20, nL_21, nL_22, nL_23, nL_24, nL_25, nL_26, nL_27, nL_28, nL_30, nL_38, nL_40, nL_48, nL_58, nL_60]
theorem saucer_ok {S : Sp} (hS : SpB S) {b : bX8} (hb : RPt S b) : f_X8_putSaucer b = some (nI (if S.saucers = 0 then 0 else 1), nI (calmS S).charge, nI (calmS S).saucers) := by
  obtain ⟨b1, b2, b3, b4, b5, b6, b7⟩ := hS
  obtain ⟨-, -, -, r4, -, r6, -⟩ := hb
  unfold f_X8_putSaucer calmS
  by_cases h1 : S.saucers = 0
  · simp (disch := omega) only [r4, r6, h1, sb, nJ_of, nJ_lt, nJ_le, nJ_eq, nJ_clamp, nJ_add, nJ_sub, if_pos, if_neg, if_true, if_false, nL_0, nL_1, nL_2, nL_3, nL_4, nL_5, nL_6, nL_7, nL_8, nL_9, nL_10, nL_11, nL_12, nL_13, nL_14, nL_15, nL_16, nL_17, nL_18, nL_19, nL_20, nL_21, nL_22, nL_23, nL_24, nL_25, nL_26, nL_27, nL_28, nL_30, nL_38, nL_40, nL_48, nL_58, nL_60]
  · by_cases h2 : 5 < S.charge
    · simp (disch := omega) only [r4, r6, h1, h2, sb, nJ_of, nJ_lt, nJ_le, nJ_eq, nJ_clamp, nJ_add, nJ_sub, if_pos, if_neg, if_true, if_false, nL_0, nL_1, nL_2, nL_3, nL_4, nL_5, nL_6, nL_7, nL_8, nL_9, nL_10, nL_11, nL_12, nL_13, nL_14, nL_15, nL_16, nL_17, nL_18, nL_19, nL_20, nL_21, nL_22, nL_23, nL_24, nL_25, nL_26, nL_27, nL_28, nL_30, nL_38, nL_40, nL_48, nL_58, nL_60]
    · by_cases h3 : S.charge = 5
      · simp (disch := omega) only [r4, r6, h1, h2, h3, sb, nJ_of, nJ_lt, nJ_le, nJ_eq, nJ_clamp, nJ_add, nJ_sub, if_pos, if_neg, if_true, if_false, nL_0, nL_1, nL_2, nL_3, nL_4, nL_5, nL_6, nL_7, nL_8, nL_9, nL_10, nL_11, nL_12, nL_13, nL_14, nL_15, nL_16, nL_17, nL_18, nL_19, nL_20, nL_21, nL_22, nL_23, nL_24, nL_25, nL_26, nL_27, nL_28, nL_30, nL_38, nL_40, nL_48, nL_58, nL_60]
      · have h5 : nI S.charge - nI 5 < 0 := pk_sneg (b := 5) (by decide) (by omega)
        have h6 : ¬ nI 0 < nI S.charge - nI 5 := fun z => Int32.lt_asymm z h5
        simp (disch := omega) only [r4, r6, h1, nJ_lt, if_pos, if_neg, if_false, nL_0, nL_5, nL_1, h6, nJ_sub]
        rw [show S.charge - 5 = 0 by omega]
