/-! lines of fronts and guests: the class reads them -/
section P34
variable {N : Nat → Int32} {n : Nat} {K : Nat → Nat} {sT : Nat → Int32} {vT : Nat → Int64} {t : Nat} {e1 e2 : Int32} {oA : Nat → Nat} {oB oC oD : Nat → Int32} {oE : Int32}
variable {kd : Nat → Int32} {sk : Nat → Nat} {sv : Nat → Int32} {s : Nat}
theorem cl_front_0 (hK : TKO K kd t) {c c0 : Nat} (hc0 : c = c0 + 1) (hk0 : K c0 = 0) (hc : c ≤ t)  (hx : K (c) ≠ 47) : f_X3_line n (K, sT, vT, nI (t + 1), nI (c0), e1, e2) (oA, oB, oC, oD, sk, sv, oE, nI s) = some (nI 0, nI (c), oA, oB, oC, oD, sk, sv, oE, nI s) := by
  have h0k := hK.1
  have ctF := c_take (sT := sT) (vT := vT) (e1 := e1) (e2 := e2) hK (show c0 ≤ t by omega) (k := 0) (by omega)
  have ctG := c_take (sT := sT) (vT := vT) (e1 := e1) (e2 := e2) hK (show c0 ≤ t by omega) (k := 7) (by omega)
  rw [hk0] at ctF ctG
  rw [← hc0] at ctF ctG
  have ct0_47 := c_take (sT := sT) (vT := vT) (e1 := e1) (e2 := e2) hK (show c ≤ t by omega) (k := 47) (by omega)
  unfold f_X3_line f_X3_line_R50 f_X11_takeNumber
  simp (disch := omega) only [↓bd ctF, bd ctF, ↓bd ctG, bd ctG, ↓bd ct0_47, bd ct0_47, hx, X11_kinds, X11_starts, X11_values, X11_count, X11_cursor, X11_error, X11_errorToken, X6_deeds, X6_targets, X6_firstSteps, X6_endSteps, X6_stepKinds, X6_stepValues, X6_count, X6_steps, ↓reduceIte, ↓if_pos, ↓if_neg, Nat.reduceEqDiff, Nat.reduceLeDiff, Nat.reduceLT, and_true, true_and, and_false, false_and, true_or, or_true, false_or, or_false, eq_self, sb, nJ_of, nJ_lt, nJ_le, nJ_eq, nJ_clamp, nJ_add, nJ_sub, if_pos, if_neg, if_true, if_false, nL_0, nL_1, nL_2, nL_3, nL_4, nL_5, nL_6, nL_7, nL_8, nL_9, nL_10, nL_11, nL_12, nL_13, nL_14, nL_15, nL_16, nL_17, nL_18, nL_19, nL_20, nL_21, nL_22, nL_23, nL_24, nL_25, nL_26, nL_27, nL_28, nL_29, nL_30, nL_31, nL_32, nL_33, nL_34, nL_35, nL_36, nL_37, nL_38, nL_39, nL_40, nL_41, nL_42, nL_43, nL_44, nL_45, nL_46, nL_47, nL_48, nL_49, nL_50, nL_51, nL_52, nL_53, nL_54, nL_55, nL_56, nL_57, nL_58, nL_59, nL_60, nL_61, nL_62, nL_63, nL_64, nL_65, nL_66, nL_67, nL_68, nL_69, nL_70, nL_400, nL_402, nL_800, nL_2000]

theorem cl_front_1 (hK : TKO K kd t) {c c0 : Nat} (hc0 : c = c0 + 1) (hk0 : K c0 = 0) (hc : c + 1 ≤ t) (h0 : K c = 47) (hx : K (c + 1) ≠ 1) : f_X3_line n (K, sT, vT, nI (t + 1), nI (c0), e1, e2) (oA, oB, oC, oD, sk, sv, oE, nI s) = some (nI 0, nI (c + 1), oA, oB, oC, oD, sk, sv, oE, nI s) := by
  have h0k := hK.1
  have ctF := c_take (sT := sT) (vT := vT) (e1 := e1) (e2 := e2) hK (show c0 ≤ t by omega) (k := 0) (by omega)
  have ctG := c_take (sT := sT) (vT := vT) (e1 := e1) (e2 := e2) hK (show c0 ≤ t by omega) (k := 7) (by omega)
  rw [hk0] at ctF ctG
  rw [← hc0] at ctF ctG
  have ct0_47 := c_take (sT := sT) (vT := vT) (e1 := e1) (e2 := e2) hK (show c ≤ t by omega) (k := 47) (by omega)
  have ct1_1 := c_take (sT := sT) (vT := vT) (e1 := e1) (e2 := e2) hK (show c + 1 ≤ t by omega) (k := 1) (by omega)
  unfold f_X3_line f_X3_line_R50 f_X11_takeNumber
  simp (disch := omega) only [↓bd ctF, bd ctF, ↓bd ctG, bd ctG, ↓bd ct0_47, bd ct0_47, ↓bd ct1_1, bd ct1_1, h0, hx, X11_kinds, X11_starts, X11_values, X11_count, X11_cursor, X11_error, X11_errorToken, X6_deeds, X6_targets, X6_firstSteps, X6_endSteps, X6_stepKinds, X6_stepValues, X6_count, X6_steps, ↓reduceIte, ↓if_pos, ↓if_neg, Nat.reduceEqDiff, Nat.reduceLeDiff, Nat.reduceLT, and_true, true_and, and_false, false_and, true_or, or_true, false_or, or_false, eq_self, sb, nJ_of, nJ_lt, nJ_le, nJ_eq, nJ_clamp, nJ_add, nJ_sub, if_pos, if_neg, if_true, if_false, nL_0, nL_1, nL_2, nL_3, nL_4, nL_5, nL_6, nL_7, nL_8, nL_9, nL_10, nL_11, nL_12, nL_13, nL_14, nL_15, nL_16, nL_17, nL_18, nL_19, nL_20, nL_21, nL_22, nL_23, nL_24, nL_25, nL_26, nL_27, nL_28, nL_29, nL_30, nL_31, nL_32, nL_33, nL_34, nL_35, nL_36, nL_37, nL_38, nL_39, nL_40, nL_41, nL_42, nL_43, nL_44, nL_45, nL_46, nL_47, nL_48, nL_49, nL_50, nL_51, nL_52, nL_53, nL_54, nL_55, nL_56, nL_57, nL_58, nL_59, nL_60, nL_61, nL_62, nL_63, nL_64, nL_65, nL_66, nL_67, nL_68, nL_69, nL_70, nL_400, nL_402, nL_800, nL_2000]

theorem cl_front_2 (hK : TKO K kd t) {c c0 : Nat} (hc0 : c = c0 + 1) (hk0 : K c0 = 0) (hc : c + 2 ≤ t) (h0 : K c = 47) (h1 : K (c + 1) = 1) (hx : K (c + 2) ≠ 2 ∧ K (c + 2) ≠ 3) : f_X3_line n (K, sT, vT, nI (t + 1), nI (c0), e1, e2) (oA, oB, oC, oD, sk, sv, oE, nI s) = some (nI 0, nI (c + 2), oA, oB, oC, oD, sk, sv, oE, nI s) := by
  have h0k := hK.1
  have ctF := c_take (sT := sT) (vT := vT) (e1 := e1) (e2 := e2) hK (show c0 ≤ t by omega) (k := 0) (by omega)
  have ctG := c_take (sT := sT) (vT := vT) (e1 := e1) (e2 := e2) hK (show c0 ≤ t by omega) (k := 7) (by omega)
  rw [hk0] at ctF ctG
  rw [← hc0] at ctF ctG
  have ct0_47 := c_take (sT := sT) (vT := vT) (e1 := e1) (e2 := e2) hK (show c ≤ t by omega) (k := 47) (by omega)
  have ct1_1 := c_take (sT := sT) (vT := vT) (e1 := e1) (e2 := e2) hK (show c + 1 ≤ t by omega) (k := 1) (by omega)
  have ct2_2 := c_take (sT := sT) (vT := vT) (e1 := e1) (e2 := e2) hK (show c + 2 ≤ t by omega) (k := 2) (by omega)
  have ct2_3 := c_take (sT := sT) (vT := vT) (e1 := e1) (e2 := e2) hK (show c + 2 ≤ t by omega) (k := 3) (by omega)
  unfold f_X3_line f_X3_line_R50 f_X11_takeNumber
  simp (disch := omega) only [↓bd ctF, bd ctF, ↓bd ctG, bd ctG, ↓bd ct0_47, bd ct0_47, ↓bd ct1_1, bd ct1_1, ↓bd ct2_2, bd ct2_2, ↓bd ct2_3, bd ct2_3, h0, h1, hx.1, hx.2, X11_kinds, X11_starts, X11_values, X11_count, X11_cursor, X11_error, X11_errorToken, X6_deeds, X6_targets, X6_firstSteps, X6_endSteps, X6_stepKinds, X6_stepValues, X6_count, X6_steps, ↓reduceIte, ↓if_pos, ↓if_neg, Nat.reduceEqDiff, Nat.reduceLeDiff, Nat.reduceLT, and_true, true_and, and_false, false_and, true_or, or_true, false_or, or_false, eq_self, sb, nJ_of, nJ_lt, nJ_le, nJ_eq, nJ_clamp, nJ_add, nJ_sub, if_pos, if_neg, if_true, if_false, nL_0, nL_1, nL_2, nL_3, nL_4, nL_5, nL_6, nL_7, nL_8, nL_9, nL_10, nL_11, nL_12, nL_13, nL_14, nL_15, nL_16, nL_17, nL_18, nL_19, nL_20, nL_21, nL_22, nL_23, nL_24, nL_25, nL_26, nL_27, nL_28, nL_29, nL_30, nL_31, nL_32, nL_33, nL_34, nL_35, nL_36, nL_37, nL_38, nL_39, nL_40, nL_41, nL_42, nL_43, nL_44, nL_45, nL_46, nL_47, nL_48, nL_49, nL_50, nL_51, nL_52, nL_53, nL_54, nL_55, nL_56, nL_57, nL_58, nL_59, nL_60, nL_61, nL_62, nL_63, nL_64, nL_65, nL_66, nL_67, nL_68, nL_69, nL_70, nL_400, nL_402, nL_800, nL_2000]

theorem cl_front_3 (hK : TKO K kd t) {c c0 : Nat} (hc0 : c = c0 + 1) (hk0 : K c0 = 0) (hc : c + 3 ≤ t) (h0 : K c = 47) (h1 : K (c + 1) = 1) (h2 : K (c + 2) = 2 ∨ K (c + 2) = 3) (hx : K (c + 3) ≠ 6) : f_X3_line n (K, sT, vT, nI (t + 1), nI (c0), e1, e2) (oA, oB, oC, oD, sk, sv, oE, nI s) = some (nI 0, nI (c + 3), oA, oB, oC, oD, sk, sv, oE, nI s) := by
  have h0k := hK.1
  have ctF := c_take (sT := sT) (vT := vT) (e1 := e1) (e2 := e2) hK (show c0 ≤ t by omega) (k := 0) (by omega)
  have ctG := c_take (sT := sT) (vT := vT) (e1 := e1) (e2 := e2) hK (show c0 ≤ t by omega) (k := 7) (by omega)
  rw [hk0] at ctF ctG
  rw [← hc0] at ctF ctG
  have ct0_47 := c_take (sT := sT) (vT := vT) (e1 := e1) (e2 := e2) hK (show c ≤ t by omega) (k := 47) (by omega)
  have ct1_1 := c_take (sT := sT) (vT := vT) (e1 := e1) (e2 := e2) hK (show c + 1 ≤ t by omega) (k := 1) (by omega)
  have ct2_2 := c_take (sT := sT) (vT := vT) (e1 := e1) (e2 := e2) hK (show c + 2 ≤ t by omega) (k := 2) (by omega)
  have ct2_3 := c_take (sT := sT) (vT := vT) (e1 := e1) (e2 := e2) hK (show c + 2 ≤ t by omega) (k := 3) (by omega)
  have ct3_6 := c_take (sT := sT) (vT := vT) (e1 := e1) (e2 := e2) hK (show c + 3 ≤ t by omega) (k := 6) (by omega)
  unfold f_X3_line f_X3_line_R50 f_X11_takeNumber
  rcases h2 with h2 | h2
  · simp (disch := omega) only [↓bd ctF, bd ctF, ↓bd ctG, bd ctG, ↓bd ct0_47, bd ct0_47, ↓bd ct1_1, bd ct1_1, ↓bd ct2_2, bd ct2_2, ↓bd ct2_3, bd ct2_3, ↓bd ct3_6, bd ct3_6, h0, h1, h2, hx, X11_kinds, X11_starts, X11_values, X11_count, X11_cursor, X11_error, X11_errorToken, X6_deeds, X6_targets, X6_firstSteps, X6_endSteps, X6_stepKinds, X6_stepValues, X6_count, X6_steps, ↓reduceIte, ↓if_pos, ↓if_neg, Nat.reduceEqDiff, Nat.reduceLeDiff, Nat.reduceLT, and_true, true_and, and_false, false_and, true_or, or_true, false_or, or_false, eq_self, sb, nJ_of, nJ_lt, nJ_le, nJ_eq, nJ_clamp, nJ_add, nJ_sub, if_pos, if_neg, if_true, if_false, nL_0, nL_1, nL_2, nL_3, nL_4, nL_5, nL_6, nL_7, nL_8, nL_9, nL_10, nL_11, nL_12, nL_13, nL_14, nL_15, nL_16, nL_17, nL_18, nL_19, nL_20, nL_21, nL_22, nL_23, nL_24, nL_25, nL_26, nL_27, nL_28, nL_29, nL_30, nL_31, nL_32, nL_33, nL_34, nL_35, nL_36, nL_37, nL_38, nL_39, nL_40, nL_41, nL_42, nL_43, nL_44, nL_45, nL_46, nL_47, nL_48, nL_49, nL_50, nL_51, nL_52, nL_53, nL_54, nL_55, nL_56, nL_57, nL_58, nL_59, nL_60, nL_61, nL_62, nL_63, nL_64, nL_65, nL_66, nL_67, nL_68, nL_69, nL_70, nL_400, nL_402, nL_800, nL_2000]
  · simp (disch := omega) only [↓bd ctF, bd ctF, ↓bd ctG, bd ctG, ↓bd ct0_47, bd ct0_47, ↓bd ct1_1, bd ct1_1, ↓bd ct2_2, bd ct2_2, ↓bd ct2_3, bd ct2_3, ↓bd ct3_6, bd ct3_6, h0, h1, h2, hx, X11_kinds, X11_starts, X11_values, X11_count, X11_cursor, X11_error, X11_errorToken, X6_deeds, X6_targets, X6_firstSteps, X6_endSteps, X6_stepKinds, X6_stepValues, X6_count, X6_steps, ↓reduceIte, ↓if_pos, ↓if_neg, Nat.reduceEqDiff, Nat.reduceLeDiff, Nat.reduceLT, and_true, true_and, and_false, false_and, true_or, or_true, false_or, or_false, eq_self, sb, nJ_of, nJ_lt, nJ_le, nJ_eq, nJ_clamp, nJ_add, nJ_sub, if_pos, if_neg, if_true, if_false, nL_0, nL_1, nL_2, nL_3, nL_4, nL_5, nL_6, nL_7, nL_8, nL_9, nL_10, nL_11, nL_12, nL_13, nL_14, nL_15, nL_16, nL_17, nL_18, nL_19, nL_20, nL_21, nL_22, nL_23, nL_24, nL_25, nL_26, nL_27, nL_28, nL_29, nL_30, nL_31, nL_32, nL_33, nL_34, nL_35, nL_36, nL_37, nL_38, nL_39, nL_40, nL_41, nL_42, nL_43, nL_44, nL_45, nL_46, nL_47, nL_48, nL_49, nL_50, nL_51, nL_52, nL_53, nL_54, nL_55, nL_56, nL_57, nL_58, nL_59, nL_60, nL_61, nL_62, nL_63, nL_64, nL_65, nL_66, nL_67, nL_68, nL_69, nL_70, nL_400, nL_402, nL_800, nL_2000]

theorem cl_front_4 (hK : TKO K kd t) {c c0 : Nat} (hc0 : c = c0 + 1) (hk0 : K c0 = 0) (hc : c + 4 ≤ t) (h0 : K c = 47) (h1 : K (c + 1) = 1) (h2 : K (c + 2) = 2 ∨ K (c + 2) = 3) (h3 : K (c + 3) = 6) (hx : K (c + 4) ≠ 48) : f_X3_line n (K, sT, vT, nI (t + 1), nI (c0), e1, e2) (oA, oB, oC, oD, sk, sv, oE, nI s) = some (nI 0, nI (c + 4), oA, oB, oC, oD, sk, sv, oE, nI s) := by
  have h0k := hK.1
  have ctF := c_take (sT := sT) (vT := vT) (e1 := e1) (e2 := e2) hK (show c0 ≤ t by omega) (k := 0) (by omega)
  have ctG := c_take (sT := sT) (vT := vT) (e1 := e1) (e2 := e2) hK (show c0 ≤ t by omega) (k := 7) (by omega)
  rw [hk0] at ctF ctG
  rw [← hc0] at ctF ctG
  have ct0_47 := c_take (sT := sT) (vT := vT) (e1 := e1) (e2 := e2) hK (show c ≤ t by omega) (k := 47) (by omega)
  have ct1_1 := c_take (sT := sT) (vT := vT) (e1 := e1) (e2 := e2) hK (show c + 1 ≤ t by omega) (k := 1) (by omega)
  have ct2_2 := c_take (sT := sT) (vT := vT) (e1 := e1) (e2 := e2) hK (show c + 2 ≤ t by omega) (k := 2) (by omega)
  have ct2_3 := c_take (sT := sT) (vT := vT) (e1 := e1) (e2 := e2) hK (show c + 2 ≤ t by omega) (k := 3) (by omega)
  have ct3_6 := c_take (sT := sT) (vT := vT) (e1 := e1) (e2 := e2) hK (show c + 3 ≤ t by omega) (k := 6) (by omega)
  have ct4_48 := c_take (sT := sT) (vT := vT) (e1 := e1) (e2 := e2) hK (show c + 4 ≤ t by omega) (k := 48) (by omega)
  unfold f_X3_line f_X3_line_R50 f_X11_takeNumber
  rcases h2 with h2 | h2
  · simp (disch := omega) only [↓bd ctF, bd ctF, ↓bd ctG, bd ctG, ↓bd ct0_47, bd ct0_47, ↓bd ct1_1, bd ct1_1, ↓bd ct2_2, bd ct2_2, ↓bd ct2_3, bd ct2_3, ↓bd ct3_6, bd ct3_6, ↓bd ct4_48, bd ct4_48, h0, h1, h2, h3, hx, X11_kinds, X11_starts, X11_values, X11_count, X11_cursor, X11_error, X11_errorToken, X6_deeds, X6_targets, X6_firstSteps, X6_endSteps, X6_stepKinds, X6_stepValues, X6_count, X6_steps, ↓reduceIte, ↓if_pos, ↓if_neg, Nat.reduceEqDiff, Nat.reduceLeDiff, Nat.reduceLT, and_true, true_and, and_false, false_and, true_or, or_true, false_or, or_false, eq_self, sb, nJ_of, nJ_lt, nJ_le, nJ_eq, nJ_clamp, nJ_add, nJ_sub, if_pos, if_neg, if_true, if_false, nL_0, nL_1, nL_2, nL_3, nL_4, nL_5, nL_6, nL_7, nL_8, nL_9, nL_10, nL_11, nL_12, nL_13, nL_14, nL_15, nL_16, nL_17, nL_18, nL_19, nL_20, nL_21, nL_22, nL_23, nL_24, nL_25, nL_26, nL_27, nL_28, nL_29, nL_30, nL_31, nL_32, nL_33, nL_34, nL_35, nL_36, nL_37, nL_38, nL_39, nL_40, nL_41, nL_42, nL_43, nL_44, nL_45, nL_46, nL_47, nL_48, nL_49, nL_50, nL_51, nL_52, nL_53, nL_54, nL_55, nL_56, nL_57, nL_58, nL_59, nL_60, nL_61, nL_62, nL_63, nL_64, nL_65, nL_66, nL_67, nL_68, nL_69, nL_70, nL_400, nL_402, nL_800, nL_2000]
  · simp (disch := omega) only [↓bd ctF, bd ctF, ↓bd ctG, bd ctG, ↓bd ct0_47, bd ct0_47, ↓bd ct1_1, bd ct1_1, ↓bd ct2_2, bd ct2_2, ↓bd ct2_3, bd ct2_3, ↓bd ct3_6, bd ct3_6, ↓bd ct4_48, bd ct4_48, h0, h1, h2, h3, hx, X11_kinds, X11_starts, X11_values, X11_count, X11_cursor, X11_error, X11_errorToken, X6_deeds, X6_targets, X6_firstSteps, X6_endSteps, X6_stepKinds, X6_stepValues, X6_count, X6_steps, ↓reduceIte, ↓if_pos, ↓if_neg, Nat.reduceEqDiff, Nat.reduceLeDiff, Nat.reduceLT, and_true, true_and, and_false, false_and, true_or, or_true, false_or, or_false, eq_self, sb, nJ_of, nJ_lt, nJ_le, nJ_eq, nJ_clamp, nJ_add, nJ_sub, if_pos, if_neg, if_true, if_false, nL_0, nL_1, nL_2, nL_3, nL_4, nL_5, nL_6, nL_7, nL_8, nL_9, nL_10, nL_11, nL_12, nL_13, nL_14, nL_15, nL_16, nL_17, nL_18, nL_19, nL_20, nL_21, nL_22, nL_23, nL_24, nL_25, nL_26, nL_27, nL_28, nL_29, nL_30, nL_31, nL_32, nL_33, nL_34, nL_35, nL_36, nL_37, nL_38, nL_39, nL_40, nL_41, nL_42, nL_43, nL_44, nL_45, nL_46, nL_47, nL_48, nL_49, nL_50, nL_51, nL_52, nL_53, nL_54, nL_55, nL_56, nL_57, nL_58, nL_59, nL_60, nL_61, nL_62, nL_63, nL_64, nL_65, nL_66, nL_67, nL_68, nL_69, nL_70, nL_400, nL_402, nL_800, nL_2000]

theorem cl_front_5 (hK : TKO K kd t) {c c0 : Nat} (hc0 : c = c0 + 1) (hk0 : K c0 = 0) (hc : c + 5 ≤ t) (h0 : K c = 47) (h1 : K (c + 1) = 1) (h2 : K (c + 2) = 2 ∨ K (c + 2) = 3) (h3 : K (c + 3) = 6) (h4 : K (c + 4) = 48) (hx : K (c + 5) ≠ 4) : f_X3_line n (K, sT, vT, nI (t + 1), nI (c0), e1, e2) (oA, oB, oC, oD, sk, sv, oE, nI s) = some (nI 0, nI (c + 5), oA, oB, oC, oD, sk, sv, oE, nI s) := by
  have h0k := hK.1
  have ctF := c_take (sT := sT) (vT := vT) (e1 := e1) (e2 := e2) hK (show c0 ≤ t by omega) (k := 0) (by omega)
  have ctG := c_take (sT := sT) (vT := vT) (e1 := e1) (e2 := e2) hK (show c0 ≤ t by omega) (k := 7) (by omega)
  rw [hk0] at ctF ctG
  rw [← hc0] at ctF ctG
  have ct0_47 := c_take (sT := sT) (vT := vT) (e1 := e1) (e2 := e2) hK (show c ≤ t by omega) (k := 47) (by omega)
  have ct1_1 := c_take (sT := sT) (vT := vT) (e1 := e1) (e2 := e2) hK (show c + 1 ≤ t by omega) (k := 1) (by omega)
  have ct2_2 := c_take (sT := sT) (vT := vT) (e1 := e1) (e2 := e2) hK (show c + 2 ≤ t by omega) (k := 2) (by omega)
  have ct2_3 := c_take (sT := sT) (vT := vT) (e1 := e1) (e2 := e2) hK (show c + 2 ≤ t by omega) (k := 3) (by omega)
  have ct3_6 := c_take (sT := sT) (vT := vT) (e1 := e1) (e2 := e2) hK (show c + 3 ≤ t by omega) (k := 6) (by omega)
  have ct4_48 := c_take (sT := sT) (vT := vT) (e1 := e1) (e2 := e2) hK (show c + 4 ≤ t by omega) (k := 48) (by omega)
  have ct5_4 := c_take (sT := sT) (vT := vT) (e1 := e1) (e2 := e2) hK (show c + 5 ≤ t by omega) (k := 4) (by omega)
  unfold f_X3_line f_X3_line_R50 f_X11_takeNumber
  rcases h2 with h2 | h2
  · simp (disch := omega) only [↓bd ctF, bd ctF, ↓bd ctG, bd ctG, ↓bd ct0_47, bd ct0_47, ↓bd ct1_1, bd ct1_1, ↓bd ct2_2, bd ct2_2, ↓bd ct2_3, bd ct2_3, ↓bd ct3_6, bd ct3_6, ↓bd ct4_48, bd ct4_48, ↓bd ct5_4, bd ct5_4, h0, h1, h2, h3, h4, hx, X11_kinds, X11_starts, X11_values, X11_count, X11_cursor, X11_error, X11_errorToken, X6_deeds, X6_targets, X6_firstSteps, X6_endSteps, X6_stepKinds, X6_stepValues, X6_count, X6_steps, ↓reduceIte, ↓if_pos, ↓if_neg, Nat.reduceEqDiff, Nat.reduceLeDiff, Nat.reduceLT, and_true, true_and, and_false, false_and, true_or, or_true, false_or, or_false, eq_self, sb, nJ_of, nJ_lt, nJ_le, nJ_eq, nJ_clamp, nJ_add, nJ_sub, if_pos, if_neg, if_true, if_false, nL_0, nL_1, nL_2, nL_3, nL_4, nL_5, nL_6, nL_7, nL_8, nL_9, nL_10, nL_11, nL_12, nL_13, nL_14, nL_15, nL_16, nL_17, nL_18, nL_19, nL_20, nL_21, nL_22, nL_23, nL_24, nL_25, nL_26, nL_27, nL_28, nL_29, nL_30, nL_31, nL_32, nL_33, nL_34, nL_35, nL_36, nL_37, nL_38, nL_39, nL_40, nL_41, nL_42, nL_43, nL_44, nL_45, nL_46, nL_47, nL_48, nL_49, nL_50, nL_51, nL_52, nL_53, nL_54, nL_55, nL_56, nL_57, nL_58, nL_59, nL_60, nL_61, nL_62, nL_63, nL_64, nL_65, nL_66, nL_67, nL_68, nL_69, nL_70, nL_400, nL_402, nL_800, nL_2000]
  · simp (disch := omega) only [↓bd ctF, bd ctF, ↓bd ctG, bd ctG, ↓bd ct0_47, bd ct0_47, ↓bd ct1_1, bd ct1_1, ↓bd ct2_2, bd ct2_2, ↓bd ct2_3, bd ct2_3, ↓bd ct3_6, bd ct3_6, ↓bd ct4_48, bd ct4_48, ↓bd ct5_4, bd ct5_4, h0, h1, h2, h3, h4, hx, X11_kinds, X11_starts, X11_values, X11_count, X11_cursor, X11_error, X11_errorToken, X6_deeds, X6_targets, X6_firstSteps, X6_endSteps, X6_stepKinds, X6_stepValues, X6_count, X6_steps, ↓reduceIte, ↓if_pos, ↓if_neg, Nat.reduceEqDiff, Nat.reduceLeDiff, Nat.reduceLT, and_true, true_and, and_false, false_and, true_or, or_true, false_or, or_false, eq_self, sb, nJ_of, nJ_lt, nJ_le, nJ_eq, nJ_clamp, nJ_add, nJ_sub, if_pos, if_neg, if_true, if_false, nL_0, nL_1, nL_2, nL_3, nL_4, nL_5, nL_6, nL_7, nL_8, nL_9, nL_10, nL_11, nL_12, nL_13, nL_14, nL_15, nL_16, nL_17, nL_18, nL_19, nL_20, nL_21, nL_22, nL_23, nL_24, nL_25, nL_26, nL_27, nL_28, nL_29, nL_30, nL_31, nL_32, nL_33, nL_34, nL_35, nL_36, nL_37, nL_38, nL_39, nL_40, nL_41, nL_42, nL_43, nL_44, nL_45, nL_46, nL_47, nL_48, nL_49, nL_50, nL_51, nL_52, nL_53, nL_54, nL_55, nL_56, nL_57, nL_58, nL_59, nL_60, nL_61, nL_62, nL_63, nL_64, nL_65, nL_66, nL_67, nL_68, nL_69, nL_70, nL_400, nL_402, nL_800, nL_2000]

theorem cl_front_6 (hK : TKO K kd t) {c c0 : Nat} (hc0 : c = c0 + 1) (hk0 : K c0 = 0) (hc : c + 6 ≤ t) (h0 : K c = 47) (h1 : K (c + 1) = 1) (h2 : K (c + 2) = 2 ∨ K (c + 2) = 3) (h3 : K (c + 3) = 6) (h4 : K (c + 4) = 48) (h5 : K (c + 5) = 4) (hx : K (c + 6) ≠ 48) : f_X3_line n (K, sT, vT, nI (t + 1), nI (c0), e1, e2) (oA, oB, oC, oD, sk, sv, oE, nI s) = some (nI 0, nI (c + 6), oA, oB, oC, oD, sk, sv, oE, nI s) := by
  have h0k := hK.1
  have ctF := c_take (sT := sT) (vT := vT) (e1 := e1) (e2 := e2) hK (show c0 ≤ t by omega) (k := 0) (by omega)
  have ctG := c_take (sT := sT) (vT := vT) (e1 := e1) (e2 := e2) hK (show c0 ≤ t by omega) (k := 7) (by omega)
  rw [hk0] at ctF ctG
  rw [← hc0] at ctF ctG
  have ct0_47 := c_take (sT := sT) (vT := vT) (e1 := e1) (e2 := e2) hK (show c ≤ t by omega) (k := 47) (by omega)
  have ct1_1 := c_take (sT := sT) (vT := vT) (e1 := e1) (e2 := e2) hK (show c + 1 ≤ t by omega) (k := 1) (by omega)
  have ct2_2 := c_take (sT := sT) (vT := vT) (e1 := e1) (e2 := e2) hK (show c + 2 ≤ t by omega) (k := 2) (by omega)
  have ct2_3 := c_take (sT := sT) (vT := vT) (e1 := e1) (e2 := e2) hK (show c + 2 ≤ t by omega) (k := 3) (by omega)
  have ct3_6 := c_take (sT := sT) (vT := vT) (e1 := e1) (e2 := e2) hK (show c + 3 ≤ t by omega) (k := 6) (by omega)
  have ct4_48 := c_take (sT := sT) (vT := vT) (e1 := e1) (e2 := e2) hK (show c + 4 ≤ t by omega) (k := 48) (by omega)
  have ct5_4 := c_take (sT := sT) (vT := vT) (e1 := e1) (e2 := e2) hK (show c + 5 ≤ t by omega) (k := 4) (by omega)
  have ct6_48 := c_take (sT := sT) (vT := vT) (e1 := e1) (e2 := e2) hK (show c + 6 ≤ t by omega) (k := 48) (by omega)
  unfold f_X3_line f_X3_line_R50 f_X11_takeNumber
  rcases h2 with h2 | h2
  · simp (disch := omega) only [↓bd ctF, bd ctF, ↓bd ctG, bd ctG, ↓bd ct0_47, bd ct0_47, ↓bd ct1_1, bd ct1_1, ↓bd ct2_2, bd ct2_2, ↓bd ct2_3, bd ct2_3, ↓bd ct3_6, bd ct3_6, ↓bd ct4_48, bd ct4_48, ↓bd ct5_4, bd ct5_4, ↓bd ct6_48, bd ct6_48, h0, h1, h2, h3, h4, h5, hx, X11_kinds, X11_starts, X11_values, X11_count, X11_cursor, X11_error, X11_errorToken, X6_deeds, X6_targets, X6_firstSteps, X6_endSteps, X6_stepKinds, X6_stepValues, X6_count, X6_steps, ↓reduceIte, ↓if_pos, ↓if_neg, Nat.reduceEqDiff, Nat.reduceLeDiff, Nat.reduceLT, and_true, true_and, and_false, false_and, true_or, or_true, false_or, or_false, eq_self, sb, nJ_of, nJ_lt, nJ_le, nJ_eq, nJ_clamp, nJ_add, nJ_sub, if_pos, if_neg, if_true, if_false, nL_0, nL_1, nL_2, nL_3, nL_4, nL_5, nL_6, nL_7, nL_8, nL_9, nL_10, nL_11, nL_12, nL_13, nL_14, nL_15, nL_16, nL_17, nL_18, nL_19, nL_20, nL_21, nL_22, nL_23, nL_24, nL_25, nL_26, nL_27, nL_28, nL_29, nL_30, nL_31, nL_32, nL_33, nL_34, nL_35, nL_36, nL_37, nL_38, nL_39, nL_40, nL_41, nL_42, nL_43, nL_44, nL_45, nL_46, nL_47, nL_48, nL_49, nL_50, nL_51, nL_52, nL_53, nL_54, nL_55, nL_56, nL_57, nL_58, nL_59, nL_60, nL_61, nL_62, nL_63, nL_64, nL_65, nL_66, nL_67, nL_68, nL_69, nL_70, nL_400, nL_402, nL_800, nL_2000]
  · simp (disch := omega) only [↓bd ctF, bd ctF, ↓bd ctG, bd ctG, ↓bd ct0_47, bd ct0_47, ↓bd ct1_1, bd ct1_1, ↓bd ct2_2, bd ct2_2, ↓bd ct2_3, bd ct2_3, ↓bd ct3_6, bd ct3_6, ↓bd ct4_48, bd ct4_48, ↓bd ct5_4, bd ct5_4, ↓bd ct6_48, bd ct6_48, h0, h1, h2, h3, h4, h5, hx, X11_kinds, X11_starts, X11_values, X11_count, X11_cursor, X11_error, X11_errorToken, X6_deeds, X6_targets, X6_firstSteps, X6_endSteps, X6_stepKinds, X6_stepValues, X6_count, X6_steps, ↓reduceIte, ↓if_pos, ↓if_neg, Nat.reduceEqDiff, Nat.reduceLeDiff, Nat.reduceLT, and_true, true_and, and_false, false_and, true_or, or_true, false_or, or_false, eq_self, sb, nJ_of, nJ_lt, nJ_le, nJ_eq, nJ_clamp, nJ_add, nJ_sub, if_pos, if_neg, if_true, if_false, nL_0, nL_1, nL_2, nL_3, nL_4, nL_5, nL_6, nL_7, nL_8, nL_9, nL_10, nL_11, nL_12, nL_13, nL_14, nL_15, nL_16, nL_17, nL_18, nL_19, nL_20, nL_21, nL_22, nL_23, nL_24, nL_25, nL_26, nL_27, nL_28, nL_29, nL_30, nL_31, nL_32, nL_33, nL_34, nL_35, nL_36, nL_37, nL_38, nL_39, nL_40, nL_41, nL_42, nL_43, nL_44, nL_45, nL_46, nL_47, nL_48, nL_49, nL_50, nL_51, nL_52, nL_53, nL_54, nL_55, nL_56, nL_57, nL_58, nL_59, nL_60, nL_61, nL_62, nL_63, nL_64, nL_65, nL_66, nL_67, nL_68, nL_69, nL_70, nL_400, nL_402, nL_800, nL_2000]

theorem cl_front_7 (hK : TKO K kd t) {c c0 : Nat} (hc0 : c = c0 + 1) (hk0 : K c0 = 0) (hc : c + 7 ≤ t) (h0 : K c = 47) (h1 : K (c + 1) = 1) (h2 : K (c + 2) = 2 ∨ K (c + 2) = 3) (h3 : K (c + 3) = 6) (h4 : K (c + 4) = 48) (h5 : K (c + 5) = 4) (h6 : K (c + 6) = 48) (hx : K (c + 7) ≠ 5) : f_X3_line n (K, sT, vT, nI (t + 1), nI (c0), e1, e2) (oA, oB, oC, oD, sk, sv, oE, nI s) = some (nI 0, nI (c + 7), oA, oB, oC, oD, sk, sv, oE, nI s) := by
  have h0k := hK.1
  have ctF := c_take (sT := sT) (vT := vT) (e1 := e1) (e2 := e2) hK (show c0 ≤ t by omega) (k := 0) (by omega)
  have ctG := c_take (sT := sT) (vT := vT) (e1 := e1) (e2 := e2) hK (show c0 ≤ t by omega) (k := 7) (by omega)
  rw [hk0] at ctF ctG
  rw [← hc0] at ctF ctG
  have ct0_47 := c_take (sT := sT) (vT := vT) (e1 := e1) (e2 := e2) hK (show c ≤ t by omega) (k := 47) (by omega)
  have ct1_1 := c_take (sT := sT) (vT := vT) (e1 := e1) (e2 := e2) hK (show c + 1 ≤ t by omega) (k := 1) (by omega)
  have ct2_2 := c_take (sT := sT) (vT := vT) (e1 := e1) (e2 := e2) hK (show c + 2 ≤ t by omega) (k := 2) (by omega)
  have ct2_3 := c_take (sT := sT) (vT := vT) (e1 := e1) (e2 := e2) hK (show c + 2 ≤ t by omega) (k := 3) (by omega)
  have ct3_6 := c_take (sT := sT) (vT := vT) (e1 := e1) (e2 := e2) hK (show c + 3 ≤ t by omega) (k := 6) (by omega)
  have ct4_48 := c_take (sT := sT) (vT := vT) (e1 := e1) (e2 := e2) hK (show c + 4 ≤ t by omega) (k := 48) (by omega)
  have ct5_4 := c_take (sT := sT) (vT := vT) (e1 := e1) (e2 := e2) hK (show c + 5 ≤ t by omega) (k := 4) (by omega)
  have ct6_48 := c_take (sT := sT) (vT := vT) (e1 := e1) (e2 := e2) hK (show c + 6 ≤ t by omega) (k := 48) (by omega)
  have ct7_5 := c_take (sT := sT) (vT := vT) (e1 := e1) (e2 := e2) hK (show c + 7 ≤ t by omega) (k := 5) (by omega)
  unfold f_X3_line f_X3_line_R50 f_X11_takeNumber
  rcases h2 with h2 | h2
  · simp (disch := omega) only [↓bd ctF, bd ctF, ↓bd ctG, bd ctG, ↓bd ct0_47, bd ct0_47, ↓bd ct1_1, bd ct1_1, ↓bd ct2_2, bd ct2_2, ↓bd ct2_3, bd ct2_3, ↓bd ct3_6, bd ct3_6, ↓bd ct4_48, bd ct4_48, ↓bd ct5_4, bd ct5_4, ↓bd ct6_48, bd ct6_48, ↓bd ct7_5, bd ct7_5, h0, h1, h2, h3, h4, h5, h6, hx, X11_kinds, X11_starts, X11_values, X11_count, X11_cursor, X11_error, X11_errorToken, X6_deeds, X6_targets, X6_firstSteps, X6_endSteps, X6_stepKinds, X6_stepValues, X6_count, X6_steps, ↓reduceIte, ↓if_pos, ↓if_neg, Nat.reduceEqDiff, Nat.reduceLeDiff, Nat.reduceLT, and_true, true_and, and_false, false_and, true_or, or_true, false_or, or_false, eq_self, sb, nJ_of, nJ_lt, nJ_le, nJ_eq, nJ_clamp, nJ_add, nJ_sub, if_pos, if_neg, if_true, if_false, nL_0, nL_1, nL_2, nL_3, nL_4, nL_5, nL_6, nL_7, nL_8, nL_9, nL_10, nL_11, nL_12, nL_13, nL_14, nL_15, nL_16, nL_17, nL_18, nL_19, nL_20, nL_21, nL_22, nL_23, nL_24, nL_25, nL_26, nL_27, nL_28, nL_29, nL_30, nL_31, nL_32, nL_33, nL_34, nL_35, nL_36, nL_37, nL_38, nL_39, nL_40, nL_41, nL_42, nL_43, nL_44, nL_45, nL_46, nL_47, nL_48, nL_49, nL_50, nL_51, nL_52, nL_53, nL_54, nL_55, nL_56, nL_57, nL_58, nL_59, nL_60, nL_61, nL_62, nL_63, nL_64, nL_65, nL_66, nL_67, nL_68, nL_69, nL_70, nL_400, nL_402, nL_800, nL_2000]
  · simp (disch := omega) only [↓bd ctF, bd ctF, ↓bd ctG, bd ctG, ↓bd ct0_47, bd ct0_47, ↓bd ct1_1, bd ct1_1, ↓bd ct2_2, bd ct2_2, ↓bd ct2_3, bd ct2_3, ↓bd ct3_6, bd ct3_6, ↓bd ct4_48, bd ct4_48, ↓bd ct5_4, bd ct5_4, ↓bd ct6_48, bd ct6_48, ↓bd ct7_5, bd ct7_5, h0, h1, h2, h3, h4, h5, h6, hx, X11_kinds, X11_starts, X11_values, X11_count, X11_cursor, X11_error, X11_errorToken, X6_deeds, X6_targets, X6_firstSteps, X6_endSteps, X6_stepKinds, X6_stepValues, X6_count, X6_steps, ↓reduceIte, ↓if_pos, ↓if_neg, Nat.reduceEqDiff, Nat.reduceLeDiff, Nat.reduceLT, and_true, true_and, and_false, false_and, true_or, or_true, false_or, or_false, eq_self, sb, nJ_of, nJ_lt, nJ_le, nJ_eq, nJ_clamp, nJ_add, nJ_sub, if_pos, if_neg, if_true, if_false, nL_0, nL_1, nL_2, nL_3, nL_4, nL_5, nL_6, nL_7, nL_8, nL_9, nL_10, nL_11, nL_12, nL_13, nL_14, nL_15, nL_16, nL_17, nL_18, nL_19, nL_20, nL_21, nL_22, nL_23, nL_24, nL_25, nL_26, nL_27, nL_28, nL_29, nL_30, nL_31, nL_32, nL_33, nL_34, nL_35, nL_36, nL_37, nL_38, nL_39, nL_40, nL_41, nL_42, nL_43, nL_44, nL_45, nL_46, nL_47, nL_48, nL_49, nL_50, nL_51, nL_52, nL_53, nL_54, nL_55, nL_56, nL_57, nL_58, nL_59, nL_60, nL_61, nL_62, nL_63, nL_64, nL_65, nL_66, nL_67, nL_68, nL_69, nL_70, nL_400, nL_402, nL_800, nL_2000]

theorem cl_front_8 (hK : TKO K kd t) {c c0 : Nat} (hc0 : c = c0 + 1) (hk0 : K c0 = 0) (hc : c + 8 ≤ t) (h0 : K c = 47) (h1 : K (c + 1) = 1) (h2 : K (c + 2) = 2 ∨ K (c + 2) = 3) (h3 : K (c + 3) = 6) (h4 : K (c + 4) = 48) (h5 : K (c + 5) = 4) (h6 : K (c + 6) = 48) (h7 : K (c + 7) = 5) (hx : K (c + 8) ≠ 48) : f_X3_line n (K, sT, vT, nI (t + 1), nI (c0), e1, e2) (oA, oB, oC, oD, sk, sv, oE, nI s) = some (nI 0, nI (c + 8), oA, oB, oC, oD, sk, sv, oE, nI s) := by
  have h0k := hK.1
  have ctF := c_take (sT := sT) (vT := vT) (e1 := e1) (e2 := e2) hK (show c0 ≤ t by omega) (k := 0) (by omega)
  have ctG := c_take (sT := sT) (vT := vT) (e1 := e1) (e2 := e2) hK (show c0 ≤ t by omega) (k := 7) (by omega)
  rw [hk0] at ctF ctG
  rw [← hc0] at ctF ctG
  have ct0_47 := c_take (sT := sT) (vT := vT) (e1 := e1) (e2 := e2) hK (show c ≤ t by omega) (k := 47) (by omega)
  have ct1_1 := c_take (sT := sT) (vT := vT) (e1 := e1) (e2 := e2) hK (show c + 1 ≤ t by omega) (k := 1) (by omega)
  have ct2_2 := c_take (sT := sT) (vT := vT) (e1 := e1) (e2 := e2) hK (show c + 2 ≤ t by omega) (k := 2) (by omega)
  have ct2_3 := c_take (sT := sT) (vT := vT) (e1 := e1) (e2 := e2) hK (show c + 2 ≤ t by omega) (k := 3) (by omega)
  have ct3_6 := c_take (sT := sT) (vT := vT) (e1 := e1) (e2 := e2) hK (show c + 3 ≤ t by omega) (k := 6) (by omega)
  have ct4_48 := c_take (sT := sT) (vT := vT) (e1 := e1) (e2 := e2) hK (show c + 4 ≤ t by omega) (k := 48) (by omega)
  have ct5_4 := c_take (sT := sT) (vT := vT) (e1 := e1) (e2 := e2) hK (show c + 5 ≤ t by omega) (k := 4) (by omega)
  have ct6_48 := c_take (sT := sT) (vT := vT) (e1 := e1) (e2 := e2) hK (show c + 6 ≤ t by omega) (k := 48) (by omega)
  have ct7_5 := c_take (sT := sT) (vT := vT) (e1 := e1) (e2 := e2) hK (show c + 7 ≤ t by omega) (k := 5) (by omega)
  have ct8_48 := c_take (sT := sT) (vT := vT) (e1 := e1) (e2 := e2) hK (show c + 8 ≤ t by omega) (k := 48) (by omega)
  unfold f_X3_line f_X3_line_R50 f_X11_takeNumber
  rcases h2 with h2 | h2
  · simp (disch := omega) only [↓bd ctF, bd ctF, ↓bd ctG, bd ctG, ↓bd ct0_47, bd ct0_47, ↓bd ct1_1, bd ct1_1, ↓bd ct2_2, bd ct2_2, ↓bd ct2_3, bd ct2_3, ↓bd ct3_6, bd ct3_6, ↓bd ct4_48, bd ct4_48, ↓bd ct5_4, bd ct5_4, ↓bd ct6_48, bd ct6_48, ↓bd ct7_5, bd ct7_5, ↓bd ct8_48, bd ct8_48, h0, h1, h2, h3, h4, h5, h6, h7, hx, X11_kinds, X11_starts, X11_values, X11_count, X11_cursor, X11_error, X11_errorToken, X6_deeds, X6_targets, X6_firstSteps, X6_endSteps, X6_stepKinds, X6_stepValues, X6_count, X6_steps, ↓reduceIte, ↓if_pos, ↓if_neg, Nat.reduceEqDiff, Nat.reduceLeDiff, Nat.reduceLT, and_true, true_and, and_false, false_and, true_or, or_true, false_or, or_false, eq_self, sb, nJ_of, nJ_lt, nJ_le, nJ_eq, nJ_clamp, nJ_add, nJ_sub, if_pos, if_neg, if_true, if_false, nL_0, nL_1, nL_2, nL_3, nL_4, nL_5, nL_6, nL_7, nL_8, nL_9, nL_10, nL_11, nL_12, nL_13, nL_14, nL_15, nL_16, nL_17, nL_18, nL_19, nL_20, nL_21, nL_22, nL_23, nL_24, nL_25, nL_26, nL_27, nL_28, nL_29, nL_30, nL_31, nL_32, nL_33, nL_34, nL_35, nL_36, nL_37, nL_38, nL_39, nL_40, nL_41, nL_42, nL_43, nL_44, nL_45, nL_46, nL_47, nL_48, nL_49, nL_50, nL_51, nL_52, nL_53, nL_54, nL_55, nL_56, nL_57, nL_58, nL_59, nL_60, nL_61, nL_62, nL_63, nL_64, nL_65, nL_66, nL_67, nL_68, nL_69, nL_70, nL_400, nL_402, nL_800, nL_2000]
  · simp (disch := omega) only [↓bd ctF, bd ctF, ↓bd ctG, bd ctG, ↓bd ct0_47, bd ct0_47, ↓bd ct1_1, bd ct1_1, ↓bd ct2_2, bd ct2_2, ↓bd ct2_3, bd ct2_3, ↓bd ct3_6, bd ct3_6, ↓bd ct4_48, bd ct4_48, ↓bd ct5_4, bd ct5_4, ↓bd ct6_48, bd ct6_48, ↓bd ct7_5, bd ct7_5, ↓bd ct8_48, bd ct8_48, h0, h1, h2, h3, h4, h5, h6, h7, hx, X11_kinds, X11_starts, X11_values, X11_count, X11_cursor, X11_error, X11_errorToken, X6_deeds, X6_targets, X6_firstSteps, X6_endSteps, X6_stepKinds, X6_stepValues, X6_count, X6_steps, ↓reduceIte, ↓if_pos, ↓if_neg, Nat.reduceEqDiff, Nat.reduceLeDiff, Nat.reduceLT, and_true, true_and, and_false, false_and, true_or, or_true, false_or, or_false, eq_self, sb, nJ_of, nJ_lt, nJ_le, nJ_eq, nJ_clamp, nJ_add, nJ_sub, if_pos, if_neg, if_true, if_false, nL_0, nL_1, nL_2, nL_3, nL_4, nL_5, nL_6, nL_7, nL_8, nL_9, nL_10, nL_11, nL_12, nL_13, nL_14, nL_15, nL_16, nL_17, nL_18, nL_19, nL_20, nL_21, nL_22, nL_23, nL_24, nL_25, nL_26, nL_27, nL_28, nL_29, nL_30, nL_31, nL_32, nL_33, nL_34, nL_35, nL_36, nL_37, nL_38, nL_39, nL_40, nL_41, nL_42, nL_43, nL_44, nL_45, nL_46, nL_47, nL_48, nL_49, nL_50, nL_51, nL_52, nL_53, nL_54, nL_55, nL_56, nL_57, nL_58, nL_59, nL_60, nL_61, nL_62, nL_63, nL_64, nL_65, nL_66, nL_67, nL_68, nL_69, nL_70, nL_400, nL_402, nL_800, nL_2000]

theorem cl_front_ok (hK : TKO K kd t) {c c0 : Nat} (hc0 : c = c0 + 1) (hk0 : K c0 = 0) (hc : c + 8 ≤ t) (h0 : K c = 47) (h1 : K (c + 1) = 1) (h2 : K (c + 2) = 2 ∨ K (c + 2) = 3) (h3 : K (c + 3) = 6) (h4 : K (c + 4) = 48) (h5 : K (c + 5) = 4) (h6 : K (c + 6) = 48) (h7 : K (c + 7) = 5) (h8 : K (c + 8) = 48) : f_X3_line n (K, sT, vT, nI (t + 1), nI (c0), e1, e2) (oA, oB, oC, oD, sk, sv, oE, nI s) = some (nI 1, nI (c + 9), oA, oB, oC, oD, sk, sv, oE, nI s) := by
  have h0k := hK.1
  have ctF := c_take (sT := sT) (vT := vT) (e1 := e1) (e2 := e2) hK (show c0 ≤ t by omega) (k := 0) (by omega)
  have ctG := c_take (sT := sT) (vT := vT) (e1 := e1) (e2 := e2) hK (show c0 ≤ t by omega) (k := 7) (by omega)
  rw [hk0] at ctF ctG
  rw [← hc0] at ctF ctG
  have ct0_47 := c_take (sT := sT) (vT := vT) (e1 := e1) (e2 := e2) hK (show c ≤ t by omega) (k := 47) (by omega)
  have ct1_1 := c_take (sT := sT) (vT := vT) (e1 := e1) (e2 := e2) hK (show c + 1 ≤ t by omega) (k := 1) (by omega)
  have ct2_2 := c_take (sT := sT) (vT := vT) (e1 := e1) (e2 := e2) hK (show c + 2 ≤ t by omega) (k := 2) (by omega)
  have ct2_3 := c_take (sT := sT) (vT := vT) (e1 := e1) (e2 := e2) hK (show c + 2 ≤ t by omega) (k := 3) (by omega)
  have ct3_6 := c_take (sT := sT) (vT := vT) (e1 := e1) (e2 := e2) hK (show c + 3 ≤ t by omega) (k := 6) (by omega)
  have ct4_48 := c_take (sT := sT) (vT := vT) (e1 := e1) (e2 := e2) hK (show c + 4 ≤ t by omega) (k := 48) (by omega)
  have ct5_4 := c_take (sT := sT) (vT := vT) (e1 := e1) (e2 := e2) hK (show c + 5 ≤ t by omega) (k := 4) (by omega)
  have ct6_48 := c_take (sT := sT) (vT := vT) (e1 := e1) (e2 := e2) hK (show c + 6 ≤ t by omega) (k := 48) (by omega)
  have ct7_5 := c_take (sT := sT) (vT := vT) (e1 := e1) (e2 := e2) hK (show c + 7 ≤ t by omega) (k := 5) (by omega)
  have ct8_48 := c_take (sT := sT) (vT := vT) (e1 := e1) (e2 := e2) hK (show c + 8 ≤ t by omega) (k := 48) (by omega)
  unfold f_X3_line f_X3_line_R50 f_X11_takeNumber
  rcases h2 with h2 | h2
  · simp (disch := omega) only [↓bd ctF, bd ctF, ↓bd ctG, bd ctG, ↓bd ct0_47, bd ct0_47, ↓bd ct1_1, bd ct1_1, ↓bd ct2_2, bd ct2_2, ↓bd ct2_3, bd ct2_3, ↓bd ct3_6, bd ct3_6, ↓bd ct4_48, bd ct4_48, ↓bd ct5_4, bd ct5_4, ↓bd ct6_48, bd ct6_48, ↓bd ct7_5, bd ct7_5, ↓bd ct8_48, bd ct8_48, h0, h1, h2, h3, h4, h5, h6, h7, h8, X11_kinds, X11_starts, X11_values, X11_count, X11_cursor, X11_error, X11_errorToken, X6_deeds, X6_targets, X6_firstSteps, X6_endSteps, X6_stepKinds, X6_stepValues, X6_count, X6_steps, ↓reduceIte, ↓if_pos, ↓if_neg, Nat.reduceEqDiff, Nat.reduceLeDiff, Nat.reduceLT, and_true, true_and, and_false, false_and, true_or, or_true, false_or, or_false, eq_self, sb, nJ_of, nJ_lt, nJ_le, nJ_eq, nJ_clamp, nJ_add, nJ_sub, if_pos, if_neg, if_true, if_false, nL_0, nL_1, nL_2, nL_3, nL_4, nL_5, nL_6, nL_7, nL_8, nL_9, nL_10, nL_11, nL_12, nL_13, nL_14, nL_15, nL_16, nL_17, nL_18, nL_19, nL_20, nL_21, nL_22, nL_23, nL_24, nL_25, nL_26, nL_27, nL_28, nL_29, nL_30, nL_31, nL_32, nL_33, nL_34, nL_35, nL_36, nL_37, nL_38, nL_39, nL_40, nL_41, nL_42, nL_43, nL_44, nL_45, nL_46, nL_47, nL_48, nL_49, nL_50, nL_51, nL_52, nL_53, nL_54, nL_55, nL_56, nL_57, nL_58, nL_59, nL_60, nL_61, nL_62, nL_63, nL_64, nL_65, nL_66, nL_67, nL_68, nL_69, nL_70, nL_400, nL_402, nL_800, nL_2000]
  · simp (disch := omega) only [↓bd ctF, bd ctF, ↓bd ctG, bd ctG, ↓bd ct0_47, bd ct0_47, ↓bd ct1_1, bd ct1_1, ↓bd ct2_2, bd ct2_2, ↓bd ct2_3, bd ct2_3, ↓bd ct3_6, bd ct3_6, ↓bd ct4_48, bd ct4_48, ↓bd ct5_4, bd ct5_4, ↓bd ct6_48, bd ct6_48, ↓bd ct7_5, bd ct7_5, ↓bd ct8_48, bd ct8_48, h0, h1, h2, h3, h4, h5, h6, h7, h8, X11_kinds, X11_starts, X11_values, X11_count, X11_cursor, X11_error, X11_errorToken, X6_deeds, X6_targets, X6_firstSteps, X6_endSteps, X6_stepKinds, X6_stepValues, X6_count, X6_steps, ↓reduceIte, ↓if_pos, ↓if_neg, Nat.reduceEqDiff, Nat.reduceLeDiff, Nat.reduceLT, and_true, true_and, and_false, false_and, true_or, or_true, false_or, or_false, eq_self, sb, nJ_of, nJ_lt, nJ_le, nJ_eq, nJ_clamp, nJ_add, nJ_sub, if_pos, if_neg, if_true, if_false, nL_0, nL_1, nL_2, nL_3, nL_4, nL_5, nL_6, nL_7, nL_8, nL_9, nL_10, nL_11, nL_12, nL_13, nL_14, nL_15, nL_16, nL_17, nL_18, nL_19, nL_20, nL_21, nL_22, nL_23, nL_24, nL_25, nL_26, nL_27, nL_28, nL_29, nL_30, nL_31, nL_32, nL_33, nL_34, nL_35, nL_36, nL_37, nL_38, nL_39, nL_40, nL_41, nL_42, nL_43, nL_44, nL_45, nL_46, nL_47, nL_48, nL_49, nL_50, nL_51, nL_52, nL_53, nL_54, nL_55, nL_56, nL_57, nL_58, nL_59, nL_60, nL_61, nL_62, nL_63, nL_64, nL_65, nL_66, nL_67, nL_68, nL_69, nL_70, nL_400, nL_402, nL_800, nL_2000]
theorem cl_guest_0 (hK : TKO K kd t) {c c0 : Nat} (hc0 : c = c0 + 1) (hk0 : K c0 = 7) (hc : c ≤ t)  (hx : K (c) ≠ 47) : f_X3_line n (K, sT, vT, nI (t + 1), nI (c0), e1, e2) (oA, oB, oC, oD, sk, sv, oE, nI s) = some (nI 0, nI (c), oA, oB, oC, oD, sk, sv, oE, nI s) := by
  have h0k := hK.1
  have ctF := c_take (sT := sT) (vT := vT) (e1 := e1) (e2 := e2) hK (show c0 ≤ t by omega) (k := 0) (by omega)
  have ctG := c_take (sT := sT) (vT := vT) (e1 := e1) (e2 := e2) hK (show c0 ≤ t by omega) (k := 7) (by omega)
  rw [hk0] at ctF ctG
  rw [← hc0] at ctF ctG
  have ct0_47 := c_take (sT := sT) (vT := vT) (e1 := e1) (e2 := e2) hK (show c ≤ t by omega) (k := 47) (by omega)
  unfold f_X3_line f_X3_line_R50 f_X11_takeNumber
  simp (disch := omega) only [↓bd ctF, bd ctF, ↓bd ctG, bd ctG, ↓bd ct0_47, bd ct0_47, hx, X11_kinds, X11_starts, X11_values, X11_count, X11_cursor, X11_error, X11_errorToken, X6_deeds, X6_targets, X6_firstSteps, X6_endSteps, X6_stepKinds, X6_stepValues, X6_count, X6_steps, ↓reduceIte, ↓if_pos, ↓if_neg, Nat.reduceEqDiff, Nat.reduceLeDiff, Nat.reduceLT, and_true, true_and, and_false, false_and, true_or, or_true, false_or, or_false, eq_self, sb, nJ_of, nJ_lt, nJ_le, nJ_eq, nJ_clamp, nJ_add, nJ_sub, if_pos, if_neg, if_true, if_false, nL_0, nL_1, nL_2, nL_3, nL_4, nL_5, nL_6, nL_7, nL_8, nL_9, nL_10, nL_11, nL_12, nL_13, nL_14, nL_15, nL_16, nL_17, nL_18, nL_19, nL_20, nL_21, nL_22, nL_23, nL_24, nL_25, nL_26, nL_27, nL_28, nL_29, nL_30, nL_31, nL_32, nL_33, nL_34, nL_35, nL_36, nL_37, nL_38, nL_39, nL_40, nL_41, nL_42, nL_43, nL_44, nL_45, nL_46, nL_47, nL_48, nL_49, nL_50, nL_51, nL_52, nL_53, nL_54, nL_55, nL_56, nL_57, nL_58, nL_59, nL_60, nL_61, nL_62, nL_63, nL_64, nL_65, nL_66, nL_67, nL_68, nL_69, nL_70, nL_400, nL_402, nL_800, nL_2000]

theorem cl_guest_1 (hK : TKO K kd t) {c c0 : Nat} (hc0 : c = c0 + 1) (hk0 : K c0 = 7) (hc : c + 1 ≤ t) (h0 : K c = 47) (hx : K (c + 1) ≠ 4) : f_X3_line n (K, sT, vT, nI (t + 1), nI (c0), e1, e2) (oA, oB, oC, oD, sk, sv, oE, nI s) = some (nI 0, nI (c + 1), oA, oB, oC, oD, sk, sv, oE, nI s) := by
  have h0k := hK.1
  have ctF := c_take (sT := sT) (vT := vT) (e1 := e1) (e2 := e2) hK (show c0 ≤ t by omega) (k := 0) (by omega)
  have ctG := c_take (sT := sT) (vT := vT) (e1 := e1) (e2 := e2) hK (show c0 ≤ t by omega) (k := 7) (by omega)
  rw [hk0] at ctF ctG
  rw [← hc0] at ctF ctG
  have ct0_47 := c_take (sT := sT) (vT := vT) (e1 := e1) (e2 := e2) hK (show c ≤ t by omega) (k := 47) (by omega)
  have ct1_4 := c_take (sT := sT) (vT := vT) (e1 := e1) (e2 := e2) hK (show c + 1 ≤ t by omega) (k := 4) (by omega)
  unfold f_X3_line f_X3_line_R50 f_X11_takeNumber
  simp (disch := omega) only [↓bd ctF, bd ctF, ↓bd ctG, bd ctG, ↓bd ct0_47, bd ct0_47, ↓bd ct1_4, bd ct1_4, h0, hx, X11_kinds, X11_starts, X11_values, X11_count, X11_cursor, X11_error, X11_errorToken, X6_deeds, X6_targets, X6_firstSteps, X6_endSteps, X6_stepKinds, X6_stepValues, X6_count, X6_steps, ↓reduceIte, ↓if_pos, ↓if_neg, Nat.reduceEqDiff, Nat.reduceLeDiff, Nat.reduceLT, and_true, true_and, and_false, false_and, true_or, or_true, false_or, or_false, eq_self, sb, nJ_of, nJ_lt, nJ_le, nJ_eq, nJ_clamp, nJ_add, nJ_sub, if_pos, if_neg, if_true, if_false, nL_0, nL_1, nL_2, nL_3, nL_4, nL_5, nL_6, nL_7, nL_8, nL_9, nL_10, nL_11, nL_12, nL_13, nL_14, nL_15, nL_16, nL_17, nL_18, nL_19, nL_20, nL_21, nL_22, nL_23, nL_24, nL_25, nL_26, nL_27, nL_28, nL_29, nL_30, nL_31, nL_32, nL_33, nL_34, nL_35, nL_36, nL_37, nL_38, nL_39, nL_40, nL_41, nL_42, nL_43, nL_44, nL_45, nL_46, nL_47, nL_48, nL_49, nL_50, nL_51, nL_52, nL_53, nL_54, nL_55, nL_56, nL_57, nL_58, nL_59, nL_60, nL_61, nL_62, nL_63, nL_64, nL_65, nL_66, nL_67, nL_68, nL_69, nL_70, nL_400, nL_402, nL_800, nL_2000]

theorem cl_guest_2 (hK : TKO K kd t) {c c0 : Nat} (hc0 : c = c0 + 1) (hk0 : K c0 = 7) (hc : c + 2 ≤ t) (h0 : K c = 47) (h1 : K (c + 1) = 4) (hx : K (c + 2) ≠ 48) : f_X3_line n (K, sT, vT, nI (t + 1), nI (c0), e1, e2) (oA, oB, oC, oD, sk, sv, oE, nI s) = some (nI 0, nI (c + 2), oA, oB, oC, oD, sk, sv, oE, nI s) := by
  have h0k := hK.1
  have ctF := c_take (sT := sT) (vT := vT) (e1 := e1) (e2 := e2) hK (show c0 ≤ t by omega) (k := 0) (by omega)
  have ctG := c_take (sT := sT) (vT := vT) (e1 := e1) (e2 := e2) hK (show c0 ≤ t by omega) (k := 7) (by omega)
  rw [hk0] at ctF ctG
  rw [← hc0] at ctF ctG
  have ct0_47 := c_take (sT := sT) (vT := vT) (e1 := e1) (e2 := e2) hK (show c ≤ t by omega) (k := 47) (by omega)
  have ct1_4 := c_take (sT := sT) (vT := vT) (e1 := e1) (e2 := e2) hK (show c + 1 ≤ t by omega) (k := 4) (by omega)
  have ct2_48 := c_take (sT := sT) (vT := vT) (e1 := e1) (e2 := e2) hK (show c + 2 ≤ t by omega) (k := 48) (by omega)
  unfold f_X3_line f_X3_line_R50 f_X11_takeNumber
  simp (disch := omega) only [↓bd ctF, bd ctF, ↓bd ctG, bd ctG, ↓bd ct0_47, bd ct0_47, ↓bd ct1_4, bd ct1_4, ↓bd ct2_48, bd ct2_48, h0, h1, hx, X11_kinds, X11_starts, X11_values, X11_count, X11_cursor, X11_error, X11_errorToken, X6_deeds, X6_targets, X6_firstSteps, X6_endSteps, X6_stepKinds, X6_stepValues, X6_count, X6_steps, ↓reduceIte, ↓if_pos, ↓if_neg, Nat.reduceEqDiff, Nat.reduceLeDiff, Nat.reduceLT, and_true, true_and, and_false, false_and, true_or, or_true, false_or, or_false, eq_self, sb, nJ_of, nJ_lt, nJ_le, nJ_eq, nJ_clamp, nJ_add, nJ_sub, if_pos, if_neg, if_true, if_false, nL_0, nL_1, nL_2, nL_3, nL_4, nL_5, nL_6, nL_7, nL_8, nL_9, nL_10, nL_11, nL_12, nL_13, nL_14, nL_15, nL_16, nL_17, nL_18, nL_19, nL_20, nL_21, nL_22, nL_23, nL_24, nL_25, nL_26, nL_27, nL_28, nL_29, nL_30, nL_31, nL_32, nL_33, nL_34, nL_35, nL_36, nL_37, nL_38, nL_39, nL_40, nL_41, nL_42, nL_43, nL_44, nL_45, nL_46, nL_47, nL_48, nL_49, nL_50, nL_51, nL_52, nL_53, nL_54, nL_55, nL_56, nL_57, nL_58, nL_59, nL_60, nL_61, nL_62, nL_63, nL_64, nL_65, nL_66, nL_67, nL_68, nL_69, nL_70, nL_400, nL_402, nL_800, nL_2000]

theorem cl_guest_3 (hK : TKO K kd t) {c c0 : Nat} (hc0 : c = c0 + 1) (hk0 : K c0 = 7) (hc : c + 3 ≤ t) (h0 : K c = 47) (h1 : K (c + 1) = 4) (h2 : K (c + 2) = 48) (hx : K (c + 3) ≠ 8) : f_X3_line n (K, sT, vT, nI (t + 1), nI (c0), e1, e2) (oA, oB, oC, oD, sk, sv, oE, nI s) = some (nI 0, nI (c + 3), oA, oB, oC, oD, sk, sv, oE, nI s) := by
  have h0k := hK.1
  have ctF := c_take (sT := sT) (vT := vT) (e1 := e1) (e2 := e2) hK (show c0 ≤ t by omega) (k := 0) (by omega)
  have ctG := c_take (sT := sT) (vT := vT) (e1 := e1) (e2 := e2) hK (show c0 ≤ t by omega) (k := 7) (by omega)
  rw [hk0] at ctF ctG
  rw [← hc0] at ctF ctG
  have ct0_47 := c_take (sT := sT) (vT := vT) (e1 := e1) (e2 := e2) hK (show c ≤ t by omega) (k := 47) (by omega)
  have ct1_4 := c_take (sT := sT) (vT := vT) (e1 := e1) (e2 := e2) hK (show c + 1 ≤ t by omega) (k := 4) (by omega)
  have ct2_48 := c_take (sT := sT) (vT := vT) (e1 := e1) (e2 := e2) hK (show c + 2 ≤ t by omega) (k := 48) (by omega)
  have ct3_8 := c_take (sT := sT) (vT := vT) (e1 := e1) (e2 := e2) hK (show c + 3 ≤ t by omega) (k := 8) (by omega)
  unfold f_X3_line f_X3_line_R50 f_X11_takeNumber
  simp (disch := omega) only [↓bd ctF, bd ctF, ↓bd ctG, bd ctG, ↓bd ct0_47, bd ct0_47, ↓bd ct1_4, bd ct1_4, ↓bd ct2_48, bd ct2_48, ↓bd ct3_8, bd ct3_8, h0, h1, h2, hx, X11_kinds, X11_starts, X11_values, X11_count, X11_cursor, X11_error, X11_errorToken, X6_deeds, X6_targets, X6_firstSteps, X6_endSteps, X6_stepKinds, X6_stepValues, X6_count, X6_steps, ↓reduceIte, ↓if_pos, ↓if_neg, Nat.reduceEqDiff, Nat.reduceLeDiff, Nat.reduceLT, and_true, true_and, and_false, false_and, true_or, or_true, false_or, or_false, eq_self, sb, nJ_of, nJ_lt, nJ_le, nJ_eq, nJ_clamp, nJ_add, nJ_sub, if_pos, if_neg, if_true, if_false, nL_0, nL_1, nL_2, nL_3, nL_4, nL_5, nL_6, nL_7, nL_8, nL_9, nL_10, nL_11, nL_12, nL_13, nL_14, nL_15, nL_16, nL_17, nL_18, nL_19, nL_20, nL_21, nL_22, nL_23, nL_24, nL_25, nL_26, nL_27, nL_28, nL_29, nL_30, nL_31, nL_32, nL_33, nL_34, nL_35, nL_36, nL_37, nL_38, nL_39, nL_40, nL_41, nL_42, nL_43, nL_44, nL_45, nL_46, nL_47, nL_48, nL_49, nL_50, nL_51, nL_52, nL_53, nL_54, nL_55, nL_56, nL_57, nL_58, nL_59, nL_60, nL_61, nL_62, nL_63, nL_64, nL_65, nL_66, nL_67, nL_68, nL_69, nL_70, nL_400, nL_402, nL_800, nL_2000]

theorem cl_guest_4 (hK : TKO K kd t) {c c0 : Nat} (hc0 : c = c0 + 1) (hk0 : K c0 = 7) (hc : c + 4 ≤ t) (h0 : K c = 47) (h1 : K (c + 1) = 4) (h2 : K (c + 2) = 48) (h3 : K (c + 3) = 8) (hx : K (c + 4) ≠ 48) : f_X3_line n (K, sT, vT, nI (t + 1), nI (c0), e1, e2) (oA, oB, oC, oD, sk, sv, oE, nI s) = some (nI 0, nI (c + 4), oA, oB, oC, oD, sk, sv, oE, nI s) := by
  have h0k := hK.1
  have ctF := c_take (sT := sT) (vT := vT) (e1 := e1) (e2 := e2) hK (show c0 ≤ t by omega) (k := 0) (by omega)
  have ctG := c_take (sT := sT) (vT := vT) (e1 := e1) (e2 := e2) hK (show c0 ≤ t by omega) (k := 7) (by omega)
  rw [hk0] at ctF ctG
  rw [← hc0] at ctF ctG
  have ct0_47 := c_take (sT := sT) (vT := vT) (e1 := e1) (e2 := e2) hK (show c ≤ t by omega) (k := 47) (by omega)
  have ct1_4 := c_take (sT := sT) (vT := vT) (e1 := e1) (e2 := e2) hK (show c + 1 ≤ t by omega) (k := 4) (by omega)
  have ct2_48 := c_take (sT := sT) (vT := vT) (e1 := e1) (e2 := e2) hK (show c + 2 ≤ t by omega) (k := 48) (by omega)
  have ct3_8 := c_take (sT := sT) (vT := vT) (e1 := e1) (e2 := e2) hK (show c + 3 ≤ t by omega) (k := 8) (by omega)
  have ct4_48 := c_take (sT := sT) (vT := vT) (e1 := e1) (e2 := e2) hK (show c + 4 ≤ t by omega) (k := 48) (by omega)
  unfold f_X3_line f_X3_line_R50 f_X11_takeNumber
  simp (disch := omega) only [↓bd ctF, bd ctF, ↓bd ctG, bd ctG, ↓bd ct0_47, bd ct0_47, ↓bd ct1_4, bd ct1_4, ↓bd ct2_48, bd ct2_48, ↓bd ct3_8, bd ct3_8, ↓bd ct4_48, bd ct4_48, h0, h1, h2, h3, hx, X11_kinds, X11_starts, X11_values, X11_count, X11_cursor, X11_error, X11_errorToken, X6_deeds, X6_targets, X6_firstSteps, X6_endSteps, X6_stepKinds, X6_stepValues, X6_count, X6_steps, ↓reduceIte, ↓if_pos, ↓if_neg, Nat.reduceEqDiff, Nat.reduceLeDiff, Nat.reduceLT, and_true, true_and, and_false, false_and, true_or, or_true, false_or, or_false, eq_self, sb, nJ_of, nJ_lt, nJ_le, nJ_eq, nJ_clamp, nJ_add, nJ_sub, if_pos, if_neg, if_true, if_false, nL_0, nL_1, nL_2, nL_3, nL_4, nL_5, nL_6, nL_7, nL_8, nL_9, nL_10, nL_11, nL_12, nL_13, nL_14, nL_15, nL_16, nL_17, nL_18, nL_19, nL_20, nL_21, nL_22, nL_23, nL_24, nL_25, nL_26, nL_27, nL_28, nL_29, nL_30, nL_31, nL_32, nL_33, nL_34, nL_35, nL_36, nL_37, nL_38, nL_39, nL_40, nL_41, nL_42, nL_43, nL_44, nL_45, nL_46, nL_47, nL_48, nL_49, nL_50, nL_51, nL_52, nL_53, nL_54, nL_55, nL_56, nL_57, nL_58, nL_59, nL_60, nL_61, nL_62, nL_63, nL_64, nL_65, nL_66, nL_67, nL_68, nL_69, nL_70, nL_400, nL_402, nL_800, nL_2000]

theorem cl_guest_5 (hK : TKO K kd t) {c c0 : Nat} (hc0 : c = c0 + 1) (hk0 : K c0 = 7) (hc : c + 5 ≤ t) (h0 : K c = 47) (h1 : K (c + 1) = 4) (h2 : K (c + 2) = 48) (h3 : K (c + 3) = 8) (h4 : K (c + 4) = 48) (hx : K (c + 5) ≠ 9) : f_X3_line n (K, sT, vT, nI (t + 1), nI (c0), e1, e2) (oA, oB, oC, oD, sk, sv, oE, nI s) = some (nI 0, nI (c + 5), oA, oB, oC, oD, sk, sv, oE, nI s) := by
  have h0k := hK.1
  have ctF := c_take (sT := sT) (vT := vT) (e1 := e1) (e2 := e2) hK (show c0 ≤ t by omega) (k := 0) (by omega)
  have ctG := c_take (sT := sT) (vT := vT) (e1 := e1) (e2 := e2) hK (show c0 ≤ t by omega) (k := 7) (by omega)
  rw [hk0] at ctF ctG
  rw [← hc0] at ctF ctG
  have ct0_47 := c_take (sT := sT) (vT := vT) (e1 := e1) (e2 := e2) hK (show c ≤ t by omega) (k := 47) (by omega)
  have ct1_4 := c_take (sT := sT) (vT := vT) (e1 := e1) (e2 := e2) hK (show c + 1 ≤ t by omega) (k := 4) (by omega)
  have ct2_48 := c_take (sT := sT) (vT := vT) (e1 := e1) (e2 := e2) hK (show c + 2 ≤ t by omega) (k := 48) (by omega)
  have ct3_8 := c_take (sT := sT) (vT := vT) (e1 := e1) (e2 := e2) hK (show c + 3 ≤ t by omega) (k := 8) (by omega)
  have ct4_48 := c_take (sT := sT) (vT := vT) (e1 := e1) (e2 := e2) hK (show c + 4 ≤ t by omega) (k := 48) (by omega)
  have ct5_9 := c_take (sT := sT) (vT := vT) (e1 := e1) (e2 := e2) hK (show c + 5 ≤ t by omega) (k := 9) (by omega)
  unfold f_X3_line f_X3_line_R50 f_X11_takeNumber
  simp (disch := omega) only [↓bd ctF, bd ctF, ↓bd ctG, bd ctG, ↓bd ct0_47, bd ct0_47, ↓bd ct1_4, bd ct1_4, ↓bd ct2_48, bd ct2_48, ↓bd ct3_8, bd ct3_8, ↓bd ct4_48, bd ct4_48, ↓bd ct5_9, bd ct5_9, h0, h1, h2, h3, h4, hx, X11_kinds, X11_starts, X11_values, X11_count, X11_cursor, X11_error, X11_errorToken, X6_deeds, X6_targets, X6_firstSteps, X6_endSteps, X6_stepKinds, X6_stepValues, X6_count, X6_steps, ↓reduceIte, ↓if_pos, ↓if_neg, Nat.reduceEqDiff, Nat.reduceLeDiff, Nat.reduceLT, and_true, true_and, and_false, false_and, true_or, or_true, false_or, or_false, eq_self, sb, nJ_of, nJ_lt, nJ_le, nJ_eq, nJ_clamp, nJ_add, nJ_sub, if_pos, if_neg, if_true, if_false, nL_0, nL_1, nL_2, nL_3, nL_4, nL_5, nL_6, nL_7, nL_8, nL_9, nL_10, nL_11, nL_12, nL_13, nL_14, nL_15, nL_16, nL_17, nL_18, nL_19, nL_20, nL_21, nL_22, nL_23, nL_24, nL_25, nL_26, nL_27, nL_28, nL_29, nL_30, nL_31, nL_32, nL_33, nL_34, nL_35, nL_36, nL_37, nL_38, nL_39, nL_40, nL_41, nL_42, nL_43, nL_44, nL_45, nL_46, nL_47, nL_48, nL_49, nL_50, nL_51, nL_52, nL_53, nL_54, nL_55, nL_56, nL_57, nL_58, nL_59, nL_60, nL_61, nL_62, nL_63, nL_64, nL_65, nL_66, nL_67, nL_68, nL_69, nL_70, nL_400, nL_402, nL_800, nL_2000]

theorem cl_guest_6 (hK : TKO K kd t) {c c0 : Nat} (hc0 : c = c0 + 1) (hk0 : K c0 = 7) (hc : c + 6 ≤ t) (h0 : K c = 47) (h1 : K (c + 1) = 4) (h2 : K (c + 2) = 48) (h3 : K (c + 3) = 8) (h4 : K (c + 4) = 48) (h5 : K (c + 5) = 9) (hx : K (c + 6) ≠ 48) : f_X3_line n (K, sT, vT, nI (t + 1), nI (c0), e1, e2) (oA, oB, oC, oD, sk, sv, oE, nI s) = some (nI 0, nI (c + 6), oA, oB, oC, oD, sk, sv, oE, nI s) := by
  have h0k := hK.1
  have ctF := c_take (sT := sT) (vT := vT) (e1 := e1) (e2 := e2) hK (show c0 ≤ t by omega) (k := 0) (by omega)
  have ctG := c_take (sT := sT) (vT := vT) (e1 := e1) (e2 := e2) hK (show c0 ≤ t by omega) (k := 7) (by omega)
  rw [hk0] at ctF ctG
  rw [← hc0] at ctF ctG
  have ct0_47 := c_take (sT := sT) (vT := vT) (e1 := e1) (e2 := e2) hK (show c ≤ t by omega) (k := 47) (by omega)
  have ct1_4 := c_take (sT := sT) (vT := vT) (e1 := e1) (e2 := e2) hK (show c + 1 ≤ t by omega) (k := 4) (by omega)
  have ct2_48 := c_take (sT := sT) (vT := vT) (e1 := e1) (e2 := e2) hK (show c + 2 ≤ t by omega) (k := 48) (by omega)
  have ct3_8 := c_take (sT := sT) (vT := vT) (e1 := e1) (e2 := e2) hK (show c + 3 ≤ t by omega) (k := 8) (by omega)
  have ct4_48 := c_take (sT := sT) (vT := vT) (e1 := e1) (e2 := e2) hK (show c + 4 ≤ t by omega) (k := 48) (by omega)
  have ct5_9 := c_take (sT := sT) (vT := vT) (e1 := e1) (e2 := e2) hK (show c + 5 ≤ t by omega) (k := 9) (by omega)
  have ct6_48 := c_take (sT := sT) (vT := vT) (e1 := e1) (e2 := e2) hK (show c + 6 ≤ t by omega) (k := 48) (by omega)
  unfold f_X3_line f_X3_line_R50 f_X11_takeNumber
  simp (disch := omega) only [↓bd ctF, bd ctF, ↓bd ctG, bd ctG, ↓bd ct0_47, bd ct0_47, ↓bd ct1_4, bd ct1_4, ↓bd ct2_48, bd ct2_48, ↓bd ct3_8, bd ct3_8, ↓bd ct4_48, bd ct4_48, ↓bd ct5_9, bd ct5_9, ↓bd ct6_48, bd ct6_48, h0, h1, h2, h3, h4, h5, hx, X11_kinds, X11_starts, X11_values, X11_count, X11_cursor, X11_error, X11_errorToken, X6_deeds, X6_targets, X6_firstSteps, X6_endSteps, X6_stepKinds, X6_stepValues, X6_count, X6_steps, ↓reduceIte, ↓if_pos, ↓if_neg, Nat.reduceEqDiff, Nat.reduceLeDiff, Nat.reduceLT, and_true, true_and, and_false, false_and, true_or, or_true, false_or, or_false, eq_self, sb, nJ_of, nJ_lt, nJ_le, nJ_eq, nJ_clamp, nJ_add, nJ_sub, if_pos, if_neg, if_true, if_false, nL_0, nL_1, nL_2, nL_3, nL_4, nL_5, nL_6, nL_7, nL_8, nL_9, nL_10, nL_11, nL_12, nL_13, nL_14, nL_15, nL_16, nL_17, nL_18, nL_19, nL_20, nL_21, nL_22, nL_23, nL_24, nL_25, nL_26, nL_27, nL_28, nL_29, nL_30, nL_31, nL_32, nL_33, nL_34, nL_35, nL_36, nL_37, nL_38, nL_39, nL_40, nL_41, nL_42, nL_43, nL_44, nL_45, nL_46, nL_47, nL_48, nL_49, nL_50, nL_51, nL_52, nL_53, nL_54, nL_55, nL_56, nL_57, nL_58, nL_59, nL_60, nL_61, nL_62, nL_63, nL_64, nL_65, nL_66, nL_67, nL_68, nL_69, nL_70, nL_400, nL_402, nL_800, nL_2000]

theorem cl_guest_7 (hK : TKO K kd t) {c c0 : Nat} (hc0 : c = c0 + 1) (hk0 : K c0 = 7) (hc : c + 7 ≤ t) (h0 : K c = 47) (h1 : K (c + 1) = 4) (h2 : K (c + 2) = 48) (h3 : K (c + 3) = 8) (h4 : K (c + 4) = 48) (h5 : K (c + 5) = 9) (h6 : K (c + 6) = 48) (hx : K (c + 7) ≠ 10) : f_X3_line n (K, sT, vT, nI (t + 1), nI (c0), e1, e2) (oA, oB, oC, oD, sk, sv, oE, nI s) = some (nI 0, nI (c + 7), oA, oB, oC, oD, sk, sv, oE, nI s) := by
  have h0k := hK.1
  have ctF := c_take (sT := sT) (vT := vT) (e1 := e1) (e2 := e2) hK (show c0 ≤ t by omega) (k := 0) (by omega)
  have ctG := c_take (sT := sT) (vT := vT) (e1 := e1) (e2 := e2) hK (show c0 ≤ t by omega) (k := 7) (by omega)
  rw [hk0] at ctF ctG
  rw [← hc0] at ctF ctG
  have ct0_47 := c_take (sT := sT) (vT := vT) (e1 := e1) (e2 := e2) hK (show c ≤ t by omega) (k := 47) (by omega)
  have ct1_4 := c_take (sT := sT) (vT := vT) (e1 := e1) (e2 := e2) hK (show c + 1 ≤ t by omega) (k := 4) (by omega)
  have ct2_48 := c_take (sT := sT) (vT := vT) (e1 := e1) (e2 := e2) hK (show c + 2 ≤ t by omega) (k := 48) (by omega)
  have ct3_8 := c_take (sT := sT) (vT := vT) (e1 := e1) (e2 := e2) hK (show c + 3 ≤ t by omega) (k := 8) (by omega)
  have ct4_48 := c_take (sT := sT) (vT := vT) (e1 := e1) (e2 := e2) hK (show c + 4 ≤ t by omega) (k := 48) (by omega)
  have ct5_9 := c_take (sT := sT) (vT := vT) (e1 := e1) (e2 := e2) hK (show c + 5 ≤ t by omega) (k := 9) (by omega)
  have ct6_48 := c_take (sT := sT) (vT := vT) (e1 := e1) (e2 := e2) hK (show c + 6 ≤ t by omega) (k := 48) (by omega)
  have ct7_10 := c_take (sT := sT) (vT := vT) (e1 := e1) (e2 := e2) hK (show c + 7 ≤ t by omega) (k := 10) (by omega)
  unfold f_X3_line f_X3_line_R50 f_X11_takeNumber
  simp (disch := omega) only [↓bd ctF, bd ctF, ↓bd ctG, bd ctG, ↓bd ct0_47, bd ct0_47, ↓bd ct1_4, bd ct1_4, ↓bd ct2_48, bd ct2_48, ↓bd ct3_8, bd ct3_8, ↓bd ct4_48, bd ct4_48, ↓bd ct5_9, bd ct5_9, ↓bd ct6_48, bd ct6_48, ↓bd ct7_10, bd ct7_10, h0, h1, h2, h3, h4, h5, h6, hx, X11_kinds, X11_starts, X11_values, X11_count, X11_cursor, X11_error, X11_errorToken, X6_deeds, X6_targets, X6_firstSteps, X6_endSteps, X6_stepKinds, X6_stepValues, X6_count, X6_steps, ↓reduceIte, ↓if_pos, ↓if_neg, Nat.reduceEqDiff, Nat.reduceLeDiff, Nat.reduceLT, and_true, true_and, and_false, false_and, true_or, or_true, false_or, or_false, eq_self, sb, nJ_of, nJ_lt, nJ_le, nJ_eq, nJ_clamp, nJ_add, nJ_sub, if_pos, if_neg, if_true, if_false, nL_0, nL_1, nL_2, nL_3, nL_4, nL_5, nL_6, nL_7, nL_8, nL_9, nL_10, nL_11, nL_12, nL_13, nL_14, nL_15, nL_16, nL_17, nL_18, nL_19, nL_20, nL_21, nL_22, nL_23, nL_24, nL_25, nL_26, nL_27, nL_28, nL_29, nL_30, nL_31, nL_32, nL_33, nL_34, nL_35, nL_36, nL_37, nL_38, nL_39, nL_40, nL_41, nL_42, nL_43, nL_44, nL_45, nL_46, nL_47, nL_48, nL_49, nL_50, nL_51, nL_52, nL_53, nL_54, nL_55, nL_56, nL_57, nL_58, nL_59, nL_60, nL_61, nL_62, nL_63, nL_64, nL_65, nL_66, nL_67, nL_68, nL_69, nL_70, nL_400, nL_402, nL_800, nL_2000]

theorem cl_guest_8 (hK : TKO K kd t) {c c0 : Nat} (hc0 : c = c0 + 1) (hk0 : K c0 = 7) (hc : c + 8 ≤ t) (h0 : K c = 47) (h1 : K (c + 1) = 4) (h2 : K (c + 2) = 48) (h3 : K (c + 3) = 8) (h4 : K (c + 4) = 48) (h5 : K (c + 5) = 9) (h6 : K (c + 6) = 48) (h7 : K (c + 7) = 10) (hx : K (c + 8) ≠ 48) : f_X3_line n (K, sT, vT, nI (t + 1), nI (c0), e1, e2) (oA, oB, oC, oD, sk, sv, oE, nI s) = some (nI 0, nI (c + 8), oA, oB, oC, oD, sk, sv, oE, nI s) := by
  have h0k := hK.1
  have ctF := c_take (sT := sT) (vT := vT) (e1 := e1) (e2 := e2) hK (show c0 ≤ t by omega) (k := 0) (by omega)
  have ctG := c_take (sT := sT) (vT := vT) (e1 := e1) (e2 := e2) hK (show c0 ≤ t by omega) (k := 7) (by omega)
  rw [hk0] at ctF ctG
  rw [← hc0] at ctF ctG
  have ct0_47 := c_take (sT := sT) (vT := vT) (e1 := e1) (e2 := e2) hK (show c ≤ t by omega) (k := 47) (by omega)
  have ct1_4 := c_take (sT := sT) (vT := vT) (e1 := e1) (e2 := e2) hK (show c + 1 ≤ t by omega) (k := 4) (by omega)
  have ct2_48 := c_take (sT := sT) (vT := vT) (e1 := e1) (e2 := e2) hK (show c + 2 ≤ t by omega) (k := 48) (by omega)
  have ct3_8 := c_take (sT := sT) (vT := vT) (e1 := e1) (e2 := e2) hK (show c + 3 ≤ t by omega) (k := 8) (by omega)
  have ct4_48 := c_take (sT := sT) (vT := vT) (e1 := e1) (e2 := e2) hK (show c + 4 ≤ t by omega) (k := 48) (by omega)
  have ct5_9 := c_take (sT := sT) (vT := vT) (e1 := e1) (e2 := e2) hK (show c + 5 ≤ t by omega) (k := 9) (by omega)
  have ct6_48 := c_take (sT := sT) (vT := vT) (e1 := e1) (e2 := e2) hK (show c + 6 ≤ t by omega) (k := 48) (by omega)
  have ct7_10 := c_take (sT := sT) (vT := vT) (e1 := e1) (e2 := e2) hK (show c + 7 ≤ t by omega) (k := 10) (by omega)
  have ct8_48 := c_take (sT := sT) (vT := vT) (e1 := e1) (e2 := e2) hK (show c + 8 ≤ t by omega) (k := 48) (by omega)
  unfold f_X3_line f_X3_line_R50 f_X11_takeNumber
  simp (disch := omega) only [↓bd ctF, bd ctF, ↓bd ctG, bd ctG, ↓bd ct0_47, bd ct0_47, ↓bd ct1_4, bd ct1_4, ↓bd ct2_48, bd ct2_48, ↓bd ct3_8, bd ct3_8, ↓bd ct4_48, bd ct4_48, ↓bd ct5_9, bd ct5_9, ↓bd ct6_48, bd ct6_48, ↓bd ct7_10, bd ct7_10, ↓bd ct8_48, bd ct8_48, h0, h1, h2, h3, h4, h5, h6, h7, hx, X11_kinds, X11_starts, X11_values, X11_count, X11_cursor, X11_error, X11_errorToken, X6_deeds, X6_targets, X6_firstSteps, X6_endSteps, X6_stepKinds, X6_stepValues, X6_count, X6_steps, ↓reduceIte, ↓if_pos, ↓if_neg, Nat.reduceEqDiff, Nat.reduceLeDiff, Nat.reduceLT, and_true, true_and, and_false, false_and, true_or, or_true, false_or, or_false, eq_self, sb, nJ_of, nJ_lt, nJ_le, nJ_eq, nJ_clamp, nJ_add, nJ_sub, if_pos, if_neg, if_true, if_false, nL_0, nL_1, nL_2, nL_3, nL_4, nL_5, nL_6, nL_7, nL_8, nL_9, nL_10, nL_11, nL_12, nL_13, nL_14, nL_15, nL_16, nL_17, nL_18, nL_19, nL_20, nL_21, nL_22, nL_23, nL_24, nL_25, nL_26, nL_27, nL_28, nL_29, nL_30, nL_31, nL_32, nL_33, nL_34, nL_35, nL_36, nL_37, nL_38, nL_39, nL_40, nL_41, nL_42, nL_43, nL_44, nL_45, nL_46, nL_47, nL_48, nL_49, nL_50, nL_51, nL_52, nL_53, nL_54, nL_55, nL_56, nL_57, nL_58, nL_59, nL_60, nL_61, nL_62, nL_63, nL_64, nL_65, nL_66, nL_67, nL_68, nL_69, nL_70, nL_400, nL_402, nL_800, nL_2000]

theorem cl_guest_ok (hK : TKO K kd t) {c c0 : Nat} (hc0 : c = c0 + 1) (hk0 : K c0 = 7) (hc : c + 8 ≤ t) (h0 : K c = 47) (h1 : K (c + 1) = 4) (h2 : K (c + 2) = 48) (h3 : K (c + 3) = 8) (h4 : K (c + 4) = 48) (h5 : K (c + 5) = 9) (h6 : K (c + 6) = 48) (h7 : K (c + 7) = 10) (h8 : K (c + 8) = 48) : f_X3_line n (K, sT, vT, nI (t + 1), nI (c0), e1, e2) (oA, oB, oC, oD, sk, sv, oE, nI s) = some (nI 1, nI (c + 9), oA, oB, oC, oD, sk, sv, oE, nI s) := by
  have h0k := hK.1
  have ctF := c_take (sT := sT) (vT := vT) (e1 := e1) (e2 := e2) hK (show c0 ≤ t by omega) (k := 0) (by omega)
  have ctG := c_take (sT := sT) (vT := vT) (e1 := e1) (e2 := e2) hK (show c0 ≤ t by omega) (k := 7) (by omega)
  rw [hk0] at ctF ctG
  rw [← hc0] at ctF ctG
  have ct0_47 := c_take (sT := sT) (vT := vT) (e1 := e1) (e2 := e2) hK (show c ≤ t by omega) (k := 47) (by omega)
  have ct1_4 := c_take (sT := sT) (vT := vT) (e1 := e1) (e2 := e2) hK (show c + 1 ≤ t by omega) (k := 4) (by omega)
  have ct2_48 := c_take (sT := sT) (vT := vT) (e1 := e1) (e2 := e2) hK (show c + 2 ≤ t by omega) (k := 48) (by omega)
  have ct3_8 := c_take (sT := sT) (vT := vT) (e1 := e1) (e2 := e2) hK (show c + 3 ≤ t by omega) (k := 8) (by omega)
  have ct4_48 := c_take (sT := sT) (vT := vT) (e1 := e1) (e2 := e2) hK (show c + 4 ≤ t by omega) (k := 48) (by omega)
  have ct5_9 := c_take (sT := sT) (vT := vT) (e1 := e1) (e2 := e2) hK (show c + 5 ≤ t by omega) (k := 9) (by omega)
  have ct6_48 := c_take (sT := sT) (vT := vT) (e1 := e1) (e2 := e2) hK (show c + 6 ≤ t by omega) (k := 48) (by omega)
  have ct7_10 := c_take (sT := sT) (vT := vT) (e1 := e1) (e2 := e2) hK (show c + 7 ≤ t by omega) (k := 10) (by omega)
  have ct8_48 := c_take (sT := sT) (vT := vT) (e1 := e1) (e2 := e2) hK (show c + 8 ≤ t by omega) (k := 48) (by omega)
  unfold f_X3_line f_X3_line_R50 f_X11_takeNumber
  simp (disch := omega) only [↓bd ctF, bd ctF, ↓bd ctG, bd ctG, ↓bd ct0_47, bd ct0_47, ↓bd ct1_4, bd ct1_4, ↓bd ct2_48, bd ct2_48, ↓bd ct3_8, bd ct3_8, ↓bd ct4_48, bd ct4_48, ↓bd ct5_9, bd ct5_9, ↓bd ct6_48, bd ct6_48, ↓bd ct7_10, bd ct7_10, ↓bd ct8_48, bd ct8_48, h0, h1, h2, h3, h4, h5, h6, h7, h8, X11_kinds, X11_starts, X11_values, X11_count, X11_cursor, X11_error, X11_errorToken, X6_deeds, X6_targets, X6_firstSteps, X6_endSteps, X6_stepKinds, X6_stepValues, X6_count, X6_steps, ↓reduceIte, ↓if_pos, ↓if_neg, Nat.reduceEqDiff, Nat.reduceLeDiff, Nat.reduceLT, and_true, true_and, and_false, false_and, true_or, or_true, false_or, or_false, eq_self, sb, nJ_of, nJ_lt, nJ_le, nJ_eq, nJ_clamp, nJ_add, nJ_sub, if_pos, if_neg, if_true, if_false, nL_0, nL_1, nL_2, nL_3, nL_4, nL_5, nL_6, nL_7, nL_8, nL_9, nL_10, nL_11, nL_12, nL_13, nL_14, nL_15, nL_16, nL_17, nL_18, nL_19, nL_20, nL_21, nL_22, nL_23, nL_24, nL_25, nL_26, nL_27, nL_28, nL_29, nL_30, nL_31, nL_32, nL_33, nL_34, nL_35, nL_36, nL_37, nL_38, nL_39, nL_40, nL_41, nL_42, nL_43, nL_44, nL_45, nL_46, nL_47, nL_48, nL_49, nL_50, nL_51, nL_52, nL_53, nL_54, nL_55, nL_56, nL_57, nL_58, nL_59, nL_60, nL_61, nL_62, nL_63, nL_64, nL_65, nL_66, nL_67, nL_68, nL_69, nL_70, nL_400, nL_402, nL_800, nL_2000]
end P34
