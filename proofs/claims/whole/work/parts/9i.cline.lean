/-! the class's line: an order, or no line -/
section P43
variable {n : Nat} {K : Nat → Nat} {sT : Nat → Int32} {vT : Nat → Int64} {t : Nat} {e1 e2 : Int32} {oA : Nat → Nat} {oB oC oD : Nat → Int32} {oE : Int32}
variable {kd : Nat → Int32} {sk : Nat → Nat} {sv : Nat → Int32} {s c no : Nat}
theorem co_no (hK : TKO K kd t) (hc : c ≤ t) (h : K c ≠ 11 ∧ K c ≠ 14 ∧ K c ≠ 12 ∧ K c ≠ 13) : f_X3_order n (K, sT, vT, nI (t + 1), nI (c), e1, e2) (oA, oB, oC, oD, sk, sv, nI no, nI s) = some (nI 0, nI c, oA, oB, oC, oD, sk, sv, nI no, nI s) := by
  have h0 := hK.1
  have cn := c_next (sT := sT) (vT := vT) (e1 := e1) (e2 := e2) hK hc
  have ct11 := c_take (sT := sT) (vT := vT) (e1 := e1) (e2 := e2) hK hc (k := 11) (by omega)
  have ct14 := c_take (sT := sT) (vT := vT) (e1 := e1) (e2 := e2) hK hc (k := 14) (by omega)
  have ct12 := c_take (sT := sT) (vT := vT) (e1 := e1) (e2 := e2) hK hc (k := 12) (by omega)
  have ct13 := c_take (sT := sT) (vT := vT) (e1 := e1) (e2 := e2) hK hc (k := 13) (by omega)
  unfold f_X3_order
  simp (disch := omega) only [↓bd cn, bd cn, ↓bd ct11, bd ct11, ↓bd ct14, bd ct14, ↓bd ct12, bd ct12, ↓bd ct13, bd ct13, h.1, h.2.1, h.2.2.1, h.2.2.2, X11_kinds, X11_starts, X11_values, X11_count, X11_cursor, X11_error, X11_errorToken, X6_deeds, X6_targets, X6_firstSteps, X6_endSteps, X6_stepKinds, X6_stepValues, X6_count, X6_steps, ↓reduceIte, ↓if_pos, ↓if_neg, Nat.reduceEqDiff, Nat.reduceLeDiff, Nat.reduceLT, and_true, true_and, and_false, false_and, true_or, or_true, false_or, or_false, eq_self, sb, nJ_of, nJ_lt, nJ_le, nJ_eq, nJ_clamp, nJ_add, nJ_sub, if_pos, if_neg, if_true, if_false, nL_0, nL_1, nL_2, nL_3, nL_4, nL_5, nL_6, nL_7, nL_8, nL_9, nL_10, nL_11, nL_12, nL_13, nL_14, nL_15, nL_16, nL_17, nL_18, nL_19, nL_20, nL_21, nL_22, nL_23, nL_24, nL_25, nL_26, nL_27, nL_28, nL_29, nL_30, nL_31, nL_32, nL_33, nL_34, nL_35, nL_36, nL_37, nL_38, nL_39, nL_40, nL_41, nL_42, nL_43, nL_44, nL_45, nL_46, nL_47, nL_48, nL_49, nL_50, nL_51, nL_52, nL_53, nL_54, nL_55, nL_56, nL_57, nL_58, nL_59, nL_60, nL_61, nL_62, nL_63, nL_64, nL_65, nL_66, nL_67, nL_68, nL_69, nL_70, nL_400, nL_402, nL_800, nL_2000]
theorem cl_ord {O : bX6} {b : Nat} {q : Int32 × (Nat → Nat) × (Nat → Int32) × (Nat → Int32) × (Nat → Int32) × (Nat → Nat) × (Nat → Int32) × Int32 × Int32} (hK : TKO K kd t) (hc : c ≤ t) (h : K c ≠ 0 ∧ K c ≠ 7) (hb : b ≤ 1) (ho : f_X3_order n (K, sT, vT, nI (t + 1), nI (c), e1, e2) O = some (nI b, q)) : f_X3_line n (K, sT, vT, nI (t + 1), nI (c), e1, e2) O = some (nI b, q) := by
  have h0 := hK.1
  have ct0 := c_take (sT := sT) (vT := vT) (e1 := e1) (e2 := e2) hK hc (k := 0) (by omega)
  have ct7 := c_take (sT := sT) (vT := vT) (e1 := e1) (e2 := e2) hK hc (k := 7) (by omega)
  have vb := vpn_b hb
  unfold f_X3_line
  simp (disch := omega) only [↓bd ct0, bd ct0, ↓bd ct7, bd ct7, ↓bd ho, bd ho, h.1, h.2, vb, X11_kinds, X11_starts, X11_values, X11_count, X11_cursor, X11_error, X11_errorToken, ↓reduceIte, ↓if_pos, ↓if_neg, Nat.reduceEqDiff, Nat.reduceLeDiff, Nat.reduceLT, and_true, true_and, and_false, false_and, true_or, or_true, false_or, or_false, eq_self, sb, nJ_of, nJ_lt, nJ_le, nJ_eq, nJ_clamp, nJ_add, nJ_sub, if_pos, if_neg, if_true, if_false, nL_0, nL_1, nL_2, nL_3, nL_4, nL_5, nL_6, nL_7, nL_8, nL_9, nL_10, nL_11, nL_12, nL_13, nL_14, nL_15, nL_16, nL_17, nL_18, nL_19, nL_20, nL_21, nL_22, nL_23, nL_24, nL_25, nL_26, nL_27, nL_28, nL_29, nL_30, nL_31, nL_32, nL_33, nL_34, nL_35, nL_36, nL_37, nL_38, nL_39, nL_40, nL_41, nL_42, nL_43, nL_44, nL_45, nL_46, nL_47, nL_48, nL_49, nL_50, nL_51, nL_52, nL_53, nL_54, nL_55, nL_56, nL_57, nL_58, nL_59, nL_60, nL_61, nL_62, nL_63, nL_64, nL_65, nL_66, nL_67, nL_68, nL_69, nL_70, nL_400, nL_402, nL_800, nL_2000]
end P43
