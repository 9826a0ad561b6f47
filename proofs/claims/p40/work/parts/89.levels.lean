/-! THE GRAMMAR'S LEVELS: reading at one level, given the reading below it -/
def Rds (n d L x : Nat) (K : Nat → Nat) (cnt c len : Nat) (l : List (Nat × Nat)) : Prop := ∀ (sT : Nat → Int32) (vT : Nat → Int64) (er et : Int32) (dd : Nat → Nat) (tg fs es : Nat → Int32) (sk : Nat → Nat) (sv : Nat → Int32) (ct : Int32) (p : Nat), p + l.length ≤ 400 → g_X3 n d L (nI x) (K, sT, vT, nI cnt, nI c, er, et) (dd, tg, fs, es, sk, sv, ct, nI p) = some (1, nI (c + len), wK sk p l, wV sv p l, nI (p + l.length))
theorem vpN1 : vp_nar .boolean (nI 1) = nI 1 := by decide +kernel
theorem wK_2 (f : Nat → Nat) (p k v : Nat) (l l' : List (Nat × Nat)) : wK f p (l ++ (l' ++ [(k, v)])) = va_up (wK (wK f p l) (p + l.length) l') (p + l.length + l'.length) k := by
  rw [wK_app, wK_app]; rfl
theorem wV_2 (f : Nat → Int32) (p k v : Nat) (l l' : List (Nat × Nat)) : wV f p (l ++ (l' ++ [(k, v)])) = upd (wV (wV f p l) (p + l.length) l') (p + l.length + l'.length) (nI v) := by
  rw [wV_app, wV_app]; rfl
theorem ln_2 (k v : Nat) (l l' : List (Nat × Nat)) (p : Nat) : p + (l ++ (l' ++ [(k, v)])).length = p + l.length + l'.length + 1 := by
  rw [List.length_append, List.length_append]
  show p + (l.length + (l'.length + 1)) = _
  omega
section
variable {n d x : Nat} {K : Nat → Nat} {cnt c len len' kk : Nat} {l l' : List (Nat × Nat)}
theorem lift5 (hn : 0 < n) (h : Rds n d 6 x K cnt c len l) (hc : c + len < cnt) (h4 : cnt ≤ 401) (k1 : K (c + len) < 52) (k2 : K (c + len) ≠ 40) (k3 : K (c + len) ≠ 41) : Rds n (d + 1) 5 x K cnt c len l := by
  intro sT vT er et dd tg fs es sk sv ct p hp
  show f_X3_product n (g_X3 n d) (nI x) _ _ = _
  unfold f_X3_product
  rw [h sT vT er et dd tg fs es sk sv ct p hp, Option.bind_some]
  simp (disch := omega) only [X11_kinds, X11_starts, X11_values, X11_count, X11_cursor, X11_error, X11_errorToken, X6_deeds, X6_targets, X6_firstSteps, X6_endSteps, X6_stepKinds, X6_stepValues, X6_count, X6_steps, vpN1, next_ok hc h4, sb, nJ_of, nJ_lt, nJ_le, nJ_eq, nJ_clamp, nJ_add, nJ_sub, if_pos, if_neg, if_true, if_false, nL_0, nL_1, nL_2, nL_3, nL_4, nL_5, nL_6, nL_7, nL_8, nL_9, nL_10, nL_11, nL_12, nL_13, nL_14, nL_15, nL_16, nL_17, nL_18, nL_19, nL_20, nL_21, nL_22, nL_23, nL_24, nL_25, nL_26, nL_27, nL_28, nL_29, nL_30, nL_31, nL_32, nL_33, nL_34, nL_35, nL_36, nL_37, nL_38, nL_39, nL_40, nL_41, nL_42, nL_43, nL_44, nL_45, nL_46, nL_47, nL_48, nL_49, nL_50, nL_51, nL_52, nL_53, nL_54, nL_55, nL_56, nL_57, nL_58, nL_59, nL_60, nL_61, nL_62, nL_63, nL_64, nL_65, nL_66, nL_67, nL_68, nL_69, nL_70, nL_400, nL_402, nL_800, nL_2000]
  obtain ⟨m, rfl⟩ : ∃ m, n = m + 1 := ⟨n - 1, by omega⟩
  refine iter_inr ?_
  unfold f_X3_product_L16
  simp (disch := omega) only [X11_kinds, X11_starts, X11_values, X11_count, X11_cursor, X11_error, X11_errorToken, X6_deeds, X6_targets, X6_firstSteps, X6_endSteps, X6_stepKinds, X6_stepValues, X6_count, X6_steps, vpN1, take_no hc h4 (show (40 : Nat) < 52 by decide) k1 k2, take_no hc h4 (show (41 : Nat) < 52 by decide) k1 k3, sb, nJ_of, nJ_lt, nJ_le, nJ_eq, nJ_clamp, nJ_add, nJ_sub, if_pos, if_neg, if_true, if_false, nL_0, nL_1, nL_2, nL_3, nL_4, nL_5, nL_6, nL_7, nL_8, nL_9, nL_10, nL_11, nL_12, nL_13, nL_14, nL_15, nL_16, nL_17, nL_18, nL_19, nL_20, nL_21, nL_22, nL_23, nL_24, nL_25, nL_26, nL_27, nL_28, nL_29, nL_30, nL_31, nL_32, nL_33, nL_34, nL_35, nL_36, nL_37, nL_38, nL_39, nL_40, nL_41, nL_42, nL_43, nL_44, nL_45, nL_46, nL_47, nL_48, nL_49, nL_50, nL_51, nL_52, nL_53, nL_54, nL_55, nL_56, nL_57, nL_58, nL_59, nL_60, nL_61, nL_62, nL_63, nL_64, nL_65, nL_66, nL_67, nL_68, nL_69, nL_70, nL_400, nL_402, nL_800, nL_2000]
theorem comb5 (hn : 1 < n) (h : Rds n d 6 x K cnt c len l) (hk : K (c + len) = kk) (hkk : kk = 40 ∨ kk = 41) (h' : Rds n d 6 x K cnt (c + len + 1) len' l') (hc : c + len + 1 + len' < cnt) (h4 : cnt ≤ 401) (k1 : K (c + len + 1 + len') < 52) (k2 : K (c + len + 1 + len') ≠ 40) (k3 : K (c + len + 1 + len') ≠ 41) : Rds n (d + 1) 5 x K cnt c (len + 1 + len') (l ++ (l' ++ [(kk, 0)])) := by
  intro sT vT er et dd tg fs es sk sv ct p hp
  rw [ln_2] at hp
  rw [wK_2, wV_2, ln_2]
  show f_X3_product n (g_X3 n d) (nI x) _ _ = _
  unfold f_X3_product
  rw [h sT vT er et dd tg fs es sk sv ct p (by omega), Option.bind_some]
  have hc1 : c + len < cnt := by omega
  simp (disch := omega) only [X11_kinds, X11_starts, X11_values, X11_count, X11_cursor, X11_error, X11_errorToken, X6_deeds, X6_targets, X6_firstSteps, X6_endSteps, X6_stepKinds, X6_stepValues, X6_count, X6_steps, vpN1, next_ok hc1 h4, hk, sb, nJ_of, nJ_lt, nJ_le, nJ_eq, nJ_clamp, nJ_add, nJ_sub, if_pos, if_neg, if_true, if_false, nL_0, nL_1, nL_2, nL_3, nL_4, nL_5, nL_6, nL_7, nL_8, nL_9, nL_10, nL_11, nL_12, nL_13, nL_14, nL_15, nL_16, nL_17, nL_18, nL_19, nL_20, nL_21, nL_22, nL_23, nL_24, nL_25, nL_26, nL_27, nL_28, nL_29, nL_30, nL_31, nL_32, nL_33, nL_34, nL_35, nL_36, nL_37, nL_38, nL_39, nL_40, nL_41, nL_42, nL_43, nL_44, nL_45, nL_46, nL_47, nL_48, nL_49, nL_50, nL_51, nL_52, nL_53, nL_54, nL_55, nL_56, nL_57, nL_58, nL_59, nL_60, nL_61, nL_62, nL_63, nL_64, nL_65, nL_66, nL_67, nL_68, nL_69, nL_70, nL_400, nL_402, nL_800, nL_2000]
  obtain ⟨m, rfl⟩ : ∃ m, n = m + 2 := ⟨n - 2, by omega⟩
  have e1 : nI (c + (len + 1 + len')) = nI (c + len + 1 + len') := congrArg nI (by omega)
  have hx : f_X3_product_R48 (m + 2) (g_X3 (m + 2) d) (nI x) (K, sT, vT, nI cnt, nI c, er, et) (dd, tg, fs, es, sk, sv, ct, nI p) (nI x) kk (nI 0) (nI (c + len + 1)) (wK sk p l) (wV sv p l) (nI (p + l.length)) = some (.inl (nI 1, K (c + len + 1 + len'), nI 1, nI (c + len + 1 + len'), va_up (wK (wK sk p l) (p + l.length) l') (p + l.length + l'.length) kk, upd (wV (wV sv p l) (p + l.length) l') (p + l.length + l'.length) (nI 0), nI (p + l.length + l'.length + 1))) := by
    unfold f_X3_product_R48
    simp (disch := omega) only [X11_kinds, X11_starts, X11_values, X11_count, X11_cursor, X11_error, X11_errorToken, X6_deeds, X6_targets, X6_firstSteps, X6_endSteps, X6_stepKinds, X6_stepValues, X6_count, X6_steps, vpN1, h' sT vT er et dd tg fs es (wK sk p l) (wV sv p l) ct (p + l.length) (by omega), step_ok (show p + l.length + l'.length < 400 by omega) (show kk < 52 by omega), f_X3_product_R72, next_ok hc h4, sb, nJ_of, nJ_lt, nJ_le, nJ_eq, nJ_clamp, nJ_add, nJ_sub, if_pos, if_neg, if_true, if_false, nL_0, nL_1, nL_2, nL_3, nL_4, nL_5, nL_6, nL_7, nL_8, nL_9, nL_10, nL_11, nL_12, nL_13, nL_14, nL_15, nL_16, nL_17, nL_18, nL_19, nL_20, nL_21, nL_22, nL_23, nL_24, nL_25, nL_26, nL_27, nL_28, nL_29, nL_30, nL_31, nL_32, nL_33, nL_34, nL_35, nL_36, nL_37, nL_38, nL_39, nL_40, nL_41, nL_42, nL_43, nL_44, nL_45, nL_46, nL_47, nL_48, nL_49, nL_50, nL_51, nL_52, nL_53, nL_54, nL_55, nL_56, nL_57, nL_58, nL_59, nL_60, nL_61, nL_62, nL_63, nL_64, nL_65, nL_66, nL_67, nL_68, nL_69, nL_70, nL_400, nL_402, nL_800, nL_2000]
  refine (iter_inl (s' := (nI 1, K (c + len + 1 + len'), nI 1, nI (c + len + 1 + len'), va_up (wK (wK sk p l) (p + l.length) l') (p + l.length + l'.length) kk, upd (wV (wV sv p l) (p + l.length) l') (p + l.length + l'.length) (nI 0), nI (p + l.length + l'.length + 1))) ?_).trans (iter_inr ?_)
  · unfold f_X3_product_L16
    by_cases q : kk = 40
    · simp (disch := omega) only [X11_kinds, X11_starts, X11_values, X11_count, X11_cursor, X11_error, X11_errorToken, X6_deeds, X6_targets, X6_firstSteps, X6_endSteps, X6_stepKinds, X6_stepValues, X6_count, X6_steps, vpN1, take_yes hc1 h4 (show (40 : Nat) < 52 by decide) (show K (c + len) = 40 by omega), sb, nJ_of, nJ_lt, nJ_le, nJ_eq, nJ_clamp, nJ_add, nJ_sub, if_pos, if_neg, if_true, if_false, nL_0, nL_1, nL_2, nL_3, nL_4, nL_5, nL_6, nL_7, nL_8, nL_9, nL_10, nL_11, nL_12, nL_13, nL_14, nL_15, nL_16, nL_17, nL_18, nL_19, nL_20, nL_21, nL_22, nL_23, nL_24, nL_25, nL_26, nL_27, nL_28, nL_29, nL_30, nL_31, nL_32, nL_33, nL_34, nL_35, nL_36, nL_37, nL_38, nL_39, nL_40, nL_41, nL_42, nL_43, nL_44, nL_45, nL_46, nL_47, nL_48, nL_49, nL_50, nL_51, nL_52, nL_53, nL_54, nL_55, nL_56, nL_57, nL_58, nL_59, nL_60, nL_61, nL_62, nL_63, nL_64, nL_65, nL_66, nL_67, nL_68, nL_69, nL_70, nL_400, nL_402, nL_800, nL_2000]
      exact hx
    · simp (disch := omega) only [X11_kinds, X11_starts, X11_values, X11_count, X11_cursor, X11_error, X11_errorToken, X6_deeds, X6_targets, X6_firstSteps, X6_endSteps, X6_stepKinds, X6_stepValues, X6_count, X6_steps, vpN1, take_no hc1 h4 (show (40 : Nat) < 52 by decide) (show K (c + len) < 52 by omega) (show K (c + len) ≠ 40 by omega), take_yes hc1 h4 (show (41 : Nat) < 52 by decide) (show K (c + len) = 41 by omega), sb, nJ_of, nJ_lt, nJ_le, nJ_eq, nJ_clamp, nJ_add, nJ_sub, if_pos, if_neg, if_true, if_false, nL_0, nL_1, nL_2, nL_3, nL_4, nL_5, nL_6, nL_7, nL_8, nL_9, nL_10, nL_11, nL_12, nL_13, nL_14, nL_15, nL_16, nL_17, nL_18, nL_19, nL_20, nL_21, nL_22, nL_23, nL_24, nL_25, nL_26, nL_27, nL_28, nL_29, nL_30, nL_31, nL_32, nL_33, nL_34, nL_35, nL_36, nL_37, nL_38, nL_39, nL_40, nL_41, nL_42, nL_43, nL_44, nL_45, nL_46, nL_47, nL_48, nL_49, nL_50, nL_51, nL_52, nL_53, nL_54, nL_55, nL_56, nL_57, nL_58, nL_59, nL_60, nL_61, nL_62, nL_63, nL_64, nL_65, nL_66, nL_67, nL_68, nL_69, nL_70, nL_400, nL_402, nL_800, nL_2000]
      exact hx
  · rw [e1]
    unfold f_X3_product_L16
    simp (disch := omega) only [X11_kinds, X11_starts, X11_values, X11_count, X11_cursor, X11_error, X11_errorToken, X6_deeds, X6_targets, X6_firstSteps, X6_endSteps, X6_stepKinds, X6_stepValues, X6_count, X6_steps, vpN1, take_no hc h4 (show (40 : Nat) < 52 by decide) k1 k2, take_no hc h4 (show (41 : Nat) < 52 by decide) k1 k3, sb, nJ_of, nJ_lt, nJ_le, nJ_eq, nJ_clamp, nJ_add, nJ_sub, if_pos, if_neg, if_true, if_false, nL_0, nL_1, nL_2, nL_3, nL_4, nL_5, nL_6, nL_7, nL_8, nL_9, nL_10, nL_11, nL_12, nL_13, nL_14, nL_15, nL_16, nL_17, nL_18, nL_19, nL_20, nL_21, nL_22, nL_23, nL_24, nL_25, nL_26, nL_27, nL_28, nL_29, nL_30, nL_31, nL_32, nL_33, nL_34, nL_35, nL_36, nL_37, nL_38, nL_39, nL_40, nL_41, nL_42, nL_43, nL_44, nL_45, nL_46, nL_47, nL_48, nL_49, nL_50, nL_51, nL_52, nL_53, nL_54, nL_55, nL_56, nL_57, nL_58, nL_59, nL_60, nL_61, nL_62, nL_63, nL_64, nL_65, nL_66, nL_67, nL_68, nL_69, nL_70, nL_400, nL_402, nL_800, nL_2000]
theorem lift4 (hn : 0 < n) (h : Rds n d 5 x K cnt c len l) (hc : c + len < cnt) (h4 : cnt ≤ 401) (k1 : K (c + len) < 52) (k2 : K (c + len) ≠ 38) (k3 : K (c + len) ≠ 39) : Rds n (d + 1) 4 x K cnt c len l := by
  intro sT vT er et dd tg fs es sk sv ct p hp
  show f_X3_sum n (g_X3 n d) (nI x) _ _ = _
  unfold f_X3_sum
  rw [h sT vT er et dd tg fs es sk sv ct p hp, Option.bind_some]
  simp (disch := omega) only [X11_kinds, X11_starts, X11_values, X11_count, X11_cursor, X11_error, X11_errorToken, X6_deeds, X6_targets, X6_firstSteps, X6_endSteps, X6_stepKinds, X6_stepValues, X6_count, X6_steps, vpN1, next_ok hc h4, sb, nJ_of, nJ_lt, nJ_le, nJ_eq, nJ_clamp, nJ_add, nJ_sub, if_pos, if_neg, if_true, if_false, nL_0, nL_1, nL_2, nL_3, nL_4, nL_5, nL_6, nL_7, nL_8, nL_9, nL_10, nL_11, nL_12, nL_13, nL_14, nL_15, nL_16, nL_17, nL_18, nL_19, nL_20, nL_21, nL_22, nL_23, nL_24, nL_25, nL_26, nL_27, nL_28, nL_29, nL_30, nL_31, nL_32, nL_33, nL_34, nL_35, nL_36, nL_37, nL_38, nL_39, nL_40, nL_41, nL_42, nL_43, nL_44, nL_45, nL_46, nL_47, nL_48, nL_49, nL_50, nL_51, nL_52, nL_53, nL_54, nL_55, nL_56, nL_57, nL_58, nL_59, nL_60, nL_61, nL_62, nL_63, nL_64, nL_65, nL_66, nL_67, nL_68, nL_69, nL_70, nL_400, nL_402, nL_800, nL_2000]
  obtain ⟨m, rfl⟩ : ∃ m, n = m + 1 := ⟨n - 1, by omega⟩
  refine iter_inr ?_
  unfold f_X3_sum_L16
  simp (disch := omega) only [X11_kinds, X11_starts, X11_values, X11_count, X11_cursor, X11_error, X11_errorToken, X6_deeds, X6_targets, X6_firstSteps, X6_endSteps, X6_stepKinds, X6_stepValues, X6_count, X6_steps, vpN1, take_no hc h4 (show (38 : Nat) < 52 by decide) k1 k2, take_no hc h4 (show (39 : Nat) < 52 by decide) k1 k3, sb, nJ_of, nJ_lt, nJ_le, nJ_eq, nJ_clamp, nJ_add, nJ_sub, if_pos, if_neg, if_true, if_false, nL_0, nL_1, nL_2, nL_3, nL_4, nL_5, nL_6, nL_7, nL_8, nL_9, nL_10, nL_11, nL_12, nL_13, nL_14, nL_15, nL_16, nL_17, nL_18, nL_19, nL_20, nL_21, nL_22, nL_23, nL_24, nL_25, nL_26, nL_27, nL_28, nL_29, nL_30, nL_31, nL_32, nL_33, nL_34, nL_35, nL_36, nL_37, nL_38, nL_39, nL_40, nL_41, nL_42, nL_43, nL_44, nL_45, nL_46, nL_47, nL_48, nL_49, nL_50, nL_51, nL_52, nL_53, nL_54, nL_55, nL_56, nL_57, nL_58, nL_59, nL_60, nL_61, nL_62, nL_63, nL_64, nL_65, nL_66, nL_67, nL_68, nL_69, nL_70, nL_400, nL_402, nL_800, nL_2000]
theorem comb4 (hn : 1 < n) (h : Rds n d 5 x K cnt c len l) (hk : K (c + len) = kk) (hkk : kk = 38 ∨ kk = 39) (h' : Rds n d 5 x K cnt (c + len + 1) len' l') (hc : c + len + 1 + len' < cnt) (h4 : cnt ≤ 401) (k1 : K (c + len + 1 + len') < 52) (k2 : K (c + len + 1 + len') ≠ 38) (k3 : K (c + len + 1 + len') ≠ 39) : Rds n (d + 1) 4 x K cnt c (len + 1 + len') (l ++ (l' ++ [(kk, 0)])) := by
  intro sT vT er et dd tg fs es sk sv ct p hp
  rw [ln_2] at hp
  rw [wK_2, wV_2, ln_2]
  show f_X3_sum n (g_X3 n d) (nI x) _ _ = _
  unfold f_X3_sum
  rw [h sT vT er et dd tg fs es sk sv ct p (by omega), Option.bind_some]
  have hc1 : c + len < cnt := by omega
  simp (disch := omega) only [X11_kinds, X11_starts, X11_values, X11_count, X11_cursor, X11_error, X11_errorToken, X6_deeds, X6_targets, X6_firstSteps, X6_endSteps, X6_stepKinds, X6_stepValues, X6_count, X6_steps, vpN1, next_ok hc1 h4, hk, sb, nJ_of, nJ_lt, nJ_le, nJ_eq, nJ_clamp, nJ_add, nJ_sub, if_pos, if_neg, if_true, if_false, nL_0, nL_1, nL_2, nL_3, nL_4, nL_5, nL_6, nL_7, nL_8, nL_9, nL_10, nL_11, nL_12, nL_13, nL_14, nL_15, nL_16, nL_17, nL_18, nL_19, nL_20, nL_21, nL_22, nL_23, nL_24, nL_25, nL_26, nL_27, nL_28, nL_29, nL_30, nL_31, nL_32, nL_33, nL_34, nL_35, nL_36, nL_37, nL_38, nL_39, nL_40, nL_41, nL_42, nL_43, nL_44, nL_45, nL_46, nL_47, nL_48, nL_49, nL_50, nL_51, nL_52, nL_53, nL_54, nL_55, nL_56, nL_57, nL_58, nL_59, nL_60, nL_61, nL_62, nL_63, nL_64, nL_65, nL_66, nL_67, nL_68, nL_69, nL_70, nL_400, nL_402, nL_800, nL_2000]
  obtain ⟨m, rfl⟩ : ∃ m, n = m + 2 := ⟨n - 2, by omega⟩
  have e1 : nI (c + (len + 1 + len')) = nI (c + len + 1 + len') := congrArg nI (by omega)
  have hx : f_X3_sum_R48 (m + 2) (g_X3 (m + 2) d) (nI x) (K, sT, vT, nI cnt, nI c, er, et) (dd, tg, fs, es, sk, sv, ct, nI p) (nI x) kk (nI 0) (nI (c + len + 1)) (wK sk p l) (wV sv p l) (nI (p + l.length)) = some (.inl (nI 1, K (c + len + 1 + len'), nI 1, nI (c + len + 1 + len'), va_up (wK (wK sk p l) (p + l.length) l') (p + l.length + l'.length) kk, upd (wV (wV sv p l) (p + l.length) l') (p + l.length + l'.length) (nI 0), nI (p + l.length + l'.length + 1))) := by
    unfold f_X3_sum_R48
    simp (disch := omega) only [X11_kinds, X11_starts, X11_values, X11_count, X11_cursor, X11_error, X11_errorToken, X6_deeds, X6_targets, X6_firstSteps, X6_endSteps, X6_stepKinds, X6_stepValues, X6_count, X6_steps, vpN1, h' sT vT er et dd tg fs es (wK sk p l) (wV sv p l) ct (p + l.length) (by omega), step_ok (show p + l.length + l'.length < 400 by omega) (show kk < 52 by omega), f_X3_sum_R72, next_ok hc h4, sb, nJ_of, nJ_lt, nJ_le, nJ_eq, nJ_clamp, nJ_add, nJ_sub, if_pos, if_neg, if_true, if_false, nL_0, nL_1, nL_2, nL_3, nL_4, nL_5, nL_6, nL_7, nL_8, nL_9, nL_10, nL_11, nL_12, nL_13, nL_14, nL_15, nL_16, nL_17, nL_18, nL_19, nL_20, nL_21, nL_22, nL_23, nL_24, nL_25, nL_26, nL_27, nL_28, nL_29, nL_30, nL_31, nL_32, nL_33, nL_34, nL_35, nL_36, nL_37, nL_38, nL_39, nL_40, nL_41, nL_42, nL_43, nL_44, nL_45, nL_46, nL_47, nL_48, nL_49, nL_50, nL_51, nL_52, nL_53, nL_54, nL_55, nL_56, nL_57, nL_58, nL_59, nL_60, nL_61, nL_62, nL_63, nL_64, nL_65, nL_66, nL_67, nL_68, nL_69, nL_70, nL_400, nL_402, nL_800, nL_2000]
  refine (iter_inl (s' := (nI 1, K (c + len + 1 + len'), nI 1, nI (c + len + 1 + len'), va_up (wK (wK sk p l) (p + l.length) l') (p + l.length + l'.length) kk, upd (wV (wV sv p l) (p + l.length) l') (p + l.length + l'.length) (nI 0), nI (p + l.length + l'.length + 1))) ?_).trans (iter_inr ?_)
  · unfold f_X3_sum_L16
    by_cases q : kk = 38
    · simp (disch := omega) only [X11_kinds, X11_starts, X11_values, X11_count, X11_cursor, X11_error, X11_errorToken, X6_deeds, X6_targets, X6_firstSteps, X6_endSteps, X6_stepKinds, X6_stepValues, X6_count, X6_steps, vpN1, take_yes hc1 h4 (show (38 : Nat) < 52 by decide) (show K (c + len) = 38 by omega), sb, nJ_of, nJ_lt, nJ_le, nJ_eq, nJ_clamp, nJ_add, nJ_sub, if_pos, if_neg, if_true, if_false, nL_0, nL_1, nL_2, nL_3, nL_4, nL_5, nL_6, nL_7, nL_8, nL_9, nL_10, nL_11, nL_12, nL_13, nL_14, nL_15, nL_16, nL_17, nL_18, nL_19, nL_20, nL_21, nL_22, nL_23, nL_24, nL_25, nL_26, nL_27, nL_28, nL_29, nL_30, nL_31, nL_32, nL_33, nL_34, nL_35, nL_36, nL_37, nL_38, nL_39, nL_40, nL_41, nL_42, nL_43, nL_44, nL_45, nL_46, nL_47, nL_48, nL_49, nL_50, nL_51, nL_52, nL_53, nL_54, nL_55, nL_56, nL_57, nL_58, nL_59, nL_60, nL_61, nL_62, nL_63, nL_64, nL_65, nL_66, nL_67, nL_68, nL_69, nL_70, nL_400, nL_402, nL_800, nL_2000]
      exact hx
    · simp (disch := omega) only [X11_kinds, X11_starts, X11_values, X11_count, X11_cursor, X11_error, X11_errorToken, X6_deeds, X6_targets, X6_firstSteps, X6_endSteps, X6_stepKinds, X6_stepValues, X6_count, X6_steps, vpN1, take_no hc1 h4 (show (38 : Nat) < 52 by decide) (show K (c + len) < 52 by omega) (show K (c + len) ≠ 38 by omega), take_yes hc1 h4 (show (39 : Nat) < 52 by decide) (show K (c + len) = 39 by omega), sb, nJ_of, nJ_lt, nJ_le, nJ_eq, nJ_clamp, nJ_add, nJ_sub, if_pos, if_neg, if_true, if_false, nL_0, nL_1, nL_2, nL_3, nL_4, nL_5, nL_6, nL_7, nL_8, nL_9, nL_10, nL_11, nL_12, nL_13, nL_14, nL_15, nL_16, nL_17, nL_18, nL_19, nL_20, nL_21, nL_22, nL_23, nL_24, nL_25, nL_26, nL_27, nL_28, nL_29, nL_30, nL_31, nL_32, nL_33, nL_34, nL_35, nL_36, nL_37, nL_38, nL_39, nL_40, nL_41, nL_42, nL_43, nL_44, nL_45, nL_46, nL_47, nL_48, nL_49, nL_50, nL_51, nL_52, nL_53, nL_54, nL_55, nL_56, nL_57, nL_58, nL_59, nL_60, nL_61, nL_62, nL_63, nL_64, nL_65, nL_66, nL_67, nL_68, nL_69, nL_70, nL_400, nL_402, nL_800, nL_2000]
      exact hx
  · rw [e1]
    unfold f_X3_sum_L16
    simp (disch := omega) only [X11_kinds, X11_starts, X11_values, X11_count, X11_cursor, X11_error, X11_errorToken, X6_deeds, X6_targets, X6_firstSteps, X6_endSteps, X6_stepKinds, X6_stepValues, X6_count, X6_steps, vpN1, take_no hc h4 (show (38 : Nat) < 52 by decide) k1 k2, take_no hc h4 (show (39 : Nat) < 52 by decide) k1 k3, sb, nJ_of, nJ_lt, nJ_le, nJ_eq, nJ_clamp, nJ_add, nJ_sub, if_pos, if_neg, if_true, if_false, nL_0, nL_1, nL_2, nL_3, nL_4, nL_5, nL_6, nL_7, nL_8, nL_9, nL_10, nL_11, nL_12, nL_13, nL_14, nL_15, nL_16, nL_17, nL_18, nL_19, nL_20, nL_21, nL_22, nL_23, nL_24, nL_25, nL_26, nL_27, nL_28, nL_29, nL_30, nL_31, nL_32, nL_33, nL_34, nL_35, nL_36, nL_37, nL_38, nL_39, nL_40, nL_41, nL_42, nL_43, nL_44, nL_45, nL_46, nL_47, nL_48, nL_49, nL_50, nL_51, nL_52, nL_53, nL_54, nL_55, nL_56, nL_57, nL_58, nL_59, nL_60, nL_61, nL_62, nL_63, nL_64, nL_65, nL_66, nL_67, nL_68, nL_69, nL_70, nL_400, nL_402, nL_800, nL_2000]
theorem lift1 (hn : 0 < n) (h : Rds n d 2 x K cnt c len l) (hc : c + len < cnt) (h4 : cnt ≤ 401) (k1 : K (c + len) < 52) (k2 : K (c + len) ≠ 28) : Rds n (d + 1) 1 x K cnt c len l := by
  intro sT vT er et dd tg fs es sk sv ct p hp
  show f_X3_both n (g_X3 n d) (nI x) _ _ = _
  unfold f_X3_both
  rw [h sT vT er et dd tg fs es sk sv ct p hp, Option.bind_some]
  obtain ⟨m, rfl⟩ : ∃ m, n = m + 1 := ⟨n - 1, by omega⟩
  refine iter_inr ?_
  unfold f_X3_both_L10
  simp (disch := omega) only [X11_kinds, X11_starts, X11_values, X11_count, X11_cursor, X11_error, X11_errorToken, X6_deeds, X6_targets, X6_firstSteps, X6_endSteps, X6_stepKinds, X6_stepValues, X6_count, X6_steps, vpN1, take_no hc h4 (show (28 : Nat) < 52 by decide) k1 k2, sb, nJ_of, nJ_lt, nJ_le, nJ_eq, nJ_clamp, nJ_add, nJ_sub, if_pos, if_neg, if_true, if_false, nL_0, nL_1, nL_2, nL_3, nL_4, nL_5, nL_6, nL_7, nL_8, nL_9, nL_10, nL_11, nL_12, nL_13, nL_14, nL_15, nL_16, nL_17, nL_18, nL_19, nL_20, nL_21, nL_22, nL_23, nL_24, nL_25, nL_26, nL_27, nL_28, nL_29, nL_30, nL_31, nL_32, nL_33, nL_34, nL_35, nL_36, nL_37, nL_38, nL_39, nL_40, nL_41, nL_42, nL_43, nL_44, nL_45, nL_46, nL_47, nL_48, nL_49, nL_50, nL_51, nL_52, nL_53, nL_54, nL_55, nL_56, nL_57, nL_58, nL_59, nL_60, nL_61, nL_62, nL_63, nL_64, nL_65, nL_66, nL_67, nL_68, nL_69, nL_70, nL_400, nL_402, nL_800, nL_2000]
theorem comb1 (hn : 1 < n) (h : Rds n d 2 x K cnt c len l) (hk : K (c + len) = 28) (h' : Rds n d 2 x K cnt (c + len + 1) len' l') (hc : c + len + 1 + len' < cnt) (h4 : cnt ≤ 401) (k1 : K (c + len + 1 + len') < 52) (k2 : K (c + len + 1 + len') ≠ 28) : Rds n (d + 1) 1 x K cnt c (len + 1 + len') (l ++ (l' ++ [(28, 0)])) := by
  intro sT vT er et dd tg fs es sk sv ct p hp
  rw [ln_2] at hp
  rw [wK_2, wV_2, ln_2]
  show f_X3_both n (g_X3 n d) (nI x) _ _ = _
  unfold f_X3_both
  rw [h sT vT er et dd tg fs es sk sv ct p (by omega), Option.bind_some]
  have hc1 : c + len < cnt := by omega
  obtain ⟨m, rfl⟩ : ∃ m, n = m + 2 := ⟨n - 2, by omega⟩
  have e1 : nI (c + (len + 1 + len')) = nI (c + len + 1 + len') := congrArg nI (by omega)
  refine (iter_inl (s' := (nI 1, nI 1, nI (c + len + 1 + len'), va_up (wK (wK sk p l) (p + l.length) l') (p + l.length + l'.length) 28, upd (wV (wV sv p l) (p + l.length) l') (p + l.length + l'.length) (nI 0), nI (p + l.length + l'.length + 1))) ?_).trans (iter_inr ?_)
  · unfold f_X3_both_L10
    simp (disch := omega) only [X11_kinds, X11_starts, X11_values, X11_count, X11_cursor, X11_error, X11_errorToken, X6_deeds, X6_targets, X6_firstSteps, X6_endSteps, X6_stepKinds, X6_stepValues, X6_count, X6_steps, vpN1, take_yes hc1 h4 (show (28 : Nat) < 52 by decide) hk, h' sT vT er et dd tg fs es (wK sk p l) (wV sv p l) ct (p + l.length) (by omega), step_ok (show p + l.length + l'.length < 400 by omega) (show (28 : Nat) < 52 by decide), sb, nJ_of, nJ_lt, nJ_le, nJ_eq, nJ_clamp, nJ_add, nJ_sub, if_pos, if_neg, if_true, if_false, nL_0, nL_1, nL_2, nL_3, nL_4, nL_5, nL_6, nL_7, nL_8, nL_9, nL_10, nL_11, nL_12, nL_13, nL_14, nL_15, nL_16, nL_17, nL_18, nL_19, nL_20, nL_21, nL_22, nL_23, nL_24, nL_25, nL_26, nL_27, nL_28, nL_29, nL_30, nL_31, nL_32, nL_33, nL_34, nL_35, nL_36, nL_37, nL_38, nL_39, nL_40, nL_41, nL_42, nL_43, nL_44, nL_45, nL_46, nL_47, nL_48, nL_49, nL_50, nL_51, nL_52, nL_53, nL_54, nL_55, nL_56, nL_57, nL_58, nL_59, nL_60, nL_61, nL_62, nL_63, nL_64, nL_65, nL_66, nL_67, nL_68, nL_69, nL_70, nL_400, nL_402, nL_800, nL_2000]
  · rw [e1]
    unfold f_X3_both_L10
    simp (disch := omega) only [X11_kinds, X11_starts, X11_values, X11_count, X11_cursor, X11_error, X11_errorToken, X6_deeds, X6_targets, X6_firstSteps, X6_endSteps, X6_stepKinds, X6_stepValues, X6_count, X6_steps, vpN1, take_no hc h4 (show (28 : Nat) < 52 by decide) k1 k2, sb, nJ_of, nJ_lt, nJ_le, nJ_eq, nJ_clamp, nJ_add, nJ_sub, if_pos, if_neg, if_true, if_false, nL_0, nL_1, nL_2, nL_3, nL_4, nL_5, nL_6, nL_7, nL_8, nL_9, nL_10, nL_11, nL_12, nL_13, nL_14, nL_15, nL_16, nL_17, nL_18, nL_19, nL_20, nL_21, nL_22, nL_23, nL_24, nL_25, nL_26, nL_27, nL_28, nL_29, nL_30, nL_31, nL_32, nL_33, nL_34, nL_35, nL_36, nL_37, nL_38, nL_39, nL_40, nL_41, nL_42, nL_43, nL_44, nL_45, nL_46, nL_47, nL_48, nL_49, nL_50, nL_51, nL_52, nL_53, nL_54, nL_55, nL_56, nL_57, nL_58, nL_59, nL_60, nL_61, nL_62, nL_63, nL_64, nL_65, nL_66, nL_67, nL_68, nL_69, nL_70, nL_400, nL_402, nL_800, nL_2000]
theorem lift0 (hn : 0 < n) (h : Rds n d 1 x K cnt c len l) (hc : c + len < cnt) (h4 : cnt ≤ 401) (k1 : K (c + len) < 52) (k2 : K (c + len) ≠ 29) : Rds n (d + 1) 0 x K cnt c len l := by
  intro sT vT er et dd tg fs es sk sv ct p hp
  show f_X3_test n (g_X3 n d) (nI x) _ _ = _
  unfold f_X3_test
  rw [h sT vT er et dd tg fs es sk sv ct p hp, Option.bind_some]
  obtain ⟨m, rfl⟩ : ∃ m, n = m + 1 := ⟨n - 1, by omega⟩
  refine iter_inr ?_
  unfold f_X3_test_L10
  simp (disch := omega) only [X11_kinds, X11_starts, X11_values, X11_count, X11_cursor, X11_error, X11_errorToken, X6_deeds, X6_targets, X6_firstSteps, X6_endSteps, X6_stepKinds, X6_stepValues, X6_count, X6_steps, vpN1, take_no hc h4 (show (29 : Nat) < 52 by decide) k1 k2, sb, nJ_of, nJ_lt, nJ_le, nJ_eq, nJ_clamp, nJ_add, nJ_sub, if_pos, if_neg, if_true, if_false, nL_0, nL_1, nL_2, nL_3, nL_4, nL_5, nL_6, nL_7, nL_8, nL_9, nL_10, nL_11, nL_12, nL_13, nL_14, nL_15, nL_16, nL_17, nL_18, nL_19, nL_20, nL_21, nL_22, nL_23, nL_24, nL_25, nL_26, nL_27, nL_28, nL_29, nL_30, nL_31, nL_32, nL_33, nL_34, nL_35, nL_36, nL_37, nL_38, nL_39, nL_40, nL_41, nL_42, nL_43, nL_44, nL_45, nL_46, nL_47, nL_48, nL_49, nL_50, nL_51, nL_52, nL_53, nL_54, nL_55, nL_56, nL_57, nL_58, nL_59, nL_60, nL_61, nL_62, nL_63, nL_64, nL_65, nL_66, nL_67, nL_68, nL_69, nL_70, nL_400, nL_402, nL_800, nL_2000]
theorem comb0 (hn : 1 < n) (h : Rds n d 1 x K cnt c len l) (hk : K (c + len) = 29) (h' : Rds n d 1 x K cnt (c + len + 1) len' l') (hc : c + len + 1 + len' < cnt) (h4 : cnt ≤ 401) (k1 : K (c + len + 1 + len') < 52) (k2 : K (c + len + 1 + len') ≠ 29) : Rds n (d + 1) 0 x K cnt c (len + 1 + len') (l ++ (l' ++ [(29, 0)])) := by
  intro sT vT er et dd tg fs es sk sv ct p hp
  rw [ln_2] at hp
  rw [wK_2, wV_2, ln_2]
  show f_X3_test n (g_X3 n d) (nI x) _ _ = _
  unfold f_X3_test
  rw [h sT vT er et dd tg fs es sk sv ct p (by omega), Option.bind_some]
  have hc1 : c + len < cnt := by omega
  obtain ⟨m, rfl⟩ : ∃ m, n = m + 2 := ⟨n - 2, by omega⟩
  have e1 : nI (c + (len + 1 + len')) = nI (c + len + 1 + len') := congrArg nI (by omega)
  refine (iter_inl (s' := (nI 1, nI 1, nI (c + len + 1 + len'), va_up (wK (wK sk p l) (p + l.length) l') (p + l.length + l'.length) 29, upd (wV (wV sv p l) (p + l.length) l') (p + l.length + l'.length) (nI 0), nI (p + l.length + l'.length + 1))) ?_).trans (iter_inr ?_)
  · unfold f_X3_test_L10
    simp (disch := omega) only [X11_kinds, X11_starts, X11_values, X11_count, X11_cursor, X11_error, X11_errorToken, X6_deeds, X6_targets, X6_firstSteps, X6_endSteps, X6_stepKinds, X6_stepValues, X6_count, X6_steps, vpN1, take_yes hc1 h4 (show (29 : Nat) < 52 by decide) hk, h' sT vT er et dd tg fs es (wK sk p l) (wV sv p l) ct (p + l.length) (by omega), step_ok (show p + l.length + l'.length < 400 by omega) (show (29 : Nat) < 52 by decide), sb, nJ_of, nJ_lt, nJ_le, nJ_eq, nJ_clamp, nJ_add, nJ_sub, if_pos, if_neg, if_true, if_false, nL_0, nL_1, nL_2, nL_3, nL_4, nL_5, nL_6, nL_7, nL_8, nL_9, nL_10, nL_11, nL_12, nL_13, nL_14, nL_15, nL_16, nL_17, nL_18, nL_19, nL_20, nL_21, nL_22, nL_23, nL_24, nL_25, nL_26, nL_27, nL_28, nL_29, nL_30, nL_31, nL_32, nL_33, nL_34, nL_35, nL_36, nL_37, nL_38, nL_39, nL_40, nL_41, nL_42, nL_43, nL_44, nL_45, nL_46, nL_47, nL_48, nL_49, nL_50, nL_51, nL_52, nL_53, nL_54, nL_55, nL_56, nL_57, nL_58, nL_59, nL_60, nL_61, nL_62, nL_63, nL_64, nL_65, nL_66, nL_67, nL_68, nL_69, nL_70, nL_400, nL_402, nL_800, nL_2000]
  · rw [e1]
    unfold f_X3_test_L10
    simp (disch := omega) only [X11_kinds, X11_starts, X11_values, X11_count, X11_cursor, X11_error, X11_errorToken, X6_deeds, X6_targets, X6_firstSteps, X6_endSteps, X6_stepKinds, X6_stepValues, X6_count, X6_steps, vpN1, take_no hc h4 (show (29 : Nat) < 52 by decide) k1 k2, sb, nJ_of, nJ_lt, nJ_le, nJ_eq, nJ_clamp, nJ_add, nJ_sub, if_pos, if_neg, if_true, if_false, nL_0, nL_1, nL_2, nL_3, nL_4, nL_5, nL_6, nL_7, nL_8, nL_9, nL_10, nL_11, nL_12, nL_13, nL_14, nL_15, nL_16, nL_17, nL_18, nL_19, nL_20, nL_21, nL_22, nL_23, nL_24, nL_25, nL_26, nL_27, nL_28, nL_29, nL_30, nL_31, nL_32, nL_33, nL_34, nL_35, nL_36, nL_37, nL_38, nL_39, nL_40, nL_41, nL_42, nL_43, nL_44, nL_45, nL_46, nL_47, nL_48, nL_49, nL_50, nL_51, nL_52, nL_53, nL_54, nL_55, nL_56, nL_57, nL_58, nL_59, nL_60, nL_61, nL_62, nL_63, nL_64, nL_65, nL_66, nL_67, nL_68, nL_69, nL_70, nL_400, nL_402, nL_800, nL_2000]
theorem comp3_42 (h : Rds n d 4 x K cnt c len l) (hk : K (c + len) = 42) (h' : Rds n d 4 x K cnt (c + len + 1) len' l') (hc1 : c + len < cnt) (h4 : cnt ≤ 401) : Rds n (d + 1) 3 x K cnt c (len + 1 + len') (l ++ (l' ++ [(42, 0)])) := by
  intro sT vT er et dd tg fs es sk sv ct p hp
  rw [ln_2] at hp
  rw [wK_2, wV_2, ln_2]
  show f_X3_comparison n (g_X3 n d) (nI x) _ _ = _
  have e1 : nI (c + (len + 1 + len')) = nI (c + len + 1 + len') := congrArg nI (by omega)
  rw [e1]
  unfold f_X3_comparison
  rw [h sT vT er et dd tg fs es sk sv ct p (by omega), Option.bind_some]
  simp (disch := omega) only [X11_kinds, X11_starts, X11_values, X11_count, X11_cursor, X11_error, X11_errorToken, X6_deeds, X6_targets, X6_firstSteps, X6_endSteps, X6_stepKinds, X6_stepValues, X6_count, X6_steps, vpN1, next_ok hc1 h4, take_yes hc1 h4 (show (42 : Nat) < 52 by decide) hk, hk, f_X3_comparison_R66, f_X3_comparison_R71, h' sT vT er et dd tg fs es (wK sk p l) (wV sv p l) ct (p + l.length) (by omega), step_ok (show p + l.length + l'.length < 400 by omega) (show (42 : Nat) < 52 by decide), sb, nJ_of, nJ_lt, nJ_le, nJ_eq, nJ_clamp, nJ_add, nJ_sub, if_pos, if_neg, if_true, if_false, nL_0, nL_1, nL_2, nL_3, nL_4, nL_5, nL_6, nL_7, nL_8, nL_9, nL_10, nL_11, nL_12, nL_13, nL_14, nL_15, nL_16, nL_17, nL_18, nL_19, nL_20, nL_21, nL_22, nL_23, nL_24, nL_25, nL_26, nL_27, nL_28, nL_29, nL_30, nL_31, nL_32, nL_33, nL_34, nL_35, nL_36, nL_37, nL_38, nL_39, nL_40, nL_41, nL_42, nL_43, nL_44, nL_45, nL_46, nL_47, nL_48, nL_49, nL_50, nL_51, nL_52, nL_53, nL_54, nL_55, nL_56, nL_57, nL_58, nL_59, nL_60, nL_61, nL_62, nL_63, nL_64, nL_65, nL_66, nL_67, nL_68, nL_69, nL_70, nL_400, nL_402, nL_800, nL_2000]
theorem comp3_43 (h : Rds n d 4 x K cnt c len l) (hk : K (c + len) = 43) (h' : Rds n d 4 x K cnt (c + len + 1) len' l') (hc1 : c + len < cnt) (h4 : cnt ≤ 401) : Rds n (d + 1) 3 x K cnt c (len + 1 + len') (l ++ (l' ++ [(43, 0)])) := by
  intro sT vT er et dd tg fs es sk sv ct p hp
  rw [ln_2] at hp
  rw [wK_2, wV_2, ln_2]
  show f_X3_comparison n (g_X3 n d) (nI x) _ _ = _
  have e1 : nI (c + (len + 1 + len')) = nI (c + len + 1 + len') := congrArg nI (by omega)
  rw [e1]
  unfold f_X3_comparison
  rw [h sT vT er et dd tg fs es sk sv ct p (by omega), Option.bind_some]
  simp (disch := omega) only [X11_kinds, X11_starts, X11_values, X11_count, X11_cursor, X11_error, X11_errorToken, X6_deeds, X6_targets, X6_firstSteps, X6_endSteps, X6_stepKinds, X6_stepValues, X6_count, X6_steps, vpN1, next_ok hc1 h4, take_no hc1 h4 (show (42 : Nat) < 52 by decide) (show K (c + len) < 52 by omega) (show K (c + len) ≠ 42 by omega), take_yes hc1 h4 (show (43 : Nat) < 52 by decide) hk, hk, f_X3_comparison_R66, f_X3_comparison_R71, h' sT vT er et dd tg fs es (wK sk p l) (wV sv p l) ct (p + l.length) (by omega), step_ok (show p + l.length + l'.length < 400 by omega) (show (43 : Nat) < 52 by decide), sb, nJ_of, nJ_lt, nJ_le, nJ_eq, nJ_clamp, nJ_add, nJ_sub, if_pos, if_neg, if_true, if_false, nL_0, nL_1, nL_2, nL_3, nL_4, nL_5, nL_6, nL_7, nL_8, nL_9, nL_10, nL_11, nL_12, nL_13, nL_14, nL_15, nL_16, nL_17, nL_18, nL_19, nL_20, nL_21, nL_22, nL_23, nL_24, nL_25, nL_26, nL_27, nL_28, nL_29, nL_30, nL_31, nL_32, nL_33, nL_34, nL_35, nL_36, nL_37, nL_38, nL_39, nL_40, nL_41, nL_42, nL_43, nL_44, nL_45, nL_46, nL_47, nL_48, nL_49, nL_50, nL_51, nL_52, nL_53, nL_54, nL_55, nL_56, nL_57, nL_58, nL_59, nL_60, nL_61, nL_62, nL_63, nL_64, nL_65, nL_66, nL_67, nL_68, nL_69, nL_70, nL_400, nL_402, nL_800, nL_2000]
theorem comp3_44 (h : Rds n d 4 x K cnt c len l) (hk : K (c + len) = 44) (h' : Rds n d 4 x K cnt (c + len + 1) len' l') (hc1 : c + len < cnt) (h4 : cnt ≤ 401) : Rds n (d + 1) 3 x K cnt c (len + 1 + len') (l ++ (l' ++ [(44, 0)])) := by
  intro sT vT er et dd tg fs es sk sv ct p hp
  rw [ln_2] at hp
  rw [wK_2, wV_2, ln_2]
  show f_X3_comparison n (g_X3 n d) (nI x) _ _ = _
  have e1 : nI (c + (len + 1 + len')) = nI (c + len + 1 + len') := congrArg nI (by omega)
  rw [e1]
  unfold f_X3_comparison
  rw [h sT vT er et dd tg fs es sk sv ct p (by omega), Option.bind_some]
  simp (disch := omega) only [X11_kinds, X11_starts, X11_values, X11_count, X11_cursor, X11_error, X11_errorToken, X6_deeds, X6_targets, X6_firstSteps, X6_endSteps, X6_stepKinds, X6_stepValues, X6_count, X6_steps, vpN1, next_ok hc1 h4, take_no hc1 h4 (show (42 : Nat) < 52 by decide) (show K (c + len) < 52 by omega) (show K (c + len) ≠ 42 by omega), take_no hc1 h4 (show (43 : Nat) < 52 by decide) (show K (c + len) < 52 by omega) (show K (c + len) ≠ 43 by omega), take_yes hc1 h4 (show (44 : Nat) < 52 by decide) hk, hk, f_X3_comparison_R66, f_X3_comparison_R71, h' sT vT er et dd tg fs es (wK sk p l) (wV sv p l) ct (p + l.length) (by omega), step_ok (show p + l.length + l'.length < 400 by omega) (show (44 : Nat) < 52 by decide), sb, nJ_of, nJ_lt, nJ_le, nJ_eq, nJ_clamp, nJ_add, nJ_sub, if_pos, if_neg, if_true, if_false, nL_0, nL_1, nL_2, nL_3, nL_4, nL_5, nL_6, nL_7, nL_8, nL_9, nL_10, nL_11, nL_12, nL_13, nL_14, nL_15, nL_16, nL_17, nL_18, nL_19, nL_20, nL_21, nL_22, nL_23, nL_24, nL_25, nL_26, nL_27, nL_28, nL_29, nL_30, nL_31, nL_32, nL_33, nL_34, nL_35, nL_36, nL_37, nL_38, nL_39, nL_40, nL_41, nL_42, nL_43, nL_44, nL_45, nL_46, nL_47, nL_48, nL_49, nL_50, nL_51, nL_52, nL_53, nL_54, nL_55, nL_56, nL_57, nL_58, nL_59, nL_60, nL_61, nL_62, nL_63, nL_64, nL_65, nL_66, nL_67, nL_68, nL_69, nL_70, nL_400, nL_402, nL_800, nL_2000]
theorem comp3_45 (h : Rds n d 4 x K cnt c len l) (hk : K (c + len) = 45) (h' : Rds n d 4 x K cnt (c + len + 1) len' l') (hc1 : c + len < cnt) (h4 : cnt ≤ 401) : Rds n (d + 1) 3 x K cnt c (len + 1 + len') (l ++ (l' ++ [(45, 0)])) := by
  intro sT vT er et dd tg fs es sk sv ct p hp
  rw [ln_2] at hp
  rw [wK_2, wV_2, ln_2]
  show f_X3_comparison n (g_X3 n d) (nI x) _ _ = _
  have e1 : nI (c + (len + 1 + len')) = nI (c + len + 1 + len') := congrArg nI (by omega)
  rw [e1]
  unfold f_X3_comparison
  rw [h sT vT er et dd tg fs es sk sv ct p (by omega), Option.bind_some]
  simp (disch := omega) only [X11_kinds, X11_starts, X11_values, X11_count, X11_cursor, X11_error, X11_errorToken, X6_deeds, X6_targets, X6_firstSteps, X6_endSteps, X6_stepKinds, X6_stepValues, X6_count, X6_steps, vpN1, next_ok hc1 h4, take_no hc1 h4 (show (42 : Nat) < 52 by decide) (show K (c + len) < 52 by omega) (show K (c + len) ≠ 42 by omega), take_no hc1 h4 (show (43 : Nat) < 52 by decide) (show K (c + len) < 52 by omega) (show K (c + len) ≠ 43 by omega), take_no hc1 h4 (show (44 : Nat) < 52 by decide) (show K (c + len) < 52 by omega) (show K (c + len) ≠ 44 by omega), take_yes hc1 h4 (show (45 : Nat) < 52 by decide) hk, hk, f_X3_comparison_R66, f_X3_comparison_R71, h' sT vT er et dd tg fs es (wK sk p l) (wV sv p l) ct (p + l.length) (by omega), step_ok (show p + l.length + l'.length < 400 by omega) (show (45 : Nat) < 52 by decide), sb, nJ_of, nJ_lt, nJ_le, nJ_eq, nJ_clamp, nJ_add, nJ_sub, if_pos, if_neg, if_true, if_false, nL_0, nL_1, nL_2, nL_3, nL_4, nL_5, nL_6, nL_7, nL_8, nL_9, nL_10, nL_11, nL_12, nL_13, nL_14, nL_15, nL_16, nL_17, nL_18, nL_19, nL_20, nL_21, nL_22, nL_23, nL_24, nL_25, nL_26, nL_27, nL_28, nL_29, nL_30, nL_31, nL_32, nL_33, nL_34, nL_35, nL_36, nL_37, nL_38, nL_39, nL_40, nL_41, nL_42, nL_43, nL_44, nL_45, nL_46, nL_47, nL_48, nL_49, nL_50, nL_51, nL_52, nL_53, nL_54, nL_55, nL_56, nL_57, nL_58, nL_59, nL_60, nL_61, nL_62, nL_63, nL_64, nL_65, nL_66, nL_67, nL_68, nL_69, nL_70, nL_400, nL_402, nL_800, nL_2000]
theorem comp3_46 (h : Rds n d 4 x K cnt c len l) (hk : K (c + len) = 46) (h' : Rds n d 4 x K cnt (c + len + 1) len' l') (hc1 : c + len < cnt) (h4 : cnt ≤ 401) : Rds n (d + 1) 3 x K cnt c (len + 1 + len') (l ++ (l' ++ [(46, 0)])) := by
  intro sT vT er et dd tg fs es sk sv ct p hp
  rw [ln_2] at hp
  rw [wK_2, wV_2, ln_2]
  show f_X3_comparison n (g_X3 n d) (nI x) _ _ = _
  have e1 : nI (c + (len + 1 + len')) = nI (c + len + 1 + len') := congrArg nI (by omega)
  rw [e1]
  unfold f_X3_comparison
  rw [h sT vT er et dd tg fs es sk sv ct p (by omega), Option.bind_some]
  simp (disch := omega) only [X11_kinds, X11_starts, X11_values, X11_count, X11_cursor, X11_error, X11_errorToken, X6_deeds, X6_targets, X6_firstSteps, X6_endSteps, X6_stepKinds, X6_stepValues, X6_count, X6_steps, vpN1, next_ok hc1 h4, take_no hc1 h4 (show (42 : Nat) < 52 by decide) (show K (c + len) < 52 by omega) (show K (c + len) ≠ 42 by omega), take_no hc1 h4 (show (43 : Nat) < 52 by decide) (show K (c + len) < 52 by omega) (show K (c + len) ≠ 43 by omega), take_no hc1 h4 (show (44 : Nat) < 52 by decide) (show K (c + len) < 52 by omega) (show K (c + len) ≠ 44 by omega), take_no hc1 h4 (show (45 : Nat) < 52 by decide) (show K (c + len) < 52 by omega) (show K (c + len) ≠ 45 by omega), take_yes hc1 h4 (show (46 : Nat) < 52 by decide) hk, hk, f_X3_comparison_R66, f_X3_comparison_R71, h' sT vT er et dd tg fs es (wK sk p l) (wV sv p l) ct (p + l.length) (by omega), step_ok (show p + l.length + l'.length < 400 by omega) (show (46 : Nat) < 52 by decide), sb, nJ_of, nJ_lt, nJ_le, nJ_eq, nJ_clamp, nJ_add, nJ_sub, if_pos, if_neg, if_true, if_false, nL_0, nL_1, nL_2, nL_3, nL_4, nL_5, nL_6, nL_7, nL_8, nL_9, nL_10, nL_11, nL_12, nL_13, nL_14, nL_15, nL_16, nL_17, nL_18, nL_19, nL_20, nL_21, nL_22, nL_23, nL_24, nL_25, nL_26, nL_27, nL_28, nL_29, nL_30, nL_31, nL_32, nL_33, nL_34, nL_35, nL_36, nL_37, nL_38, nL_39, nL_40, nL_41, nL_42, nL_43, nL_44, nL_45, nL_46, nL_47, nL_48, nL_49, nL_50, nL_51, nL_52, nL_53, nL_54, nL_55, nL_56, nL_57, nL_58, nL_59, nL_60, nL_61, nL_62, nL_63, nL_64, nL_65, nL_66, nL_67, nL_68, nL_69, nL_70, nL_400, nL_402, nL_800, nL_2000]
theorem comp3 (h : Rds n d 4 x K cnt c len l) (hk : K (c + len) = kk) (hkk : 42 ≤ kk ∧ kk < 47) (h' : Rds n d 4 x K cnt (c + len + 1) len' l') (hc1 : c + len < cnt) (h4 : cnt ≤ 401) : Rds n (d + 1) 3 x K cnt c (len + 1 + len') (l ++ (l' ++ [(kk, 0)])) := by
  have q : kk = 42 ∨ kk = 43 ∨ kk = 44 ∨ kk = 45 ∨ kk = 46 := by omega
  rcases q with rfl | rfl | rfl | rfl | rfl
  · exact comp3_42 h hk h' hc1 h4
  · exact comp3_43 h hk h' hc1 h4
  · exact comp3_44 h hk h' hc1 h4
  · exact comp3_45 h hk h' hc1 h4
  · exact comp3_46 h hk h' hc1 h4
end
