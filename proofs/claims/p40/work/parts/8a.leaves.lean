/-! THE GRAMMAR'S LEVELS: a single test, a value -/
theorem wK_1 (f : Nat → Nat) (p k v : Nat) (l : List (Nat × Nat)) : wK f p (l ++ [(k, v)]) = va_up (wK f p l) (p + l.length) k := by
  rw [wK_app]; rfl
theorem wV_1 (f : Nat → Int32) (p k v : Nat) (l : List (Nat × Nat)) : wV f p (l ++ [(k, v)]) = upd (wV f p l) (p + l.length) (nI v) := by
  rw [wV_app]; rfl
theorem ln_1 (k v : Nat) (l : List (Nat × Nat)) (p : Nat) : p + (l ++ [(k, v)]).length = p + l.length + 1 := by
  rw [List.length_append]; rfl
theorem wK_o (f : Nat → Nat) (p k v : Nat) : wK f p [(k, v)] = va_up f p k := rfl
theorem wV_o (f : Nat → Int32) (p k v : Nat) : wV f p [(k, v)] = upd f p (nI v) := rfl
theorem ln_o (k v p : Nat) : p + [(k, v)].length = p + 1 := rfl
section
variable {n d x : Nat} {K : Nat → Nat} {cnt c len len' kk : Nat} {l l' : List (Nat × Nat)}
theorem lift2 (h : Rds n d 3 x K cnt c len l) (hc : c < cnt) (h4 : cnt ≤ 401) (k1 : K c < 52) (q1 : (smap (K c) = nI 1) = False) (q2 : (smap (K c) = nI 2) = False) (q3 : (smap (K c) = nI 3) = False) (q4 : (smap (K c) = nI 4) = False) (q5 : (smap (K c) = nI 5) = False) : Rds n (d + 1) 2 x K cnt c len l := by
  intro sT vT er et dd tg fs es sk sv ct p hp
  show f_X3_single n (g_X3 n d) (nI x) _ _ = _
  unfold f_X3_single
  rw [next_ok hc h4, Option.bind_some]
  simp (disch := omega) only [X11_kinds, X11_starts, X11_values, X11_count, X11_cursor, X11_error, X11_errorToken, X6_deeds, X6_targets, X6_firstSteps, X6_endSteps, X6_stepKinds, X6_stepValues, X6_count, X6_steps, vpN1, false_or, or_false, or_self, k1, q1, q2, q3, q4, q5, h sT vT er et dd tg fs es sk sv ct p hp, sb, nJ_of, nJ_lt, nJ_le, nJ_eq, nJ_clamp, nJ_add, nJ_sub, if_pos, if_neg, if_true, if_false, nL_0, nL_1, nL_2, nL_3, nL_4, nL_5, nL_6, nL_7, nL_8, nL_9, nL_10, nL_11, nL_12, nL_13, nL_14, nL_15, nL_16, nL_17, nL_18, nL_19, nL_20, nL_21, nL_22, nL_23, nL_24, nL_25, nL_26, nL_27, nL_28, nL_29, nL_30, nL_31, nL_32, nL_33, nL_34, nL_35, nL_36, nL_37, nL_38, nL_39, nL_40, nL_41, nL_42, nL_43, nL_44, nL_45, nL_46, nL_47, nL_48, nL_49, nL_50, nL_51, nL_52, nL_53, nL_54, nL_55, nL_56, nL_57, nL_58, nL_59, nL_60, nL_61, nL_62, nL_63, nL_64, nL_65, nL_66, nL_67, nL_68, nL_69, nL_70, nL_400, nL_402, nL_800, nL_2000]
theorem not2 (hk : K c = 27) (hx : x < 8) (h : Rds n d 2 (x + 1) K cnt (c + 1) len l) (hc : c < cnt) (h4 : cnt ≤ 401) : Rds n (d + 1) 2 x K cnt c (len + 1) (l ++ [(27, 0)]) := by
  intro sT vT er et dd tg fs es sk sv ct p hp
  rw [ln_1] at hp
  rw [wK_1, wV_1, ln_1]
  show f_X3_single n (g_X3 n d) (nI x) _ _ = _
  have e1 : nI (c + (len + 1)) = nI (c + 1 + len) := congrArg nI (by omega)
  rw [e1]
  unfold f_X3_single
  rw [next_ok hc h4, Option.bind_some, hk]
  simp (disch := omega) only [X11_kinds, X11_starts, X11_values, X11_count, X11_cursor, X11_error, X11_errorToken, X6_deeds, X6_targets, X6_firstSteps, X6_endSteps, X6_stepKinds, X6_stepValues, X6_count, X6_steps, vpN1, false_or, or_false, or_self, show smap 27 = nI 1 from by decide, take_yes (show c < cnt by omega) h4 (show (27 : Nat) < 52 by decide) hk, h sT vT er et dd tg fs es sk sv ct p (by omega), step_ok (show p + l.length < 400 by omega) (show (27 : Nat) < 52 by decide), sb, nJ_of, nJ_lt, nJ_le, nJ_eq, nJ_clamp, nJ_add, nJ_sub, if_pos, if_neg, if_true, if_false, nL_0, nL_1, nL_2, nL_3, nL_4, nL_5, nL_6, nL_7, nL_8, nL_9, nL_10, nL_11, nL_12, nL_13, nL_14, nL_15, nL_16, nL_17, nL_18, nL_19, nL_20, nL_21, nL_22, nL_23, nL_24, nL_25, nL_26, nL_27, nL_28, nL_29, nL_30, nL_31, nL_32, nL_33, nL_34, nL_35, nL_36, nL_37, nL_38, nL_39, nL_40, nL_41, nL_42, nL_43, nL_44, nL_45, nL_46, nL_47, nL_48, nL_49, nL_50, nL_51, nL_52, nL_53, nL_54, nL_55, nL_56, nL_57, nL_58, nL_59, nL_60, nL_61, nL_62, nL_63, nL_64, nL_65, nL_66, nL_67, nL_68, nL_69, nL_70, nL_400, nL_402, nL_800, nL_2000]
theorem par2 (hk : K c = 34) (hx : x < 8) (h : Rds n d 0 (x + 1) K cnt (c + 1) len l) (hk2 : K (c + 1 + len) = 35) (hc : c + 1 + len < cnt) (h4 : cnt ≤ 401) : Rds n (d + 1) 2 x K cnt c (len + 2) l := by
  intro sT vT er et dd tg fs es sk sv ct p hp
  show f_X3_single n (g_X3 n d) (nI x) _ _ = _
  have e1 : nI (c + (len + 2)) = nI (c + 1 + len + 1) := congrArg nI (by omega)
  rw [e1]
  unfold f_X3_single
  rw [next_ok (show c < cnt by omega) h4, Option.bind_some, hk]
  simp (disch := omega) only [X11_kinds, X11_starts, X11_values, X11_count, X11_cursor, X11_error, X11_errorToken, X6_deeds, X6_targets, X6_firstSteps, X6_endSteps, X6_stepKinds, X6_stepValues, X6_count, X6_steps, vpN1, false_or, or_false, or_self, show smap 34 = nI 2 from by decide, take_yes (show c < cnt by omega) h4 (show (34 : Nat) < 52 by decide) hk, h sT vT er et dd tg fs es sk sv ct p (by omega), take_yes (show c + 1 + len < cnt by omega) h4 (show (35 : Nat) < 52 by decide) hk2, sb, nJ_of, nJ_lt, nJ_le, nJ_eq, nJ_clamp, nJ_add, nJ_sub, if_pos, if_neg, if_true, if_false, nL_0, nL_1, nL_2, nL_3, nL_4, nL_5, nL_6, nL_7, nL_8, nL_9, nL_10, nL_11, nL_12, nL_13, nL_14, nL_15, nL_16, nL_17, nL_18, nL_19, nL_20, nL_21, nL_22, nL_23, nL_24, nL_25, nL_26, nL_27, nL_28, nL_29, nL_30, nL_31, nL_32, nL_33, nL_34, nL_35, nL_36, nL_37, nL_38, nL_39, nL_40, nL_41, nL_42, nL_43, nL_44, nL_45, nL_46, nL_47, nL_48, nL_49, nL_50, nL_51, nL_52, nL_53, nL_54, nL_55, nL_56, nL_57, nL_58, nL_59, nL_60, nL_61, nL_62, nL_63, nL_64, nL_65, nL_66, nL_67, nL_68, nL_69, nL_70, nL_400, nL_402, nL_800, nL_2000]
theorem word2_23 (hk : K c = 23) (hk2 : K (c + 1) = 47) (hc : c + 1 < cnt) (h4 : cnt ≤ 401) : Rds n (d + 1) 2 x K cnt c 2 [(23, c + 1)] := by
  intro sT vT er et dd tg fs es sk sv ct p hp
  rw [ln_o] at hp
  rw [wK_o, wV_o, ln_o]
  show f_X3_single n (g_X3 n d) (nI x) _ _ = _
  unfold f_X3_single
  rw [next_ok (show c < cnt by omega) h4, Option.bind_some, hk]
  simp (disch := omega) only [X11_kinds, X11_starts, X11_values, X11_count, X11_cursor, X11_error, X11_errorToken, X6_deeds, X6_targets, X6_firstSteps, X6_endSteps, X6_stepKinds, X6_stepValues, X6_count, X6_steps, vpN1, false_or, or_false, or_self, show smap 23 = nI 4 from by decide, true_or, or_true, take_yes (show c < cnt by omega) h4 (show (23 : Nat) < 52 by decide) hk, step_ok (show p < 400 by omega) (show (23 : Nat) < 52 by decide), take_yes (show c + 1 < cnt by omega) h4 (show (47 : Nat) < 52 by decide) hk2, sb, nJ_of, nJ_lt, nJ_le, nJ_eq, nJ_clamp, nJ_add, nJ_sub, if_pos, if_neg, if_true, if_false, nL_0, nL_1, nL_2, nL_3, nL_4, nL_5, nL_6, nL_7, nL_8, nL_9, nL_10, nL_11, nL_12, nL_13, nL_14, nL_15, nL_16, nL_17, nL_18, nL_19, nL_20, nL_21, nL_22, nL_23, nL_24, nL_25, nL_26, nL_27, nL_28, nL_29, nL_30, nL_31, nL_32, nL_33, nL_34, nL_35, nL_36, nL_37, nL_38, nL_39, nL_40, nL_41, nL_42, nL_43, nL_44, nL_45, nL_46, nL_47, nL_48, nL_49, nL_50, nL_51, nL_52, nL_53, nL_54, nL_55, nL_56, nL_57, nL_58, nL_59, nL_60, nL_61, nL_62, nL_63, nL_64, nL_65, nL_66, nL_67, nL_68, nL_69, nL_70, nL_400, nL_402, nL_800, nL_2000]
theorem word2_24 (hk : K c = 24) (hk2 : K (c + 1) = 47) (hc : c + 1 < cnt) (h4 : cnt ≤ 401) : Rds n (d + 1) 2 x K cnt c 2 [(24, c + 1)] := by
  intro sT vT er et dd tg fs es sk sv ct p hp
  rw [ln_o] at hp
  rw [wK_o, wV_o, ln_o]
  show f_X3_single n (g_X3 n d) (nI x) _ _ = _
  unfold f_X3_single
  rw [next_ok (show c < cnt by omega) h4, Option.bind_some, hk]
  simp (disch := omega) only [X11_kinds, X11_starts, X11_values, X11_count, X11_cursor, X11_error, X11_errorToken, X6_deeds, X6_targets, X6_firstSteps, X6_endSteps, X6_stepKinds, X6_stepValues, X6_count, X6_steps, vpN1, false_or, or_false, or_self, show smap 24 = nI 3 from by decide, true_or, or_true, take_yes (show c < cnt by omega) h4 (show (24 : Nat) < 52 by decide) hk, step_ok (show p < 400 by omega) (show (24 : Nat) < 52 by decide), take_yes (show c + 1 < cnt by omega) h4 (show (47 : Nat) < 52 by decide) hk2, sb, nJ_of, nJ_lt, nJ_le, nJ_eq, nJ_clamp, nJ_add, nJ_sub, if_pos, if_neg, if_true, if_false, nL_0, nL_1, nL_2, nL_3, nL_4, nL_5, nL_6, nL_7, nL_8, nL_9, nL_10, nL_11, nL_12, nL_13, nL_14, nL_15, nL_16, nL_17, nL_18, nL_19, nL_20, nL_21, nL_22, nL_23, nL_24, nL_25, nL_26, nL_27, nL_28, nL_29, nL_30, nL_31, nL_32, nL_33, nL_34, nL_35, nL_36, nL_37, nL_38, nL_39, nL_40, nL_41, nL_42, nL_43, nL_44, nL_45, nL_46, nL_47, nL_48, nL_49, nL_50, nL_51, nL_52, nL_53, nL_54, nL_55, nL_56, nL_57, nL_58, nL_59, nL_60, nL_61, nL_62, nL_63, nL_64, nL_65, nL_66, nL_67, nL_68, nL_69, nL_70, nL_400, nL_402, nL_800, nL_2000]
theorem word2_25 (hk : K c = 25) (hk2 : K (c + 1) = 47) (hc : c + 1 < cnt) (h4 : cnt ≤ 401) : Rds n (d + 1) 2 x K cnt c 2 [(25, c + 1)] := by
  intro sT vT er et dd tg fs es sk sv ct p hp
  rw [ln_o] at hp
  rw [wK_o, wV_o, ln_o]
  show f_X3_single n (g_X3 n d) (nI x) _ _ = _
  unfold f_X3_single
  rw [next_ok (show c < cnt by omega) h4, Option.bind_some, hk]
  simp (disch := omega) only [X11_kinds, X11_starts, X11_values, X11_count, X11_cursor, X11_error, X11_errorToken, X6_deeds, X6_targets, X6_firstSteps, X6_endSteps, X6_stepKinds, X6_stepValues, X6_count, X6_steps, vpN1, false_or, or_false, or_self, show smap 25 = nI 5 from by decide, true_or, or_true, take_yes (show c < cnt by omega) h4 (show (25 : Nat) < 52 by decide) hk, step_ok (show p < 400 by omega) (show (25 : Nat) < 52 by decide), take_yes (show c + 1 < cnt by omega) h4 (show (47 : Nat) < 52 by decide) hk2, sb, nJ_of, nJ_lt, nJ_le, nJ_eq, nJ_clamp, nJ_add, nJ_sub, if_pos, if_neg, if_true, if_false, nL_0, nL_1, nL_2, nL_3, nL_4, nL_5, nL_6, nL_7, nL_8, nL_9, nL_10, nL_11, nL_12, nL_13, nL_14, nL_15, nL_16, nL_17, nL_18, nL_19, nL_20, nL_21, nL_22, nL_23, nL_24, nL_25, nL_26, nL_27, nL_28, nL_29, nL_30, nL_31, nL_32, nL_33, nL_34, nL_35, nL_36, nL_37, nL_38, nL_39, nL_40, nL_41, nL_42, nL_43, nL_44, nL_45, nL_46, nL_47, nL_48, nL_49, nL_50, nL_51, nL_52, nL_53, nL_54, nL_55, nL_56, nL_57, nL_58, nL_59, nL_60, nL_61, nL_62, nL_63, nL_64, nL_65, nL_66, nL_67, nL_68, nL_69, nL_70, nL_400, nL_402, nL_800, nL_2000]
theorem val6_48 (hk : K c = 48) (hc : c < cnt) (h4 : cnt ≤ 401) : Rds n (d + 1) 6 x K cnt c 1 [(48, c)] := by
  intro sT vT er et dd tg fs es sk sv ct p hp
  rw [ln_o] at hp
  rw [wK_o, wV_o, ln_o]
  show f_X3_value n (g_X3 n d) (nI x) _ _ = _
  unfold f_X3_value
  rw [next_ok (show c < cnt by omega) h4, Option.bind_some, hk]
  simp (disch := omega) only [X11_kinds, X11_starts, X11_values, X11_count, X11_cursor, X11_error, X11_errorToken, X6_deeds, X6_targets, X6_firstSteps, X6_endSteps, X6_stepKinds, X6_stepValues, X6_count, X6_steps, vpN1, false_or, or_false, or_self, show smap 48 = nI 6 from by decide, true_or, or_true, take_yes (show c < cnt by omega) h4 (show (48 : Nat) < 52 by decide) hk, step_ok (show p < 400 by omega) (show (48 : Nat) < 52 by decide), sb, nJ_of, nJ_lt, nJ_le, nJ_eq, nJ_clamp, nJ_add, nJ_sub, if_pos, if_neg, if_true, if_false, nL_0, nL_1, nL_2, nL_3, nL_4, nL_5, nL_6, nL_7, nL_8, nL_9, nL_10, nL_11, nL_12, nL_13, nL_14, nL_15, nL_16, nL_17, nL_18, nL_19, nL_20, nL_21, nL_22, nL_23, nL_24, nL_25, nL_26, nL_27, nL_28, nL_29, nL_30, nL_31, nL_32, nL_33, nL_34, nL_35, nL_36, nL_37, nL_38, nL_39, nL_40, nL_41, nL_42, nL_43, nL_44, nL_45, nL_46, nL_47, nL_48, nL_49, nL_50, nL_51, nL_52, nL_53, nL_54, nL_55, nL_56, nL_57, nL_58, nL_59, nL_60, nL_61, nL_62, nL_63, nL_64, nL_65, nL_66, nL_67, nL_68, nL_69, nL_70, nL_400, nL_402, nL_800, nL_2000]
theorem val6_16 (hk : K c = 16) (hc : c < cnt) (h4 : cnt ≤ 401) : Rds n (d + 1) 6 x K cnt c 1 [(16, c)] := by
  intro sT vT er et dd tg fs es sk sv ct p hp
  rw [ln_o] at hp
  rw [wK_o, wV_o, ln_o]
  show f_X3_value n (g_X3 n d) (nI x) _ _ = _
  unfold f_X3_value
  rw [next_ok (show c < cnt by omega) h4, Option.bind_some, hk]
  simp (disch := omega) only [X11_kinds, X11_starts, X11_values, X11_count, X11_cursor, X11_error, X11_errorToken, X6_deeds, X6_targets, X6_firstSteps, X6_endSteps, X6_stepKinds, X6_stepValues, X6_count, X6_steps, vpN1, false_or, or_false, or_self, show smap 16 = nI 7 from by decide, true_or, or_true, take_yes (show c < cnt by omega) h4 (show (16 : Nat) < 52 by decide) hk, step_ok (show p < 400 by omega) (show (16 : Nat) < 52 by decide), sb, nJ_of, nJ_lt, nJ_le, nJ_eq, nJ_clamp, nJ_add, nJ_sub, if_pos, if_neg, if_true, if_false, nL_0, nL_1, nL_2, nL_3, nL_4, nL_5, nL_6, nL_7, nL_8, nL_9, nL_10, nL_11, nL_12, nL_13, nL_14, nL_15, nL_16, nL_17, nL_18, nL_19, nL_20, nL_21, nL_22, nL_23, nL_24, nL_25, nL_26, nL_27, nL_28, nL_29, nL_30, nL_31, nL_32, nL_33, nL_34, nL_35, nL_36, nL_37, nL_38, nL_39, nL_40, nL_41, nL_42, nL_43, nL_44, nL_45, nL_46, nL_47, nL_48, nL_49, nL_50, nL_51, nL_52, nL_53, nL_54, nL_55, nL_56, nL_57, nL_58, nL_59, nL_60, nL_61, nL_62, nL_63, nL_64, nL_65, nL_66, nL_67, nL_68, nL_69, nL_70, nL_400, nL_402, nL_800, nL_2000]
theorem val6_17 (hk : K c = 17) (hc : c < cnt) (h4 : cnt ≤ 401) : Rds n (d + 1) 6 x K cnt c 1 [(17, c)] := by
  intro sT vT er et dd tg fs es sk sv ct p hp
  rw [ln_o] at hp
  rw [wK_o, wV_o, ln_o]
  show f_X3_value n (g_X3 n d) (nI x) _ _ = _
  unfold f_X3_value
  rw [next_ok (show c < cnt by omega) h4, Option.bind_some, hk]
  simp (disch := omega) only [X11_kinds, X11_starts, X11_values, X11_count, X11_cursor, X11_error, X11_errorToken, X6_deeds, X6_targets, X6_firstSteps, X6_endSteps, X6_stepKinds, X6_stepValues, X6_count, X6_steps, vpN1, false_or, or_false, or_self, show smap 17 = nI 8 from by decide, true_or, or_true, take_yes (show c < cnt by omega) h4 (show (17 : Nat) < 52 by decide) hk, step_ok (show p < 400 by omega) (show (17 : Nat) < 52 by decide), sb, nJ_of, nJ_lt, nJ_le, nJ_eq, nJ_clamp, nJ_add, nJ_sub, if_pos, if_neg, if_true, if_false, nL_0, nL_1, nL_2, nL_3, nL_4, nL_5, nL_6, nL_7, nL_8, nL_9, nL_10, nL_11, nL_12, nL_13, nL_14, nL_15, nL_16, nL_17, nL_18, nL_19, nL_20, nL_21, nL_22, nL_23, nL_24, nL_25, nL_26, nL_27, nL_28, nL_29, nL_30, nL_31, nL_32, nL_33, nL_34, nL_35, nL_36, nL_37, nL_38, nL_39, nL_40, nL_41, nL_42, nL_43, nL_44, nL_45, nL_46, nL_47, nL_48, nL_49, nL_50, nL_51, nL_52, nL_53, nL_54, nL_55, nL_56, nL_57, nL_58, nL_59, nL_60, nL_61, nL_62, nL_63, nL_64, nL_65, nL_66, nL_67, nL_68, nL_69, nL_70, nL_400, nL_402, nL_800, nL_2000]
theorem val6_18 (hk : K c = 18) (hc : c < cnt) (h4 : cnt ≤ 401) : Rds n (d + 1) 6 x K cnt c 1 [(18, c)] := by
  intro sT vT er et dd tg fs es sk sv ct p hp
  rw [ln_o] at hp
  rw [wK_o, wV_o, ln_o]
  show f_X3_value n (g_X3 n d) (nI x) _ _ = _
  unfold f_X3_value
  rw [next_ok (show c < cnt by omega) h4, Option.bind_some, hk]
  simp (disch := omega) only [X11_kinds, X11_starts, X11_values, X11_count, X11_cursor, X11_error, X11_errorToken, X6_deeds, X6_targets, X6_firstSteps, X6_endSteps, X6_stepKinds, X6_stepValues, X6_count, X6_steps, vpN1, false_or, or_false, or_self, show smap 18 = nI 9 from by decide, true_or, or_true, take_yes (show c < cnt by omega) h4 (show (18 : Nat) < 52 by decide) hk, step_ok (show p < 400 by omega) (show (18 : Nat) < 52 by decide), sb, nJ_of, nJ_lt, nJ_le, nJ_eq, nJ_clamp, nJ_add, nJ_sub, if_pos, if_neg, if_true, if_false, nL_0, nL_1, nL_2, nL_3, nL_4, nL_5, nL_6, nL_7, nL_8, nL_9, nL_10, nL_11, nL_12, nL_13, nL_14, nL_15, nL_16, nL_17, nL_18, nL_19, nL_20, nL_21, nL_22, nL_23, nL_24, nL_25, nL_26, nL_27, nL_28, nL_29, nL_30, nL_31, nL_32, nL_33, nL_34, nL_35, nL_36, nL_37, nL_38, nL_39, nL_40, nL_41, nL_42, nL_43, nL_44, nL_45, nL_46, nL_47, nL_48, nL_49, nL_50, nL_51, nL_52, nL_53, nL_54, nL_55, nL_56, nL_57, nL_58, nL_59, nL_60, nL_61, nL_62, nL_63, nL_64, nL_65, nL_66, nL_67, nL_68, nL_69, nL_70, nL_400, nL_402, nL_800, nL_2000]
theorem val6_19 (hk : K c = 19) (hc : c < cnt) (h4 : cnt ≤ 401) : Rds n (d + 1) 6 x K cnt c 1 [(19, c)] := by
  intro sT vT er et dd tg fs es sk sv ct p hp
  rw [ln_o] at hp
  rw [wK_o, wV_o, ln_o]
  show f_X3_value n (g_X3 n d) (nI x) _ _ = _
  unfold f_X3_value
  rw [next_ok (show c < cnt by omega) h4, Option.bind_some, hk]
  simp (disch := omega) only [X11_kinds, X11_starts, X11_values, X11_count, X11_cursor, X11_error, X11_errorToken, X6_deeds, X6_targets, X6_firstSteps, X6_endSteps, X6_stepKinds, X6_stepValues, X6_count, X6_steps, vpN1, false_or, or_false, or_self, show smap 19 = nI 10 from by decide, true_or, or_true, take_yes (show c < cnt by omega) h4 (show (19 : Nat) < 52 by decide) hk, step_ok (show p < 400 by omega) (show (19 : Nat) < 52 by decide), sb, nJ_of, nJ_lt, nJ_le, nJ_eq, nJ_clamp, nJ_add, nJ_sub, if_pos, if_neg, if_true, if_false, nL_0, nL_1, nL_2, nL_3, nL_4, nL_5, nL_6, nL_7, nL_8, nL_9, nL_10, nL_11, nL_12, nL_13, nL_14, nL_15, nL_16, nL_17, nL_18, nL_19, nL_20, nL_21, nL_22, nL_23, nL_24, nL_25, nL_26, nL_27, nL_28, nL_29, nL_30, nL_31, nL_32, nL_33, nL_34, nL_35, nL_36, nL_37, nL_38, nL_39, nL_40, nL_41, nL_42, nL_43, nL_44, nL_45, nL_46, nL_47, nL_48, nL_49, nL_50, nL_51, nL_52, nL_53, nL_54, nL_55, nL_56, nL_57, nL_58, nL_59, nL_60, nL_61, nL_62, nL_63, nL_64, nL_65, nL_66, nL_67, nL_68, nL_69, nL_70, nL_400, nL_402, nL_800, nL_2000]
theorem val6_20 (hk : K c = 20) (hc : c < cnt) (h4 : cnt ≤ 401) : Rds n (d + 1) 6 x K cnt c 1 [(20, c)] := by
  intro sT vT er et dd tg fs es sk sv ct p hp
  rw [ln_o] at hp
  rw [wK_o, wV_o, ln_o]
  show f_X3_value n (g_X3 n d) (nI x) _ _ = _
  unfold f_X3_value
  rw [next_ok (show c < cnt by omega) h4, Option.bind_some, hk]
  simp (disch := omega) only [X11_kinds, X11_starts, X11_values, X11_count, X11_cursor, X11_error, X11_errorToken, X6_deeds, X6_targets, X6_firstSteps, X6_endSteps, X6_stepKinds, X6_stepValues, X6_count, X6_steps, vpN1, false_or, or_false, or_self, show smap 20 = nI 11 from by decide, true_or, or_true, take_yes (show c < cnt by omega) h4 (show (20 : Nat) < 52 by decide) hk, step_ok (show p < 400 by omega) (show (20 : Nat) < 52 by decide), sb, nJ_of, nJ_lt, nJ_le, nJ_eq, nJ_clamp, nJ_add, nJ_sub, if_pos, if_neg, if_true, if_false, nL_0, nL_1, nL_2, nL_3, nL_4, nL_5, nL_6, nL_7, nL_8, nL_9, nL_10, nL_11, nL_12, nL_13, nL_14, nL_15, nL_16, nL_17, nL_18, nL_19, nL_20, nL_21, nL_22, nL_23, nL_24, nL_25, nL_26, nL_27, nL_28, nL_29, nL_30, nL_31, nL_32, nL_33, nL_34, nL_35, nL_36, nL_37, nL_38, nL_39, nL_40, nL_41, nL_42, nL_43, nL_44, nL_45, nL_46, nL_47, nL_48, nL_49, nL_50, nL_51, nL_52, nL_53, nL_54, nL_55, nL_56, nL_57, nL_58, nL_59, nL_60, nL_61, nL_62, nL_63, nL_64, nL_65, nL_66, nL_67, nL_68, nL_69, nL_70, nL_400, nL_402, nL_800, nL_2000]
theorem val6_21 (hk : K c = 21) (hc : c < cnt) (h4 : cnt ≤ 401) : Rds n (d + 1) 6 x K cnt c 1 [(21, c)] := by
  intro sT vT er et dd tg fs es sk sv ct p hp
  rw [ln_o] at hp
  rw [wK_o, wV_o, ln_o]
  show f_X3_value n (g_X3 n d) (nI x) _ _ = _
  unfold f_X3_value
  rw [next_ok (show c < cnt by omega) h4, Option.bind_some, hk]
  simp (disch := omega) only [X11_kinds, X11_starts, X11_values, X11_count, X11_cursor, X11_error, X11_errorToken, X6_deeds, X6_targets, X6_firstSteps, X6_endSteps, X6_stepKinds, X6_stepValues, X6_count, X6_steps, vpN1, false_or, or_false, or_self, show smap 21 = nI 12 from by decide, true_or, or_true, take_yes (show c < cnt by omega) h4 (show (21 : Nat) < 52 by decide) hk, step_ok (show p < 400 by omega) (show (21 : Nat) < 52 by decide), sb, nJ_of, nJ_lt, nJ_le, nJ_eq, nJ_clamp, nJ_add, nJ_sub, if_pos, if_neg, if_true, if_false, nL_0, nL_1, nL_2, nL_3, nL_4, nL_5, nL_6, nL_7, nL_8, nL_9, nL_10, nL_11, nL_12, nL_13, nL_14, nL_15, nL_16, nL_17, nL_18, nL_19, nL_20, nL_21, nL_22, nL_23, nL_24, nL_25, nL_26, nL_27, nL_28, nL_29, nL_30, nL_31, nL_32, nL_33, nL_34, nL_35, nL_36, nL_37, nL_38, nL_39, nL_40, nL_41, nL_42, nL_43, nL_44, nL_45, nL_46, nL_47, nL_48, nL_49, nL_50, nL_51, nL_52, nL_53, nL_54, nL_55, nL_56, nL_57, nL_58, nL_59, nL_60, nL_61, nL_62, nL_63, nL_64, nL_65, nL_66, nL_67, nL_68, nL_69, nL_70, nL_400, nL_402, nL_800, nL_2000]
theorem val6_22 (hk : K c = 22) (hc : c < cnt) (h4 : cnt ≤ 401) : Rds n (d + 1) 6 x K cnt c 1 [(22, c)] := by
  intro sT vT er et dd tg fs es sk sv ct p hp
  rw [ln_o] at hp
  rw [wK_o, wV_o, ln_o]
  show f_X3_value n (g_X3 n d) (nI x) _ _ = _
  unfold f_X3_value
  rw [next_ok (show c < cnt by omega) h4, Option.bind_some, hk]
  simp (disch := omega) only [X11_kinds, X11_starts, X11_values, X11_count, X11_cursor, X11_error, X11_errorToken, X6_deeds, X6_targets, X6_firstSteps, X6_endSteps, X6_stepKinds, X6_stepValues, X6_count, X6_steps, vpN1, false_or, or_false, or_self, show smap 22 = nI 13 from by decide, true_or, or_true, take_yes (show c < cnt by omega) h4 (show (22 : Nat) < 52 by decide) hk, step_ok (show p < 400 by omega) (show (22 : Nat) < 52 by decide), sb, nJ_of, nJ_lt, nJ_le, nJ_eq, nJ_clamp, nJ_add, nJ_sub, if_pos, if_neg, if_true, if_false, nL_0, nL_1, nL_2, nL_3, nL_4, nL_5, nL_6, nL_7, nL_8, nL_9, nL_10, nL_11, nL_12, nL_13, nL_14, nL_15, nL_16, nL_17, nL_18, nL_19, nL_20, nL_21, nL_22, nL_23, nL_24, nL_25, nL_26, nL_27, nL_28, nL_29, nL_30, nL_31, nL_32, nL_33, nL_34, nL_35, nL_36, nL_37, nL_38, nL_39, nL_40, nL_41, nL_42, nL_43, nL_44, nL_45, nL_46, nL_47, nL_48, nL_49, nL_50, nL_51, nL_52, nL_53, nL_54, nL_55, nL_56, nL_57, nL_58, nL_59, nL_60, nL_61, nL_62, nL_63, nL_64, nL_65, nL_66, nL_67, nL_68, nL_69, nL_70, nL_400, nL_402, nL_800, nL_2000]
theorem force6 (hk : K c = 6) (hk1 : K (c + 1) = 26) (hk2 : K (c + 2) = 47) (hc : c + 2 < cnt) (h4 : cnt ≤ 401) : Rds n (d + 1) 6 x K cnt c 3 [(6, c + 2)] := by
  intro sT vT er et dd tg fs es sk sv ct p hp
  rw [ln_o] at hp
  rw [wK_o, wV_o, ln_o]
  show f_X3_value n (g_X3 n d) (nI x) _ _ = _
  unfold f_X3_value
  rw [next_ok (show c < cnt by omega) h4, Option.bind_some, hk]
  simp (disch := omega) only [X11_kinds, X11_starts, X11_values, X11_count, X11_cursor, X11_error, X11_errorToken, X6_deeds, X6_targets, X6_firstSteps, X6_endSteps, X6_stepKinds, X6_stepValues, X6_count, X6_steps, vpN1, false_or, or_false, or_self, show smap 6 = nI 14 from by decide, take_yes (show c < cnt by omega) h4 (show (6 : Nat) < 52 by decide) hk, take_yes (show c + 1 < cnt by omega) h4 (show (26 : Nat) < 52 by decide) hk1, step_ok (show p < 400 by omega) (show (6 : Nat) < 52 by decide), take_yes (show c + 1 + 1 < cnt by omega) h4 (show (47 : Nat) < 52 by decide) hk2, sb, nJ_of, nJ_lt, nJ_le, nJ_eq, nJ_clamp, nJ_add, nJ_sub, if_pos, if_neg, if_true, if_false, nL_0, nL_1, nL_2, nL_3, nL_4, nL_5, nL_6, nL_7, nL_8, nL_9, nL_10, nL_11, nL_12, nL_13, nL_14, nL_15, nL_16, nL_17, nL_18, nL_19, nL_20, nL_21, nL_22, nL_23, nL_24, nL_25, nL_26, nL_27, nL_28, nL_29, nL_30, nL_31, nL_32, nL_33, nL_34, nL_35, nL_36, nL_37, nL_38, nL_39, nL_40, nL_41, nL_42, nL_43, nL_44, nL_45, nL_46, nL_47, nL_48, nL_49, nL_50, nL_51, nL_52, nL_53, nL_54, nL_55, nL_56, nL_57, nL_58, nL_59, nL_60, nL_61, nL_62, nL_63, nL_64, nL_65, nL_66, nL_67, nL_68, nL_69, nL_70, nL_400, nL_402, nL_800, nL_2000]
theorem neg6 (hk : K c = 39) (hx : x < 8) (h : Rds n d 6 (x + 1) K cnt (c + 1) len l) (hc : c < cnt) (h4 : cnt ≤ 401) : Rds n (d + 1) 6 x K cnt c (len + 1) (l ++ [(51, 0)]) := by
  intro sT vT er et dd tg fs es sk sv ct p hp
  rw [ln_1] at hp
  rw [wK_1, wV_1, ln_1]
  show f_X3_value n (g_X3 n d) (nI x) _ _ = _
  have e1 : nI (c + (len + 1)) = nI (c + 1 + len) := congrArg nI (by omega)
  rw [e1]
  unfold f_X3_value
  rw [next_ok hc h4, Option.bind_some, hk]
  simp (disch := omega) only [X11_kinds, X11_starts, X11_values, X11_count, X11_cursor, X11_error, X11_errorToken, X6_deeds, X6_targets, X6_firstSteps, X6_endSteps, X6_stepKinds, X6_stepValues, X6_count, X6_steps, vpN1, false_or, or_false, or_self, show smap 39 = nI 15 from by decide, take_yes (show c < cnt by omega) h4 (show (39 : Nat) < 52 by decide) hk, h sT vT er et dd tg fs es sk sv ct p (by omega), step_ok (show p + l.length < 400 by omega) (show (51 : Nat) < 52 by decide), sb, nJ_of, nJ_lt, nJ_le, nJ_eq, nJ_clamp, nJ_add, nJ_sub, if_pos, if_neg, if_true, if_false, nL_0, nL_1, nL_2, nL_3, nL_4, nL_5, nL_6, nL_7, nL_8, nL_9, nL_10, nL_11, nL_12, nL_13, nL_14, nL_15, nL_16, nL_17, nL_18, nL_19, nL_20, nL_21, nL_22, nL_23, nL_24, nL_25, nL_26, nL_27, nL_28, nL_29, nL_30, nL_31, nL_32, nL_33, nL_34, nL_35, nL_36, nL_37, nL_38, nL_39, nL_40, nL_41, nL_42, nL_43, nL_44, nL_45, nL_46, nL_47, nL_48, nL_49, nL_50, nL_51, nL_52, nL_53, nL_54, nL_55, nL_56, nL_57, nL_58, nL_59, nL_60, nL_61, nL_62, nL_63, nL_64, nL_65, nL_66, nL_67, nL_68, nL_69, nL_70, nL_400, nL_402, nL_800, nL_2000]
theorem par6 (hk : K c = 32) (hx : x < 8) (h : Rds n d 4 (x + 1) K cnt (c + 1) len l) (hk2 : K (c + 1 + len) = 33) (hc : c + 1 + len < cnt) (h4 : cnt ≤ 401) : Rds n (d + 1) 6 x K cnt c (len + 2) l := by
  intro sT vT er et dd tg fs es sk sv ct p hp
  show f_X3_value n (g_X3 n d) (nI x) _ _ = _
  have e1 : nI (c + (len + 2)) = nI (c + 1 + len + 1) := congrArg nI (by omega)
  rw [e1]
  unfold f_X3_value
  rw [next_ok (show c < cnt by omega) h4, Option.bind_some, hk]
  simp (disch := omega) only [X11_kinds, X11_starts, X11_values, X11_count, X11_cursor, X11_error, X11_errorToken, X6_deeds, X6_targets, X6_firstSteps, X6_endSteps, X6_stepKinds, X6_stepValues, X6_count, X6_steps, vpN1, false_or, or_false, or_self, show smap 32 = nI 16 from by decide, take_yes (show c < cnt by omega) h4 (show (32 : Nat) < 52 by decide) hk, h sT vT er et dd tg fs es sk sv ct p (by omega), take_yes (show c + 1 + len < cnt by omega) h4 (show (33 : Nat) < 52 by decide) hk2, sb, nJ_of, nJ_lt, nJ_le, nJ_eq, nJ_clamp, nJ_add, nJ_sub, if_pos, if_neg, if_true, if_false, nL_0, nL_1, nL_2, nL_3, nL_4, nL_5, nL_6, nL_7, nL_8, nL_9, nL_10, nL_11, nL_12, nL_13, nL_14, nL_15, nL_16, nL_17, nL_18, nL_19, nL_20, nL_21, nL_22, nL_23, nL_24, nL_25, nL_26, nL_27, nL_28, nL_29, nL_30, nL_31, nL_32, nL_33, nL_34, nL_35, nL_36, nL_37, nL_38, nL_39, nL_40, nL_41, nL_42, nL_43, nL_44, nL_45, nL_46, nL_47, nL_48, nL_49, nL_50, nL_51, nL_52, nL_53, nL_54, nL_55, nL_56, nL_57, nL_58, nL_59, nL_60, nL_61, nL_62, nL_63, nL_64, nL_65, nL_66, nL_67, nL_68, nL_69, nL_70, nL_400, nL_402, nL_800, nL_2000]
theorem mm6_30 (hk : K c = 30) (hx : x < 8) (hk1 : K (c + 1) = 32) (h : Rds n d 4 (x + 1) K cnt (c + 1 + 1) len l) (hk2 : K (c + 1 + 1 + len) = 37) (h' : Rds n d 4 (x + 1) K cnt (c + 1 + 1 + len + 1) len' l') (hk3 : K (c + 1 + 1 + len + 1 + len') = 33) (hc : c + 1 + 1 + len + 1 + len' < cnt) (h4 : cnt ≤ 401) : Rds n (d + 1) 6 x K cnt c (len + len' + 4) (l ++ (l' ++ [(30, 0)])) := by
  intro sT vT er et dd tg fs es sk sv ct p hp
  rw [ln_2] at hp
  rw [wK_2, wV_2, ln_2]
  show f_X3_value n (g_X3 n d) (nI x) _ _ = _
  have e1 : nI (c + (len + len' + 4)) = nI (c + 1 + 1 + len + 1 + len' + 1) := congrArg nI (by omega)
  rw [e1]
  unfold f_X3_value
  rw [next_ok (show c < cnt by omega) h4, Option.bind_some, hk]
  simp (disch := omega) only [X11_kinds, X11_starts, X11_values, X11_count, X11_cursor, X11_error, X11_errorToken, X6_deeds, X6_targets, X6_firstSteps, X6_endSteps, X6_stepKinds, X6_stepValues, X6_count, X6_steps, vpN1, false_or, or_false, or_self, show smap 30 = nI 17 from by decide, true_or, or_true, take_yes (show c < cnt by omega) h4 (show (30 : Nat) < 52 by decide) hk, take_yes (show c + 1 < cnt by omega) h4 (show (32 : Nat) < 52 by decide) hk1, h sT vT er et dd tg fs es sk sv ct p (by omega), take_yes (show c + 1 + 1 + len < cnt by omega) h4 (show (37 : Nat) < 52 by decide) hk2, h' sT vT er et dd tg fs es (wK sk p l) (wV sv p l) ct (p + l.length) (by omega), take_yes (show c + 1 + 1 + len + 1 + len' < cnt by omega) h4 (show (33 : Nat) < 52 by decide) hk3, step_ok (show p + l.length + l'.length < 400 by omega) (show (30 : Nat) < 52 by decide), sb, nJ_of, nJ_lt, nJ_le, nJ_eq, nJ_clamp, nJ_add, nJ_sub, if_pos, if_neg, if_true, if_false, nL_0, nL_1, nL_2, nL_3, nL_4, nL_5, nL_6, nL_7, nL_8, nL_9, nL_10, nL_11, nL_12, nL_13, nL_14, nL_15, nL_16, nL_17, nL_18, nL_19, nL_20, nL_21, nL_22, nL_23, nL_24, nL_25, nL_26, nL_27, nL_28, nL_29, nL_30, nL_31, nL_32, nL_33, nL_34, nL_35, nL_36, nL_37, nL_38, nL_39, nL_40, nL_41, nL_42, nL_43, nL_44, nL_45, nL_46, nL_47, nL_48, nL_49, nL_50, nL_51, nL_52, nL_53, nL_54, nL_55, nL_56, nL_57, nL_58, nL_59, nL_60, nL_61, nL_62, nL_63, nL_64, nL_65, nL_66, nL_67, nL_68, nL_69, nL_70, nL_400, nL_402, nL_800, nL_2000]
theorem mm6_31 (hk : K c = 31) (hx : x < 8) (hk1 : K (c + 1) = 32) (h : Rds n d 4 (x + 1) K cnt (c + 1 + 1) len l) (hk2 : K (c + 1 + 1 + len) = 37) (h' : Rds n d 4 (x + 1) K cnt (c + 1 + 1 + len + 1) len' l') (hk3 : K (c + 1 + 1 + len + 1 + len') = 33) (hc : c + 1 + 1 + len + 1 + len' < cnt) (h4 : cnt ≤ 401) : Rds n (d + 1) 6 x K cnt c (len + len' + 4) (l ++ (l' ++ [(31, 0)])) := by
  intro sT vT er et dd tg fs es sk sv ct p hp
  rw [ln_2] at hp
  rw [wK_2, wV_2, ln_2]
  show f_X3_value n (g_X3 n d) (nI x) _ _ = _
  have e1 : nI (c + (len + len' + 4)) = nI (c + 1 + 1 + len + 1 + len' + 1) := congrArg nI (by omega)
  rw [e1]
  unfold f_X3_value
  rw [next_ok (show c < cnt by omega) h4, Option.bind_some, hk]
  simp (disch := omega) only [X11_kinds, X11_starts, X11_values, X11_count, X11_cursor, X11_error, X11_errorToken, X6_deeds, X6_targets, X6_firstSteps, X6_endSteps, X6_stepKinds, X6_stepValues, X6_count, X6_steps, vpN1, false_or, or_false, or_self, show smap 31 = nI 18 from by decide, true_or, or_true, take_yes (show c < cnt by omega) h4 (show (31 : Nat) < 52 by decide) hk, take_yes (show c + 1 < cnt by omega) h4 (show (32 : Nat) < 52 by decide) hk1, h sT vT er et dd tg fs es sk sv ct p (by omega), take_yes (show c + 1 + 1 + len < cnt by omega) h4 (show (37 : Nat) < 52 by decide) hk2, h' sT vT er et dd tg fs es (wK sk p l) (wV sv p l) ct (p + l.length) (by omega), take_yes (show c + 1 + 1 + len + 1 + len' < cnt by omega) h4 (show (33 : Nat) < 52 by decide) hk3, step_ok (show p + l.length + l'.length < 400 by omega) (show (31 : Nat) < 52 by decide), sb, nJ_of, nJ_lt, nJ_le, nJ_eq, nJ_clamp, nJ_add, nJ_sub, if_pos, if_neg, if_true, if_false, nL_0, nL_1, nL_2, nL_3, nL_4, nL_5, nL_6, nL_7, nL_8, nL_9, nL_10, nL_11, nL_12, nL_13, nL_14, nL_15, nL_16, nL_17, nL_18, nL_19, nL_20, nL_21, nL_22, nL_23, nL_24, nL_25, nL_26, nL_27, nL_28, nL_29, nL_30, nL_31, nL_32, nL_33, nL_34, nL_35, nL_36, nL_37, nL_38, nL_39, nL_40, nL_41, nL_42, nL_43, nL_44, nL_45, nL_46, nL_47, nL_48, nL_49, nL_50, nL_51, nL_52, nL_53, nL_54, nL_55, nL_56, nL_57, nL_58, nL_59, nL_60, nL_61, nL_62, nL_63, nL_64, nL_65, nL_66, nL_67, nL_68, nL_69, nL_70, nL_400, nL_402, nL_800, nL_2000]
end
