/-! what tests come to, alike -/
section P10
variable {F : bX2} {G : bX4} {T : bX13} {nf ng : Nat} {fo fr hr gr : Nat → Nat} {N : Nat → Int32} {h n : Nat} {th bs ea tk wr er et dp : Int32} {ta kd nu po ln fn gn va kp : Nat → Int32}
variable {ho wa sr ch lm sa co sm : Int32} {fs gs gt : Nat → Int32} {K : Nat → Nat} {V S L R : Nat → Int32}
theorem sem_I (hp : RPl F G T nf ng fo fr hr gr) (ht : RPt nf ng fr hr gr (ho, wa, sr, ch, lm, sa, co, sm, fs, gs, gt) N h) {i : Nat} (hl : lfI K V S L nf i) : Sem K V S L R (ho, wa, sr, ch, lm, sa, co, sm, fs, gs, gt) F G (th, ta, bs, ea, kd, nu, po, ln, tk, wr, er, et, dp, fn, gn, va, N, kp) T 0 i (i + 1) := by
  rcases hl with ⟨a, b, c⟩ | ⟨a, b⟩ | ⟨w, hw, a, b⟩ | ⟨a, b, f, hf, c, d⟩
  · refine sem_leaf (V i) (fun k stk hk => ?_) (fun va hi => ?_) (fun q => by omega)
    · unfold f_X9_step
      simp (disch := omega) only [true_or, or_true, a, sm_48, k_push, sb, nJ_of, nJ_lt, nJ_le, nJ_eq, nJ_clamp, nJ_add, nJ_sub, if_pos, if_neg, if_true, if_false, nL_0, nL_1, nL_2, nL_3, nL_4, nL_5, nL_6, nL_7, nL_8, nL_9, nL_10, nL_11, nL_12, nL_13, nL_14, nL_15, nL_16, nL_17, nL_18, nL_19, nL_20, nL_21, nL_22, nL_23, nL_24, nL_25, nL_26, nL_27, nL_28, nL_29, nL_30, nL_31, nL_32, nL_33, nL_34, nL_35, nL_36, nL_37, nL_38, nL_39, nL_40, nL_41, nL_42, nL_43, nL_44, nL_45, nL_46, nL_47, nL_48, nL_49, nL_50, nL_51, nL_52, nL_53, nL_54, nL_55, nL_56, nL_57, nL_58, nL_59, nL_60, nL_61, nL_62, nL_63, nL_64, nL_65, nL_66, nL_67, nL_68, nL_69, nL_70, nL_400, nL_402, nL_800, nL_2000]
    · unfold stpM f_X14_reckon
      simp (disch := omega) only [true_or, or_true, b, k_isIn, c, sb, nJ_of, nJ_lt, nJ_le, nJ_eq, nJ_clamp, nJ_add, nJ_sub, if_pos, if_neg, if_true, if_false, nL_0, nL_1, nL_2, nL_3, nL_4, nL_5, nL_6, nL_7, nL_8, nL_9, nL_10, nL_11, nL_12, nL_13, nL_14, nL_15, nL_16, nL_17, nL_18, nL_19, nL_20, nL_21, nL_22, nL_23, nL_24, nL_25, nL_26, nL_27, nL_28, nL_29, nL_30, nL_31, nL_32, nL_33, nL_34, nL_35, nL_36, nL_37, nL_38, nL_39, nL_40, nL_41, nL_42, nL_43, nL_44, nL_45, nL_46, nL_47, nL_48, nL_49, nL_50, nL_51, nL_52, nL_53, nL_54, nL_55, nL_56, nL_57, nL_58, nL_59, nL_60, nL_61, nL_62, nL_63, nL_64, nL_65, nL_66, nL_67, nL_68, nL_69, nL_70, nL_400, nL_402, nL_800, nL_2000]
  · refine sem_leaf (N 6) (fun k stk hk => ?_) (fun va hi => ?_) (fun q => by omega)
    · have e : N 6 = sm := ht.2.2.2.2.2.2.2.1
      unfold f_X9_step f_X8_standsFor
      simp (disch := omega) only [true_or, or_true, a, sm_22, k_push, X8_storms, e, sb, nJ_of, nJ_lt, nJ_le, nJ_eq, nJ_clamp, nJ_add, nJ_sub, if_pos, if_neg, if_true, if_false, nL_0, nL_1, nL_2, nL_3, nL_4, nL_5, nL_6, nL_7, nL_8, nL_9, nL_10, nL_11, nL_12, nL_13, nL_14, nL_15, nL_16, nL_17, nL_18, nL_19, nL_20, nL_21, nL_22, nL_23, nL_24, nL_25, nL_26, nL_27, nL_28, nL_29, nL_30, nL_31, nL_32, nL_33, nL_34, nL_35, nL_36, nL_37, nL_38, nL_39, nL_40, nL_41, nL_42, nL_43, nL_44, nL_45, nL_46, nL_47, nL_48, nL_49, nL_50, nL_51, nL_52, nL_53, nL_54, nL_55, nL_56, nL_57, nL_58, nL_59, nL_60, nL_61, nL_62, nL_63, nL_64, nL_65, nL_66, nL_67, nL_68, nL_69, nL_70, nL_400, nL_402, nL_800, nL_2000]
    · unfold stpM f_X14_reckon
      simp (disch := omega) only [true_or, or_true, b, k_isIn, X14_now, sb, nJ_of, nJ_lt, nJ_le, nJ_eq, nJ_clamp, nJ_add, nJ_sub, if_pos, if_neg, if_true, if_false, nL_0, nL_1, nL_2, nL_3, nL_4, nL_5, nL_6, nL_7, nL_8, nL_9, nL_10, nL_11, nL_12, nL_13, nL_14, nL_15, nL_16, nL_17, nL_18, nL_19, nL_20, nL_21, nL_22, nL_23, nL_24, nL_25, nL_26, nL_27, nL_28, nL_29, nL_30, nL_31, nL_32, nL_33, nL_34, nL_35, nL_36, nL_37, nL_38, nL_39, nL_40, nL_41, nL_42, nL_43, nL_44, nL_45, nL_46, nL_47, nL_48, nL_49, nL_50, nL_51, nL_52, nL_53, nL_54, nL_55, nL_56, nL_57, nL_58, nL_59, nL_60, nL_61, nL_62, nL_63, nL_64, nL_65, nL_66, nL_67, nL_68, nL_69, nL_70, nL_400, nL_402, nL_800, nL_2000]
  · have e0 : N 0 = ho := ht.2.1.trans ht.1.symm
    have e1 : N 1 = wa := by obtain ⟨-, -, ⟨x, -, y, z⟩, -⟩ := ht; exact z.trans y.symm
    have e2 : N 2 = sr := by obtain ⟨-, -, -, ⟨x, -, y, z⟩, -⟩ := ht; exact z.trans y.symm
    have e3 : N 3 = ch := by obtain ⟨-, -, -, -, ⟨x, -, y, z⟩, -⟩ := ht; exact z.trans y.symm
    have e4 : N 4 = lm := by obtain ⟨-, -, -, -, -, ⟨x, -, y, z⟩, -⟩ := ht; exact z.trans y.symm
    have e5 : N 5 = sa := by obtain ⟨-, -, -, -, -, -, ⟨x, -, y, z⟩, -⟩ := ht; exact z.trans y.symm
    refine sem_leaf (N w) (fun k stk hk => ?_) (fun va hi => ?_) (fun q => by omega)
    · have hw' : w = 0 ∨ w = 1 ∨ w = 2 ∨ w = 3 ∨ w = 4 ∨ w = 5 := by omega
      unfold f_X9_step f_X8_standsFor
      rw [a]
      rcases hw' with rfl | rfl | rfl | rfl | rfl | rfl
      · simp (disch := omega) only [true_or, or_true, sm_16, k_push, X8_hour, e0, Nat.add_zero, sb, nJ_of, nJ_lt, nJ_le, nJ_eq, nJ_clamp, nJ_add, nJ_sub, if_pos, if_neg, if_true, if_false, nL_0, nL_1, nL_2, nL_3, nL_4, nL_5, nL_6, nL_7, nL_8, nL_9, nL_10, nL_11, nL_12, nL_13, nL_14, nL_15, nL_16, nL_17, nL_18, nL_19, nL_20, nL_21, nL_22, nL_23, nL_24, nL_25, nL_26, nL_27, nL_28, nL_29, nL_30, nL_31, nL_32, nL_33, nL_34, nL_35, nL_36, nL_37, nL_38, nL_39, nL_40, nL_41, nL_42, nL_43, nL_44, nL_45, nL_46, nL_47, nL_48, nL_49, nL_50, nL_51, nL_52, nL_53, nL_54, nL_55, nL_56, nL_57, nL_58, nL_59, nL_60, nL_61, nL_62, nL_63, nL_64, nL_65, nL_66, nL_67, nL_68, nL_69, nL_70, nL_400, nL_402, nL_800, nL_2000]
      · rw [show 16 + 1 = 17 from rfl]
        simp (disch := omega) only [true_or, or_true, sm_17, k_push, X8_warmth, e1, sb, nJ_of, nJ_lt, nJ_le, nJ_eq, nJ_clamp, nJ_add, nJ_sub, if_pos, if_neg, if_true, if_false, nL_0, nL_1, nL_2, nL_3, nL_4, nL_5, nL_6, nL_7, nL_8, nL_9, nL_10, nL_11, nL_12, nL_13, nL_14, nL_15, nL_16, nL_17, nL_18, nL_19, nL_20, nL_21, nL_22, nL_23, nL_24, nL_25, nL_26, nL_27, nL_28, nL_29, nL_30, nL_31, nL_32, nL_33, nL_34, nL_35, nL_36, nL_37, nL_38, nL_39, nL_40, nL_41, nL_42, nL_43, nL_44, nL_45, nL_46, nL_47, nL_48, nL_49, nL_50, nL_51, nL_52, nL_53, nL_54, nL_55, nL_56, nL_57, nL_58, nL_59, nL_60, nL_61, nL_62, nL_63, nL_64, nL_65, nL_66, nL_67, nL_68, nL_69, nL_70, nL_400, nL_402, nL_800, nL_2000]
      · rw [show 16 + 2 = 18 from rfl]
        simp (disch := omega) only [true_or, or_true, sm_18, k_push, X8_strength, e2, sb, nJ_of, nJ_lt, nJ_le, nJ_eq, nJ_clamp, nJ_add, nJ_sub, if_pos, if_neg, if_true, if_false, nL_0, nL_1, nL_2, nL_3, nL_4, nL_5, nL_6, nL_7, nL_8, nL_9, nL_10, nL_11, nL_12, nL_13, nL_14, nL_15, nL_16, nL_17, nL_18, nL_19, nL_20, nL_21, nL_22, nL_23, nL_24, nL_25, nL_26, nL_27, nL_28, nL_29, nL_30, nL_31, nL_32, nL_33, nL_34, nL_35, nL_36, nL_37, nL_38, nL_39, nL_40, nL_41, nL_42, nL_43, nL_44, nL_45, nL_46, nL_47, nL_48, nL_49, nL_50, nL_51, nL_52, nL_53, nL_54, nL_55, nL_56, nL_57, nL_58, nL_59, nL_60, nL_61, nL_62, nL_63, nL_64, nL_65, nL_66, nL_67, nL_68, nL_69, nL_70, nL_400, nL_402, nL_800, nL_2000]
      · rw [show 16 + 3 = 19 from rfl]
        simp (disch := omega) only [true_or, or_true, sm_19, k_push, X8_charge, e3, sb, nJ_of, nJ_lt, nJ_le, nJ_eq, nJ_clamp, nJ_add, nJ_sub, if_pos, if_neg, if_true, if_false, nL_0, nL_1, nL_2, nL_3, nL_4, nL_5, nL_6, nL_7, nL_8, nL_9, nL_10, nL_11, nL_12, nL_13, nL_14, nL_15, nL_16, nL_17, nL_18, nL_19, nL_20, nL_21, nL_22, nL_23, nL_24, nL_25, nL_26, nL_27, nL_28, nL_29, nL_30, nL_31, nL_32, nL_33, nL_34, nL_35, nL_36, nL_37, nL_38, nL_39, nL_40, nL_41, nL_42, nL_43, nL_44, nL_45, nL_46, nL_47, nL_48, nL_49, nL_50, nL_51, nL_52, nL_53, nL_54, nL_55, nL_56, nL_57, nL_58, nL_59, nL_60, nL_61, nL_62, nL_63, nL_64, nL_65, nL_66, nL_67, nL_68, nL_69, nL_70, nL_400, nL_402, nL_800, nL_2000]
      · rw [show 16 + 4 = 20 from rfl]
        simp (disch := omega) only [true_or, or_true, sm_20, k_push, X8_lemons, e4, sb, nJ_of, nJ_lt, nJ_le, nJ_eq, nJ_clamp, nJ_add, nJ_sub, if_pos, if_neg, if_true, if_false, nL_0, nL_1, nL_2, nL_3, nL_4, nL_5, nL_6, nL_7, nL_8, nL_9, nL_10, nL_11, nL_12, nL_13, nL_14, nL_15, nL_16, nL_17, nL_18, nL_19, nL_20, nL_21, nL_22, nL_23, nL_24, nL_25, nL_26, nL_27, nL_28, nL_29, nL_30, nL_31, nL_32, nL_33, nL_34, nL_35, nL_36, nL_37, nL_38, nL_39, nL_40, nL_41, nL_42, nL_43, nL_44, nL_45, nL_46, nL_47, nL_48, nL_49, nL_50, nL_51, nL_52, nL_53, nL_54, nL_55, nL_56, nL_57, nL_58, nL_59, nL_60, nL_61, nL_62, nL_63, nL_64, nL_65, nL_66, nL_67, nL_68, nL_69, nL_70, nL_400, nL_402, nL_800, nL_2000]
      · rw [show 16 + 5 = 21 from rfl]
        simp (disch := omega) only [true_or, or_true, sm_21, k_push, X8_saucers, e5, sb, nJ_of, nJ_lt, nJ_le, nJ_eq, nJ_clamp, nJ_add, nJ_sub, if_pos, if_neg, if_true, if_false, nL_0, nL_1, nL_2, nL_3, nL_4, nL_5, nL_6, nL_7, nL_8, nL_9, nL_10, nL_11, nL_12, nL_13, nL_14, nL_15, nL_16, nL_17, nL_18, nL_19, nL_20, nL_21, nL_22, nL_23, nL_24, nL_25, nL_26, nL_27, nL_28, nL_29, nL_30, nL_31, nL_32, nL_33, nL_34, nL_35, nL_36, nL_37, nL_38, nL_39, nL_40, nL_41, nL_42, nL_43, nL_44, nL_45, nL_46, nL_47, nL_48, nL_49, nL_50, nL_51, nL_52, nL_53, nL_54, nL_55, nL_56, nL_57, nL_58, nL_59, nL_60, nL_61, nL_62, nL_63, nL_64, nL_65, nL_66, nL_67, nL_68, nL_69, nL_70, nL_400, nL_402, nL_800, nL_2000]
    · unfold stpM f_X14_reckon
      simp (disch := omega) only [true_or, or_true, b, k_isIn, X14_now, Nat.add_sub_cancel_left, Nat.zero_add, sb, nJ_of, nJ_lt, nJ_le, nJ_eq, nJ_clamp, nJ_add, nJ_sub, if_pos, if_neg, if_true, if_false, nL_0, nL_1, nL_2, nL_3, nL_4, nL_5, nL_6, nL_7, nL_8, nL_9, nL_10, nL_11, nL_12, nL_13, nL_14, nL_15, nL_16, nL_17, nL_18, nL_19, nL_20, nL_21, nL_22, nL_23, nL_24, nL_25, nL_26, nL_27, nL_28, nL_29, nL_30, nL_31, nL_32, nL_33, nL_34, nL_35, nL_36, nL_37, nL_38, nL_39, nL_40, nL_41, nL_42, nL_43, nL_44, nL_45, nL_46, nL_47, nL_48, nL_49, nL_50, nL_51, nL_52, nL_53, nL_54, nL_55, nL_56, nL_57, nL_58, nL_59, nL_60, nL_61, nL_62, nL_63, nL_64, nL_65, nL_66, nL_67, nL_68, nL_69, nL_70, nL_400, nL_402, nL_800, nL_2000]
  · have q := hp_fo hp hf
    have p1 := hp.1
    have p3 := hp.2.2.1
    refine sem_leaf (nI (fo f)) (fun k stk hk => ?_) (fun va hi => ?_) (fun q => by omega)
    · unfold f_X9_step f_X8_standsFor
      simp (disch := omega) only [true_or, or_true, a, c, sm_6, k_push, k_fhas p3 p1 hf, q.1, sb, nJ_of, nJ_lt, nJ_le, nJ_eq, nJ_clamp, nJ_add, nJ_sub, if_pos, if_neg, if_true, if_false, nL_0, nL_1, nL_2, nL_3, nL_4, nL_5, nL_6, nL_7, nL_8, nL_9, nL_10, nL_11, nL_12, nL_13, nL_14, nL_15, nL_16, nL_17, nL_18, nL_19, nL_20, nL_21, nL_22, nL_23, nL_24, nL_25, nL_26, nL_27, nL_28, nL_29, nL_30, nL_31, nL_32, nL_33, nL_34, nL_35, nL_36, nL_37, nL_38, nL_39, nL_40, nL_41, nL_42, nL_43, nL_44, nL_45, nL_46, nL_47, nL_48, nL_49, nL_50, nL_51, nL_52, nL_53, nL_54, nL_55, nL_56, nL_57, nL_58, nL_59, nL_60, nL_61, nL_62, nL_63, nL_64, nL_65, nL_66, nL_67, nL_68, nL_69, nL_70, nL_400, nL_402, nL_800, nL_2000]
    · unfold stpM f_X14_reckon
      simp (disch := omega) only [true_or, or_true, b, d, k_isIn, q.2.1, sb, nJ_of, nJ_lt, nJ_le, nJ_eq, nJ_clamp, nJ_add, nJ_sub, if_pos, if_neg, if_true, if_false, nL_0, nL_1, nL_2, nL_3, nL_4, nL_5, nL_6, nL_7, nL_8, nL_9, nL_10, nL_11, nL_12, nL_13, nL_14, nL_15, nL_16, nL_17, nL_18, nL_19, nL_20, nL_21, nL_22, nL_23, nL_24, nL_25, nL_26, nL_27, nL_28, nL_29, nL_30, nL_31, nL_32, nL_33, nL_34, nL_35, nL_36, nL_37, nL_38, nL_39, nL_40, nL_41, nL_42, nL_43, nL_44, nL_45, nL_46, nL_47, nL_48, nL_49, nL_50, nL_51, nL_52, nL_53, nL_54, nL_55, nL_56, nL_57, nL_58, nL_59, nL_60, nL_61, nL_62, nL_63, nL_64, nL_65, nL_66, nL_67, nL_68, nL_69, nL_70, nL_400, nL_402, nL_800, nL_2000]
theorem sem_B (hp : RPl F G T nf ng fo fr hr gr) (ht : RPt nf ng fr hr gr (ho, wa, sr, ch, lm, sa, co, sm, fs, gs, gt) N h) (hh : h < 1000000) {i : Nat} (hl : lfB K V S L nf ng i) : Sem K V S L R (ho, wa, sr, ch, lm, sa, co, sm, fs, gs, gt) F G (th, ta, bs, ea, kd, nu, po, ln, tk, wr, er, et, dp, fn, gn, va, N, kp) T 1 i (i + 1) := by
  have p1 := hp.1
  have p2 := hp.2.1
  rcases hl with ⟨a, b, f, hf, c, d⟩ | ⟨a, b, g, hg, c, d⟩ | ⟨a, b, g, hg, c, d⟩
  · obtain ⟨t, t1, t2⟩ := ht_bit ht hf
    refine sem_leaf (nI t) (fun k stk hk => ?_) (fun va hi => ?_) (fun _ => ?_)
    · unfold f_X9_step f_X8_standsFor
      simp (disch := omega) only [true_or, or_true, a, c, sm_24, k_push, k_over hp ht hh hf, t2, k_one t1, sb, nJ_of, nJ_lt, nJ_le, nJ_eq, nJ_clamp, nJ_add, nJ_sub, if_pos, if_neg, if_true, if_false, nL_0, nL_1, nL_2, nL_3, nL_4, nL_5, nL_6, nL_7, nL_8, nL_9, nL_10, nL_11, nL_12, nL_13, nL_14, nL_15, nL_16, nL_17, nL_18, nL_19, nL_20, nL_21, nL_22, nL_23, nL_24, nL_25, nL_26, nL_27, nL_28, nL_29, nL_30, nL_31, nL_32, nL_33, nL_34, nL_35, nL_36, nL_37, nL_38, nL_39, nL_40, nL_41, nL_42, nL_43, nL_44, nL_45, nL_46, nL_47, nL_48, nL_49, nL_50, nL_51, nL_52, nL_53, nL_54, nL_55, nL_56, nL_57, nL_58, nL_59, nL_60, nL_61, nL_62, nL_63, nL_64, nL_65, nL_66, nL_67, nL_68, nL_69, nL_70, nL_400, nL_402, nL_800, nL_2000]
    · unfold stpM f_X14_reckon
      simp (disch := omega) only [true_or, or_true, b, d, k_isIn, X14_now, t2, sb, nJ_of, nJ_lt, nJ_le, nJ_eq, nJ_clamp, nJ_add, nJ_sub, if_pos, if_neg, if_true, if_false, nL_0, nL_1, nL_2, nL_3, nL_4, nL_5, nL_6, nL_7, nL_8, nL_9, nL_10, nL_11, nL_12, nL_13, nL_14, nL_15, nL_16, nL_17, nL_18, nL_19, nL_20, nL_21, nL_22, nL_23, nL_24, nL_25, nL_26, nL_27, nL_28, nL_29, nL_30, nL_31, nL_32, nL_33, nL_34, nL_35, nL_36, nL_37, nL_38, nL_39, nL_40, nL_41, nL_42, nL_43, nL_44, nL_45, nL_46, nL_47, nL_48, nL_49, nL_50, nL_51, nL_52, nL_53, nL_54, nL_55, nL_56, nL_57, nL_58, nL_59, nL_60, nL_61, nL_62, nL_63, nL_64, nL_65, nL_66, nL_67, nL_68, nL_69, nL_70, nL_400, nL_402, nL_800, nL_2000]
    · rcases (by omega : t = 0 ∨ t = 1) with rfl | rfl
      · exact Or.inl rfl
      · exact Or.inr rfl
  · obtain ⟨t, t1, t2⟩ := ht_bitg ht hg
    refine sem_leaf (nI t) (fun k stk hk => ?_) (fun va hi => ?_) (fun _ => ?_)
    · unfold f_X9_step f_X8_standsFor
      simp (disch := omega) only [true_or, or_true, a, c, sm_23, k_push, k_sits hp ht hh hg, t2, k_one t1, sb, nJ_of, nJ_lt, nJ_le, nJ_eq, nJ_clamp, nJ_add, nJ_sub, if_pos, if_neg, if_true, if_false, nL_0, nL_1, nL_2, nL_3, nL_4, nL_5, nL_6, nL_7, nL_8, nL_9, nL_10, nL_11, nL_12, nL_13, nL_14, nL_15, nL_16, nL_17, nL_18, nL_19, nL_20, nL_21, nL_22, nL_23, nL_24, nL_25, nL_26, nL_27, nL_28, nL_29, nL_30, nL_31, nL_32, nL_33, nL_34, nL_35, nL_36, nL_37, nL_38, nL_39, nL_40, nL_41, nL_42, nL_43, nL_44, nL_45, nL_46, nL_47, nL_48, nL_49, nL_50, nL_51, nL_52, nL_53, nL_54, nL_55, nL_56, nL_57, nL_58, nL_59, nL_60, nL_61, nL_62, nL_63, nL_64, nL_65, nL_66, nL_67, nL_68, nL_69, nL_70, nL_400, nL_402, nL_800, nL_2000]
    · unfold stpM f_X14_reckon
      simp (disch := omega) only [true_or, or_true, b, d, k_isIn, X14_now, t2, sb, nJ_of, nJ_lt, nJ_le, nJ_eq, nJ_clamp, nJ_add, nJ_sub, if_pos, if_neg, if_true, if_false, nL_0, nL_1, nL_2, nL_3, nL_4, nL_5, nL_6, nL_7, nL_8, nL_9, nL_10, nL_11, nL_12, nL_13, nL_14, nL_15, nL_16, nL_17, nL_18, nL_19, nL_20, nL_21, nL_22, nL_23, nL_24, nL_25, nL_26, nL_27, nL_28, nL_29, nL_30, nL_31, nL_32, nL_33, nL_34, nL_35, nL_36, nL_37, nL_38, nL_39, nL_40, nL_41, nL_42, nL_43, nL_44, nL_45, nL_46, nL_47, nL_48, nL_49, nL_50, nL_51, nL_52, nL_53, nL_54, nL_55, nL_56, nL_57, nL_58, nL_59, nL_60, nL_61, nL_62, nL_63, nL_64, nL_65, nL_66, nL_67, nL_68, nL_69, nL_70, nL_400, nL_402, nL_800, nL_2000]
    · rcases (by omega : t = 0 ∨ t = 1) with rfl | rfl
      · exact Or.inl rfl
      · exact Or.inr rfl
  · have hl := lkN_le (N := N) (T := T) (N 2) g
    have e2 : sr = N 2 := by obtain ⟨-, -, -, ⟨x, -, y, z⟩, -⟩ := ht; exact Eq.trans y z.symm
    refine sem_leaf (nI (lkN N T (N 2) g)) (fun k stk hk => ?_) (fun va hi => ?_) (fun _ => ?_)
    · have kl := k_likes hp ht hh hg sr
      rw [e2] at kl
      unfold f_X9_step f_X8_standsFor
      simp (disch := omega) only [true_or, or_true, a, c, sm_25, k_push, X8_strength, e2, kl, k_one hl, sb, nJ_of, nJ_lt, nJ_le, nJ_eq, nJ_clamp, nJ_add, nJ_sub, if_pos, if_neg, if_true, if_false, nL_0, nL_1, nL_2, nL_3, nL_4, nL_5, nL_6, nL_7, nL_8, nL_9, nL_10, nL_11, nL_12, nL_13, nL_14, nL_15, nL_16, nL_17, nL_18, nL_19, nL_20, nL_21, nL_22, nL_23, nL_24, nL_25, nL_26, nL_27, nL_28, nL_29, nL_30, nL_31, nL_32, nL_33, nL_34, nL_35, nL_36, nL_37, nL_38, nL_39, nL_40, nL_41, nL_42, nL_43, nL_44, nL_45, nL_46, nL_47, nL_48, nL_49, nL_50, nL_51, nL_52, nL_53, nL_54, nL_55, nL_56, nL_57, nL_58, nL_59, nL_60, nL_61, nL_62, nL_63, nL_64, nL_65, nL_66, nL_67, nL_68, nL_69, nL_70, nL_400, nL_402, nL_800, nL_2000]
    · have km := k_likesM (th := th) (ta := ta) (bs := bs) (ea := ea) (kd := kd) (nu := nu) (po := po) (ln := ln) (tk := tk) (wr := wr) (er := er) (et := et) (dp := dp) (fn := fn) (gn := gn) (va := va) (kp := kp) hp hg (ht_bitg ht hg) (ht_warm ht)
      unfold stpM f_X14_reckon
      rcases (by omega : lkN N T (N 2) g = 0 ∨ lkN N T (N 2) g = 1) with e | e
      · rw [e] at km ⊢
        simp (disch := omega) only [true_or, or_true, b, d, k_isIn, X14_thrown, X14_tape, X14_bytes, X14_errorAt, X14_kind, X14_number, X14_position, X14_length, X14_token, X14_isWrong, X14_error, X14_errorToken, X14_deep, X14_frontName, X14_guestName, X14_now, X14_kept, km, sb, nJ_of, nJ_lt, nJ_le, nJ_eq, nJ_clamp, nJ_add, nJ_sub, if_pos, if_neg, if_true, if_false, nL_0, nL_1, nL_2, nL_3, nL_4, nL_5, nL_6, nL_7, nL_8, nL_9, nL_10, nL_11, nL_12, nL_13, nL_14, nL_15, nL_16, nL_17, nL_18, nL_19, nL_20, nL_21, nL_22, nL_23, nL_24, nL_25, nL_26, nL_27, nL_28, nL_29, nL_30, nL_31, nL_32, nL_33, nL_34, nL_35, nL_36, nL_37, nL_38, nL_39, nL_40, nL_41, nL_42, nL_43, nL_44, nL_45, nL_46, nL_47, nL_48, nL_49, nL_50, nL_51, nL_52, nL_53, nL_54, nL_55, nL_56, nL_57, nL_58, nL_59, nL_60, nL_61, nL_62, nL_63, nL_64, nL_65, nL_66, nL_67, nL_68, nL_69, nL_70, nL_400, nL_402, nL_800, nL_2000]
      · rw [e] at km ⊢
        simp (disch := omega) only [true_or, or_true, b, d, k_isIn, X14_thrown, X14_tape, X14_bytes, X14_errorAt, X14_kind, X14_number, X14_position, X14_length, X14_token, X14_isWrong, X14_error, X14_errorToken, X14_deep, X14_frontName, X14_guestName, X14_now, X14_kept, km, sb, nJ_of, nJ_lt, nJ_le, nJ_eq, nJ_clamp, nJ_add, nJ_sub, if_pos, if_neg, if_true, if_false, nL_0, nL_1, nL_2, nL_3, nL_4, nL_5, nL_6, nL_7, nL_8, nL_9, nL_10, nL_11, nL_12, nL_13, nL_14, nL_15, nL_16, nL_17, nL_18, nL_19, nL_20, nL_21, nL_22, nL_23, nL_24, nL_25, nL_26, nL_27, nL_28, nL_29, nL_30, nL_31, nL_32, nL_33, nL_34, nL_35, nL_36, nL_37, nL_38, nL_39, nL_40, nL_41, nL_42, nL_43, nL_44, nL_45, nL_46, nL_47, nL_48, nL_49, nL_50, nL_51, nL_52, nL_53, nL_54, nL_55, nL_56, nL_57, nL_58, nL_59, nL_60, nL_61, nL_62, nL_63, nL_64, nL_65, nL_66, nL_67, nL_68, nL_69, nL_70, nL_400, nL_402, nL_800, nL_2000]
    · rcases (by omega : lkN N T (N 2) g = 0 ∨ lkN N T (N 2) g = 1) with e | e
      · rw [e]
        exact Or.inl rfl
      · rw [e]
        exact Or.inr rfl
/-- behind one value -/
theorem sem_un {P : bX8} {B : bX14} {ty ty' a m : Nat} (g : Sem K V S L R P F G B T ty a m) (op : Int32 → Int32) (hC : ∀ (k : Nat) (stk : Nat → Int32), k < 400 → f_X9_step (K m) (V m) (stk, nI (k + 1)) P F G = some (upd stk k (op (stk k)), nI (k + 1))) (hM : ∀ va : Nat → Int32, (ty = 1 → va (m - 1) = nI 0 ∨ va (m - 1) = nI 1) → 0 < m → m < 400 → stpM S L R B T m va = some (upd va m (op (va (m - 1))))) (hv : ∀ v, (ty = 1 → v = nI 0 ∨ v = nI 1) → ty' = 1 → op v = nI 0 ∨ op v = nI 1) (hC' : ∀ v, (ty = 1 → v = nI 0 ∨ v = nI 1) → True) : Sem K V S L R P F G B T ty' a (m + 1) := by
  obtain ⟨g1, g2⟩ := g
  refine ⟨by omega, fun he k stk va hk => ?_⟩
  obtain ⟨stk', va', v, e1, e2, e3, e4, e5, e6, e7⟩ := g2 (by omega) k stk va (by omega)
  have el : m + 1 - a = (m - a) + 1 := by omega
  have em : a + (m - a) = m := by omega
  refine ⟨upd stk' k (op v), upd va' m (op v), op v, ?_, ?_, upd_same _ _ _, fun j hj => by rw [upd_else _ _ (by omega)]; exact e4 j hj, ?_, fun j hj => by rw [upd_else _ _ (by omega)]; exact e6 j (by omega), hv v e7⟩
  · rw [el, foldO_s e1, em]
    have := hC k stk' (by omega)
    rw [e3] at this
    exact this
  · rw [el, foldO_s e2, em]
    have := hM va' (by rw [e5]; exact e7) (by omega) (by omega)
    rw [e5] at this
    exact this
  · rw [Nat.add_sub_cancel]
    exact upd_same _ _ _
/-- behind two values -/
theorem sem_bi {P : bX8} {B : bX14} {t1 ty a m b : Nat} (g : Sem K V S L R P F G B T t1 a m) (g' : Sem K V S L R P F G B T t1 m b) (op : Int32 → Int32 → Int32) (hC : ∀ (k : Nat) (stk : Nat → Int32), k + 1 < 400 → f_X9_step (K b) (V b) (stk, nI (k + 1 + 1)) P F G = some (upd stk k (op (stk k) (stk (k + 1))), nI (k + 1))) (hM : ∀ va : Nat → Int32, 0 < m → m < b → b < 400 → stpM S L R B T b va = some (upd va b (op (va (m - 1)) (va (b - 1))))) (hv : ∀ v w, (t1 = 1 → v = nI 0 ∨ v = nI 1) → (t1 = 1 → w = nI 0 ∨ w = nI 1) → ty = 1 → op v w = nI 0 ∨ op v w = nI 1) : Sem K V S L R P F G B T ty a (b + 1) := by
  obtain ⟨g1, g2⟩ := g
  obtain ⟨g3, g4⟩ := g'
  refine ⟨by omega, fun he k stk va hk => ?_⟩
  obtain ⟨stk', va', v, e1, e2, e3, e4, e5, e6, e7⟩ := g2 (by omega) k stk va (by omega)
  obtain ⟨stk2, va2, w, f1, f2, f3, f4, f5, f6, f7⟩ := g4 (by omega) (k + 1) stk' va' (by omega)
  have el : b + 1 - a = (m - a) + ((b - m) + 1) := by omega
  have em : a + (m - a) = m := by omega
  have eb : m + (b - m) = b := by omega
  have h0 : stk2 k = v := by rw [f4 k (by omega)]; exact e3
  have h1 : va2 (m - 1) = v := by rw [f6 _ (by omega)]; exact e5
  refine ⟨upd stk2 k (op v w), upd va2 b (op v w), op v w, ?_, ?_, upd_same _ _ _, fun j hj => by rw [upd_else _ _ (by omega), f4 j (by omega)]; exact e4 j hj, ?_, fun j hj => by rw [upd_else _ _ (by omega), f6 j (by omega)]; exact e6 j (by omega), hv v w e7 f7⟩
  · rw [el, foldO_app e1, em, foldO_s f1, eb]
    have := hC k stk2 (by omega)
    rw [h0, f3] at this
    exact this
  · rw [el, foldO_app e2, em, foldO_s f2, eb]
    have := hM va2 (by omega) (by omega) (by omega)
    rw [h1, f5] at this
    exact this
  · rw [Nat.add_sub_cancel]
    exact upd_same _ _ _
end P10
