/-! who comes and who goes -/
section P8
variable {F : bX2} {G : bX4} {T : bX13} {nf ng : Nat} {fo fr hr gr : Nat → Nat} {N : Nat → Int32} {h n : Nat} {th bs ea tk wr er et dp : Int32} {ta kd nu po ln fn gn va kp : Nat → Int32}
variable {ho wa sr ch lm sa co sm : Int32} {fs gs gt : Nat → Int32}
def cmF (T : bX13) (x : Int32) (f : Nat) : Bool := decide (X13_comes T f = x)
def cmG (T : bX13) (x : Int32) (g : Nat) : Bool := decide (X13_sits T g = x)
def gnF (T : bX13) (x : Int32) (f : Nat) : Bool := decide (x = X13_comes T f + X13_stays T f)
def gnG (T : bX13) (x : Int32) (g : Nat) : Bool := decide (x = X13_sits T g + nI 8)
def comeN (T : bX13) (nf ng : Nat) (N : Nat → Int32) : Nat → Int32 := fillN (cmG T (N 0)) 28 (nI 1) (fillN (cmF T (N 0)) 8 (nI 1) N nf) ng
theorem k_come (p1 : nf ≤ 10) (p2 : ng ≤ 10) (p4 : X13_fronts T = nI nf) (p6 : X13_guests T = nI ng) (hn : 20 < n) : f_X14_come n (th, ta, bs, ea, kd, nu, po, ln, tk, wr, er, et, dp, fn, gn, va, N, kp) T = some (comeN T nf ng N) := by
  have k2 : ∀ M : Nat → Int32, M 0 = N 0 → iter (fun s : Int32 × (Nat → Int32) => f_X14_come_L49 n (th, ta, bs, ea, kd, nu, po, ln, tk, wr, er, et, dp, fn, gn, va, N, kp) T s.1 s.2) n (nI 0, M) = some (fillN (cmG T (N 0)) 28 (nI 1) M ng) := fun M hM => by
    refine iter_count _ (fun i => (nI i, fillN (cmG T (N 0)) 28 (nI 1) M i)) ng _ (fun i hi => ?_) ?_ (by omega)
    · show f_X14_come_L49 n (th, ta, bs, ea, kd, nu, po, ln, tk, wr, er, et, dp, fn, gn, va, N, kp) T (nI i) (fillN (cmG T (N 0)) 28 (nI 1) M i) = _
      have e0 := fillN_out (c := cmG T (N 0)) (b := 28) (v := nI 1) (N := M) (j := 0) (i := i) (by omega)
      rw [hM] at e0
      unfold f_X14_come_L49
      by_cases c : X13_sits T i = N 0
      · have e : cmG T (N 0) i = true := decide_eq_true c
        rw [fillN_t e]
        simp (disch := omega) only [p6, e0, if_pos c, sb, nJ_of, nJ_lt, nJ_le, nJ_eq, nJ_clamp, nJ_add, nJ_sub, if_pos, if_neg, if_true, if_false, nL_0, nL_1, nL_2, nL_3, nL_4, nL_5, nL_6, nL_7, nL_8, nL_9, nL_10, nL_11, nL_12, nL_13, nL_14, nL_15, nL_16, nL_17, nL_18, nL_19, nL_20, nL_21, nL_22, nL_23, nL_24, nL_25, nL_26, nL_27, nL_28, nL_29, nL_30, nL_31, nL_32, nL_33, nL_34, nL_35, nL_36, nL_37, nL_38, nL_39, nL_40, nL_41, nL_42, nL_43, nL_44, nL_45, nL_46, nL_47, nL_48, nL_49, nL_50, nL_51, nL_52, nL_53, nL_54, nL_55, nL_56, nL_57, nL_58, nL_59, nL_60, nL_61, nL_62, nL_63, nL_64, nL_65, nL_66, nL_67, nL_68, nL_69, nL_70, nL_400, nL_402, nL_800, nL_2000]
      · have e : cmG T (N 0) i = false := decide_eq_false c
        rw [fillN_f e]
        simp (disch := omega) only [p6, e0, if_neg c, sb, nJ_of, nJ_lt, nJ_le, nJ_eq, nJ_clamp, nJ_add, nJ_sub, if_pos, if_neg, if_true, if_false, nL_0, nL_1, nL_2, nL_3, nL_4, nL_5, nL_6, nL_7, nL_8, nL_9, nL_10, nL_11, nL_12, nL_13, nL_14, nL_15, nL_16, nL_17, nL_18, nL_19, nL_20, nL_21, nL_22, nL_23, nL_24, nL_25, nL_26, nL_27, nL_28, nL_29, nL_30, nL_31, nL_32, nL_33, nL_34, nL_35, nL_36, nL_37, nL_38, nL_39, nL_40, nL_41, nL_42, nL_43, nL_44, nL_45, nL_46, nL_47, nL_48, nL_49, nL_50, nL_51, nL_52, nL_53, nL_54, nL_55, nL_56, nL_57, nL_58, nL_59, nL_60, nL_61, nL_62, nL_63, nL_64, nL_65, nL_66, nL_67, nL_68, nL_69, nL_70, nL_400, nL_402, nL_800, nL_2000]
    · show f_X14_come_L49 n (th, ta, bs, ea, kd, nu, po, ln, tk, wr, er, et, dp, fn, gn, va, N, kp) T (nI ng) (fillN (cmG T (N 0)) 28 (nI 1) M ng) = _
      unfold f_X14_come_L49
      simp (disch := omega) only [p6, sb, nJ_of, nJ_lt, nJ_le, nJ_eq, nJ_clamp, nJ_add, nJ_sub, if_pos, if_neg, if_true, if_false, nL_0, nL_1, nL_2, nL_3, nL_4, nL_5, nL_6, nL_7, nL_8, nL_9, nL_10, nL_11, nL_12, nL_13, nL_14, nL_15, nL_16, nL_17, nL_18, nL_19, nL_20, nL_21, nL_22, nL_23, nL_24, nL_25, nL_26, nL_27, nL_28, nL_29, nL_30, nL_31, nL_32, nL_33, nL_34, nL_35, nL_36, nL_37, nL_38, nL_39, nL_40, nL_41, nL_42, nL_43, nL_44, nL_45, nL_46, nL_47, nL_48, nL_49, nL_50, nL_51, nL_52, nL_53, nL_54, nL_55, nL_56, nL_57, nL_58, nL_59, nL_60, nL_61, nL_62, nL_63, nL_64, nL_65, nL_66, nL_67, nL_68, nL_69, nL_70, nL_400, nL_402, nL_800, nL_2000]
  unfold f_X14_come
  refine iter_count _ (fun i => (nI i, fillN (cmF T (N 0)) 8 (nI 1) N i)) nf _ (fun i hi => ?_) ?_ (by omega)
  · show f_X14_come_L2 n (th, ta, bs, ea, kd, nu, po, ln, tk, wr, er, et, dp, fn, gn, va, N, kp) T (nI i) (fillN (cmF T (N 0)) 8 (nI 1) N i) = _
    have e0 := fillN_out (c := cmF T (N 0)) (b := 8) (v := nI 1) (N := N) (j := 0) (i := i) (by omega)
    unfold f_X14_come_L2
    by_cases c : X13_comes T i = N 0
    · have e : cmF T (N 0) i = true := decide_eq_true c
      rw [fillN_t e]
      simp (disch := omega) only [p4, e0, if_pos c, sb, nJ_of, nJ_lt, nJ_le, nJ_eq, nJ_clamp, nJ_add, nJ_sub, if_pos, if_neg, if_true, if_false, nL_0, nL_1, nL_2, nL_3, nL_4, nL_5, nL_6, nL_7, nL_8, nL_9, nL_10, nL_11, nL_12, nL_13, nL_14, nL_15, nL_16, nL_17, nL_18, nL_19, nL_20, nL_21, nL_22, nL_23, nL_24, nL_25, nL_26, nL_27, nL_28, nL_29, nL_30, nL_31, nL_32, nL_33, nL_34, nL_35, nL_36, nL_37, nL_38, nL_39, nL_40, nL_41, nL_42, nL_43, nL_44, nL_45, nL_46, nL_47, nL_48, nL_49, nL_50, nL_51, nL_52, nL_53, nL_54, nL_55, nL_56, nL_57, nL_58, nL_59, nL_60, nL_61, nL_62, nL_63, nL_64, nL_65, nL_66, nL_67, nL_68, nL_69, nL_70, nL_400, nL_402, nL_800, nL_2000]
    · have e : cmF T (N 0) i = false := decide_eq_false c
      rw [fillN_f e]
      simp (disch := omega) only [p4, e0, if_neg c, sb, nJ_of, nJ_lt, nJ_le, nJ_eq, nJ_clamp, nJ_add, nJ_sub, if_pos, if_neg, if_true, if_false, nL_0, nL_1, nL_2, nL_3, nL_4, nL_5, nL_6, nL_7, nL_8, nL_9, nL_10, nL_11, nL_12, nL_13, nL_14, nL_15, nL_16, nL_17, nL_18, nL_19, nL_20, nL_21, nL_22, nL_23, nL_24, nL_25, nL_26, nL_27, nL_28, nL_29, nL_30, nL_31, nL_32, nL_33, nL_34, nL_35, nL_36, nL_37, nL_38, nL_39, nL_40, nL_41, nL_42, nL_43, nL_44, nL_45, nL_46, nL_47, nL_48, nL_49, nL_50, nL_51, nL_52, nL_53, nL_54, nL_55, nL_56, nL_57, nL_58, nL_59, nL_60, nL_61, nL_62, nL_63, nL_64, nL_65, nL_66, nL_67, nL_68, nL_69, nL_70, nL_400, nL_402, nL_800, nL_2000]
  · show f_X14_come_L2 n (th, ta, bs, ea, kd, nu, po, ln, tk, wr, er, et, dp, fn, gn, va, N, kp) T (nI nf) (fillN (cmF T (N 0)) 8 (nI 1) N nf) = _
    have e0 := fillN_out (c := cmF T (N 0)) (b := 8) (v := nI 1) (N := N) (j := 0) (i := nf) (by omega)
    have k3 := k2 _ e0
    unfold f_X14_come_L2
    simp (disch := omega) only [p4, k3, sb, nJ_of, nJ_lt, nJ_le, nJ_eq, nJ_clamp, nJ_add, nJ_sub, if_pos, if_neg, if_true, if_false, nL_0, nL_1, nL_2, nL_3, nL_4, nL_5, nL_6, nL_7, nL_8, nL_9, nL_10, nL_11, nL_12, nL_13, nL_14, nL_15, nL_16, nL_17, nL_18, nL_19, nL_20, nL_21, nL_22, nL_23, nL_24, nL_25, nL_26, nL_27, nL_28, nL_29, nL_30, nL_31, nL_32, nL_33, nL_34, nL_35, nL_36, nL_37, nL_38, nL_39, nL_40, nL_41, nL_42, nL_43, nL_44, nL_45, nL_46, nL_47, nL_48, nL_49, nL_50, nL_51, nL_52, nL_53, nL_54, nL_55, nL_56, nL_57, nL_58, nL_59, nL_60, nL_61, nL_62, nL_63, nL_64, nL_65, nL_66, nL_67, nL_68, nL_69, nL_70, nL_400, nL_402, nL_800, nL_2000]
    rfl
/-- the row when an hour has gone -/
def goneN (T : bX13) (nf ng : Nat) (N : Nat → Int32) : Nat → Int32 := fillN (gnG T (N 0)) 28 (nI 0) (fillN (gnF T (N 0)) 8 (nI 0) N nf) ng
theorem k_gone (p1 : nf ≤ 10) (p2 : ng ≤ 10) (p4 : X13_fronts T = nI nf) (p6 : X13_guests T = nI ng) (hn : 20 < n) (M0 va vb : Nat → Int32) : iter (fun s : Int32 × (Nat → Int32) => f_X14_hourOn_L44 n (th, ta, bs, ea, kd, nu, po, ln, tk, wr, er, et, dp, fn, gn, vb, N, kp) T s.1 va s.2) n (nI 0, M0) = some (va, comeN T nf ng (goneN T nf ng M0)) := by
  have k2 : ∀ M : Nat → Int32, M 0 = M0 0 → iter (fun s : Int32 × (Nat → Int32) => f_X14_hourOn_L101 n (th, ta, bs, ea, kd, nu, po, ln, tk, wr, er, et, dp, fn, gn, vb, N, kp) T s.1 va s.2) n (nI 0, M) = some (va, comeN T nf ng (fillN (gnG T (M0 0)) 28 (nI 0) M ng)) := fun M hM => by
    refine iter_count _ (fun i => (nI i, fillN (gnG T (M0 0)) 28 (nI 0) M i)) ng _ (fun i hi => ?_) ?_ (by omega)
    · show f_X14_hourOn_L101 n (th, ta, bs, ea, kd, nu, po, ln, tk, wr, er, et, dp, fn, gn, vb, N, kp) T (nI i) va (fillN (gnG T (M0 0)) 28 (nI 0) M i) = _
      have e0 := fillN_out (c := gnG T (M0 0)) (b := 28) (v := nI 0) (N := M) (j := 0) (i := i) (by omega)
      rw [hM] at e0
      unfold f_X14_hourOn_L101
      by_cases c : M0 0 = X13_sits T i + nI 8
      · have e : gnG T (M0 0) i = true := decide_eq_true c
        rw [fillN_t e]
        simp (disch := omega) only [p6, e0, if_pos c, sb, nJ_of, nJ_lt, nJ_le, nJ_eq, nJ_clamp, nJ_add, nJ_sub, if_pos, if_neg, if_true, if_false, nL_0, nL_1, nL_2, nL_3, nL_4, nL_5, nL_6, nL_7, nL_8, nL_9, nL_10, nL_11, nL_12, nL_13, nL_14, nL_15, nL_16, nL_17, nL_18, nL_19, nL_20, nL_21, nL_22, nL_23, nL_24, nL_25, nL_26, nL_27, nL_28, nL_29, nL_30, nL_31, nL_32, nL_33, nL_34, nL_35, nL_36, nL_37, nL_38, nL_39, nL_40, nL_41, nL_42, nL_43, nL_44, nL_45, nL_46, nL_47, nL_48, nL_49, nL_50, nL_51, nL_52, nL_53, nL_54, nL_55, nL_56, nL_57, nL_58, nL_59, nL_60, nL_61, nL_62, nL_63, nL_64, nL_65, nL_66, nL_67, nL_68, nL_69, nL_70, nL_400, nL_402, nL_800, nL_2000]
      · have e : gnG T (M0 0) i = false := decide_eq_false c
        rw [fillN_f e]
        simp (disch := omega) only [p6, e0, if_neg c, sb, nJ_of, nJ_lt, nJ_le, nJ_eq, nJ_clamp, nJ_add, nJ_sub, if_pos, if_neg, if_true, if_false, nL_0, nL_1, nL_2, nL_3, nL_4, nL_5, nL_6, nL_7, nL_8, nL_9, nL_10, nL_11, nL_12, nL_13, nL_14, nL_15, nL_16, nL_17, nL_18, nL_19, nL_20, nL_21, nL_22, nL_23, nL_24, nL_25, nL_26, nL_27, nL_28, nL_29, nL_30, nL_31, nL_32, nL_33, nL_34, nL_35, nL_36, nL_37, nL_38, nL_39, nL_40, nL_41, nL_42, nL_43, nL_44, nL_45, nL_46, nL_47, nL_48, nL_49, nL_50, nL_51, nL_52, nL_53, nL_54, nL_55, nL_56, nL_57, nL_58, nL_59, nL_60, nL_61, nL_62, nL_63, nL_64, nL_65, nL_66, nL_67, nL_68, nL_69, nL_70, nL_400, nL_402, nL_800, nL_2000]
    · show f_X14_hourOn_L101 n (th, ta, bs, ea, kd, nu, po, ln, tk, wr, er, et, dp, fn, gn, vb, N, kp) T (nI ng) va (fillN (gnG T (M0 0)) 28 (nI 0) M ng) = _
      unfold f_X14_hourOn_L101
      have kc := k_come (N := fillN (gnG T (M0 0)) 28 (nI 0) M ng) (th := th) (ta := ta) (bs := bs) (ea := ea) (kd := kd) (nu := nu) (po := po) (ln := ln) (tk := tk) (wr := wr) (er := er) (et := et) (dp := dp) (fn := fn) (gn := gn) (va := va) (kp := kp) p1 p2 p4 p6 hn
      simp (disch := omega) only [p6, kc, sb, nJ_of, nJ_lt, nJ_le, nJ_eq, nJ_clamp, nJ_add, nJ_sub, if_pos, if_neg, if_true, if_false, nL_0, nL_1, nL_2, nL_3, nL_4, nL_5, nL_6, nL_7, nL_8, nL_9, nL_10, nL_11, nL_12, nL_13, nL_14, nL_15, nL_16, nL_17, nL_18, nL_19, nL_20, nL_21, nL_22, nL_23, nL_24, nL_25, nL_26, nL_27, nL_28, nL_29, nL_30, nL_31, nL_32, nL_33, nL_34, nL_35, nL_36, nL_37, nL_38, nL_39, nL_40, nL_41, nL_42, nL_43, nL_44, nL_45, nL_46, nL_47, nL_48, nL_49, nL_50, nL_51, nL_52, nL_53, nL_54, nL_55, nL_56, nL_57, nL_58, nL_59, nL_60, nL_61, nL_62, nL_63, nL_64, nL_65, nL_66, nL_67, nL_68, nL_69, nL_70, nL_400, nL_402, nL_800, nL_2000]
  refine iter_count _ (fun i => (nI i, fillN (gnF T (M0 0)) 8 (nI 0) M0 i)) nf _ (fun i hi => ?_) ?_ (by omega)
  · show f_X14_hourOn_L44 n (th, ta, bs, ea, kd, nu, po, ln, tk, wr, er, et, dp, fn, gn, vb, N, kp) T (nI i) va (fillN (gnF T (M0 0)) 8 (nI 0) M0 i) = _
    have e0 := fillN_out (c := gnF T (M0 0)) (b := 8) (v := nI 0) (N := M0) (j := 0) (i := i) (by omega)
    unfold f_X14_hourOn_L44
    by_cases c : M0 0 = X13_comes T i + X13_stays T i
    · have e : gnF T (M0 0) i = true := decide_eq_true c
      rw [fillN_t e]
      simp (disch := omega) only [p4, e0, if_pos c, sb, nJ_of, nJ_lt, nJ_le, nJ_eq, nJ_clamp, nJ_add, nJ_sub, if_pos, if_neg, if_true, if_false, nL_0, nL_1, nL_2, nL_3, nL_4, nL_5, nL_6, nL_7, nL_8, nL_9, nL_10, nL_11, nL_12, nL_13, nL_14, nL_15, nL_16, nL_17, nL_18, nL_19, nL_20, nL_21, nL_22, nL_23, nL_24, nL_25, nL_26, nL_27, nL_28, nL_29, nL_30, nL_31, nL_32, nL_33, nL_34, nL_35, nL_36, nL_37, nL_38, nL_39, nL_40, nL_41, nL_42, nL_43, nL_44, nL_45, nL_46, nL_47, nL_48, nL_49, nL_50, nL_51, nL_52, nL_53, nL_54, nL_55, nL_56, nL_57, nL_58, nL_59, nL_60, nL_61, nL_62, nL_63, nL_64, nL_65, nL_66, nL_67, nL_68, nL_69, nL_70, nL_400, nL_402, nL_800, nL_2000]
    · have e : gnF T (M0 0) i = false := decide_eq_false c
      rw [fillN_f e]
      simp (disch := omega) only [p4, e0, if_neg c, sb, nJ_of, nJ_lt, nJ_le, nJ_eq, nJ_clamp, nJ_add, nJ_sub, if_pos, if_neg, if_true, if_false, nL_0, nL_1, nL_2, nL_3, nL_4, nL_5, nL_6, nL_7, nL_8, nL_9, nL_10, nL_11, nL_12, nL_13, nL_14, nL_15, nL_16, nL_17, nL_18, nL_19, nL_20, nL_21, nL_22, nL_23, nL_24, nL_25, nL_26, nL_27, nL_28, nL_29, nL_30, nL_31, nL_32, nL_33, nL_34, nL_35, nL_36, nL_37, nL_38, nL_39, nL_40, nL_41, nL_42, nL_43, nL_44, nL_45, nL_46, nL_47, nL_48, nL_49, nL_50, nL_51, nL_52, nL_53, nL_54, nL_55, nL_56, nL_57, nL_58, nL_59, nL_60, nL_61, nL_62, nL_63, nL_64, nL_65, nL_66, nL_67, nL_68, nL_69, nL_70, nL_400, nL_402, nL_800, nL_2000]
  · show f_X14_hourOn_L44 n (th, ta, bs, ea, kd, nu, po, ln, tk, wr, er, et, dp, fn, gn, vb, N, kp) T (nI nf) va (fillN (gnF T (M0 0)) 8 (nI 0) M0 nf) = _
    have e0 := fillN_out (c := gnF T (M0 0)) (b := 8) (v := nI 0) (N := M0) (j := 0) (i := nf) (by omega)
    have k3 := k2 _ e0
    unfold f_X14_hourOn_L44
    simp (disch := omega) only [p4, k3, sb, nJ_of, nJ_lt, nJ_le, nJ_eq, nJ_clamp, nJ_add, nJ_sub, if_pos, if_neg, if_true, if_false, nL_0, nL_1, nL_2, nL_3, nL_4, nL_5, nL_6, nL_7, nL_8, nL_9, nL_10, nL_11, nL_12, nL_13, nL_14, nL_15, nL_16, nL_17, nL_18, nL_19, nL_20, nL_21, nL_22, nL_23, nL_24, nL_25, nL_26, nL_27, nL_28, nL_29, nL_30, nL_31, nL_32, nL_33, nL_34, nL_35, nL_36, nL_37, nL_38, nL_39, nL_40, nL_41, nL_42, nL_43, nL_44, nL_45, nL_46, nL_47, nL_48, nL_49, nL_50, nL_51, nL_52, nL_53, nL_54, nL_55, nL_56, nL_57, nL_58, nL_59, nL_60, nL_61, nL_62, nL_63, nL_64, nL_65, nL_66, nL_67, nL_68, nL_69, nL_70, nL_400, nL_402, nL_800, nL_2000]
    rfl
theorem come_low {j : Nat} (p1 : nf ≤ 10) (p2 : ng ≤ 10) (hj : j < 8 ∨ (18 ≤ j ∧ j < 28) ∨ 38 ≤ j) : comeN T nf ng N j = N j := by
  unfold comeN
  rw [fillN_out (by omega), fillN_out (by omega)]
theorem come_f {f : Nat} (p1 : nf ≤ 10) (hf : f < nf) : comeN T nf ng N (8 + f) = bif cmF T (N 0) f then nI 1 else N (8 + f) := by
  unfold comeN
  rw [fillN_out (by omega), fillN_in hf]
theorem come_g {g : Nat} (p1 : nf ≤ 10) (hg : g < ng) : comeN T nf ng N (28 + g) = bif cmG T (N 0) g then nI 1 else N (28 + g) := by
  unfold comeN
  rw [fillN_in hg, fillN_out (by omega)]
theorem gone_low {j : Nat} (p1 : nf ≤ 10) (p2 : ng ≤ 10) (hj : j < 8 ∨ (18 ≤ j ∧ j < 28) ∨ 38 ≤ j) : goneN T nf ng N j = N j := by
  unfold goneN
  rw [fillN_out (by omega), fillN_out (by omega)]
theorem gone_f {f : Nat} (p1 : nf ≤ 10) (hf : f < nf) : goneN T nf ng N (8 + f) = bif gnF T (N 0) f then nI 0 else N (8 + f) := by
  unfold goneN
  rw [fillN_out (by omega), fillN_in hf]
theorem gone_g {g : Nat} (p1 : nf ≤ 10) (hg : g < ng) : goneN T nf ng N (28 + g) = bif gnG T (N 0) g then nI 0 else N (28 + g) := by
  unfold goneN
  rw [fillN_in hg, fillN_out (by omega)]
theorem r_tick (hp : RPl F G T nf ng fo fr hr gr) (ht : RPt nf ng fr hr gr (ho, wa, sr, ch, lm, sa, co, sm, fs, gs, gt) N h) (hh : h < 1000000) : RPt nf ng fr hr gr (ho + 1, wa, sr, ch, lm, sa, co, sm, fs, gs, gt) (comeN T nf ng (goneN T nf ng (upd N 0 (N 0 + 1)))) (h + 1) := by
  obtain ⟨p1, p2, p3, p4, p5, p6, p7, p8⟩ := hp
  obtain ⟨t1, t2, ⟨x3, a3, b3, c3⟩, ⟨x4, a4, b4, c4⟩, ⟨x5, a5, b5, c5⟩, ⟨x6, a6, b6, c6⟩, ⟨x7, a7, b7, c7⟩, t8, t9, t10, t11⟩ := ht
  have t1 : ho = nI h := t1
  have e0 : upd N 0 (N 0 + 1) 0 = nI (h + 1) := by rw [upd_same, t2, nI_1]
  have e00 : goneN T nf ng (upd N 0 (N 0 + 1)) 0 = nI (h + 1) := by rw [gone_low p1 p2 (by omega), e0]
  have low : ∀ j, 1 ≤ j → (j < 8 ∨ (18 ≤ j ∧ j < 28) ∨ 38 ≤ j) → comeN T nf ng (goneN T nf ng (upd N 0 (N 0 + 1))) j = N j := fun j h1 hj => by
    rw [come_low p1 p2 hj, gone_low p1 p2 hj, upd_else _ _ (by omega)]
  refine ⟨?_, ?_, ⟨x3, a3, b3, by rw [low _ (by omega) (by omega), c3]⟩, ⟨x4, a4, b4, by rw [low _ (by omega) (by omega), c4]⟩, ⟨x5, a5, b5, by rw [low _ (by omega) (by omega), c5]⟩, ⟨x6, a6, b6, by rw [low _ (by omega) (by omega), c6]⟩, ⟨x7, a7, b7, by rw [low _ (by omega) (by omega), c7]⟩, by rw [low _ (by omega) (by omega), t8], by rw [low _ (by omega) (by omega), t9], fun f hf => ?_, fun g hg => ?_⟩
  · show ho + 1 = nI (h + 1)
    rw [t1, nI_1]
  · rw [come_low p1 p2 (by omega), e00]
  · obtain ⟨t, e1, e2, e3, e4, e5⟩ := t10 f hf
    obtain ⟨-, -, -, -, -, -, -, q8, q9, -, q11, q12, q13⟩ := p7 f hf
    refine ⟨t, e1, e2, by rw [low _ (by omega) (by omega), e3], fun q => by have := e4 q; omega, ?_⟩
    rw [come_f p1 hf, gone_f p1 hf, e00, e0, upd_else _ _ (by omega), e5]
    have ec : cmF T (nI (h + 1)) f = decide (fr f = h + 1) := by
      unfold cmF
      rw [q8]
      exact decide_eq_decide.mpr (nI_eq (by omega) (by omega))
    have eg : gnF T (nI (h + 1)) f = decide (h + 1 = fr f + hr f) := by
      unfold gnF
      rw [q8, q11, nI_add]
      exact decide_eq_decide.mpr (nI_eq (by omega) (by omega))
    rw [ec, eg]
    by_cases c1 : fr f = h + 1
    · have ht0 : t = 0 := by
        by_cases z : t = 1
        · have := e4 z
          omega
        · omega
      rw [decide_eq_true c1]
      show nI 1 = _
      rw [if_pos (by omega)]
    · rw [decide_eq_false c1]
      by_cases c2 : h + 1 = fr f + hr f
      · rw [decide_eq_true c2]
        show nI 0 = _
        rw [if_neg (by omega)]
      · rw [decide_eq_false c2]
        show nI (if t = 0 ∧ fr f ≤ h ∧ h < fr f + hr f then 1 else 0) = _
        by_cases z : t = 0 ∧ fr f ≤ h ∧ h < fr f + hr f
        · rw [if_pos z, if_pos (by omega)]
        · rw [if_neg z, if_neg (by omega)]
  · obtain ⟨t, u, e1, e2, e3, e4, e5, e6, e7, e8⟩ := t11 g hg
    obtain ⟨q1, q2, q3, -⟩ := p8 g hg
    refine ⟨t, u, e1, e2, e3, e4, by rw [low _ (by omega) (by omega), e5], by rw [low _ (by omega) (by omega), e6], fun q => by have := e7 q; omega, ?_⟩
    rw [come_g p1 hg, gone_g p1 hg, e00, e0, upd_else _ _ (by omega), e8]
    have ec : cmG T (nI (h + 1)) g = decide (gr g = h + 1) := by
      unfold cmG
      rw [q2]
      exact decide_eq_decide.mpr (nI_eq (by omega) (by omega))
    have eg : gnG T (nI (h + 1)) g = decide (h + 1 = gr g + 8) := by
      unfold gnG
      rw [q2, nI_add]
      exact decide_eq_decide.mpr (nI_eq (by omega) (by omega))
    rw [ec, eg]
    by_cases c1 : gr g = h + 1
    · have ht0 : t = 0 ∧ u = 0 := by
        by_cases z : t = 1 ∨ u = 1
        · have := e7 z
          omega
        · omega
      rw [decide_eq_true c1]
      show nI 1 = _
      rw [if_pos (by omega)]
    · rw [decide_eq_false c1]
      by_cases c2 : h + 1 = gr g + 8
      · rw [decide_eq_true c2]
        show nI 0 = _
        rw [if_neg (by omega)]
      · rw [decide_eq_false c2]
        show nI (if t = 0 ∧ u = 0 ∧ gr g ≤ h ∧ h < gr g + 8 then 1 else 0) = _
        by_cases z : t = 0 ∧ u = 0 ∧ gr g ≤ h ∧ h < gr g + 8
        · rw [if_pos z, if_pos (by omega)]
        · rw [if_neg z, if_neg (by omega)]
/-- the row of a pot begun -/
def zeroN : Nat → Int32 := upd (upd (upd (fun _ => nI 0) 1 (nI 20)) 4 (nI 3)) 5 (nI 3)
def clrN (N : Nat → Int32) (i : Nat) : Nat → Int32 := fun j => if j < i then nI 0 else N j
theorem k_anew (p1 : nf ≤ 10) (p2 : ng ≤ 10) (p4 : X13_fronts T = nI nf) (p6 : X13_guests T = nI ng) (hn : 100 < n) : ∃ M : Nat → Int32, f_X14_anew n (th, ta, bs, ea, kd, nu, po, ln, tk, wr, er, et, dp, fn, gn, va, N, kp) T = some (comeN T nf ng M) ∧ ∀ j, j < 58 → M j = zeroN j := by
  refine ⟨upd (upd (upd (clrN N 58) 1 (nI 20)) 4 (nI 3)) 5 (nI 3), ?_, fun j hj => ?_⟩
  · unfold f_X14_anew
    refine iter_count _ (fun i => (nI i, clrN N i)) 58 _ (fun i hi => ?_) ?_ (by omega)
    · show f_X14_anew_L2 n (th, ta, bs, ea, kd, nu, po, ln, tk, wr, er, et, dp, fn, gn, va, N, kp) T (nI i) (clrN N i) = _
      have e : upd (clrN N i) i (nI 0) = clrN N (i + 1) := by
        funext j
        unfold clrN
        by_cases c : j = i
        · subst c
          rw [upd_same, if_pos (by omega)]
        · rw [upd_else _ _ c]
          by_cases d : j < i
          · rw [if_pos d, if_pos (by omega)]
          · rw [if_neg d, if_neg (by omega)]
      unfold f_X14_anew_L2
      simp (disch := omega) only [e, sb, nJ_of, nJ_lt, nJ_le, nJ_eq, nJ_clamp, nJ_add, nJ_sub, if_pos, if_neg, if_true, if_false, nL_0, nL_1, nL_2, nL_3, nL_4, nL_5, nL_6, nL_7, nL_8, nL_9, nL_10, nL_11, nL_12, nL_13, nL_14, nL_15, nL_16, nL_17, nL_18, nL_19, nL_20, nL_21, nL_22, nL_23, nL_24, nL_25, nL_26, nL_27, nL_28, nL_29, nL_30, nL_31, nL_32, nL_33, nL_34, nL_35, nL_36, nL_37, nL_38, nL_39, nL_40, nL_41, nL_42, nL_43, nL_44, nL_45, nL_46, nL_47, nL_48, nL_49, nL_50, nL_51, nL_52, nL_53, nL_54, nL_55, nL_56, nL_57, nL_58, nL_59, nL_60, nL_61, nL_62, nL_63, nL_64, nL_65, nL_66, nL_67, nL_68, nL_69, nL_70, nL_400, nL_402, nL_800, nL_2000]
    · show f_X14_anew_L2 n (th, ta, bs, ea, kd, nu, po, ln, tk, wr, er, et, dp, fn, gn, va, N, kp) T (nI 58) (clrN N 58) = _
      have kc := k_come (N := upd (upd (upd (clrN N 58) 1 (nI 20)) 4 (nI 3)) 5 (nI 3)) (th := th) (ta := ta) (bs := bs) (ea := ea) (kd := kd) (nu := nu) (po := po) (ln := ln) (tk := tk) (wr := wr) (er := er) (et := et) (dp := dp) (fn := fn) (gn := gn) (va := va) (kp := kp) p1 p2 p4 p6 (n := n) (by omega)
      unfold f_X14_anew_L2
      simp (disch := omega) only [kc, sb, nJ_of, nJ_lt, nJ_le, nJ_eq, nJ_clamp, nJ_add, nJ_sub, if_pos, if_neg, if_true, if_false, nL_0, nL_1, nL_2, nL_3, nL_4, nL_5, nL_6, nL_7, nL_8, nL_9, nL_10, nL_11, nL_12, nL_13, nL_14, nL_15, nL_16, nL_17, nL_18, nL_19, nL_20, nL_21, nL_22, nL_23, nL_24, nL_25, nL_26, nL_27, nL_28, nL_29, nL_30, nL_31, nL_32, nL_33, nL_34, nL_35, nL_36, nL_37, nL_38, nL_39, nL_40, nL_41, nL_42, nL_43, nL_44, nL_45, nL_46, nL_47, nL_48, nL_49, nL_50, nL_51, nL_52, nL_53, nL_54, nL_55, nL_56, nL_57, nL_58, nL_59, nL_60, nL_61, nL_62, nL_63, nL_64, nL_65, nL_66, nL_67, nL_68, nL_69, nL_70, nL_400, nL_402, nL_800, nL_2000]
  · unfold zeroN
    have e : clrN N 58 j = nI 0 := if_pos hj
    unfold upd
    rw [e]
theorem r_anew (hp : RPl F G T nf ng fo fr hr gr) {M : Nat → Int32} (hM : ∀ j, j < 58 → M j = zeroN j) (hf : ∀ f, f < nf → fs f = nI 0) (hg : ∀ g, g < ng → gs g = nI 0 ∧ gt g = nI 0) : RPt nf ng fr hr gr (nI 0, nI 20, nI 0, nI 0, nI 3, nI 3, nI 0, nI 0, fs, gs, gt) (comeN T nf ng M) 0 := by
  obtain ⟨p1, p2, p3, p4, p5, p6, p7, p8⟩ := hp
  have m0 : M 0 = nI 0 := hM 0 (by omega)
  have hi : ∀ j, 8 ≤ j → j < 58 → M j = nI 0 := fun j h1 h2 => by
    rw [hM j h2]
    unfold zeroN
    rw [upd_else _ _ (by omega), upd_else _ _ (by omega), upd_else _ _ (by omega)]
  have lo : ∀ j, (j < 8 ∨ (18 ≤ j ∧ j < 28) ∨ 38 ≤ j) → comeN T nf ng M j = M j := fun j hj => come_low p1 p2 hj
  refine ⟨rfl, by rw [lo _ (by omega), m0], ⟨20, by omega, rfl, by rw [lo _ (by omega), hM 1 (by omega)]; rfl⟩, ⟨0, by omega, rfl, by rw [lo _ (by omega), hM 2 (by omega)]; rfl⟩, ⟨0, by omega, rfl, by rw [lo _ (by omega), hM 3 (by omega)]; rfl⟩, ⟨3, by omega, rfl, by rw [lo _ (by omega), hM 4 (by omega)]; rfl⟩, ⟨3, by omega, rfl, by rw [lo _ (by omega), hM 5 (by omega)]; rfl⟩, by rw [lo _ (by omega), hM 6 (by omega)]; rfl, by rw [lo _ (by omega), hM 7 (by omega)]; rfl, fun f hf' => ?_, fun g hg' => ?_⟩
  · obtain ⟨-, -, -, -, -, -, -, q8, q9, -, q11, q12, q13⟩ := p7 f hf'
    refine ⟨0, by omega, hf f hf', by rw [lo _ (by omega), hi _ (by omega) (by omega)], fun q => by omega, ?_⟩
    rw [come_f p1 hf', m0, hi _ (by omega) (by omega)]
    have ec : cmF T (nI 0) f = decide (fr f = 0) := by
      unfold cmF
      rw [q8]
      exact decide_eq_decide.mpr (nI_eq (by omega) (by omega))
    rw [ec]
    by_cases c1 : fr f = 0
    · rw [decide_eq_true c1, if_pos (by omega)]
      rfl
    · rw [decide_eq_false c1, if_neg (by omega)]
      rfl
  · obtain ⟨q1, q2, q3, -⟩ := p8 g hg'
    refine ⟨0, 0, by omega, by omega, (hg g hg').1, (hg g hg').2, by rw [lo _ (by omega), hi _ (by omega) (by omega)], by rw [lo _ (by omega), hi _ (by omega) (by omega)], fun q => by omega, ?_⟩
    rw [come_g p1 hg', m0, hi _ (by omega) (by omega)]
    have ec : cmG T (nI 0) g = decide (gr g = 0) := by
      unfold cmG
      rw [q2]
      exact decide_eq_decide.mpr (nI_eq (by omega) (by omega))
    rw [ec]
    by_cases c1 : gr g = 0
    · rw [decide_eq_true c1, if_pos (by omega)]
      rfl
    · rw [decide_eq_false c1, if_neg (by omega)]
      rfl
end P8
