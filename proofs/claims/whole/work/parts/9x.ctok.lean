/-! one token, in the class -/
theorem b1_0 {b : Bool} : (b1 b = nI 0) = (b = false) := by cases b <;> decide
theorem blk_256 : blk 256 = false := rfl
theorem wrd_256 : wrd 256 = false := rfl
theorem dig_256 : dig 256 = false := rfl
theorem dig_wrd {v : Nat} (h : dig v = true) : wrd v = true := by unfold wrd; rw [h]; cases ltr v <;> rfl
theorem ltr_wrd {v : Nat} (h : ltr v = true) : wrd v = true := by unfold wrd; rw [h]; rfl
theorem wrd_or {v : Nat} : wrd v = false ↔ ltr v = false ∧ dig v = false := by unfold wrd; cases ltr v <;> cases dig v <;> simp
section P59
variable {Y : Nat → Nat} {len : Nat} {bT : Nat → Int32} {th bs ea tk wr er et dp : Int32} {ta kd nu po ln fn gn va kp : Nat → Int32}
variable {N : Nat → Int32} {n i e a sz : Nat}
theorem run_len {p : Nat → Bool} (h : TPE Y len bT ta) (hp : p 256 = false) {j : Nat} (hj : p (Y j) = true) : j < len := by
  rcases Nat.lt_or_ge j len with z | z
  · exact z
  · rw [h.2.2 j z, hp] at hj
    exact nomatch hj
theorem c_skip (h : TPE Y len bT ta) (hn : 2100 < n) (hi : i ≤ len) (hr : RUN blk Y i e) (he : e ≤ len) : f_X11_behindBlanks n (nI i) (bT, nI len) = some (nI e) := by
  have h0 := h.1
  unfold f_X11_behindBlanks
  refine it_run _ hr.1 (fun j a b => ?_) ?_ (by omega)
  · have hb := hr.2.1 j a b
    have hj := run_len h blk_256 hb
    have hc := c_byte h (i := j) (by omega)
    have hE := cb_eqs (Y j) (TPE_lt h j)
    show f_X11_behindBlanks_L2 n (nI i) (bT, nI len) (nI j) = _
    unfold f_X11_behindBlanks_L2
    by_cases q : Y j = 32
    · have q2 := hE.1.2 q
      simp (disch := omega) only [X10_length, ↓bd hc, bd hc, q2, ↓reduceIte, ↓if_pos, ↓if_neg, Nat.reduceEqDiff, Nat.reduceLeDiff, Nat.reduceLT, and_true, true_and, and_false, false_and, true_or, or_true, false_or, or_false, eq_self, sb, nJ_of, nJ_lt, nJ_le, nJ_eq, nJ_clamp, nJ_add, nJ_sub, if_pos, if_neg, if_true, if_false, nL_0, nL_1, nL_2, nL_3, nL_4, nL_5, nL_6, nL_7, nL_8, nL_9, nL_10, nL_11, nL_12, nL_13, nL_14, nL_15, nL_16, nL_17, nL_18, nL_19, nL_20, nL_21, nL_22, nL_23, nL_24, nL_25, nL_26, nL_27, nL_28, nL_29, nL_30, nL_31, nL_32, nL_33, nL_34, nL_35, nL_36, nL_37, nL_38, nL_39, nL_40, nL_41, nL_42, nL_43, nL_44, nL_45, nL_46, nL_47, nL_48, nL_49, nL_50, nL_51, nL_52, nL_53, nL_54, nL_55, nL_56, nL_57, nL_58, nL_59, nL_60, nL_61, nL_62, nL_63, nL_64, nL_65, nL_66, nL_67, nL_68, nL_69, nL_70, nL_400, nL_402, nL_800, nL_2000]
    · have q3 : Y j = 10 := by
        unfold blk at hb
        simp only [Bool.or_eq_true, decide_eq_true_eq] at hb
        omega
      have q2 := hE.2.1.2 q3
      have q4 : cb (Y j) ≠ nI 32 := fun z => q (hE.1.1 z)
      simp (disch := omega) only [X10_length, ↓bd hc, bd hc, q2, ↓reduceIte, ↓if_pos, ↓if_neg, Nat.reduceEqDiff, Nat.reduceLeDiff, Nat.reduceLT, and_true, true_and, and_false, false_and, true_or, or_true, false_or, or_false, eq_self, sb, nJ_of, nJ_lt, nJ_le, nJ_eq, nJ_clamp, nJ_add, nJ_sub, if_pos, if_neg, if_true, if_false, nL_0, nL_1, nL_2, nL_3, nL_4, nL_5, nL_6, nL_7, nL_8, nL_9, nL_10, nL_11, nL_12, nL_13, nL_14, nL_15, nL_16, nL_17, nL_18, nL_19, nL_20, nL_21, nL_22, nL_23, nL_24, nL_25, nL_26, nL_27, nL_28, nL_29, nL_30, nL_31, nL_32, nL_33, nL_34, nL_35, nL_36, nL_37, nL_38, nL_39, nL_40, nL_41, nL_42, nL_43, nL_44, nL_45, nL_46, nL_47, nL_48, nL_49, nL_50, nL_51, nL_52, nL_53, nL_54, nL_55, nL_56, nL_57, nL_58, nL_59, nL_60, nL_61, nL_62, nL_63, nL_64, nL_65, nL_66, nL_67, nL_68, nL_69, nL_70, nL_400, nL_402, nL_800, nL_2000]
  · show f_X11_behindBlanks_L2 n (nI i) (bT, nI len) (nI e) = _
    unfold f_X11_behindBlanks_L2
    rcases Nat.lt_or_ge e len with z | z
    · have hc := c_byte h (i := e) (by omega)
      have hE := cb_eqs (Y e) (TPE_lt h e)
      have hb := hr.2.2
      unfold blk at hb
      simp only [Bool.or_eq_false_iff, decide_eq_false_iff_not] at hb
      have q2 : cb (Y e) ≠ nI 32 := fun z => hb.1 (hE.1.1 z)
      have q3 : cb (Y e) ≠ nI 10 := fun z => hb.2 (hE.2.1.1 z)
      simp (disch := omega) only [X10_length, ↓bd hc, bd hc, q2, q3, ↓reduceIte, ↓if_pos, ↓if_neg, Nat.reduceEqDiff, Nat.reduceLeDiff, Nat.reduceLT, and_true, true_and, and_false, false_and, true_or, or_true, false_or, or_false, eq_self, sb, nJ_of, nJ_lt, nJ_le, nJ_eq, nJ_clamp, nJ_add, nJ_sub, if_pos, if_neg, if_true, if_false, nL_0, nL_1, nL_2, nL_3, nL_4, nL_5, nL_6, nL_7, nL_8, nL_9, nL_10, nL_11, nL_12, nL_13, nL_14, nL_15, nL_16, nL_17, nL_18, nL_19, nL_20, nL_21, nL_22, nL_23, nL_24, nL_25, nL_26, nL_27, nL_28, nL_29, nL_30, nL_31, nL_32, nL_33, nL_34, nL_35, nL_36, nL_37, nL_38, nL_39, nL_40, nL_41, nL_42, nL_43, nL_44, nL_45, nL_46, nL_47, nL_48, nL_49, nL_50, nL_51, nL_52, nL_53, nL_54, nL_55, nL_56, nL_57, nL_58, nL_59, nL_60, nL_61, nL_62, nL_63, nL_64, nL_65, nL_66, nL_67, nL_68, nL_69, nL_70, nL_400, nL_402, nL_800, nL_2000]
    · simp (disch := omega) only [X10_length, ↓reduceIte, ↓if_pos, ↓if_neg, Nat.reduceEqDiff, Nat.reduceLeDiff, Nat.reduceLT, and_true, true_and, and_false, false_and, true_or, or_true, false_or, or_false, eq_self, sb, nJ_of, nJ_lt, nJ_le, nJ_eq, nJ_clamp, nJ_add, nJ_sub, if_pos, if_neg, if_true, if_false, nL_0, nL_1, nL_2, nL_3, nL_4, nL_5, nL_6, nL_7, nL_8, nL_9, nL_10, nL_11, nL_12, nL_13, nL_14, nL_15, nL_16, nL_17, nL_18, nL_19, nL_20, nL_21, nL_22, nL_23, nL_24, nL_25, nL_26, nL_27, nL_28, nL_29, nL_30, nL_31, nL_32, nL_33, nL_34, nL_35, nL_36, nL_37, nL_38, nL_39, nL_40, nL_41, nL_42, nL_43, nL_44, nL_45, nL_46, nL_47, nL_48, nL_49, nL_50, nL_51, nL_52, nL_53, nL_54, nL_55, nL_56, nL_57, nL_58, nL_59, nL_60, nL_61, nL_62, nL_63, nL_64, nL_65, nL_66, nL_67, nL_68, nL_69, nL_70, nL_400, nL_402, nL_800, nL_2000]
theorem m_skip (h : TPE Y len bT ta) (hn : 2100 < n) (hr : RUN blk Y i e) (he : e ≤ len) : f_X14_skip n (nI i) (th, ta, nI len, ea, kd, nu, po, ln, tk, wr, er, et, dp, fn, gn, va, N, kp) = some (nI e) := by
  have h0 := h.1
  unfold f_X14_skip
  refine it_run _ hr.1 (fun j a b => ?_) ?_ (by omega)
  · have hb := hr.2.1 j a b
    have hj := run_len h blk_256 hb
    have hc := m_byte (N := N) (th := th) (ea := ea) (kd := kd) (nu := nu) (po := po) (ln := ln) (tk := tk) (wr := wr) (er := er) (et := et) (dp := dp) (fn := fn) (gn := gn) (va := va) (kp := kp) h (i := j) (by omega)
    have hE := mb_eqs (Y j) (TPE_lt h j)
    show f_X14_skip_L2 n (nI i) (th, ta, nI len, ea, kd, nu, po, ln, tk, wr, er, et, dp, fn, gn, va, N, kp) (nI j) = _
    unfold f_X14_skip_L2
    by_cases q : Y j = 32
    · have q2 := hE.1.2 q
      simp (disch := omega) only [↓bd hc, bd hc, q2, ↓reduceIte, ↓if_pos, ↓if_neg, Nat.reduceEqDiff, Nat.reduceLeDiff, Nat.reduceLT, and_true, true_and, and_false, false_and, true_or, or_true, false_or, or_false, eq_self, sb, nJ_of, nJ_lt, nJ_le, nJ_eq, nJ_clamp, nJ_add, nJ_sub, if_pos, if_neg, if_true, if_false, nL_0, nL_1, nL_2, nL_3, nL_4, nL_5, nL_6, nL_7, nL_8, nL_9, nL_10, nL_11, nL_12, nL_13, nL_14, nL_15, nL_16, nL_17, nL_18, nL_19, nL_20, nL_21, nL_22, nL_23, nL_24, nL_25, nL_26, nL_27, nL_28, nL_29, nL_30, nL_31, nL_32, nL_33, nL_34, nL_35, nL_36, nL_37, nL_38, nL_39, nL_40, nL_41, nL_42, nL_43, nL_44, nL_45, nL_46, nL_47, nL_48, nL_49, nL_50, nL_51, nL_52, nL_53, nL_54, nL_55, nL_56, nL_57, nL_58, nL_59, nL_60, nL_61, nL_62, nL_63, nL_64, nL_65, nL_66, nL_67, nL_68, nL_69, nL_70, nL_400, nL_402, nL_800, nL_2000]
    · have q3 : Y j = 10 := by
        unfold blk at hb
        simp only [Bool.or_eq_true, decide_eq_true_eq] at hb
        omega
      have q2 := hE.2.1.2 q3
      have q4 : mb (Y j) ≠ nI 32 := fun z => q (hE.1.1 z)
      simp (disch := omega) only [↓bd hc, bd hc, q2, ↓reduceIte, ↓if_pos, ↓if_neg, Nat.reduceEqDiff, Nat.reduceLeDiff, Nat.reduceLT, and_true, true_and, and_false, false_and, true_or, or_true, false_or, or_false, eq_self, sb, nJ_of, nJ_lt, nJ_le, nJ_eq, nJ_clamp, nJ_add, nJ_sub, if_pos, if_neg, if_true, if_false, nL_0, nL_1, nL_2, nL_3, nL_4, nL_5, nL_6, nL_7, nL_8, nL_9, nL_10, nL_11, nL_12, nL_13, nL_14, nL_15, nL_16, nL_17, nL_18, nL_19, nL_20, nL_21, nL_22, nL_23, nL_24, nL_25, nL_26, nL_27, nL_28, nL_29, nL_30, nL_31, nL_32, nL_33, nL_34, nL_35, nL_36, nL_37, nL_38, nL_39, nL_40, nL_41, nL_42, nL_43, nL_44, nL_45, nL_46, nL_47, nL_48, nL_49, nL_50, nL_51, nL_52, nL_53, nL_54, nL_55, nL_56, nL_57, nL_58, nL_59, nL_60, nL_61, nL_62, nL_63, nL_64, nL_65, nL_66, nL_67, nL_68, nL_69, nL_70, nL_400, nL_402, nL_800, nL_2000]
  · show f_X14_skip_L2 n (nI i) (th, ta, nI len, ea, kd, nu, po, ln, tk, wr, er, et, dp, fn, gn, va, N, kp) (nI e) = _
    unfold f_X14_skip_L2
    have hc := m_byte (N := N) (th := th) (ea := ea) (kd := kd) (nu := nu) (po := po) (ln := ln) (tk := tk) (wr := wr) (er := er) (et := et) (dp := dp) (fn := fn) (gn := gn) (va := va) (kp := kp) h (i := e) (by omega)
    have hE := mb_eqs (Y e) (TPE_lt h e)
    have hb := hr.2.2
    unfold blk at hb
    simp only [Bool.or_eq_false_iff, decide_eq_false_iff_not] at hb
    have q2 : mb (Y e) ≠ nI 32 := fun z => hb.1 (hE.1.1 z)
    have q3 : mb (Y e) ≠ nI 10 := fun z => hb.2 (hE.2.1.1 z)
    simp (disch := omega) only [↓bd hc, bd hc, q2, q3, ↓reduceIte, ↓if_pos, ↓if_neg, Nat.reduceEqDiff, Nat.reduceLeDiff, Nat.reduceLT, and_true, true_and, and_false, false_and, true_or, or_true, false_or, or_false, eq_self, sb, nJ_of, nJ_lt, nJ_le, nJ_eq, nJ_clamp, nJ_add, nJ_sub, if_pos, if_neg, if_true, if_false, nL_0, nL_1, nL_2, nL_3, nL_4, nL_5, nL_6, nL_7, nL_8, nL_9, nL_10, nL_11, nL_12, nL_13, nL_14, nL_15, nL_16, nL_17, nL_18, nL_19, nL_20, nL_21, nL_22, nL_23, nL_24, nL_25, nL_26, nL_27, nL_28, nL_29, nL_30, nL_31, nL_32, nL_33, nL_34, nL_35, nL_36, nL_37, nL_38, nL_39, nL_40, nL_41, nL_42, nL_43, nL_44, nL_45, nL_46, nL_47, nL_48, nL_49, nL_50, nL_51, nL_52, nL_53, nL_54, nL_55, nL_56, nL_57, nL_58, nL_59, nL_60, nL_61, nL_62, nL_63, nL_64, nL_65, nL_66, nL_67, nL_68, nL_69, nL_70, nL_400, nL_402, nL_800, nL_2000]
/-- the size of a word, of a number -/
theorem c_sizeW (h : TPE Y len bT ta) (hn : 2100 < n) (ha : a < len) (hl : ltr (Y a) = true) (hr : RUN wrd Y (a + 1) e) (he : e ≤ len) : f_X11_sizeOf n (nI a) (bT, nI len) = some (nI (e - a)) := by
  have h0 := h.1
  have hc := c_byte h (i := a) (by omega)
  have c1 := cb_ltr (Y a) (TPE_lt h a)
  rw [hl] at c1
  have c1' : f_X11_isLetter (cb (Y a)) = some (nI 1) := c1
  have hle := hr.1
  unfold f_X11_sizeOf
  have key : iter (fun s : Int32 => f_X11_sizeOf_L54 n (nI a) (bT, nI len) (nI a) (cb (Y a)) s) n (nI (a + 1)) = some (nI (e - a)) := by
    refine it_run _ hr.1 (fun j p q => ?_) ?_ (by omega)
    · have hb := hr.2.1 j p q
      have hj := run_len h wrd_256 hb
      have hcj := c_byte h (i := j) (by omega)
      have cl := cb_ltr (Y j) (TPE_lt h j)
      have cd := cb_dig (Y j) (TPE_lt h j)
      show f_X11_sizeOf_L54 n (nI a) (bT, nI len) (nI a) (cb (Y a)) (nI j) = _
      unfold f_X11_sizeOf_L54
      cases qd : dig (Y j) with
      | true =>
        rw [qd] at cd
        have cd' : f_X11_isDigit (cb (Y j)) = some (nI 1) := cd
        simp (disch := omega) only [X10_length, ↓bd hcj, bd hcj, ↓bd cd', bd cd', ↓reduceIte, ↓if_pos, ↓if_neg, Nat.reduceEqDiff, Nat.reduceLeDiff, Nat.reduceLT, and_true, true_and, and_false, false_and, true_or, or_true, false_or, or_false, eq_self, sb, nJ_of, nJ_lt, nJ_le, nJ_eq, nJ_clamp, nJ_add, nJ_sub, if_pos, if_neg, if_true, if_false, nL_0, nL_1, nL_2, nL_3, nL_4, nL_5, nL_6, nL_7, nL_8, nL_9, nL_10, nL_11, nL_12, nL_13, nL_14, nL_15, nL_16, nL_17, nL_18, nL_19, nL_20, nL_21, nL_22, nL_23, nL_24, nL_25, nL_26, nL_27, nL_28, nL_29, nL_30, nL_31, nL_32, nL_33, nL_34, nL_35, nL_36, nL_37, nL_38, nL_39, nL_40, nL_41, nL_42, nL_43, nL_44, nL_45, nL_46, nL_47, nL_48, nL_49, nL_50, nL_51, nL_52, nL_53, nL_54, nL_55, nL_56, nL_57, nL_58, nL_59, nL_60, nL_61, nL_62, nL_63, nL_64, nL_65, nL_66, nL_67, nL_68, nL_69, nL_70, nL_400, nL_402, nL_800, nL_2000]
      | false =>
        rw [qd] at cd
        have cd' : f_X11_isDigit (cb (Y j)) = some (nI 0) := cd
        have ql : ltr (Y j) = true := by
          unfold wrd at hb
          rw [qd, Bool.or_false] at hb
          exact hb
        rw [ql] at cl
        have cl' : f_X11_isLetter (cb (Y j)) = some (nI 1) := cl
        simp (disch := omega) only [X10_length, ↓bd hcj, bd hcj, ↓bd cd', bd cd', ↓bd c1', bd c1', ↓bd cl', bd cl', ↓reduceIte, ↓if_pos, ↓if_neg, Nat.reduceEqDiff, Nat.reduceLeDiff, Nat.reduceLT, and_true, true_and, and_false, false_and, true_or, or_true, false_or, or_false, eq_self, sb, nJ_of, nJ_lt, nJ_le, nJ_eq, nJ_clamp, nJ_add, nJ_sub, if_pos, if_neg, if_true, if_false, nL_0, nL_1, nL_2, nL_3, nL_4, nL_5, nL_6, nL_7, nL_8, nL_9, nL_10, nL_11, nL_12, nL_13, nL_14, nL_15, nL_16, nL_17, nL_18, nL_19, nL_20, nL_21, nL_22, nL_23, nL_24, nL_25, nL_26, nL_27, nL_28, nL_29, nL_30, nL_31, nL_32, nL_33, nL_34, nL_35, nL_36, nL_37, nL_38, nL_39, nL_40, nL_41, nL_42, nL_43, nL_44, nL_45, nL_46, nL_47, nL_48, nL_49, nL_50, nL_51, nL_52, nL_53, nL_54, nL_55, nL_56, nL_57, nL_58, nL_59, nL_60, nL_61, nL_62, nL_63, nL_64, nL_65, nL_66, nL_67, nL_68, nL_69, nL_70, nL_400, nL_402, nL_800, nL_2000]
    · show f_X11_sizeOf_L54 n (nI a) (bT, nI len) (nI a) (cb (Y a)) (nI e) = _
      unfold f_X11_sizeOf_L54
      rcases Nat.lt_or_ge e len with z | z
      · have hce := c_byte h (i := e) (by omega)
        obtain ⟨q1, q2⟩ := wrd_or.1 hr.2.2
        have cl := cb_ltr (Y e) (TPE_lt h e)
        have cd := cb_dig (Y e) (TPE_lt h e)
        rw [q1] at cl
        rw [q2] at cd
        have cl' : f_X11_isLetter (cb (Y e)) = some (nI 0) := cl
        have cd' : f_X11_isDigit (cb (Y e)) = some (nI 0) := cd
        simp (disch := omega) only [X10_length, ↓bd hce, bd hce, ↓bd cd', bd cd', ↓bd c1', bd c1', ↓bd cl', bd cl', ↓reduceIte, ↓if_pos, ↓if_neg, Nat.reduceEqDiff, Nat.reduceLeDiff, Nat.reduceLT, and_true, true_and, and_false, false_and, true_or, or_true, false_or, or_false, eq_self, sb, nJ_of, nJ_lt, nJ_le, nJ_eq, nJ_clamp, nJ_add, nJ_sub, if_pos, if_neg, if_true, if_false, nL_0, nL_1, nL_2, nL_3, nL_4, nL_5, nL_6, nL_7, nL_8, nL_9, nL_10, nL_11, nL_12, nL_13, nL_14, nL_15, nL_16, nL_17, nL_18, nL_19, nL_20, nL_21, nL_22, nL_23, nL_24, nL_25, nL_26, nL_27, nL_28, nL_29, nL_30, nL_31, nL_32, nL_33, nL_34, nL_35, nL_36, nL_37, nL_38, nL_39, nL_40, nL_41, nL_42, nL_43, nL_44, nL_45, nL_46, nL_47, nL_48, nL_49, nL_50, nL_51, nL_52, nL_53, nL_54, nL_55, nL_56, nL_57, nL_58, nL_59, nL_60, nL_61, nL_62, nL_63, nL_64, nL_65, nL_66, nL_67, nL_68, nL_69, nL_70, nL_400, nL_402, nL_800, nL_2000]
      · simp (disch := omega) only [X10_length, ↓reduceIte, ↓if_pos, ↓if_neg, Nat.reduceEqDiff, Nat.reduceLeDiff, Nat.reduceLT, and_true, true_and, and_false, false_and, true_or, or_true, false_or, or_false, eq_self, sb, nJ_of, nJ_lt, nJ_le, nJ_eq, nJ_clamp, nJ_add, nJ_sub, if_pos, if_neg, if_true, if_false, nL_0, nL_1, nL_2, nL_3, nL_4, nL_5, nL_6, nL_7, nL_8, nL_9, nL_10, nL_11, nL_12, nL_13, nL_14, nL_15, nL_16, nL_17, nL_18, nL_19, nL_20, nL_21, nL_22, nL_23, nL_24, nL_25, nL_26, nL_27, nL_28, nL_29, nL_30, nL_31, nL_32, nL_33, nL_34, nL_35, nL_36, nL_37, nL_38, nL_39, nL_40, nL_41, nL_42, nL_43, nL_44, nL_45, nL_46, nL_47, nL_48, nL_49, nL_50, nL_51, nL_52, nL_53, nL_54, nL_55, nL_56, nL_57, nL_58, nL_59, nL_60, nL_61, nL_62, nL_63, nL_64, nL_65, nL_66, nL_67, nL_68, nL_69, nL_70, nL_400, nL_402, nL_800, nL_2000]
  simp (disch := omega) only [↓bd hc, bd hc, ↓bd c1', bd c1', key, ↓reduceIte, ↓if_pos, ↓if_neg, Nat.reduceEqDiff, Nat.reduceLeDiff, Nat.reduceLT, and_true, true_and, and_false, false_and, true_or, or_true, false_or, or_false, eq_self, sb, nJ_of, nJ_lt, nJ_le, nJ_eq, nJ_clamp, nJ_add, nJ_sub, if_pos, if_neg, if_true, if_false, nL_0, nL_1, nL_2, nL_3, nL_4, nL_5, nL_6, nL_7, nL_8, nL_9, nL_10, nL_11, nL_12, nL_13, nL_14, nL_15, nL_16, nL_17, nL_18, nL_19, nL_20, nL_21, nL_22, nL_23, nL_24, nL_25, nL_26, nL_27, nL_28, nL_29, nL_30, nL_31, nL_32, nL_33, nL_34, nL_35, nL_36, nL_37, nL_38, nL_39, nL_40, nL_41, nL_42, nL_43, nL_44, nL_45, nL_46, nL_47, nL_48, nL_49, nL_50, nL_51, nL_52, nL_53, nL_54, nL_55, nL_56, nL_57, nL_58, nL_59, nL_60, nL_61, nL_62, nL_63, nL_64, nL_65, nL_66, nL_67, nL_68, nL_69, nL_70, nL_400, nL_402, nL_800, nL_2000]
theorem c_sizeD (h : TPE Y len bT ta) (hn : 2100 < n) (ha : a < len) (hd : dig (Y a) = true) (hr : RUN dig Y (a + 1) e) (he : e ≤ len) : f_X11_sizeOf n (nI a) (bT, nI len) = some (nI (e - a)) := by
  have h0 := h.1
  have hc := c_byte h (i := a) (by omega)
  have c1 := cb_ltr (Y a) (TPE_lt h a)
  have d1 := cb_dig (Y a) (TPE_lt h a)
  have hl : ltr (Y a) = false := by
    unfold dig at hd
    unfold ltr
    simp only [Bool.and_eq_true, decide_eq_true_eq] at hd
    simp only [Bool.and_eq_false_iff, decide_eq_false_iff_not]
    omega
  rw [hl] at c1
  rw [hd] at d1
  have c1' : f_X11_isLetter (cb (Y a)) = some (nI 0) := c1
  have d1' : f_X11_isDigit (cb (Y a)) = some (nI 1) := d1
  have hle := hr.1
  unfold f_X11_sizeOf
  have key : iter (fun s : Int32 => f_X11_sizeOf_L54 n (nI a) (bT, nI len) (nI a) (cb (Y a)) s) n (nI (a + 1)) = some (nI (e - a)) := by
    refine it_run _ hr.1 (fun j p q => ?_) ?_ (by omega)
    · have hb := hr.2.1 j p q
      have hj := run_len h dig_256 hb
      have hcj := c_byte h (i := j) (by omega)
      have cd := cb_dig (Y j) (TPE_lt h j)
      rw [hb] at cd
      have cd' : f_X11_isDigit (cb (Y j)) = some (nI 1) := cd
      show f_X11_sizeOf_L54 n (nI a) (bT, nI len) (nI a) (cb (Y a)) (nI j) = _
      unfold f_X11_sizeOf_L54
      simp (disch := omega) only [X10_length, ↓bd hcj, bd hcj, ↓bd cd', bd cd', ↓reduceIte, ↓if_pos, ↓if_neg, Nat.reduceEqDiff, Nat.reduceLeDiff, Nat.reduceLT, and_true, true_and, and_false, false_and, true_or, or_true, false_or, or_false, eq_self, sb, nJ_of, nJ_lt, nJ_le, nJ_eq, nJ_clamp, nJ_add, nJ_sub, if_pos, if_neg, if_true, if_false, nL_0, nL_1, nL_2, nL_3, nL_4, nL_5, nL_6, nL_7, nL_8, nL_9, nL_10, nL_11, nL_12, nL_13, nL_14, nL_15, nL_16, nL_17, nL_18, nL_19, nL_20, nL_21, nL_22, nL_23, nL_24, nL_25, nL_26, nL_27, nL_28, nL_29, nL_30, nL_31, nL_32, nL_33, nL_34, nL_35, nL_36, nL_37, nL_38, nL_39, nL_40, nL_41, nL_42, nL_43, nL_44, nL_45, nL_46, nL_47, nL_48, nL_49, nL_50, nL_51, nL_52, nL_53, nL_54, nL_55, nL_56, nL_57, nL_58, nL_59, nL_60, nL_61, nL_62, nL_63, nL_64, nL_65, nL_66, nL_67, nL_68, nL_69, nL_70, nL_400, nL_402, nL_800, nL_2000]
    · show f_X11_sizeOf_L54 n (nI a) (bT, nI len) (nI a) (cb (Y a)) (nI e) = _
      unfold f_X11_sizeOf_L54
      rcases Nat.lt_or_ge e len with z | z
      · have hce := c_byte h (i := e) (by omega)
        have cd := cb_dig (Y e) (TPE_lt h e)
        rw [hr.2.2] at cd
        have cd' : f_X11_isDigit (cb (Y e)) = some (nI 0) := cd
        simp (disch := omega) only [X10_length, ↓bd hce, bd hce, ↓bd cd', bd cd', ↓bd c1', bd c1', ↓reduceIte, ↓if_pos, ↓if_neg, Nat.reduceEqDiff, Nat.reduceLeDiff, Nat.reduceLT, and_true, true_and, and_false, false_and, true_or, or_true, false_or, or_false, eq_self, sb, nJ_of, nJ_lt, nJ_le, nJ_eq, nJ_clamp, nJ_add, nJ_sub, if_pos, if_neg, if_true, if_false, nL_0, nL_1, nL_2, nL_3, nL_4, nL_5, nL_6, nL_7, nL_8, nL_9, nL_10, nL_11, nL_12, nL_13, nL_14, nL_15, nL_16, nL_17, nL_18, nL_19, nL_20, nL_21, nL_22, nL_23, nL_24, nL_25, nL_26, nL_27, nL_28, nL_29, nL_30, nL_31, nL_32, nL_33, nL_34, nL_35, nL_36, nL_37, nL_38, nL_39, nL_40, nL_41, nL_42, nL_43, nL_44, nL_45, nL_46, nL_47, nL_48, nL_49, nL_50, nL_51, nL_52, nL_53, nL_54, nL_55, nL_56, nL_57, nL_58, nL_59, nL_60, nL_61, nL_62, nL_63, nL_64, nL_65, nL_66, nL_67, nL_68, nL_69, nL_70, nL_400, nL_402, nL_800, nL_2000]
      · simp (disch := omega) only [X10_length, ↓reduceIte, ↓if_pos, ↓if_neg, Nat.reduceEqDiff, Nat.reduceLeDiff, Nat.reduceLT, and_true, true_and, and_false, false_and, true_or, or_true, false_or, or_false, eq_self, sb, nJ_of, nJ_lt, nJ_le, nJ_eq, nJ_clamp, nJ_add, nJ_sub, if_pos, if_neg, if_true, if_false, nL_0, nL_1, nL_2, nL_3, nL_4, nL_5, nL_6, nL_7, nL_8, nL_9, nL_10, nL_11, nL_12, nL_13, nL_14, nL_15, nL_16, nL_17, nL_18, nL_19, nL_20, nL_21, nL_22, nL_23, nL_24, nL_25, nL_26, nL_27, nL_28, nL_29, nL_30, nL_31, nL_32, nL_33, nL_34, nL_35, nL_36, nL_37, nL_38, nL_39, nL_40, nL_41, nL_42, nL_43, nL_44, nL_45, nL_46, nL_47, nL_48, nL_49, nL_50, nL_51, nL_52, nL_53, nL_54, nL_55, nL_56, nL_57, nL_58, nL_59, nL_60, nL_61, nL_62, nL_63, nL_64, nL_65, nL_66, nL_67, nL_68, nL_69, nL_70, nL_400, nL_402, nL_800, nL_2000]
  simp (disch := omega) only [↓bd hc, bd hc, ↓bd c1', bd c1', ↓bd d1', bd d1', key, ↓reduceIte, ↓if_pos, ↓if_neg, Nat.reduceEqDiff, Nat.reduceLeDiff, Nat.reduceLT, and_true, true_and, and_false, false_and, true_or, or_true, false_or, or_false, eq_self, sb, nJ_of, nJ_lt, nJ_le, nJ_eq, nJ_clamp, nJ_add, nJ_sub, if_pos, if_neg, if_true, if_false, nL_0, nL_1, nL_2, nL_3, nL_4, nL_5, nL_6, nL_7, nL_8, nL_9, nL_10, nL_11, nL_12, nL_13, nL_14, nL_15, nL_16, nL_17, nL_18, nL_19, nL_20, nL_21, nL_22, nL_23, nL_24, nL_25, nL_26, nL_27, nL_28, nL_29, nL_30, nL_31, nL_32, nL_33, nL_34, nL_35, nL_36, nL_37, nL_38, nL_39, nL_40, nL_41, nL_42, nL_43, nL_44, nL_45, nL_46, nL_47, nL_48, nL_49, nL_50, nL_51, nL_52, nL_53, nL_54, nL_55, nL_56, nL_57, nL_58, nL_59, nL_60, nL_61, nL_62, nL_63, nL_64, nL_65, nL_66, nL_67, nL_68, nL_69, nL_70, nL_400, nL_402, nL_800, nL_2000]
/-- the size of anything else -/
def szS (Y : Nat → Nat) (a : Nat) : Nat := if (Y a = 60 ∨ Y a = 62) ∧ Y (a + 1) = 61 then 2 else 1
theorem c_sizeS (h : TPE Y len bT ta) (ha : a < len) (hl : ltr (Y a) = false) (hd : dig (Y a) = false) : f_X11_sizeOf n (nI a) (bT, nI len) = some (nI (szS Y a)) := by
  have h0 := h.1
  have hc := c_byte h (i := a) (by omega)
  have hc2 := c_byte h (i := a + 1) (by omega)
  have c1 := cb_ltr (Y a) (TPE_lt h a)
  have d1 := cb_dig (Y a) (TPE_lt h a)
  rw [hl] at c1
  rw [hd] at d1
  have c1' : f_X11_isLetter (cb (Y a)) = some (nI 0) := c1
  have d1' : f_X11_isDigit (cb (Y a)) = some (nI 0) := d1
  obtain ⟨-, -, -, e60, e62⟩ := cb_eqs (Y a) (TPE_lt h a)
  obtain ⟨-, -, e61, -, -⟩ := cb_eqs (Y (a + 1)) (TPE_lt h (a + 1))
  unfold f_X11_sizeOf f_X11_sizeOf_R32 szS
  by_cases q61 : Y (a + 1) = 61
  · have z61 := e61.2 q61
    by_cases q60 : Y a = 60
    · have z60 := e60.2 q60
      rw [if_pos ⟨Or.inl q60, q61⟩]
      simp (disch := omega) only [↓bd hc, bd hc, ↓bd c1', bd c1', ↓bd d1', bd d1', ↓bd hc2, bd hc2, z60, z61, ↓reduceIte, ↓if_pos, ↓if_neg, Nat.reduceEqDiff, Nat.reduceLeDiff, Nat.reduceLT, and_true, true_and, and_false, false_and, true_or, or_true, false_or, or_false, eq_self, sb, nJ_of, nJ_lt, nJ_le, nJ_eq, nJ_clamp, nJ_add, nJ_sub, if_pos, if_neg, if_true, if_false, nL_0, nL_1, nL_2, nL_3, nL_4, nL_5, nL_6, nL_7, nL_8, nL_9, nL_10, nL_11, nL_12, nL_13, nL_14, nL_15, nL_16, nL_17, nL_18, nL_19, nL_20, nL_21, nL_22, nL_23, nL_24, nL_25, nL_26, nL_27, nL_28, nL_29, nL_30, nL_31, nL_32, nL_33, nL_34, nL_35, nL_36, nL_37, nL_38, nL_39, nL_40, nL_41, nL_42, nL_43, nL_44, nL_45, nL_46, nL_47, nL_48, nL_49, nL_50, nL_51, nL_52, nL_53, nL_54, nL_55, nL_56, nL_57, nL_58, nL_59, nL_60, nL_61, nL_62, nL_63, nL_64, nL_65, nL_66, nL_67, nL_68, nL_69, nL_70, nL_400, nL_402, nL_800, nL_2000]
    · have z60 : ¬ cb (Y a) = nI 60 := fun z => q60 (e60.1 z)
      by_cases q62 : Y a = 62
      · have z62 := e62.2 q62
        rw [if_pos ⟨Or.inr q62, q61⟩]
        simp (disch := omega) only [↓bd hc, bd hc, ↓bd c1', bd c1', ↓bd d1', bd d1', ↓bd hc2, bd hc2, z60, z62, z61, ↓reduceIte, ↓if_pos, ↓if_neg, Nat.reduceEqDiff, Nat.reduceLeDiff, Nat.reduceLT, and_true, true_and, and_false, false_and, true_or, or_true, false_or, or_false, eq_self, sb, nJ_of, nJ_lt, nJ_le, nJ_eq, nJ_clamp, nJ_add, nJ_sub, if_pos, if_neg, if_true, if_false, nL_0, nL_1, nL_2, nL_3, nL_4, nL_5, nL_6, nL_7, nL_8, nL_9, nL_10, nL_11, nL_12, nL_13, nL_14, nL_15, nL_16, nL_17, nL_18, nL_19, nL_20, nL_21, nL_22, nL_23, nL_24, nL_25, nL_26, nL_27, nL_28, nL_29, nL_30, nL_31, nL_32, nL_33, nL_34, nL_35, nL_36, nL_37, nL_38, nL_39, nL_40, nL_41, nL_42, nL_43, nL_44, nL_45, nL_46, nL_47, nL_48, nL_49, nL_50, nL_51, nL_52, nL_53, nL_54, nL_55, nL_56, nL_57, nL_58, nL_59, nL_60, nL_61, nL_62, nL_63, nL_64, nL_65, nL_66, nL_67, nL_68, nL_69, nL_70, nL_400, nL_402, nL_800, nL_2000]
      · have z62 : ¬ cb (Y a) = nI 62 := fun z => q62 (e62.1 z)
        rw [if_neg (fun z => by rcases z.1 with z | z; exact q60 z; exact q62 z)]
        simp (disch := omega) only [↓bd hc, bd hc, ↓bd c1', bd c1', ↓bd d1', bd d1', z60, z62, ↓reduceIte, ↓if_pos, ↓if_neg, Nat.reduceEqDiff, Nat.reduceLeDiff, Nat.reduceLT, and_true, true_and, and_false, false_and, true_or, or_true, false_or, or_false, eq_self, sb, nJ_of, nJ_lt, nJ_le, nJ_eq, nJ_clamp, nJ_add, nJ_sub, if_pos, if_neg, if_true, if_false, nL_0, nL_1, nL_2, nL_3, nL_4, nL_5, nL_6, nL_7, nL_8, nL_9, nL_10, nL_11, nL_12, nL_13, nL_14, nL_15, nL_16, nL_17, nL_18, nL_19, nL_20, nL_21, nL_22, nL_23, nL_24, nL_25, nL_26, nL_27, nL_28, nL_29, nL_30, nL_31, nL_32, nL_33, nL_34, nL_35, nL_36, nL_37, nL_38, nL_39, nL_40, nL_41, nL_42, nL_43, nL_44, nL_45, nL_46, nL_47, nL_48, nL_49, nL_50, nL_51, nL_52, nL_53, nL_54, nL_55, nL_56, nL_57, nL_58, nL_59, nL_60, nL_61, nL_62, nL_63, nL_64, nL_65, nL_66, nL_67, nL_68, nL_69, nL_70, nL_400, nL_402, nL_800, nL_2000]
  · have z61 : ¬ cb (Y (a + 1)) = nI 61 := fun z => q61 (e61.1 z)
    rw [if_neg (fun z => q61 z.2)]
    by_cases q60 : cb (Y a) = nI 60
    · simp (disch := omega) only [↓bd hc, bd hc, ↓bd c1', bd c1', ↓bd d1', bd d1', ↓bd hc2, bd hc2, q60, z61, ↓reduceIte, ↓if_pos, ↓if_neg, Nat.reduceEqDiff, Nat.reduceLeDiff, Nat.reduceLT, and_true, true_and, and_false, false_and, true_or, or_true, false_or, or_false, eq_self, sb, nJ_of, nJ_lt, nJ_le, nJ_eq, nJ_clamp, nJ_add, nJ_sub, if_pos, if_neg, if_true, if_false, nL_0, nL_1, nL_2, nL_3, nL_4, nL_5, nL_6, nL_7, nL_8, nL_9, nL_10, nL_11, nL_12, nL_13, nL_14, nL_15, nL_16, nL_17, nL_18, nL_19, nL_20, nL_21, nL_22, nL_23, nL_24, nL_25, nL_26, nL_27, nL_28, nL_29, nL_30, nL_31, nL_32, nL_33, nL_34, nL_35, nL_36, nL_37, nL_38, nL_39, nL_40, nL_41, nL_42, nL_43, nL_44, nL_45, nL_46, nL_47, nL_48, nL_49, nL_50, nL_51, nL_52, nL_53, nL_54, nL_55, nL_56, nL_57, nL_58, nL_59, nL_60, nL_61, nL_62, nL_63, nL_64, nL_65, nL_66, nL_67, nL_68, nL_69, nL_70, nL_400, nL_402, nL_800, nL_2000]
    · by_cases q62 : cb (Y a) = nI 62
      · simp (disch := omega) only [↓bd hc, bd hc, ↓bd c1', bd c1', ↓bd d1', bd d1', ↓bd hc2, bd hc2, q60, q62, z61, ↓reduceIte, ↓if_pos, ↓if_neg, Nat.reduceEqDiff, Nat.reduceLeDiff, Nat.reduceLT, and_true, true_and, and_false, false_and, true_or, or_true, false_or, or_false, eq_self, sb, nJ_of, nJ_lt, nJ_le, nJ_eq, nJ_clamp, nJ_add, nJ_sub, if_pos, if_neg, if_true, if_false, nL_0, nL_1, nL_2, nL_3, nL_4, nL_5, nL_6, nL_7, nL_8, nL_9, nL_10, nL_11, nL_12, nL_13, nL_14, nL_15, nL_16, nL_17, nL_18, nL_19, nL_20, nL_21, nL_22, nL_23, nL_24, nL_25, nL_26, nL_27, nL_28, nL_29, nL_30, nL_31, nL_32, nL_33, nL_34, nL_35, nL_36, nL_37, nL_38, nL_39, nL_40, nL_41, nL_42, nL_43, nL_44, nL_45, nL_46, nL_47, nL_48, nL_49, nL_50, nL_51, nL_52, nL_53, nL_54, nL_55, nL_56, nL_57, nL_58, nL_59, nL_60, nL_61, nL_62, nL_63, nL_64, nL_65, nL_66, nL_67, nL_68, nL_69, nL_70, nL_400, nL_402, nL_800, nL_2000]
      · simp (disch := omega) only [↓bd hc, bd hc, ↓bd c1', bd c1', ↓bd d1', bd d1', q60, q62, ↓reduceIte, ↓if_pos, ↓if_neg, Nat.reduceEqDiff, Nat.reduceLeDiff, Nat.reduceLT, and_true, true_and, and_false, false_and, true_or, or_true, false_or, or_false, eq_self, sb, nJ_of, nJ_lt, nJ_le, nJ_eq, nJ_clamp, nJ_add, nJ_sub, if_pos, if_neg, if_true, if_false, nL_0, nL_1, nL_2, nL_3, nL_4, nL_5, nL_6, nL_7, nL_8, nL_9, nL_10, nL_11, nL_12, nL_13, nL_14, nL_15, nL_16, nL_17, nL_18, nL_19, nL_20, nL_21, nL_22, nL_23, nL_24, nL_25, nL_26, nL_27, nL_28, nL_29, nL_30, nL_31, nL_32, nL_33, nL_34, nL_35, nL_36, nL_37, nL_38, nL_39, nL_40, nL_41, nL_42, nL_43, nL_44, nL_45, nL_46, nL_47, nL_48, nL_49, nL_50, nL_51, nL_52, nL_53, nL_54, nL_55, nL_56, nL_57, nL_58, nL_59, nL_60, nL_61, nL_62, nL_63, nL_64, nL_65, nL_66, nL_67, nL_68, nL_69, nL_70, nL_400, nL_402, nL_800, nL_2000]
end P59
