/-! the kind and the value of a token, in the class -/
/-- the signs of a token are the text of a kind -/
def HT (Y : Nat → Nat) (a sz k : Nat) : Bool := decide (kln k = sz) && decide (∀ i, i < sz → cb (Y (a + i)) = kby k i)
section P60
variable {Y : Nat → Nat} {len : Nat} {bT : Nat → Int32} {ta : Nat → Int32}
variable {n i e a sz k : Nat}
theorem c_text (h : TPE Y len bT ta) (hn : 2100 < n) (ha : a < len) (hz : sz ≤ 2000) (hk : k < 52) : f_X10_hasText n (nI a) (nI sz) k (bT, nI len) = some (b1 (HT Y a sz k)) := by
  have h0 := h.1
  have hkl : kln k < 100 := (show ∀ k : Nat, k < 52 → kln k < 100 by decide +kernel) k hk
  unfold f_X10_hasText
  rw [if_pos hk]
  by_cases q : kln k = sz
  · rw [if_pos (by rw [q])]
    have key : ∀ (d i m : Nat), sz - i = d → i ≤ sz → (∀ j, j < i → cb (Y (a + j)) = kby k j) → d < m → iter (fun s : Int32 => f_X10_hasText_L13 n (nI a) (nI sz) k (bT, nI len) (nI a) (nI sz) k s) m (nI i) = some (b1 (HT Y a sz k)) := by
      intro d
      induction d with
      | zero =>
        intro i m hd hi hall hm
        obtain ⟨m, rfl⟩ : ∃ q, m = q + 1 := ⟨m - 1, by omega⟩
        have hT : HT Y a sz k = true := by
          unfold HT
          rw [decide_eq_true q, decide_eq_true (fun j hj => hall j (by omega))]
          rfl
        rw [hT]
        refine iter_inr ?_
        show f_X10_hasText_L13 n (nI a) (nI sz) k (bT, nI len) (nI a) (nI sz) k (nI i) = some (.inr (nI 1))
        unfold f_X10_hasText_L13
        simp (disch := omega) only [↓reduceIte, ↓if_pos, ↓if_neg, Nat.reduceEqDiff, Nat.reduceLeDiff, Nat.reduceLT, and_true, true_and, and_false, false_and, true_or, or_true, false_or, or_false, eq_self, sb, nJ_of, nJ_lt, nJ_le, nJ_eq, nJ_clamp, nJ_add, nJ_sub, if_pos, if_neg, if_true, if_false, nL_0, nL_1, nL_2, nL_3, nL_4, nL_5, nL_6, nL_7, nL_8, nL_9, nL_10, nL_11, nL_12, nL_13, nL_14, nL_15, nL_16, nL_17, nL_18, nL_19, nL_20, nL_21, nL_22, nL_23, nL_24, nL_25, nL_26, nL_27, nL_28, nL_29, nL_30, nL_31, nL_32, nL_33, nL_34, nL_35, nL_36, nL_37, nL_38, nL_39, nL_40, nL_41, nL_42, nL_43, nL_44, nL_45, nL_46, nL_47, nL_48, nL_49, nL_50, nL_51, nL_52, nL_53, nL_54, nL_55, nL_56, nL_57, nL_58, nL_59, nL_60, nL_61, nL_62, nL_63, nL_64, nL_65, nL_66, nL_67, nL_68, nL_69, nL_70, nL_400, nL_402, nL_800, nL_2000]
      | succ d ih =>
        intro i m hd hi hall hm
        obtain ⟨m, rfl⟩ : ∃ q, m = q + 1 := ⟨m - 1, by omega⟩
        have hc := c_byte h (i := a + i) (by omega)
        by_cases w : cb (Y (a + i)) = kby k i
        · rw [iter_inl (s' := nI (i + 1)) ?_]
          · exact ih (i + 1) m (by omega) (by omega) (fun j hj => by
              rcases Nat.lt_or_ge j i with z | z
              · exact hall j z
              · have e : j = i := by omega
                rw [e]
                exact w) (by omega)
          · show f_X10_hasText_L13 n (nI a) (nI sz) k (bT, nI len) (nI a) (nI sz) k (nI i) = _
            unfold f_X10_hasText_L13
            simp (disch := omega) only [↓bd hc, bd hc, q, w, ↓reduceIte, ↓if_pos, ↓if_neg, Nat.reduceEqDiff, Nat.reduceLeDiff, Nat.reduceLT, and_true, true_and, and_false, false_and, true_or, or_true, false_or, or_false, eq_self, sb, nJ_of, nJ_lt, nJ_le, nJ_eq, nJ_clamp, nJ_add, nJ_sub, if_pos, if_neg, if_true, if_false, nL_0, nL_1, nL_2, nL_3, nL_4, nL_5, nL_6, nL_7, nL_8, nL_9, nL_10, nL_11, nL_12, nL_13, nL_14, nL_15, nL_16, nL_17, nL_18, nL_19, nL_20, nL_21, nL_22, nL_23, nL_24, nL_25, nL_26, nL_27, nL_28, nL_29, nL_30, nL_31, nL_32, nL_33, nL_34, nL_35, nL_36, nL_37, nL_38, nL_39, nL_40, nL_41, nL_42, nL_43, nL_44, nL_45, nL_46, nL_47, nL_48, nL_49, nL_50, nL_51, nL_52, nL_53, nL_54, nL_55, nL_56, nL_57, nL_58, nL_59, nL_60, nL_61, nL_62, nL_63, nL_64, nL_65, nL_66, nL_67, nL_68, nL_69, nL_70, nL_400, nL_402, nL_800, nL_2000]
        · have hT : HT Y a sz k = false := by
            unfold HT
            have w2 : ¬ ∀ i, i < sz → cb (Y (a + i)) = kby k i := fun z => w (z i (by omega))
            rw [decide_eq_false w2, Bool.and_false]
          rw [hT]
          refine iter_inr ?_
          show f_X10_hasText_L13 n (nI a) (nI sz) k (bT, nI len) (nI a) (nI sz) k (nI i) = some (.inr (nI 0))
          unfold f_X10_hasText_L13
          simp (disch := omega) only [↓bd hc, bd hc, q, w, ↓reduceIte, ↓if_pos, ↓if_neg, Nat.reduceEqDiff, Nat.reduceLeDiff, Nat.reduceLT, and_true, true_and, and_false, false_and, true_or, or_true, false_or, or_false, eq_self, sb, nJ_of, nJ_lt, nJ_le, nJ_eq, nJ_clamp, nJ_add, nJ_sub, if_pos, if_neg, if_true, if_false, nL_0, nL_1, nL_2, nL_3, nL_4, nL_5, nL_6, nL_7, nL_8, nL_9, nL_10, nL_11, nL_12, nL_13, nL_14, nL_15, nL_16, nL_17, nL_18, nL_19, nL_20, nL_21, nL_22, nL_23, nL_24, nL_25, nL_26, nL_27, nL_28, nL_29, nL_30, nL_31, nL_32, nL_33, nL_34, nL_35, nL_36, nL_37, nL_38, nL_39, nL_40, nL_41, nL_42, nL_43, nL_44, nL_45, nL_46, nL_47, nL_48, nL_49, nL_50, nL_51, nL_52, nL_53, nL_54, nL_55, nL_56, nL_57, nL_58, nL_59, nL_60, nL_61, nL_62, nL_63, nL_64, nL_65, nL_66, nL_67, nL_68, nL_69, nL_70, nL_400, nL_402, nL_800, nL_2000]
    exact key sz 0 n (by omega) (by omega) (fun j hj => by omega) (by omega)
  · rw [if_neg (by rw [nJ_eq (by omega) (by omega)]; exact q)]
    have hT : HT Y a sz k = false := by
      unfold HT
      rw [decide_eq_false q]
      rfl
    rw [hT]
    rfl
/-- the loop over all kinds -/
theorem c_kinds (h : TPE Y len bT ta) (hn : 2100 < n) (ha : a < len) (hz : sz ≤ 2000) (x1 x2 : Int32) : iter (fun s : Int32 => f_X11_kindOf_L49 n x1 x2 (bT, nI len) (nI a) (nI sz) (cb (Y a)) s) n (nI 0) = some (fE (fnd (HT Y a sz) 52) (fun k => k) (bif ltr (Y a) then 47 else 50)) := by
  refine fnd_loop _ (HT Y a sz) 52 (fun k => k) _ (fun i hi hp => ?_) (fun i hi hp => ?_) ?_ 52 0 n (by omega) (by omega) rfl (by omega)
  · have ht := c_text h hn ha hz hi
    rw [hp] at ht
    have ht' : f_X10_hasText n (nI a) (nI sz) i (bT, nI len) = some (nI 1) := ht
    show f_X11_kindOf_L49 n x1 x2 (bT, nI len) (nI a) (nI sz) (cb (Y a)) (nI i) = _
    unfold f_X11_kindOf_L49
    simp (disch := omega) only [↓bd ht', bd ht', ↓reduceIte, ↓if_pos, ↓if_neg, Nat.reduceEqDiff, Nat.reduceLeDiff, Nat.reduceLT, and_true, true_and, and_false, false_and, true_or, or_true, false_or, or_false, eq_self, sb, nJ_of, nJ_lt, nJ_le, nJ_eq, nJ_clamp, nJ_add, nJ_sub, if_pos, if_neg, if_true, if_false, nL_0, nL_1, nL_2, nL_3, nL_4, nL_5, nL_6, nL_7, nL_8, nL_9, nL_10, nL_11, nL_12, nL_13, nL_14, nL_15, nL_16, nL_17, nL_18, nL_19, nL_20, nL_21, nL_22, nL_23, nL_24, nL_25, nL_26, nL_27, nL_28, nL_29, nL_30, nL_31, nL_32, nL_33, nL_34, nL_35, nL_36, nL_37, nL_38, nL_39, nL_40, nL_41, nL_42, nL_43, nL_44, nL_45, nL_46, nL_47, nL_48, nL_49, nL_50, nL_51, nL_52, nL_53, nL_54, nL_55, nL_56, nL_57, nL_58, nL_59, nL_60, nL_61, nL_62, nL_63, nL_64, nL_65, nL_66, nL_67, nL_68, nL_69, nL_70, nL_400, nL_402, nL_800, nL_2000]
  · have ht := c_text h hn ha hz hi
    rw [hp] at ht
    have ht' : f_X10_hasText n (nI a) (nI sz) i (bT, nI len) = some (nI 0) := ht
    show f_X11_kindOf_L49 n x1 x2 (bT, nI len) (nI a) (nI sz) (cb (Y a)) (nI i) = _
    unfold f_X11_kindOf_L49
    simp (disch := omega) only [↓bd ht', bd ht', ↓reduceIte, ↓if_pos, ↓if_neg, Nat.reduceEqDiff, Nat.reduceLeDiff, Nat.reduceLT, and_true, true_and, and_false, false_and, true_or, or_true, false_or, or_false, eq_self, sb, nJ_of, nJ_lt, nJ_le, nJ_eq, nJ_clamp, nJ_add, nJ_sub, if_pos, if_neg, if_true, if_false, nL_0, nL_1, nL_2, nL_3, nL_4, nL_5, nL_6, nL_7, nL_8, nL_9, nL_10, nL_11, nL_12, nL_13, nL_14, nL_15, nL_16, nL_17, nL_18, nL_19, nL_20, nL_21, nL_22, nL_23, nL_24, nL_25, nL_26, nL_27, nL_28, nL_29, nL_30, nL_31, nL_32, nL_33, nL_34, nL_35, nL_36, nL_37, nL_38, nL_39, nL_40, nL_41, nL_42, nL_43, nL_44, nL_45, nL_46, nL_47, nL_48, nL_49, nL_50, nL_51, nL_52, nL_53, nL_54, nL_55, nL_56, nL_57, nL_58, nL_59, nL_60, nL_61, nL_62, nL_63, nL_64, nL_65, nL_66, nL_67, nL_68, nL_69, nL_70, nL_400, nL_402, nL_800, nL_2000]
  · have c1 := cb_ltr (Y a) (TPE_lt h a)
    show f_X11_kindOf_L49 n x1 x2 (bT, nI len) (nI a) (nI sz) (cb (Y a)) (nI 52) = _
    unfold f_X11_kindOf_L49
    cases q : ltr (Y a) with
    | true =>
      rw [q] at c1
      have c1' : f_X11_isLetter (cb (Y a)) = some (nI 1) := c1
      rw [if_pos (show (52 : Int32) ≤ nI 52 from by decide), bd c1']
      rfl
    | false =>
      rw [q] at c1
      have c1' : f_X11_isLetter (cb (Y a)) = some (nI 0) := c1
      rw [if_pos (show (52 : Int32) ≤ nI 52 from by decide), bd c1']
      rfl
/-- the kind of a token -/
def kdC (Y : Nat → Nat) (a sz : Nat) : Nat := if dig (Y a) = true then (if sz ≤ 6 then 48 else 50) else if ltr (Y a) = true ∧ 10 < sz then 50 else fE (fnd (HT Y a sz) 52) (fun k => k) (bif ltr (Y a) then 47 else 50)
theorem c_kind (h : TPE Y len bT ta) (hn : 2100 < n) (ha : a < len) (hz : sz ≤ 2000) : f_X11_kindOf n (nI a) (nI sz) (bT, nI len) = some (kdC Y a sz) := by
  have h0 := h.1
  have hc := c_byte h (i := a) (by omega)
  have c1 := cb_ltr (Y a) (TPE_lt h a)
  have d1 := cb_dig (Y a) (TPE_lt h a)
  have kk := c_kinds h hn ha hz (nI a) (nI sz)
  unfold f_X11_kindOf kdC
  cases qd : dig (Y a) with
  | true =>
    rw [qd] at d1
    have d1' : f_X11_isDigit (cb (Y a)) = some (nI 1) := d1
    rw [if_pos rfl]
    by_cases z : sz ≤ 6
    · rw [if_pos z]
      simp (disch := omega) only [↓bd hc, bd hc, ↓bd d1', bd d1', ↓reduceIte, ↓if_pos, ↓if_neg, Nat.reduceEqDiff, Nat.reduceLeDiff, Nat.reduceLT, and_true, true_and, and_false, false_and, true_or, or_true, false_or, or_false, eq_self, sb, nJ_of, nJ_lt, nJ_le, nJ_eq, nJ_clamp, nJ_add, nJ_sub, if_pos, if_neg, if_true, if_false, nL_0, nL_1, nL_2, nL_3, nL_4, nL_5, nL_6, nL_7, nL_8, nL_9, nL_10, nL_11, nL_12, nL_13, nL_14, nL_15, nL_16, nL_17, nL_18, nL_19, nL_20, nL_21, nL_22, nL_23, nL_24, nL_25, nL_26, nL_27, nL_28, nL_29, nL_30, nL_31, nL_32, nL_33, nL_34, nL_35, nL_36, nL_37, nL_38, nL_39, nL_40, nL_41, nL_42, nL_43, nL_44, nL_45, nL_46, nL_47, nL_48, nL_49, nL_50, nL_51, nL_52, nL_53, nL_54, nL_55, nL_56, nL_57, nL_58, nL_59, nL_60, nL_61, nL_62, nL_63, nL_64, nL_65, nL_66, nL_67, nL_68, nL_69, nL_70, nL_400, nL_402, nL_800, nL_2000]
    · rw [if_neg z]
      simp (disch := omega) only [↓bd hc, bd hc, ↓bd d1', bd d1', ↓reduceIte, ↓if_pos, ↓if_neg, Nat.reduceEqDiff, Nat.reduceLeDiff, Nat.reduceLT, and_true, true_and, and_false, false_and, true_or, or_true, false_or, or_false, eq_self, sb, nJ_of, nJ_lt, nJ_le, nJ_eq, nJ_clamp, nJ_add, nJ_sub, if_pos, if_neg, if_true, if_false, nL_0, nL_1, nL_2, nL_3, nL_4, nL_5, nL_6, nL_7, nL_8, nL_9, nL_10, nL_11, nL_12, nL_13, nL_14, nL_15, nL_16, nL_17, nL_18, nL_19, nL_20, nL_21, nL_22, nL_23, nL_24, nL_25, nL_26, nL_27, nL_28, nL_29, nL_30, nL_31, nL_32, nL_33, nL_34, nL_35, nL_36, nL_37, nL_38, nL_39, nL_40, nL_41, nL_42, nL_43, nL_44, nL_45, nL_46, nL_47, nL_48, nL_49, nL_50, nL_51, nL_52, nL_53, nL_54, nL_55, nL_56, nL_57, nL_58, nL_59, nL_60, nL_61, nL_62, nL_63, nL_64, nL_65, nL_66, nL_67, nL_68, nL_69, nL_70, nL_400, nL_402, nL_800, nL_2000]
  | false =>
    rw [qd] at d1
    have d1' : f_X11_isDigit (cb (Y a)) = some (nI 0) := d1
    rw [if_neg (show ¬ (false = true) from Bool.false_ne_true)]
    cases ql : ltr (Y a) with
    | true =>
      rw [ql] at c1 kk
      have c1' : f_X11_isLetter (cb (Y a)) = some (nI 1) := c1
      by_cases z : 10 < sz
      · rw [if_pos (show true = true ∧ 10 < sz from ⟨rfl, z⟩)]
        simp (disch := omega) only [↓bd hc, bd hc, ↓bd d1', bd d1', ↓bd c1', bd c1', ↓reduceIte, ↓if_pos, ↓if_neg, Nat.reduceEqDiff, Nat.reduceLeDiff, Nat.reduceLT, and_true, true_and, and_false, false_and, true_or, or_true, false_or, or_false, eq_self, sb, nJ_of, nJ_lt, nJ_le, nJ_eq, nJ_clamp, nJ_add, nJ_sub, if_pos, if_neg, if_true, if_false, nL_0, nL_1, nL_2, nL_3, nL_4, nL_5, nL_6, nL_7, nL_8, nL_9, nL_10, nL_11, nL_12, nL_13, nL_14, nL_15, nL_16, nL_17, nL_18, nL_19, nL_20, nL_21, nL_22, nL_23, nL_24, nL_25, nL_26, nL_27, nL_28, nL_29, nL_30, nL_31, nL_32, nL_33, nL_34, nL_35, nL_36, nL_37, nL_38, nL_39, nL_40, nL_41, nL_42, nL_43, nL_44, nL_45, nL_46, nL_47, nL_48, nL_49, nL_50, nL_51, nL_52, nL_53, nL_54, nL_55, nL_56, nL_57, nL_58, nL_59, nL_60, nL_61, nL_62, nL_63, nL_64, nL_65, nL_66, nL_67, nL_68, nL_69, nL_70, nL_400, nL_402, nL_800, nL_2000]
      · rw [if_neg (show ¬ (true = true ∧ 10 < sz) from fun w => z w.2)]
        simp (disch := omega) only [↓bd hc, bd hc, ↓bd d1', bd d1', ↓bd c1', bd c1', ↓reduceIte, ↓if_pos, ↓if_neg, Nat.reduceEqDiff, Nat.reduceLeDiff, Nat.reduceLT, and_true, true_and, and_false, false_and, true_or, or_true, false_or, or_false, eq_self, sb, nJ_of, nJ_lt, nJ_le, nJ_eq, nJ_clamp, nJ_add, nJ_sub, if_pos, if_neg, if_true, if_false, nL_0, nL_1, nL_2, nL_3, nL_4, nL_5, nL_6, nL_7, nL_8, nL_9, nL_10, nL_11, nL_12, nL_13, nL_14, nL_15, nL_16, nL_17, nL_18, nL_19, nL_20, nL_21, nL_22, nL_23, nL_24, nL_25, nL_26, nL_27, nL_28, nL_29, nL_30, nL_31, nL_32, nL_33, nL_34, nL_35, nL_36, nL_37, nL_38, nL_39, nL_40, nL_41, nL_42, nL_43, nL_44, nL_45, nL_46, nL_47, nL_48, nL_49, nL_50, nL_51, nL_52, nL_53, nL_54, nL_55, nL_56, nL_57, nL_58, nL_59, nL_60, nL_61, nL_62, nL_63, nL_64, nL_65, nL_66, nL_67, nL_68, nL_69, nL_70, nL_400, nL_402, nL_800, nL_2000]
        exact kk
    | false =>
      rw [ql] at c1 kk
      have c1' : f_X11_isLetter (cb (Y a)) = some (nI 0) := c1
      rw [if_neg (show ¬ (false = true ∧ 10 < sz) from fun w => Bool.false_ne_true w.1)]
      simp (disch := omega) only [↓bd hc, bd hc, ↓bd d1', bd d1', ↓bd c1', bd c1', ↓reduceIte, ↓if_pos, ↓if_neg, Nat.reduceEqDiff, Nat.reduceLeDiff, Nat.reduceLT, and_true, true_and, and_false, false_and, true_or, or_true, false_or, or_false, eq_self, sb, nJ_of, nJ_lt, nJ_le, nJ_eq, nJ_clamp, nJ_add, nJ_sub, if_pos, if_neg, if_true, if_false, nL_0, nL_1, nL_2, nL_3, nL_4, nL_5, nL_6, nL_7, nL_8, nL_9, nL_10, nL_11, nL_12, nL_13, nL_14, nL_15, nL_16, nL_17, nL_18, nL_19, nL_20, nL_21, nL_22, nL_23, nL_24, nL_25, nL_26, nL_27, nL_28, nL_29, nL_30, nL_31, nL_32, nL_33, nL_34, nL_35, nL_36, nL_37, nL_38, nL_39, nL_40, nL_41, nL_42, nL_43, nL_44, nL_45, nL_46, nL_47, nL_48, nL_49, nL_50, nL_51, nL_52, nL_53, nL_54, nL_55, nL_56, nL_57, nL_58, nL_59, nL_60, nL_61, nL_62, nL_63, nL_64, nL_65, nL_66, nL_67, nL_68, nL_69, nL_70, nL_400, nL_402, nL_800, nL_2000]
      exact kk
/-- the value of a token -/
def wsg (u : Int32) : Int32 := bif decide (u < 48) || decide (57 < u) then (u - 97) + 11 else (u - 48) + 1
theorem c_wsg (u : Int32) : f_X11_wordSign u = some (wsg u) := by
  unfold f_X11_wordSign f_X11_isDigit wsg
  by_cases p : u < 48
  · rw [if_pos p, decide_eq_true p]
    rfl
  · rw [if_neg p, decide_eq_false p]
    by_cases q : 57 < u
    · rw [if_pos q, decide_eq_true q]
      rfl
    · rw [if_neg q, decide_eq_false q]
      rfl
def vlI (b : Bool) (Y : Nat → Nat) (a : Nat) : Nat → Int64
  | 0 => 0
  | l + 1 => bif b then vlI b Y a l * 10 + Int32.toInt64 (cb (Y (a + l)) - 48) else vlI b Y a l * 37 + Int32.toInt64 (wsg (cb (Y (a + l))))
theorem c_value (h : TPE Y len bT ta) (hn : 2100 < n) (ha : a < len) (hz : sz ≤ 2000) : f_X11_valueOf n (nI a) (nI sz) (bT, nI len) = some (vlI (dig (Y a)) Y a sz) := by
  have h0 := h.1
  have hc := c_byte h (i := a) (by omega)
  have d1 := cb_dig (Y a) (TPE_lt h a)
  unfold f_X11_valueOf
  rw [bd hc, bd d1]
  refine iter_count _ (fun i => (vlI (dig (Y a)) Y a i, nI i)) sz _ (fun i hi => ?_) ?_ (by omega)
  · have hci := c_byte h (i := a + i) (by omega)
    have hw := c_wsg (cb (Y (a + i)))
    show f_X11_valueOf_L15 n (nI a) (nI sz) (bT, nI len) (nI a) (nI sz) (b1 (dig (Y a))) (vlI (dig (Y a)) Y a i) (nI i) = some (.inl (vlI (dig (Y a)) Y a (i + 1), nI (i + 1)))
    unfold f_X11_valueOf_L15
    cases qd : dig (Y a) with
    | true =>
      have e1 : ((b1 true : Int32) = nI 0) = False := by decide
      have e2 : vlI true Y a (i + 1) = vlI true Y a i * 10 + Int32.toInt64 (cb (Y (a + i)) - 48) := rfl
      rw [e2]
      simp (disch := omega) only [↓bd hci, bd hci, e1, ↓reduceIte, ↓if_pos, ↓if_neg, Nat.reduceEqDiff, Nat.reduceLeDiff, Nat.reduceLT, and_true, true_and, and_false, false_and, true_or, or_true, false_or, or_false, eq_self, sb, nJ_of, nJ_lt, nJ_le, nJ_eq, nJ_clamp, nJ_add, nJ_sub, if_pos, if_neg, if_true, if_false, nL_0, nL_1, nL_2, nL_3, nL_4, nL_5, nL_6, nL_7, nL_8, nL_9, nL_10, nL_11, nL_12, nL_13, nL_14, nL_15, nL_16, nL_17, nL_18, nL_19, nL_20, nL_21, nL_22, nL_23, nL_24, nL_25, nL_26, nL_27, nL_28, nL_29, nL_30, nL_31, nL_32, nL_33, nL_34, nL_35, nL_36, nL_37, nL_38, nL_39, nL_40, nL_41, nL_42, nL_43, nL_44, nL_45, nL_46, nL_47, nL_48, nL_49, nL_50, nL_51, nL_52, nL_53, nL_54, nL_55, nL_56, nL_57, nL_58, nL_59, nL_60, nL_61, nL_62, nL_63, nL_64, nL_65, nL_66, nL_67, nL_68, nL_69, nL_70, nL_400, nL_402, nL_800, nL_2000]
    | false =>
      have e1 : ((b1 false : Int32) = nI 0) = True := by decide
      have e2 : vlI false Y a (i + 1) = vlI false Y a i * 37 + Int32.toInt64 (wsg (cb (Y (a + i)))) := rfl
      rw [e2]
      simp (disch := omega) only [↓bd hci, bd hci, e1, ↓bd hw, bd hw, ↓reduceIte, ↓if_pos, ↓if_neg, Nat.reduceEqDiff, Nat.reduceLeDiff, Nat.reduceLT, and_true, true_and, and_false, false_and, true_or, or_true, false_or, or_false, eq_self, sb, nJ_of, nJ_lt, nJ_le, nJ_eq, nJ_clamp, nJ_add, nJ_sub, if_pos, if_neg, if_true, if_false, nL_0, nL_1, nL_2, nL_3, nL_4, nL_5, nL_6, nL_7, nL_8, nL_9, nL_10, nL_11, nL_12, nL_13, nL_14, nL_15, nL_16, nL_17, nL_18, nL_19, nL_20, nL_21, nL_22, nL_23, nL_24, nL_25, nL_26, nL_27, nL_28, nL_29, nL_30, nL_31, nL_32, nL_33, nL_34, nL_35, nL_36, nL_37, nL_38, nL_39, nL_40, nL_41, nL_42, nL_43, nL_44, nL_45, nL_46, nL_47, nL_48, nL_49, nL_50, nL_51, nL_52, nL_53, nL_54, nL_55, nL_56, nL_57, nL_58, nL_59, nL_60, nL_61, nL_62, nL_63, nL_64, nL_65, nL_66, nL_67, nL_68, nL_69, nL_70, nL_400, nL_402, nL_800, nL_2000]
  · show f_X11_valueOf_L15 n (nI a) (nI sz) (bT, nI len) (nI a) (nI sz) (b1 (dig (Y a))) (vlI (dig (Y a)) Y a sz) (nI sz) = _
    unfold f_X11_valueOf_L15
    simp (disch := omega) only [↓reduceIte, ↓if_pos, ↓if_neg, Nat.reduceEqDiff, Nat.reduceLeDiff, Nat.reduceLT, and_true, true_and, and_false, false_and, true_or, or_true, false_or, or_false, eq_self, sb, nJ_of, nJ_lt, nJ_le, nJ_eq, nJ_clamp, nJ_add, nJ_sub, if_pos, if_neg, if_true, if_false, nL_0, nL_1, nL_2, nL_3, nL_4, nL_5, nL_6, nL_7, nL_8, nL_9, nL_10, nL_11, nL_12, nL_13, nL_14, nL_15, nL_16, nL_17, nL_18, nL_19, nL_20, nL_21, nL_22, nL_23, nL_24, nL_25, nL_26, nL_27, nL_28, nL_29, nL_30, nL_31, nL_32, nL_33, nL_34, nL_35, nL_36, nL_37, nL_38, nL_39, nL_40, nL_41, nL_42, nL_43, nL_44, nL_45, nL_46, nL_47, nL_48, nL_49, nL_50, nL_51, nL_52, nL_53, nL_54, nL_55, nL_56, nL_57, nL_58, nL_59, nL_60, nL_61, nL_62, nL_63, nL_64, nL_65, nL_66, nL_67, nL_68, nL_69, nL_70, nL_400, nL_402, nL_800, nL_2000]
end P60
