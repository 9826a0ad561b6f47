/-! A TEST: its tree by hand, its steps in the code -/
def ndK (s n : Nat) : Nat := if s = 0 then 48 else if s = 1 then 16 + n else if s = 2 then 6 else if s = 3 then 51 else if s = 4 then 30 else if s = 5 then 31 else if s < 15 then 32 + s else if s = 15 then 24 else if s = 16 then 23 else if s = 17 then 25 else if s = 18 then 27 else if s = 19 then 28 else 29
def oL {α β : Type} (f : α → List β) : Option α → List β
  | none => []
  | some x => f x
def pfx : (h : Nat) → Nd h → List (Nat × Nat)
  | 0, _ => []
  | h + 1, t => (oL (pfx h) t.2.2.1 ++ oL (pfx h) t.2.2.2) ++ [(ndK t.1 t.2.1, t.2.1)]
theorem pfx_s (h : Nat) (t : Nd (h + 1)) : pfx (h + 1) t = (oL (pfx h) t.2.2.1 ++ oL (pfx h) t.2.2.2) ++ [(ndK t.1 t.2.1, t.2.1)] := rfl
def Stq (c : bX6) (p : Nat) (l : List (Nat × Nat)) : Prop := ∀ (i : Nat) (x : Nat × Nat), l[i]? = some x → X6_stepKinds c (p + i) = x.1 ∧ (x.1 = 48 ∨ x.1 = 6 ∨ x.1 = 23 ∨ x.1 = 24 ∨ x.1 = 25 → X6_stepValues c (p + i) = nI x.2)
theorem Stq_l {c : bX6} {p : Nat} {l m : List (Nat × Nat)} (h : Stq c p (l ++ m)) : Stq c p l := fun i x hx => h i x (by rw [List.getElem?_append_left (List.getElem?_eq_some_iff.mp hx).1]; exact hx)
theorem Stq_r {c : bX6} {p : Nat} {l m : List (Nat × Nat)} (h : Stq c p (l ++ m)) : Stq c (p + l.length) m := fun i x hx => by
  have := h (l.length + i) x (by rw [List.getElem?_append_right (Nat.le_add_right _ _), Nat.add_sub_cancel_left]; exact hx)
  rw [Nat.add_assoc]
  exact this
def big : (h : Nat) → Nd h → Prop
  | 0, _ => False
  | _ + 1, t => 10 ≤ t.1
def EvOk (nf ng : Nat) : (h : Nat) → Nd h → Prop
  | 0, _ => False
  | h + 1, t => ((t.1 = 0 ∨ (t.1 = 1 ∧ t.2.1 < 7)) ∧ t.2.2 = (none, none)) ∨ (t.1 = 2 ∧ t.2.1 < nf ∧ t.2.2 = (none, none)) ∨ (t.1 = 3 ∧ one (EvOk nf ng h) t.2.2.1 ∧ t.2.2.2 = none) ∨ (t.1 = 15 ∧ t.2.1 < nf ∧ t.2.2 = (none, none)) ∨ ((t.1 = 16 ∨ t.1 = 17) ∧ t.2.1 < ng ∧ t.2.2 = (none, none)) ∨ (t.1 = 18 ∧ one (fun x => EvOk nf ng h x ∧ big h x) t.2.2.1 ∧ t.2.2.2 = none) ∨ ((4 ≤ t.1 ∧ t.1 < 15) ∧ one (EvOk nf ng h) t.2.2.1 ∧ one (EvOk nf ng h) t.2.2.2) ∨ ((t.1 = 19 ∨ t.1 = 20) ∧ one (fun x => EvOk nf ng h x ∧ big h x) t.2.2.1 ∧ one (fun x => EvOk nf ng h x ∧ big h x) t.2.2.2)
/-! signs -/
theorem both_min (x y : Int32) : (if y ≤ x then some y else some x) = some (if y < x then y else x) := by
  by_cases h : y < x
  · rw [if_pos h, if_pos (Int32.le_of_lt h)]
  · rw [if_neg h]
    by_cases h2 : y ≤ x
    · rw [if_pos h2]
      have h3 : x ≤ y := Int32.not_lt.mp h
      exact congrArg some (Int32.le_antisymm h2 h3)
    · rw [if_neg h2]
theorem both_max (x y : Int32) : (if y ≤ x then some x else some y) = some (if x < y then y else x) := by
  by_cases h : x < y
  · rw [if_pos h, if_neg (Int32.not_le.mpr h)]
  · rw [if_neg h, if_pos (Int32.not_lt.mp h)]
theorem both_4 (x y : Int32) (n : Nat) : f_X16_both (nI 4) x y = f_X9_join (ndK 4 n) x y := by
  have hk : ndK 4 n = 30 := rfl
  have hm : smap 30 = nI 17 := by decide
  simp (disch := omega) only [hk, hm, f_X16_both, f_X9_join, f_X9_join_R150, f_X9_join_R164, f_X9_join_R178, f_X9_join_R192, f_X9_join_R206, f_X12_oneIf, nL_29, nL_31, nL_32, nL_33, nL_34, ↓reduceIte, ↓if_pos, ↓if_neg, Nat.reduceEqDiff, Nat.reduceLeDiff, Nat.reduceLT, and_true, true_and, and_false, false_and, true_or, or_true, false_or, or_false, eq_self, sb, nJ_of, nJ_lt, nJ_le, nJ_eq, nJ_clamp, nJ_add, nJ_sub, if_pos, if_neg, if_true, if_false, nL_0, nL_1, nL_2, nL_3, nL_4, nL_5, nL_6, nL_7, nL_8, nL_9, nL_10, nL_11, nL_12, nL_13, nL_14, nL_15, nL_16, nL_17, nL_18, nL_19, nL_20, nL_21, nL_22, nL_23, nL_24, nL_25, nL_26, nL_27, nL_28, nL_30, nL_38, nL_40, nL_48, nL_58, nL_60]
  exact both_min x y
theorem both_5 (x y : Int32) (n : Nat) : f_X16_both (nI 5) x y = f_X9_join (ndK 5 n) x y := by
  have hk : ndK 5 n = 31 := rfl
  have hm : smap 31 = nI 18 := by decide
  simp (disch := omega) only [hk, hm, f_X16_both, f_X9_join, f_X9_join_R150, f_X9_join_R164, f_X9_join_R178, f_X9_join_R192, f_X9_join_R206, f_X12_oneIf, nL_29, nL_31, nL_32, nL_33, nL_34, ↓reduceIte, ↓if_pos, ↓if_neg, Nat.reduceEqDiff, Nat.reduceLeDiff, Nat.reduceLT, and_true, true_and, and_false, false_and, true_or, or_true, false_or, or_false, eq_self, sb, nJ_of, nJ_lt, nJ_le, nJ_eq, nJ_clamp, nJ_add, nJ_sub, if_pos, if_neg, if_true, if_false, nL_0, nL_1, nL_2, nL_3, nL_4, nL_5, nL_6, nL_7, nL_8, nL_9, nL_10, nL_11, nL_12, nL_13, nL_14, nL_15, nL_16, nL_17, nL_18, nL_19, nL_20, nL_21, nL_22, nL_23, nL_24, nL_25, nL_26, nL_27, nL_28, nL_30, nL_38, nL_40, nL_48, nL_58, nL_60]
  exact both_max x y
theorem both_6 (x y : Int32) (n : Nat) : f_X16_both (nI 6) x y = f_X9_join (ndK 6 n) x y := by
  have hk : ndK 6 n = 38 := rfl
  have hm : smap 38 = nI 25 := by decide
  simp (disch := omega) only [hk, hm, f_X16_both, f_X9_join, f_X9_join_R150, f_X9_join_R164, f_X9_join_R178, f_X9_join_R192, f_X9_join_R206, f_X12_oneIf, nL_29, nL_31, nL_32, nL_33, nL_34, ↓reduceIte, ↓if_pos, ↓if_neg, Nat.reduceEqDiff, Nat.reduceLeDiff, Nat.reduceLT, and_true, true_and, and_false, false_and, true_or, or_true, false_or, or_false, eq_self, sb, nJ_of, nJ_lt, nJ_le, nJ_eq, nJ_clamp, nJ_add, nJ_sub, if_pos, if_neg, if_true, if_false, nL_0, nL_1, nL_2, nL_3, nL_4, nL_5, nL_6, nL_7, nL_8, nL_9, nL_10, nL_11, nL_12, nL_13, nL_14, nL_15, nL_16, nL_17, nL_18, nL_19, nL_20, nL_21, nL_22, nL_23, nL_24, nL_25, nL_26, nL_27, nL_28, nL_30, nL_38, nL_40, nL_48, nL_58, nL_60]
theorem both_7 (x y : Int32) (n : Nat) : f_X16_both (nI 7) x y = f_X9_join (ndK 7 n) x y := by
  have hk : ndK 7 n = 39 := rfl
  have hm : smap 39 = nI 15 := by decide
  simp (disch := omega) only [hk, hm, f_X16_both, f_X9_join, f_X9_join_R150, f_X9_join_R164, f_X9_join_R178, f_X9_join_R192, f_X9_join_R206, f_X12_oneIf, nL_29, nL_31, nL_32, nL_33, nL_34, ↓reduceIte, ↓if_pos, ↓if_neg, Nat.reduceEqDiff, Nat.reduceLeDiff, Nat.reduceLT, and_true, true_and, and_false, false_and, true_or, or_true, false_or, or_false, eq_self, sb, nJ_of, nJ_lt, nJ_le, nJ_eq, nJ_clamp, nJ_add, nJ_sub, if_pos, if_neg, if_true, if_false, nL_0, nL_1, nL_2, nL_3, nL_4, nL_5, nL_6, nL_7, nL_8, nL_9, nL_10, nL_11, nL_12, nL_13, nL_14, nL_15, nL_16, nL_17, nL_18, nL_19, nL_20, nL_21, nL_22, nL_23, nL_24, nL_25, nL_26, nL_27, nL_28, nL_30, nL_38, nL_40, nL_48, nL_58, nL_60]
theorem both_8 (x y : Int32) (n : Nat) : f_X16_both (nI 8) x y = f_X9_join (ndK 8 n) x y := by
  have hk : ndK 8 n = 40 := rfl
  have hm : smap 40 = nI 26 := by decide
  simp (disch := omega) only [hk, hm, f_X16_both, f_X9_join, f_X9_join_R150, f_X9_join_R164, f_X9_join_R178, f_X9_join_R192, f_X9_join_R206, f_X12_oneIf, nL_29, nL_31, nL_32, nL_33, nL_34, ↓reduceIte, ↓if_pos, ↓if_neg, Nat.reduceEqDiff, Nat.reduceLeDiff, Nat.reduceLT, and_true, true_and, and_false, false_and, true_or, or_true, false_or, or_false, eq_self, sb, nJ_of, nJ_lt, nJ_le, nJ_eq, nJ_clamp, nJ_add, nJ_sub, if_pos, if_neg, if_true, if_false, nL_0, nL_1, nL_2, nL_3, nL_4, nL_5, nL_6, nL_7, nL_8, nL_9, nL_10, nL_11, nL_12, nL_13, nL_14, nL_15, nL_16, nL_17, nL_18, nL_19, nL_20, nL_21, nL_22, nL_23, nL_24, nL_25, nL_26, nL_27, nL_28, nL_30, nL_38, nL_40, nL_48, nL_58, nL_60]
theorem both_9 (x y : Int32) (n : Nat) : f_X16_both (nI 9) x y = f_X9_join (ndK 9 n) x y := by
  have hk : ndK 9 n = 41 := rfl
  have hm : smap 41 = nI 27 := by decide
  simp (disch := omega) only [hk, hm, f_X16_both, f_X9_join, f_X9_join_R150, f_X9_join_R164, f_X9_join_R178, f_X9_join_R192, f_X9_join_R206, f_X12_oneIf, nL_29, nL_31, nL_32, nL_33, nL_34, ↓reduceIte, ↓if_pos, ↓if_neg, Nat.reduceEqDiff, Nat.reduceLeDiff, Nat.reduceLT, and_true, true_and, and_false, false_and, true_or, or_true, false_or, or_false, eq_self, sb, nJ_of, nJ_lt, nJ_le, nJ_eq, nJ_clamp, nJ_add, nJ_sub, if_pos, if_neg, if_true, if_false, nL_0, nL_1, nL_2, nL_3, nL_4, nL_5, nL_6, nL_7, nL_8, nL_9, nL_10, nL_11, nL_12, nL_13, nL_14, nL_15, nL_16, nL_17, nL_18, nL_19, nL_20, nL_21, nL_22, nL_23, nL_24, nL_25, nL_26, nL_27, nL_28, nL_30, nL_38, nL_40, nL_48, nL_58, nL_60]
theorem both_10 (x y : Int32) (n : Nat) : f_X16_both (nI 10) x y = f_X9_join (ndK 10 n) x y := by
  have hk : ndK 10 n = 42 := rfl
  have hm : smap 42 = nI 28 := by decide
  simp (disch := omega) only [hk, hm, f_X16_both, f_X9_join, f_X9_join_R150, f_X9_join_R164, f_X9_join_R178, f_X9_join_R192, f_X9_join_R206, f_X12_oneIf, nL_29, nL_31, nL_32, nL_33, nL_34, ↓reduceIte, ↓if_pos, ↓if_neg, Nat.reduceEqDiff, Nat.reduceLeDiff, Nat.reduceLT, and_true, true_and, and_false, false_and, true_or, or_true, false_or, or_false, eq_self, sb, nJ_of, nJ_lt, nJ_le, nJ_eq, nJ_clamp, nJ_add, nJ_sub, if_pos, if_neg, if_true, if_false, nL_0, nL_1, nL_2, nL_3, nL_4, nL_5, nL_6, nL_7, nL_8, nL_9, nL_10, nL_11, nL_12, nL_13, nL_14, nL_15, nL_16, nL_17, nL_18, nL_19, nL_20, nL_21, nL_22, nL_23, nL_24, nL_25, nL_26, nL_27, nL_28, nL_30, nL_38, nL_40, nL_48, nL_58, nL_60]
theorem both_11 (x y : Int32) (n : Nat) : f_X16_both (nI 11) x y = f_X9_join (ndK 11 n) x y := by
  have hk : ndK 11 n = 43 := rfl
  have hm : smap 43 = nI 29 := by decide
  simp (disch := omega) only [hk, hm, f_X16_both, f_X9_join, f_X9_join_R150, f_X9_join_R164, f_X9_join_R178, f_X9_join_R192, f_X9_join_R206, f_X12_oneIf, nL_29, nL_31, nL_32, nL_33, nL_34, ↓reduceIte, ↓if_pos, ↓if_neg, Nat.reduceEqDiff, Nat.reduceLeDiff, Nat.reduceLT, and_true, true_and, and_false, false_and, true_or, or_true, false_or, or_false, eq_self, sb, nJ_of, nJ_lt, nJ_le, nJ_eq, nJ_clamp, nJ_add, nJ_sub, if_pos, if_neg, if_true, if_false, nL_0, nL_1, nL_2, nL_3, nL_4, nL_5, nL_6, nL_7, nL_8, nL_9, nL_10, nL_11, nL_12, nL_13, nL_14, nL_15, nL_16, nL_17, nL_18, nL_19, nL_20, nL_21, nL_22, nL_23, nL_24, nL_25, nL_26, nL_27, nL_28, nL_30, nL_38, nL_40, nL_48, nL_58, nL_60]
theorem both_12 (x y : Int32) (n : Nat) : f_X16_both (nI 12) x y = f_X9_join (ndK 12 n) x y := by
  have hk : ndK 12 n = 44 := rfl
  have hm : smap 44 = nI 30 := by decide
  simp (disch := omega) only [hk, hm, f_X16_both, f_X9_join, f_X9_join_R150, f_X9_join_R164, f_X9_join_R178, f_X9_join_R192, f_X9_join_R206, f_X12_oneIf, nL_29, nL_31, nL_32, nL_33, nL_34, ↓reduceIte, ↓if_pos, ↓if_neg, Nat.reduceEqDiff, Nat.reduceLeDiff, Nat.reduceLT, and_true, true_and, and_false, false_and, true_or, or_true, false_or, or_false, eq_self, sb, nJ_of, nJ_lt, nJ_le, nJ_eq, nJ_clamp, nJ_add, nJ_sub, if_pos, if_neg, if_true, if_false, nL_0, nL_1, nL_2, nL_3, nL_4, nL_5, nL_6, nL_7, nL_8, nL_9, nL_10, nL_11, nL_12, nL_13, nL_14, nL_15, nL_16, nL_17, nL_18, nL_19, nL_20, nL_21, nL_22, nL_23, nL_24, nL_25, nL_26, nL_27, nL_28, nL_30, nL_38, nL_40, nL_48, nL_58, nL_60]
theorem both_13 (x y : Int32) (n : Nat) : f_X16_both (nI 13) x y = f_X9_join (ndK 13 n) x y := by
  have hk : ndK 13 n = 45 := rfl
  have hm : smap 45 = nI 31 := by decide
  simp (disch := omega) only [hk, hm, f_X16_both, f_X9_join, f_X9_join_R150, f_X9_join_R164, f_X9_join_R178, f_X9_join_R192, f_X9_join_R206, f_X12_oneIf, nL_29, nL_31, nL_32, nL_33, nL_34, ↓reduceIte, ↓if_pos, ↓if_neg, Nat.reduceEqDiff, Nat.reduceLeDiff, Nat.reduceLT, and_true, true_and, and_false, false_and, true_or, or_true, false_or, or_false, eq_self, sb, nJ_of, nJ_lt, nJ_le, nJ_eq, nJ_clamp, nJ_add, nJ_sub, if_pos, if_neg, if_true, if_false, nL_0, nL_1, nL_2, nL_3, nL_4, nL_5, nL_6, nL_7, nL_8, nL_9, nL_10, nL_11, nL_12, nL_13, nL_14, nL_15, nL_16, nL_17, nL_18, nL_19, nL_20, nL_21, nL_22, nL_23, nL_24, nL_25, nL_26, nL_27, nL_28, nL_30, nL_38, nL_40, nL_48, nL_58, nL_60]
theorem both_14 (x y : Int32) (n : Nat) : f_X16_both (nI 14) x y = f_X9_join (ndK 14 n) x y := by
  have hk : ndK 14 n = 46 := rfl
  have hm : smap 46 = nI 32 := by decide
  simp (disch := omega) only [hk, hm, f_X16_both, f_X9_join, f_X9_join_R150, f_X9_join_R164, f_X9_join_R178, f_X9_join_R192, f_X9_join_R206, f_X12_oneIf, nL_29, nL_31, nL_32, nL_33, nL_34, ↓reduceIte, ↓if_pos, ↓if_neg, Nat.reduceEqDiff, Nat.reduceLeDiff, Nat.reduceLT, and_true, true_and, and_false, false_and, true_or, or_true, false_or, or_false, eq_self, sb, nJ_of, nJ_lt, nJ_le, nJ_eq, nJ_clamp, nJ_add, nJ_sub, if_pos, if_neg, if_true, if_false, nL_0, nL_1, nL_2, nL_3, nL_4, nL_5, nL_6, nL_7, nL_8, nL_9, nL_10, nL_11, nL_12, nL_13, nL_14, nL_15, nL_16, nL_17, nL_18, nL_19, nL_20, nL_21, nL_22, nL_23, nL_24, nL_25, nL_26, nL_27, nL_28, nL_30, nL_38, nL_40, nL_48, nL_58, nL_60]
theorem both_sg (s : Nat) (h1 : 4 ≤ s) (h2 : s < 15) (x y : Int32) (n : Nat) : f_X16_both (nI s) x y = f_X9_join (ndK s n) x y := by
  have h : s = 4 ∨ s = 5 ∨ s = 6 ∨ s = 7 ∨ s = 8 ∨ s = 9 ∨ s = 10 ∨ s = 11 ∨ s = 12 ∨ s = 13 ∨ s = 14 := by omega
  rcases h with rfl | rfl | rfl | rfl | rfl | rfl | rfl | rfl | rfl | rfl | rfl
  · exact both_4 x y n
  · exact both_5 x y n
  · exact both_6 x y n
  · exact both_7 x y n
  · exact both_8 x y n
  · exact both_9 x y n
  · exact both_10 x y n
  · exact both_11 x y n
  · exact both_12 x y n
  · exact both_13 x y n
  · exact both_14 x y n
theorem both_and {x y : Int32} (hx : x = 0 ∨ x = 1) (hy : y = 0 ∨ y = 1) (n : Nat) : f_X16_both (nI 19) x y = f_X9_join (ndK 19 n) x y := by
  have hk : ndK 19 n = 28 := rfl
  rw [hk]
  rcases hx with rfl | rfl <;> rcases hy with rfl | rfl <;> decide +kernel
theorem both_or {x y : Int32} (hx : x = 0 ∨ x = 1) (hy : y = 0 ∨ y = 1) (n : Nat) : f_X16_both (nI 20) x y = f_X9_join (ndK 20 n) x y := by
  have hk : ndK 20 n = 29 := rfl
  rw [hk]
  rcases hx with rfl | rfl <;> rcases hy with rfl | rfl <;> decide +kernel
theorem push_ok (v : Int32) (w : Nat → Int32) {H : Nat} (hH : H < 400) : f_X9_push v (w, nI H) = some (upd w H v, nI (H + 1)) := by
  unfold f_X9_push
  rw [if_neg (show ¬ (400 : Int32) ≤ nI H from nI_ge (b := 400) hH (by decide)), if_neg (show ¬ (nI H < 0 ∨ 400 ≤ (nI H).toNatClampNeg) from vp_in_nI hH (by decide))]
  show some (upd w (nI H).toNatClampNeg v, nI H + 1) = _
  rw [nI_clamp (by omega), nI_1]
theorem pop_ok (w : Nat → Int32) {H : Nat} (hH : H < 400) : f_X9_pop (w, nI (H + 1)) = some (w H, nI H) := by
  unfold f_X9_pop
  rw [if_pos (show (0 : Int32) < nI (H + 1) from nI_lt (a := 0) (by omega) (by omega))]
  show (if (nI (H + 1) - 1) < 0 ∨ 400 ≤ (nI (H + 1) - 1).toNatClampNeg then none else some (w (nI (H + 1) - 1).toNatClampNeg, nI (H + 1) - 1)) = _
  rw [nI_pred, if_neg (vp_in_nI hH (by decide)), nI_clamp (by omega)]
theorem two_ok {k H : Nat} {w : Nat → Int32} {v : Int32} (hH : H + 2 < 400) (hj : f_X9_join k (w H) (w (H + 1)) = some v) : f_X9_joinTwo k (w, nI (H + 2)) = some (upd w H v, nI (H + 1)) := by
  unfold f_X9_joinTwo
  rw [pop_ok w (H := H + 1) (by omega), sb]
  show ((f_X9_pop (w, nI (H + 1))).bind _) = _
  rw [pop_ok w (by omega), sb]
  show ((f_X9_join k (w H) (w (H + 1))).bind _) = _
  rw [hj, sb]
  show ((f_X9_push v (w, nI H)).bind _) = _
  rw [push_ok v w (by omega), sb]
section STEP
variable {P : Pl} {S : Sp} {b : bX8} {c2 : bX2} {c4 : bX4}
/-- a sign's step, and the one turned about, and the denial -/
theorem st_two {k H : Nat} {w : Nat → Int32} {v x : Int32} (hk : k = 30 ∨ k = 31 ∨ k = 38 ∨ k = 39 ∨ k = 40 ∨ k = 41 ∨ k = 42 ∨ k = 43 ∨ k = 44 ∨ k = 45 ∨ k = 46 ∨ k = 28 ∨ k = 29) (hH : H + 2 < 400) (hj : f_X9_join k (w H) (w (H + 1)) = some v) : f_X9_step k x (w, nI (H + 2)) b c2 c4 = some (upd w H v, nI (H + 1)) := by
  have h2 := two_ok (k := k) hH hj
  have e : k < 52 ∧ ¬ smap k = 1 ∧ ¬ (smap k = 3 ∨ smap k = 4 ∨ smap k = 5 ∨ smap k = 7 ∨ smap k = 8 ∨ smap k = 9 ∨ smap k = 10 ∨ smap k = 11 ∨ smap k = 12 ∨ smap k = 13 ∨ smap k = 14) ∧ ¬ smap k = 6 ∧ ¬ smap k = 24 := by
    rcases hk with rfl | rfl | rfl | rfl | rfl | rfl | rfl | rfl | rfl | rfl | rfl | rfl | rfl <;> decide
  obtain ⟨e1, e2, e3, e4, e5⟩ := e
  unfold f_X9_step
  rw [if_pos e1, if_neg e2, if_neg e3, if_neg e4, if_neg e5, h2, sb]
theorem ndK_two {s : Nat} (hs : (4 ≤ s ∧ s < 15) ∨ s = 19 ∨ s = 20) (n : Nat) : ndK s n = 30 ∨ ndK s n = 31 ∨ ndK s n = 38 ∨ ndK s n = 39 ∨ ndK s n = 40 ∨ ndK s n = 41 ∨ ndK s n = 42 ∨ ndK s n = 43 ∨ ndK s n = 44 ∨ ndK s n = 45 ∨ ndK s n = 46 ∨ ndK s n = 28 ∨ ndK s n = 29 := by
  unfold ndK
  repeat' split
  all_goals omega
theorem st_turn {H : Nat} {w : Nat → Int32} {x : Int32} (hH : H + 1 < 400) : f_X9_step 51 x (w, nI (H + 1)) b c2 c4 = some (upd w H (-(w H)), nI (H + 1)) := by
  unfold f_X9_step
  rw [if_pos (by decide), if_neg (by decide), if_neg (by decide), if_neg (by decide), if_pos (by decide), pop_ok w (by omega), sb]
  show ((f_X9_push (-(w H)) (w, nI H)).bind _) = _
  rw [push_ok _ w (by omega), sb]
theorem st_not {H : Nat} {w : Nat → Int32} {x : Int32} (hH : H + 1 < 400) (hb : w H = 0 ∨ w H = 1) : f_X9_step 27 x (w, nI (H + 1)) b c2 c4 = some (upd w H (1 - w H), nI (H + 1)) := by
  unfold f_X9_step f_X9_step_R154
  rw [if_pos (by decide), if_pos (by decide), pop_ok w (by omega), sb]
  rcases hb with h | h
  · show (if w H = 0 then _ else _) = _
    rw [h, if_pos rfl]
    show ((f_X9_push 1 (w, nI H)).bind _) = _
    rw [push_ok _ w (by omega), sb]
    rfl
  · show (if w H = 0 then _ else _) = _
    rw [h, if_neg (by decide)]
    show ((f_X9_push 0 (w, nI H)).bind _) = _
    rw [push_ok _ w (by omega), sb]
    rfl
theorem st_num {H : Nat} {w : Nat → Int32} {x : Int32} (hH : H < 400) : f_X9_step 48 x (w, nI H) b c2 c4 = some (upd w H x, nI (H + 1)) := by
  unfold f_X9_step
  rw [if_pos (by decide), if_neg (by decide), if_neg (by decide), if_pos (by decide), push_ok _ w hH, sb]
theorem st_for {k H : Nat} {w : Nat → Int32} {x v : Int32} (hH : H < 400) (hk : k < 52) (h1 : ¬ smap k = 1) (hm : smap k = 3 ∨ smap k = 4 ∨ smap k = 5 ∨ smap k = 7 ∨ smap k = 8 ∨ smap k = 9 ∨ smap k = 10 ∨ smap k = 11 ∨ smap k = 12 ∨ smap k = 13 ∨ smap k = 14) (hv : f_X8_standsFor k x b c2 c4 = some v) : f_X9_step k x (w, nI H) b c2 c4 = some (upd w H v, nI (H + 1)) := by
  unfold f_X9_step
  rw [if_pos hk, if_neg h1, if_pos hm, hv, sb, push_ok _ w hH, sb]
/-- what a word stands for -/
theorem one01 (p : Prop) [Decidable p] : (f_X12_oneIf (nI (b01 p))).bind (fun u => some u) = some (if p then 1 else 0) := by
  unfold f_X12_oneIf b01
  by_cases h : p
  · rw [if_pos h, if_pos h, if_neg (by decide)]
    rfl
  · rw [if_neg h, if_neg h, if_pos (show nI 0 = 0 from rfl)]
    rfl
theorem eqI {a c : Nat} (ha : a < 100) (hc : c < 100) (x y : Int32) : (if a = c then x else y) = if nI a = nI c then x else y := by
  by_cases h : a = c
  · rw [if_pos h, if_pos (congrArg nI h)]
  · rw [if_neg h, if_neg (fun z => h ((nI_eq (by omega) (by omega)).mp z))]
theorem sf_over (hP : PlOk P) (hS : SpB S) (hI : SpI P S) (hh : S.hour < 2 ^ 30) (hb : RPt S b) (h2 : RFr P c2) {n : Nat} (hn : n < 10) : f_X8_standsFor 24 (nI n) b c2 c4 = some (if nI (S.fp n) = 1 then 1 else 0) := by
  have h := hangs_ok hP hI hh hb h2 hn
  have h6 := hS.2.2.2.2.2.1 n
  unfold f_X8_standsFor
  rw [if_pos (by decide), if_pos (by decide), h, sb, one01, eqI (by omega) (by decide)]
  rfl
theorem sf_seat (hP : PlOk P) (hS : SpB S) (hI : SpI P S) (hh : S.hour < 2 ^ 30) (hb : RPt S b) (h4 : RGu P c4) {n : Nat} (hn : n < 10) : f_X8_standsFor 23 (nI n) b c2 c4 = some (if nI (S.gp n) = 1 then 1 else 0) := by
  have h := sits_ok hP hS hI hh hb h4 hn
  have h6 := hS.2.2.2.2.2.2 n
  unfold f_X8_standsFor
  rw [if_pos (by decide), if_neg (by decide), if_pos (by decide), h, sb, one01, eqI (by omega) (by decide)]
  rfl
theorem sf_cont (hP : PlOk P) (hS : SpB S) (hI : SpI P S) (hh : S.hour < 2 ^ 30) (hb : RPt S b) (h4 : RGu P c4) {n : Nat} (hn : n < 10) : f_X8_standsFor 25 (nI n) b c2 c4 = some (if likeS P S n S.strength then 1 else 0) := by
  have h := like_ok hP hS hI hh hb h4 hn (x := S.strength) (by have := hS.2.1; omega)
  rw [← hb.2.2.1] at h
  unfold f_X8_standsFor
  rw [if_pos (by decide), if_neg (by decide), if_neg (by decide), if_pos (by decide), h, sb, one01]
theorem sf_force (hP : PlOk P) (h2 : RFr P c2) {n : Nat} (hn : n < P.nf) : f_X8_standsFor 6 (nI n) b c2 c4 = some (nI (P.fr n).2.1) := by
  have h9 := hP.1
  have h := has2_ok hP h2 (j := n) (by omega)
  unfold f_X8_standsFor
  unfold b01 at h
  rw [if_pos hn] at h
  rw [if_pos (by decide), if_neg (by decide), if_neg (by decide), if_neg (by decide), if_neg (by decide), if_neg (by decide), if_neg (by decide), if_neg (by decide), if_neg (by decide), if_neg (by decide), if_neg (by decide), if_pos (by decide), h, sb, if_neg (show ¬ nI 1 = 0 by decide), if_neg (vp_in_nI (show n < 10 by omega) (by decide)), nI_clamp (by omega), (h2.2 n hn).2.1]
theorem sf_word (hb : RPt S b) {n : Nat} (hn : n < 7) (x : Int32) : f_X8_standsFor (16 + n) x b c2 c4 = some (if nI n = 0 then nI S.hour else if nI n = 1 then nI S.warmth else if nI n = 2 then nI S.strength else if nI n = 3 then nI S.charge else if nI n = 4 then nI S.lemons else if nI n = 5 then nI S.saucers else nI S.storms) := by
  obtain ⟨r1, r2, r3, r4, r5, r6, r7, r8, -⟩ := hb
  unfold f_X8_standsFor
  have h : n = 0 ∨ n = 1 ∨ n = 2 ∨ n = 3 ∨ n = 4 ∨ n = 5 ∨ n = 6 := by omega
  rcases h with rfl | rfl | rfl | rfl | rfl | rfl | rfl
  · rw [if_pos (by decide), if_neg (by decide), if_neg (by decide), if_neg (by decide), if_pos (by decide), r1, if_pos (by decide)]
  · rw [if_pos (by decide), if_neg (by decide), if_neg (by decide), if_neg (by decide), if_neg (by decide), if_pos (by decide), r2, if_neg (by decide), if_pos (by decide)]
  · rw [if_pos (by decide), if_neg (by decide), if_neg (by decide), if_neg (by decide), if_neg (by decide), if_neg (by decide), if_pos (by decide), r3, if_neg (by decide), if_neg (by decide), if_pos (by decide)]
  · rw [if_pos (by decide), if_neg (by decide), if_neg (by decide), if_neg (by decide), if_neg (by decide), if_neg (by decide), if_neg (by decide), if_pos (by decide), r4, if_neg (by decide), if_neg (by decide), if_neg (by decide), if_pos (by decide)]
  · rw [if_pos (by decide), if_neg (by decide), if_neg (by decide), if_neg (by decide), if_neg (by decide), if_neg (by decide), if_neg (by decide), if_neg (by decide), if_pos (by decide), r5, if_neg (by decide), if_neg (by decide), if_neg (by decide), if_neg (by decide), if_pos (by decide)]
  · rw [if_pos (by decide), if_neg (by decide), if_neg (by decide), if_neg (by decide), if_neg (by decide), if_neg (by decide), if_neg (by decide), if_neg (by decide), if_neg (by decide), if_pos (by decide), r6, if_neg (by decide), if_neg (by decide), if_neg (by decide), if_neg (by decide), if_neg (by decide), if_pos (by decide)]
  · rw [if_pos (by decide), if_neg (by decide), if_neg (by decide), if_neg (by decide), if_neg (by decide), if_neg (by decide), if_neg (by decide), if_neg (by decide), if_neg (by decide), if_neg (by decide), if_pos (by decide), r8, if_neg (by decide), if_neg (by decide), if_neg (by decide), if_neg (by decide), if_neg (by decide), if_neg (by decide)]
end STEP
