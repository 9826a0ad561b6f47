/-! what teach does behind its reading -/
theorem nI_self {x : Int32} (h : ¬ x < nI 0) : x = nI x.toNatClampNeg ∧ x.toNatClampNeg < 2147483648 := by
  have h1 : 0 ≤ x.toInt := by
    rw [Int32.lt_iff_toInt_lt] at h
    have : (nI 0 : Int32).toInt = 0 := rfl
    omega
  have h2 := x.toInt_lt
  have h3 : x.toNatClampNeg = x.toInt.toNat := rfl
  refine ⟨Int32.toInt_inj.1 ?_, by omega⟩
  show x.toInt = (Int32.ofNat x.toNatClampNeg).toInt
  rw [Int32.toInt_ofNat_of_lt (by omega), h3]
  omega
theorem nI_rng {x : Int32} {lo hi : Nat} (hl : lo < 1000) (hh : hi < 1000) (h1 : ¬ x < nI lo) (h2 : ¬ nI hi < x) : x = nI x.toNatClampNeg ∧ lo ≤ x.toNatClampNeg ∧ x.toNatClampNeg ≤ hi := by
  have h0 : ¬ x < nI 0 := by
    intro q
    apply h1
    rw [Int32.lt_iff_toInt_lt] at q ⊢
    have e0 : (nI 0 : Int32).toInt = 0 := rfl
    have e1 : (nI lo : Int32).toInt = (lo : Int) := Int32.toInt_ofNat_of_lt (by omega)
    omega
  obtain ⟨e, hlt⟩ := nI_self h0
  refine ⟨e, ?_, ?_⟩
  · rw [e, nJ_lt (by omega) (by omega)] at h1
    omega
  · rw [e, nJ_lt (by omega) (by omega)] at h2
    omega
section P65
variable {n : Nat} {K : Nat → Nat} {sT : Nat → Int32} {V : Nat → Int64} {t : Nat} {cu e1 e2 : Int32}
/-- what stands at a token -/
def vAt (X : bX11) (x : Int32) : Int64 := (f_X11_valueAt x X).getD 0
theorem vAt_some (ht : t ≤ 400) (x : Int32) : f_X11_valueAt x (K, sT, V, nI (t + 1), cu, e1, e2) = some (vAt (K, sT, V, nI (t + 1), cu, e1, e2) x) := by
  unfold vAt
  have h : ∃ v, f_X11_valueAt x (K, sT, V, nI (t + 1), cu, e1, e2) = some v := by
    unfold f_X11_valueAt f_X11_has
    by_cases q1 : x < 0
    · rw [if_pos q1]
      exact ⟨0, rfl⟩
    · rw [if_neg q1]
      by_cases q2 : (X11_count (K, sT, V, nI (t + 1), cu, e1, e2)) ≤ x
      · rw [if_pos q2]
        exact ⟨0, rfl⟩
      · rw [if_neg q2]
        by_cases q3 : (400 : Int32) < x
        · rw [if_pos q3]
          exact ⟨0, rfl⟩
        · rw [if_neg q3, sb, if_neg (show ¬ ((1 : Int32) = 0) by decide)]
          obtain ⟨z1, z2⟩ := nI_self (show ¬ x < nI 0 from q1)
          rw [if_neg (show ¬ (x < 0 ∨ 401 ≤ x.toNatClampNeg) from fun w => by
            rcases w with w | w
            · exact q1 w
            · apply q3
              rw [z1, nL_400, nJ_lt (by omega) (by omega)]
              omega)]
          exact ⟨_, rfl⟩
  obtain ⟨v, hv⟩ := h
  rw [hv]
  rfl
theorem vAt_nI (ht : t ≤ 400) {j : Nat} (hj : j ≤ t) : vAt (K, sT, V, nI (t + 1), cu, e1, e2) (nI j) = V j := by
  unfold vAt
  rw [k_valueAt ht hj]
  rfl
/-- the rows of orders, with what their tokens stand for -/
def rsv (X : bX11) (f : Nat → Int32) (i : Nat) : Nat → Int32 := fun j => if j < i then Int64.toInt32 (vAt X (f j)) else f j
theorem rsv_s {X : bX11} {f : Nat → Int32} {i : Nat} : upd (rsv X f i) i (Int64.toInt32 (vAt X (rsv X f i i))) = rsv X f (i + 1) := by
  have e : rsv X f i i = f i := if_neg (by omega)
  rw [e]
  funext j
  unfold rsv
  by_cases c : j = i
  · rw [c, upd_same, if_pos (by omega)]
  · rw [upd_else _ _ c]
    by_cases d : j < i
    · rw [if_pos d, if_pos (by omega)]
    · rw [if_neg d, if_neg (by omega)]
theorem k_resolve (hn : 2100 < n) (ht : t ≤ 400) {oA : Nat → Nat} {oB oC oD : Nat → Int32} {sk : Nat → Nat} {sv : Nat → Int32} {no s : Nat} (hno : no ≤ 16) (hs : s ≤ 400) : f_X6_resolve n (oA, oB, oC, oD, sk, sv, nI no, nI s) (K, sT, V, nI (t + 1), cu, e1, e2) = some (rsv (K, sT, V, nI (t + 1), cu, e1, e2) oB no, rsv (K, sT, V, nI (t + 1), cu, e1, e2) sv s) := by
  have z : ∀ f : Nat → Int32, rsv (K, sT, V, nI (t + 1), cu, e1, e2) f 0 = f := fun f => by
    funext j
    exact if_neg (by omega)
  unfold f_X6_resolve
  have hh := iter_count (fun q : Int32 × (Nat → Int32) => f_X6_resolve_L2 n (oA, oB, oC, oD, sk, sv, nI no, nI s) (K, sT, V, nI (t + 1), cu, e1, e2) q.1 q.2 (X6_stepValues (oA, oB, oC, oD, sk, sv, nI no, nI s))) (fun i => (nI i, rsv (K, sT, V, nI (t + 1), cu, e1, e2) oB i)) no (rsv (K, sT, V, nI (t + 1), cu, e1, e2) oB no, rsv (K, sT, V, nI (t + 1), cu, e1, e2) sv s) (fun i hi => ?_) ?_ (n := n) (by omega)
  · rw [z] at hh
    exact hh
  · have hv := vAt_some (K := K) (sT := sT) (V := V) (cu := cu) (e1 := e1) (e2 := e2) ht (rsv (K, sT, V, nI (t + 1), cu, e1, e2) oB i i)
    show f_X6_resolve_L2 n (oA, oB, oC, oD, sk, sv, nI no, nI s) (K, sT, V, nI (t + 1), cu, e1, e2) (nI i) (rsv (K, sT, V, nI (t + 1), cu, e1, e2) oB i) sv = some (.inl (nI (i + 1), rsv (K, sT, V, nI (t + 1), cu, e1, e2) oB (i + 1)))
    unfold f_X6_resolve_L2
    simp (disch := omega) only [X6_deeds, X6_targets, X6_firstSteps, X6_endSteps, X6_stepKinds, X6_stepValues, X6_count, X6_steps, ↓bd hv, bd hv, rsv_s, ↓reduceIte, ↓if_pos, ↓if_neg, Nat.reduceEqDiff, Nat.reduceLeDiff, Nat.reduceLT, and_true, true_and, and_false, false_and, true_or, or_true, false_or, or_false, eq_self, sb, nJ_of, nJ_lt, nJ_le, nJ_eq, nJ_clamp, nJ_add, nJ_sub, if_pos, if_neg, if_true, if_false, nL_0, nL_1, nL_2, nL_3, nL_4, nL_5, nL_6, nL_7, nL_8, nL_9, nL_10, nL_11, nL_12, nL_13, nL_14, nL_15, nL_16, nL_17, nL_18, nL_19, nL_20, nL_21, nL_22, nL_23, nL_24, nL_25, nL_26, nL_27, nL_28, nL_29, nL_30, nL_31, nL_32, nL_33, nL_34, nL_35, nL_36, nL_37, nL_38, nL_39, nL_40, nL_41, nL_42, nL_43, nL_44, nL_45, nL_46, nL_47, nL_48, nL_49, nL_50, nL_51, nL_52, nL_53, nL_54, nL_55, nL_56, nL_57, nL_58, nL_59, nL_60, nL_61, nL_62, nL_63, nL_64, nL_65, nL_66, nL_67, nL_68, nL_69, nL_70, nL_400, nL_402, nL_800, nL_2000]
  · have hin := iter_count (fun q : Int32 × (Nat → Int32) => f_X6_resolve_L35 n (oA, oB, oC, oD, sk, sv, nI no, nI s) (K, sT, V, nI (t + 1), cu, e1, e2) q.1 (rsv (K, sT, V, nI (t + 1), cu, e1, e2) oB no) q.2) (fun i => (nI i, rsv (K, sT, V, nI (t + 1), cu, e1, e2) sv i)) s (rsv (K, sT, V, nI (t + 1), cu, e1, e2) oB no, rsv (K, sT, V, nI (t + 1), cu, e1, e2) sv s) (fun i hi => by
        have hv := vAt_some (K := K) (sT := sT) (V := V) (cu := cu) (e1 := e1) (e2 := e2) ht (rsv (K, sT, V, nI (t + 1), cu, e1, e2) sv i i)
        show f_X6_resolve_L35 n (oA, oB, oC, oD, sk, sv, nI no, nI s) (K, sT, V, nI (t + 1), cu, e1, e2) (nI i) (rsv (K, sT, V, nI (t + 1), cu, e1, e2) oB no) (rsv (K, sT, V, nI (t + 1), cu, e1, e2) sv i) = some (.inl (nI (i + 1), rsv (K, sT, V, nI (t + 1), cu, e1, e2) sv (i + 1)))
        unfold f_X6_resolve_L35
        simp (disch := omega) only [X6_deeds, X6_targets, X6_firstSteps, X6_endSteps, X6_stepKinds, X6_stepValues, X6_count, X6_steps, ↓bd hv, bd hv, rsv_s, ↓reduceIte, ↓if_pos, ↓if_neg, Nat.reduceEqDiff, Nat.reduceLeDiff, Nat.reduceLT, and_true, true_and, and_false, false_and, true_or, or_true, false_or, or_false, eq_self, sb, nJ_of, nJ_lt, nJ_le, nJ_eq, nJ_clamp, nJ_add, nJ_sub, if_pos, if_neg, if_true, if_false, nL_0, nL_1, nL_2, nL_3, nL_4, nL_5, nL_6, nL_7, nL_8, nL_9, nL_10, nL_11, nL_12, nL_13, nL_14, nL_15, nL_16, nL_17, nL_18, nL_19, nL_20, nL_21, nL_22, nL_23, nL_24, nL_25, nL_26, nL_27, nL_28, nL_29, nL_30, nL_31, nL_32, nL_33, nL_34, nL_35, nL_36, nL_37, nL_38, nL_39, nL_40, nL_41, nL_42, nL_43, nL_44, nL_45, nL_46, nL_47, nL_48, nL_49, nL_50, nL_51, nL_52, nL_53, nL_54, nL_55, nL_56, nL_57, nL_58, nL_59, nL_60, nL_61, nL_62, nL_63, nL_64, nL_65, nL_66, nL_67, nL_68, nL_69, nL_70, nL_400, nL_402, nL_800, nL_2000]) (by
        show f_X6_resolve_L35 n (oA, oB, oC, oD, sk, sv, nI no, nI s) (K, sT, V, nI (t + 1), cu, e1, e2) (nI s) (rsv (K, sT, V, nI (t + 1), cu, e1, e2) oB no) (rsv (K, sT, V, nI (t + 1), cu, e1, e2) sv s) = _
        unfold f_X6_resolve_L35
        simp (disch := omega) only [X6_deeds, X6_targets, X6_firstSteps, X6_endSteps, X6_stepKinds, X6_stepValues, X6_count, X6_steps, ↓reduceIte, ↓if_pos, ↓if_neg, Nat.reduceEqDiff, Nat.reduceLeDiff, Nat.reduceLT, and_true, true_and, and_false, false_and, true_or, or_true, false_or, or_false, eq_self, sb, nJ_of, nJ_lt, nJ_le, nJ_eq, nJ_clamp, nJ_add, nJ_sub, if_pos, if_neg, if_true, if_false, nL_0, nL_1, nL_2, nL_3, nL_4, nL_5, nL_6, nL_7, nL_8, nL_9, nL_10, nL_11, nL_12, nL_13, nL_14, nL_15, nL_16, nL_17, nL_18, nL_19, nL_20, nL_21, nL_22, nL_23, nL_24, nL_25, nL_26, nL_27, nL_28, nL_29, nL_30, nL_31, nL_32, nL_33, nL_34, nL_35, nL_36, nL_37, nL_38, nL_39, nL_40, nL_41, nL_42, nL_43, nL_44, nL_45, nL_46, nL_47, nL_48, nL_49, nL_50, nL_51, nL_52, nL_53, nL_54, nL_55, nL_56, nL_57, nL_58, nL_59, nL_60, nL_61, nL_62, nL_63, nL_64, nL_65, nL_66, nL_67, nL_68, nL_69, nL_70, nL_400, nL_402, nL_800, nL_2000]) (n := n) (by omega)
    rw [z] at hin
    show f_X6_resolve_L2 n (oA, oB, oC, oD, sk, sv, nI no, nI s) (K, sT, V, nI (t + 1), cu, e1, e2) (nI no) (rsv (K, sT, V, nI (t + 1), cu, e1, e2) oB no) sv = _
    unfold f_X6_resolve_L2
    simp (disch := omega) only [X6_deeds, X6_targets, X6_firstSteps, X6_endSteps, X6_stepKinds, X6_stepValues, X6_count, X6_steps, ↓bd hin, bd hin, ↓reduceIte, ↓if_pos, ↓if_neg, Nat.reduceEqDiff, Nat.reduceLeDiff, Nat.reduceLT, and_true, true_and, and_false, false_and, true_or, or_true, false_or, or_false, eq_self, sb, nJ_of, nJ_lt, nJ_le, nJ_eq, nJ_clamp, nJ_add, nJ_sub, if_pos, if_neg, if_true, if_false, nL_0, nL_1, nL_2, nL_3, nL_4, nL_5, nL_6, nL_7, nL_8, nL_9, nL_10, nL_11, nL_12, nL_13, nL_14, nL_15, nL_16, nL_17, nL_18, nL_19, nL_20, nL_21, nL_22, nL_23, nL_24, nL_25, nL_26, nL_27, nL_28, nL_29, nL_30, nL_31, nL_32, nL_33, nL_34, nL_35, nL_36, nL_37, nL_38, nL_39, nL_40, nL_41, nL_42, nL_43, nL_44, nL_45, nL_46, nL_47, nL_48, nL_49, nL_50, nL_51, nL_52, nL_53, nL_54, nL_55, nL_56, nL_57, nL_58, nL_59, nL_60, nL_61, nL_62, nL_63, nL_64, nL_65, nL_66, nL_67, nL_68, nL_69, nL_70, nL_400, nL_402, nL_800, nL_2000]
def clrN (N : Nat → Int32) (i : Nat) : Nat → Int32 := fun j => if j < i then nI 0 else N j
/-- a pot begun -/
theorem clr_s (f : Nat → Int32) (i : Nat) : upd (clrN f i) i (nI 0) = clrN f (i + 1) := by
  funext j
  unfold clrN
  by_cases c : j = i
  · rw [c, upd_same, if_pos (by omega)]
  · rw [upd_else _ _ c]
    by_cases d : j < i
    · rw [if_pos d, if_pos (by omega)]
    · rw [if_neg d, if_neg (by omega)]
theorem clr_0 (f : Nat → Int32) : clrN f 0 = f := by
  funext j
  exact if_neg (by omega)
theorem k_begin (hn : 2100 < n) (P : bX8) : f_X8_begin n P = some (nI 0, nI 20, nI 0, nI 0, nI 3, nI 3, nI 0, nI 0, clrN (X8_frontSteeped P) 10, clrN (X8_guestServed P) 10, clrN (X8_guestStormed P) 10) := by
  unfold f_X8_begin
  have hh := iter_count (fun q : Int32 × (Nat → Int32) => f_X8_begin_L48 n P q.1 0 20 0 0 3 3 0 0 q.2 (X8_guestServed P) (X8_guestStormed P)) (fun i => (nI i, clrN (X8_frontSteeped P) i)) 10 (nI 0, nI 20, nI 0, nI 0, nI 3, nI 3, nI 0, nI 0, clrN (X8_frontSteeped P) 10, clrN (X8_guestServed P) 10, clrN (X8_guestStormed P) 10) (fun i hi => ?_) ?_ (n := n) (by omega)
  · rw [clr_0] at hh
    exact hh
  · show f_X8_begin_L48 n P (nI i) 0 20 0 0 3 3 0 0 (clrN (X8_frontSteeped P) i) (X8_guestServed P) (X8_guestStormed P) = some (.inl (nI (i + 1), clrN (X8_frontSteeped P) (i + 1)))
    unfold f_X8_begin_L48
    simp (disch := omega) only [clr_s, ↓reduceIte, ↓if_pos, ↓if_neg, Nat.reduceEqDiff, Nat.reduceLeDiff, Nat.reduceLT, and_true, true_and, and_false, false_and, true_or, or_true, false_or, or_false, eq_self, sb, nJ_of, nJ_lt, nJ_le, nJ_eq, nJ_clamp, nJ_add, nJ_sub, if_pos, if_neg, if_true, if_false, nL_0, nL_1, nL_2, nL_3, nL_4, nL_5, nL_6, nL_7, nL_8, nL_9, nL_10, nL_11, nL_12, nL_13, nL_14, nL_15, nL_16, nL_17, nL_18, nL_19, nL_20, nL_21, nL_22, nL_23, nL_24, nL_25, nL_26, nL_27, nL_28, nL_29, nL_30, nL_31, nL_32, nL_33, nL_34, nL_35, nL_36, nL_37, nL_38, nL_39, nL_40, nL_41, nL_42, nL_43, nL_44, nL_45, nL_46, nL_47, nL_48, nL_49, nL_50, nL_51, nL_52, nL_53, nL_54, nL_55, nL_56, nL_57, nL_58, nL_59, nL_60, nL_61, nL_62, nL_63, nL_64, nL_65, nL_66, nL_67, nL_68, nL_69, nL_70, nL_400, nL_402, nL_800, nL_2000]
  · have hin := iter_count (fun q : Int32 × (Nat → Int32) × (Nat → Int32) => f_X8_begin_L69 n P q.1 (nI 0) (nI 20) (nI 0) (nI 0) (nI 3) (nI 3) (nI 0) (nI 0) (clrN (X8_frontSteeped P) 10) q.2.1 q.2.2) (fun i => (nI i, clrN (X8_guestServed P) i, clrN (X8_guestStormed P) i)) 10 (nI 0, nI 20, nI 0, nI 0, nI 3, nI 3, nI 0, nI 0, clrN (X8_frontSteeped P) 10, clrN (X8_guestServed P) 10, clrN (X8_guestStormed P) 10) (fun i hi => by
        show f_X8_begin_L69 n P (nI i) (nI 0) (nI 20) (nI 0) (nI 0) (nI 3) (nI 3) (nI 0) (nI 0) (clrN (X8_frontSteeped P) 10) (clrN (X8_guestServed P) i) (clrN (X8_guestStormed P) i) = some (.inl (nI (i + 1), clrN (X8_guestServed P) (i + 1), clrN (X8_guestStormed P) (i + 1)))
        unfold f_X8_begin_L69
        simp (disch := omega) only [clr_s, ↓reduceIte, ↓if_pos, ↓if_neg, Nat.reduceEqDiff, Nat.reduceLeDiff, Nat.reduceLT, and_true, true_and, and_false, false_and, true_or, or_true, false_or, or_false, eq_self, sb, nJ_of, nJ_lt, nJ_le, nJ_eq, nJ_clamp, nJ_add, nJ_sub, if_pos, if_neg, if_true, if_false, nL_0, nL_1, nL_2, nL_3, nL_4, nL_5, nL_6, nL_7, nL_8, nL_9, nL_10, nL_11, nL_12, nL_13, nL_14, nL_15, nL_16, nL_17, nL_18, nL_19, nL_20, nL_21, nL_22, nL_23, nL_24, nL_25, nL_26, nL_27, nL_28, nL_29, nL_30, nL_31, nL_32, nL_33, nL_34, nL_35, nL_36, nL_37, nL_38, nL_39, nL_40, nL_41, nL_42, nL_43, nL_44, nL_45, nL_46, nL_47, nL_48, nL_49, nL_50, nL_51, nL_52, nL_53, nL_54, nL_55, nL_56, nL_57, nL_58, nL_59, nL_60, nL_61, nL_62, nL_63, nL_64, nL_65, nL_66, nL_67, nL_68, nL_69, nL_70, nL_400, nL_402, nL_800, nL_2000]) (by
        show f_X8_begin_L69 n P (nI 10) (nI 0) (nI 20) (nI 0) (nI 0) (nI 3) (nI 3) (nI 0) (nI 0) (clrN (X8_frontSteeped P) 10) (clrN (X8_guestServed P) 10) (clrN (X8_guestStormed P) 10) = _
        unfold f_X8_begin_L69
        simp (disch := omega) only [↓reduceIte, ↓if_pos, ↓if_neg, Nat.reduceEqDiff, Nat.reduceLeDiff, Nat.reduceLT, and_true, true_and, and_false, false_and, true_or, or_true, false_or, or_false, eq_self, sb, nJ_of, nJ_lt, nJ_le, nJ_eq, nJ_clamp, nJ_add, nJ_sub, if_pos, if_neg, if_true, if_false, nL_0, nL_1, nL_2, nL_3, nL_4, nL_5, nL_6, nL_7, nL_8, nL_9, nL_10, nL_11, nL_12, nL_13, nL_14, nL_15, nL_16, nL_17, nL_18, nL_19, nL_20, nL_21, nL_22, nL_23, nL_24, nL_25, nL_26, nL_27, nL_28, nL_29, nL_30, nL_31, nL_32, nL_33, nL_34, nL_35, nL_36, nL_37, nL_38, nL_39, nL_40, nL_41, nL_42, nL_43, nL_44, nL_45, nL_46, nL_47, nL_48, nL_49, nL_50, nL_51, nL_52, nL_53, nL_54, nL_55, nL_56, nL_57, nL_58, nL_59, nL_60, nL_61, nL_62, nL_63, nL_64, nL_65, nL_66, nL_67, nL_68, nL_69, nL_70, nL_400, nL_402, nL_800, nL_2000]) (n := n) (by omega)
    rw [clr_0, clr_0] at hin
    show f_X8_begin_L48 n P (nI 10) 0 20 0 0 3 3 0 0 (clrN (X8_frontSteeped P) 10) (X8_guestServed P) (X8_guestStormed P) = _
    unfold f_X8_begin_L48
    simp (disch := omega) only [↓bd hin, bd hin, ↓reduceIte, ↓if_pos, ↓if_neg, Nat.reduceEqDiff, Nat.reduceLeDiff, Nat.reduceLT, and_true, true_and, and_false, false_and, true_or, or_true, false_or, or_false, eq_self, sb, nJ_of, nJ_lt, nJ_le, nJ_eq, nJ_clamp, nJ_add, nJ_sub, if_pos, if_neg, if_true, if_false, nL_0, nL_1, nL_2, nL_3, nL_4, nL_5, nL_6, nL_7, nL_8, nL_9, nL_10, nL_11, nL_12, nL_13, nL_14, nL_15, nL_16, nL_17, nL_18, nL_19, nL_20, nL_21, nL_22, nL_23, nL_24, nL_25, nL_26, nL_27, nL_28, nL_29, nL_30, nL_31, nL_32, nL_33, nL_34, nL_35, nL_36, nL_37, nL_38, nL_39, nL_40, nL_41, nL_42, nL_43, nL_44, nL_45, nL_46, nL_47, nL_48, nL_49, nL_50, nL_51, nL_52, nL_53, nL_54, nL_55, nL_56, nL_57, nL_58, nL_59, nL_60, nL_61, nL_62, nL_63, nL_64, nL_65, nL_66, nL_67, nL_68, nL_69, nL_70, nL_400, nL_402, nL_800, nL_2000]
end P65
