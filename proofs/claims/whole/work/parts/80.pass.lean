/-! an hour passes, alike -/
theorem iter_none {S R : Type} {body : S → Option (S ⊕ R)} {n : Nat} {s : S} (h : body s = none) : iter body (n + 1) s = none := by
  rw [iter, h]
theorem iter_fold {X S R : Type} (body : S → Option (S ⊕ R)) (mk : Nat → X → S) (f : Nat → X → Option X) (s : Nat) : ∀ (l : Nat), (∀ i x y, s ≤ i → i < s + l → f i x = some y → body (mk i x) = some (.inl (mk (i + 1) y))) → ∀ (x y : X), foldO f s l x = some y → ∀ n0, iter body (n0 + l) (mk s x) = iter body n0 (mk (s + l) y)
  | 0, _, x, y, h, n0 => by
    cases h
    rfl
  | l + 1, hs, x, y, h, n0 => by
    have h' : (foldO f s l x).bind (f (s + l)) = some y := h
    cases e : foldO f s l x with
    | none => rw [e] at h'; cases h'
    | some z =>
      rw [e] at h'
      have h1 : f (s + l) z = some y := h'
      have ih := iter_fold body mk f s l (fun i x y a b c => hs i x y a (by omega) c) x z e (n0 + 1)
      have e1 : n0 + (l + 1) = n0 + 1 + l := by omega
      rw [e1, ih, iter_inl (hs (s + l) z y (by omega) (by omega) h1)]
      rfl
section P12
variable {F : bX2} {G : bX4} {O : bX6} {T : bX13} {nf ng no : Nat} {fo fr hr gr : Nat → Nat} {N : Nat → Int32} {h n : Nat} {th bs ea tk wr er et dp : Int32} {ta kd nu po ln fn gn va kp : Nat → Int32}
variable {ho wa sr ch lm sa co sm : Int32} {fs gs gt : Nat → Int32}
/-- the orders of a plan, told alike -/
def ROk (O : bX6) (T : bX13) (nf ng k : Nat) : Prop := ∃ s e, s ≤ e ∧ e ≤ 400 ∧ X6_firstSteps O k = nI s ∧ X6_endSteps O k = nI e ∧ X13_from T k = nI s ∧ X13_to T k = nI e ∧
  ((s = e ∧ X13_test T k = -nI 1) ∨ (X13_test T k = nI (e - 1) ∧ Ex (lfI (X6_stepKinds O) (X6_stepValues O) (X13_sort T) (X13_left T) nf) (lfB (X6_stepKinds O) (X6_stepValues O) (X13_sort T) (X13_left T) nf ng) (X6_stepKinds O) (X13_sort T) (X13_left T) (X13_right T) 1 s e)) ∧
  ((X6_deeds O k = 11 ∧ X13_does T k = nI 11 ∧ ∃ f, f < nf ∧ X6_targets O k = nI f ∧ X13_whom T k = nI f) ∨ (X6_deeds O k = 12 ∧ X13_does T k = nI 12) ∨ (X6_deeds O k = 13 ∧ X13_does T k = nI 13) ∨ (X6_deeds O k = 14 ∧ X13_does T k = nI 14 ∧ ∃ g, g < ng ∧ X6_targets O k = nI g ∧ X13_whom T k = nI g))
def RO (O : bX6) (T : bX13) (nf ng no : Nat) : Prop := no ≤ 16 ∧ X6_count O = nI no ∧ X13_orders T = nI no ∧ ∀ k, k < no → ROk O T nf ng k
theorem k_test (hp : RPl F G T nf ng fo fr hr gr) (ho' : RO O T nf ng no) (ht : RPt nf ng fr hr gr (ho, wa, sr, ch, lm, sa, co, sm, fs, gs, gt) N h) (hh : h < 1000000) (hn : 500 < n) {k : Nat} (hk : k < no) (stk : Nat → Int32) (hgt : Int32) : ∃ (b : Nat) (stk' : Nat → Int32) (ht' : Int32) (va' : Nat → Int32), b ≤ 1 ∧ f_X9_holds n (nI k) (stk, hgt) O (ho, wa, sr, ch, lm, sa, co, sm, fs, gs, gt) F G = some (nI b, stk', ht') ∧ f_X14_carryOut n (nI k) (th, ta, bs, ea, kd, nu, po, ln, tk, wr, er, et, dp, fn, gn, va, N, kp) T = (if b = 0 then some (va', N) else f_X14_carryOut_R97 n (nI k) (th, ta, bs, ea, kd, nu, po, ln, tk, wr, er, et, dp, fn, gn, va, N, kp) T (nI k) va' N) := by
  obtain ⟨o1, o2, o3, o4⟩ := ho'
  obtain ⟨s, e, a1, a2, a3, a4, a5, a6, a7, -⟩ := o4 k hk
  rcases a7 with ⟨b1, b2⟩ | ⟨b1, b2⟩
  · subst b1
    refine ⟨1, stk, nI 0, va, by omega, ?_, ?_⟩
    · obtain ⟨n1, rfl⟩ : ∃ n1, n = n1 + 1 := ⟨n - 1, by omega⟩
      unfold f_X9_holds
      rw [nJ_clamp (show k < 2147483648 by omega), a3]
      simp (disch := omega) only [sb, nJ_of, nJ_lt, nJ_le, nJ_eq, nJ_clamp, nJ_add, nJ_sub, if_pos, if_neg, if_true, if_false, nL_0, nL_1, nL_2, nL_3, nL_4, nL_5, nL_6, nL_7, nL_8, nL_9, nL_10, nL_11, nL_12, nL_13, nL_14, nL_15, nL_16, nL_17, nL_18, nL_19, nL_20, nL_21, nL_22, nL_23, nL_24, nL_25, nL_26, nL_27, nL_28, nL_29, nL_30, nL_31, nL_32, nL_33, nL_34, nL_35, nL_36, nL_37, nL_38, nL_39, nL_40, nL_41, nL_42, nL_43, nL_44, nL_45, nL_46, nL_47, nL_48, nL_49, nL_50, nL_51, nL_52, nL_53, nL_54, nL_55, nL_56, nL_57, nL_58, nL_59, nL_60, nL_61, nL_62, nL_63, nL_64, nL_65, nL_66, nL_67, nL_68, nL_69, nL_70, nL_400, nL_402, nL_800, nL_2000]
      refine iter_inr ?_
      show f_X9_holds_L13 (n1 + 1) (nI k) (stk, hgt) O (ho, wa, sr, ch, lm, sa, co, sm, fs, gs, gt) F G (nI k) (nI s) (X9_stack (stk, hgt)) 0 = _
      unfold f_X9_holds_L13
      simp (disch := omega) only [a4, X9_stack, sb, nJ_of, nJ_lt, nJ_le, nJ_eq, nJ_clamp, nJ_add, nJ_sub, if_pos, if_neg, if_true, if_false, nL_0, nL_1, nL_2, nL_3, nL_4, nL_5, nL_6, nL_7, nL_8, nL_9, nL_10, nL_11, nL_12, nL_13, nL_14, nL_15, nL_16, nL_17, nL_18, nL_19, nL_20, nL_21, nL_22, nL_23, nL_24, nL_25, nL_26, nL_27, nL_28, nL_29, nL_30, nL_31, nL_32, nL_33, nL_34, nL_35, nL_36, nL_37, nL_38, nL_39, nL_40, nL_41, nL_42, nL_43, nL_44, nL_45, nL_46, nL_47, nL_48, nL_49, nL_50, nL_51, nL_52, nL_53, nL_54, nL_55, nL_56, nL_57, nL_58, nL_59, nL_60, nL_61, nL_62, nL_63, nL_64, nL_65, nL_66, nL_67, nL_68, nL_69, nL_70, nL_400, nL_402, nL_800, nL_2000]
    · obtain ⟨n1, rfl⟩ : ∃ n1, n = n1 + 1 := ⟨n - 1, by omega⟩
      rw [if_neg (by omega)]
      unfold f_X14_carryOut
      rw [nJ_clamp (show k < 2147483648 by omega), a5]
      simp (disch := omega) only [sb, nJ_of, nJ_lt, nJ_le, nJ_eq, nJ_clamp, nJ_add, nJ_sub, if_pos, if_neg, if_true, if_false, nL_0, nL_1, nL_2, nL_3, nL_4, nL_5, nL_6, nL_7, nL_8, nL_9, nL_10, nL_11, nL_12, nL_13, nL_14, nL_15, nL_16, nL_17, nL_18, nL_19, nL_20, nL_21, nL_22, nL_23, nL_24, nL_25, nL_26, nL_27, nL_28, nL_29, nL_30, nL_31, nL_32, nL_33, nL_34, nL_35, nL_36, nL_37, nL_38, nL_39, nL_40, nL_41, nL_42, nL_43, nL_44, nL_45, nL_46, nL_47, nL_48, nL_49, nL_50, nL_51, nL_52, nL_53, nL_54, nL_55, nL_56, nL_57, nL_58, nL_59, nL_60, nL_61, nL_62, nL_63, nL_64, nL_65, nL_66, nL_67, nL_68, nL_69, nL_70, nL_400, nL_402, nL_800, nL_2000]
      cases eR : f_X14_carryOut_R97 (n1 + 1) (nI k) (th, ta, bs, ea, kd, nu, po, ln, tk, wr, er, et, dp, fn, gn, va, N, kp) T (nI k) va N with
      | none =>
        rw [iter]
        have : f_X14_carryOut_L10 (n1 + 1) (nI k) (th, ta, bs, ea, kd, nu, po, ln, tk, wr, er, et, dp, fn, gn, va, N, kp) T (nI k) (nI s) (X14_value (th, ta, bs, ea, kd, nu, po, ln, tk, wr, er, et, dp, fn, gn, va, N, kp)) (X14_now (th, ta, bs, ea, kd, nu, po, ln, tk, wr, er, et, dp, fn, gn, va, N, kp)) = none := by
          unfold f_X14_carryOut_L10
          simp (disch := omega) only [a6, b2, X14_value, X14_now, eR, sb, nJ_of, nJ_lt, nJ_le, nJ_eq, nJ_clamp, nJ_add, nJ_sub, if_pos, if_neg, if_true, if_false, nL_0, nL_1, nL_2, nL_3, nL_4, nL_5, nL_6, nL_7, nL_8, nL_9, nL_10, nL_11, nL_12, nL_13, nL_14, nL_15, nL_16, nL_17, nL_18, nL_19, nL_20, nL_21, nL_22, nL_23, nL_24, nL_25, nL_26, nL_27, nL_28, nL_29, nL_30, nL_31, nL_32, nL_33, nL_34, nL_35, nL_36, nL_37, nL_38, nL_39, nL_40, nL_41, nL_42, nL_43, nL_44, nL_45, nL_46, nL_47, nL_48, nL_49, nL_50, nL_51, nL_52, nL_53, nL_54, nL_55, nL_56, nL_57, nL_58, nL_59, nL_60, nL_61, nL_62, nL_63, nL_64, nL_65, nL_66, nL_67, nL_68, nL_69, nL_70, nL_400, nL_402, nL_800, nL_2000]
          rfl
        rw [this]
      | some r =>
        refine iter_inr ?_
        show f_X14_carryOut_L10 (n1 + 1) (nI k) (th, ta, bs, ea, kd, nu, po, ln, tk, wr, er, et, dp, fn, gn, va, N, kp) T (nI k) (nI s) (X14_value (th, ta, bs, ea, kd, nu, po, ln, tk, wr, er, et, dp, fn, gn, va, N, kp)) (X14_now (th, ta, bs, ea, kd, nu, po, ln, tk, wr, er, et, dp, fn, gn, va, N, kp)) = _
        unfold f_X14_carryOut_L10
        simp (disch := omega) only [a6, b2, X14_value, X14_now, eR, sb, nJ_of, nJ_lt, nJ_le, nJ_eq, nJ_clamp, nJ_add, nJ_sub, if_pos, if_neg, if_true, if_false, nL_0, nL_1, nL_2, nL_3, nL_4, nL_5, nL_6, nL_7, nL_8, nL_9, nL_10, nL_11, nL_12, nL_13, nL_14, nL_15, nL_16, nL_17, nL_18, nL_19, nL_20, nL_21, nL_22, nL_23, nL_24, nL_25, nL_26, nL_27, nL_28, nL_29, nL_30, nL_31, nL_32, nL_33, nL_34, nL_35, nL_36, nL_37, nL_38, nL_39, nL_40, nL_41, nL_42, nL_43, nL_44, nL_45, nL_46, nL_47, nL_48, nL_49, nL_50, nL_51, nL_52, nL_53, nL_54, nL_55, nL_56, nL_57, nL_58, nL_59, nL_60, nL_61, nL_62, nL_63, nL_64, nL_65, nL_66, nL_67, nL_68, nL_69, nL_70, nL_400, nL_402, nL_800, nL_2000]
  · have hlen := Ex_len b2
    obtain ⟨-, g2⟩ := sem_Ex (th := th) (ta := ta) (bs := bs) (ea := ea) (kd := kd) (nu := nu) (po := po) (ln := ln) (tk := tk) (wr := wr) (er := er) (et := et) (dp := dp) (fn := fn) (gn := gn) (va := va) (kp := kp) hp ht hh b2
    obtain ⟨stk', va', v, e1, e2, e3, e4, e5, e6, e7⟩ := g2 a2 0 stk va (by omega)
    have hv := e7 rfl
    have hd : ∃ b, b ≤ 1 ∧ v = nI b := by
      rcases hv with q | q
      · exact ⟨0, by omega, q⟩
      · exact ⟨1, by omega, q⟩
    obtain ⟨b, hb, rfl⟩ := hd
    refine ⟨b, stk', nI 0, va', hb, ?_, ?_⟩
    · obtain ⟨n1, rfl⟩ : ∃ n1, n = n1 + 1 + (e - s) := ⟨n - 1 - (e - s), by omega⟩
      unfold f_X9_holds
      rw [nJ_clamp (show k < 2147483648 by omega), a3]
      simp (disch := omega) only [sb, nJ_of, nJ_lt, nJ_le, nJ_eq, nJ_clamp, nJ_add, nJ_sub, if_pos, if_neg, if_true, if_false, nL_0, nL_1, nL_2, nL_3, nL_4, nL_5, nL_6, nL_7, nL_8, nL_9, nL_10, nL_11, nL_12, nL_13, nL_14, nL_15, nL_16, nL_17, nL_18, nL_19, nL_20, nL_21, nL_22, nL_23, nL_24, nL_25, nL_26, nL_27, nL_28, nL_29, nL_30, nL_31, nL_32, nL_33, nL_34, nL_35, nL_36, nL_37, nL_38, nL_39, nL_40, nL_41, nL_42, nL_43, nL_44, nL_45, nL_46, nL_47, nL_48, nL_49, nL_50, nL_51, nL_52, nL_53, nL_54, nL_55, nL_56, nL_57, nL_58, nL_59, nL_60, nL_61, nL_62, nL_63, nL_64, nL_65, nL_66, nL_67, nL_68, nL_69, nL_70, nL_400, nL_402, nL_800, nL_2000]
      refine (iter_fold _ (fun i (x : (Nat → Int32) × Int32) => (nI i, x.1, x.2)) (stpC (X6_stepKinds O) (X6_stepValues O) (ho, wa, sr, ch, lm, sa, co, sm, fs, gs, gt) F G) s (e - s) (fun i x y i1 i2 hy => ?_) (stk, nI 0) (stk', nI (0 + 1)) e1 (n1 + 1)).trans ?_
      · show f_X9_holds_L13 (n1 + 1 + (e - s)) (nI k) (stk, hgt) O (ho, wa, sr, ch, lm, sa, co, sm, fs, gs, gt) F G (nI k) (nI i) x.1 x.2 = _
        have hy' : f_X9_step (X6_stepKinds O i) (X6_stepValues O i) (x.1, x.2) (ho, wa, sr, ch, lm, sa, co, sm, fs, gs, gt) F G = some y := hy
        unfold f_X9_holds_L13
        simp (disch := omega) only [a4, hy', sb, nJ_of, nJ_lt, nJ_le, nJ_eq, nJ_clamp, nJ_add, nJ_sub, if_pos, if_neg, if_true, if_false, nL_0, nL_1, nL_2, nL_3, nL_4, nL_5, nL_6, nL_7, nL_8, nL_9, nL_10, nL_11, nL_12, nL_13, nL_14, nL_15, nL_16, nL_17, nL_18, nL_19, nL_20, nL_21, nL_22, nL_23, nL_24, nL_25, nL_26, nL_27, nL_28, nL_29, nL_30, nL_31, nL_32, nL_33, nL_34, nL_35, nL_36, nL_37, nL_38, nL_39, nL_40, nL_41, nL_42, nL_43, nL_44, nL_45, nL_46, nL_47, nL_48, nL_49, nL_50, nL_51, nL_52, nL_53, nL_54, nL_55, nL_56, nL_57, nL_58, nL_59, nL_60, nL_61, nL_62, nL_63, nL_64, nL_65, nL_66, nL_67, nL_68, nL_69, nL_70, nL_400, nL_402, nL_800, nL_2000]
      · have em : s + (e - s) = e := by omega
        rw [em]
        refine iter_inr ?_
        show f_X9_holds_L13 (n1 + 1 + (e - s)) (nI k) (stk, hgt) O (ho, wa, sr, ch, lm, sa, co, sm, fs, gs, gt) F G (nI k) (nI e) stk' (nI (0 + 1)) = _
        unfold f_X9_holds_L13
        rcases (by omega : b = 0 ∨ b = 1) with rfl | rfl
        · simp (disch := omega) only [a4, k_pop, e3, sb, nJ_of, nJ_lt, nJ_le, nJ_eq, nJ_clamp, nJ_add, nJ_sub, if_pos, if_neg, if_true, if_false, nL_0, nL_1, nL_2, nL_3, nL_4, nL_5, nL_6, nL_7, nL_8, nL_9, nL_10, nL_11, nL_12, nL_13, nL_14, nL_15, nL_16, nL_17, nL_18, nL_19, nL_20, nL_21, nL_22, nL_23, nL_24, nL_25, nL_26, nL_27, nL_28, nL_29, nL_30, nL_31, nL_32, nL_33, nL_34, nL_35, nL_36, nL_37, nL_38, nL_39, nL_40, nL_41, nL_42, nL_43, nL_44, nL_45, nL_46, nL_47, nL_48, nL_49, nL_50, nL_51, nL_52, nL_53, nL_54, nL_55, nL_56, nL_57, nL_58, nL_59, nL_60, nL_61, nL_62, nL_63, nL_64, nL_65, nL_66, nL_67, nL_68, nL_69, nL_70, nL_400, nL_402, nL_800, nL_2000]
        · simp (disch := omega) only [a4, k_pop, e3, sb, nJ_of, nJ_lt, nJ_le, nJ_eq, nJ_clamp, nJ_add, nJ_sub, if_pos, if_neg, if_true, if_false, nL_0, nL_1, nL_2, nL_3, nL_4, nL_5, nL_6, nL_7, nL_8, nL_9, nL_10, nL_11, nL_12, nL_13, nL_14, nL_15, nL_16, nL_17, nL_18, nL_19, nL_20, nL_21, nL_22, nL_23, nL_24, nL_25, nL_26, nL_27, nL_28, nL_29, nL_30, nL_31, nL_32, nL_33, nL_34, nL_35, nL_36, nL_37, nL_38, nL_39, nL_40, nL_41, nL_42, nL_43, nL_44, nL_45, nL_46, nL_47, nL_48, nL_49, nL_50, nL_51, nL_52, nL_53, nL_54, nL_55, nL_56, nL_57, nL_58, nL_59, nL_60, nL_61, nL_62, nL_63, nL_64, nL_65, nL_66, nL_67, nL_68, nL_69, nL_70, nL_400, nL_402, nL_800, nL_2000]
    · obtain ⟨n1, rfl⟩ : ∃ n1, n = n1 + 1 + (e - s) := ⟨n - 1 - (e - s), by omega⟩
      unfold f_X14_carryOut
      rw [nJ_clamp (show k < 2147483648 by omega), a5]
      simp (disch := omega) only [sb, nJ_of, nJ_lt, nJ_le, nJ_eq, nJ_clamp, nJ_add, nJ_sub, if_pos, if_neg, if_true, if_false, nL_0, nL_1, nL_2, nL_3, nL_4, nL_5, nL_6, nL_7, nL_8, nL_9, nL_10, nL_11, nL_12, nL_13, nL_14, nL_15, nL_16, nL_17, nL_18, nL_19, nL_20, nL_21, nL_22, nL_23, nL_24, nL_25, nL_26, nL_27, nL_28, nL_29, nL_30, nL_31, nL_32, nL_33, nL_34, nL_35, nL_36, nL_37, nL_38, nL_39, nL_40, nL_41, nL_42, nL_43, nL_44, nL_45, nL_46, nL_47, nL_48, nL_49, nL_50, nL_51, nL_52, nL_53, nL_54, nL_55, nL_56, nL_57, nL_58, nL_59, nL_60, nL_61, nL_62, nL_63, nL_64, nL_65, nL_66, nL_67, nL_68, nL_69, nL_70, nL_400, nL_402, nL_800, nL_2000]
      refine (iter_fold _ (fun i (x : Nat → Int32) => (nI i, x)) (stpM (X13_sort T) (X13_left T) (X13_right T) (th, ta, bs, ea, kd, nu, po, ln, tk, wr, er, et, dp, fn, gn, va, N, kp) T) s (e - s) (fun i x y i1 i2 hy => ?_) va va' e2 (n1 + 1)).trans ?_
      · show f_X14_carryOut_L10 (n1 + 1 + (e - s)) (nI k) (th, ta, bs, ea, kd, nu, po, ln, tk, wr, er, et, dp, fn, gn, va, N, kp) T (nI k) (nI i) x N = _
        have hy' : (f_X14_reckon (X13_sort T i) (X13_left T i) (X13_right T i) (th, ta, bs, ea, kd, nu, po, ln, tk, wr, er, et, dp, fn, gn, x, N, kp) T).bind (fun u => some (upd x i u)) = some y := hy
        unfold f_X14_carryOut_L10
        cases er2 : f_X14_reckon (X13_sort T i) (X13_left T i) (X13_right T i) (th, ta, bs, ea, kd, nu, po, ln, tk, wr, er, et, dp, fn, gn, x, N, kp) T with
        | none => rw [er2] at hy'; cases hy'
        | some u =>
          rw [er2] at hy'
          have hy2 : y = upd x i u := (Option.some.inj hy').symm
          simp (disch := omega) only [a6, X14_thrown, X14_tape, X14_bytes, X14_errorAt, X14_kind, X14_number, X14_position, X14_length, X14_token, X14_isWrong, X14_error, X14_errorToken, X14_deep, X14_frontName, X14_guestName, X14_kept, er2, hy2, sb, nJ_of, nJ_lt, nJ_le, nJ_eq, nJ_clamp, nJ_add, nJ_sub, if_pos, if_neg, if_true, if_false, nL_0, nL_1, nL_2, nL_3, nL_4, nL_5, nL_6, nL_7, nL_8, nL_9, nL_10, nL_11, nL_12, nL_13, nL_14, nL_15, nL_16, nL_17, nL_18, nL_19, nL_20, nL_21, nL_22, nL_23, nL_24, nL_25, nL_26, nL_27, nL_28, nL_29, nL_30, nL_31, nL_32, nL_33, nL_34, nL_35, nL_36, nL_37, nL_38, nL_39, nL_40, nL_41, nL_42, nL_43, nL_44, nL_45, nL_46, nL_47, nL_48, nL_49, nL_50, nL_51, nL_52, nL_53, nL_54, nL_55, nL_56, nL_57, nL_58, nL_59, nL_60, nL_61, nL_62, nL_63, nL_64, nL_65, nL_66, nL_67, nL_68, nL_69, nL_70, nL_400, nL_402, nL_800, nL_2000]
      · have em : s + (e - s) = e := by omega
        rw [em]
        have hm1 := nJ_nm1 (a := e - 1) (by omega)
        rcases (by omega : b = 0 ∨ b = 1) with rfl | rfl
        · rw [if_pos rfl]
          refine iter_inr ?_
          show f_X14_carryOut_L10 (n1 + 1 + (e - s)) (nI k) (th, ta, bs, ea, kd, nu, po, ln, tk, wr, er, et, dp, fn, gn, va, N, kp) T (nI k) (nI e) va' N = _
          unfold f_X14_carryOut_L10
          simp (disch := omega) only [a6, b1, hm1, e5, sb, nJ_of, nJ_lt, nJ_le, nJ_eq, nJ_clamp, nJ_add, nJ_sub, if_pos, if_neg, if_true, if_false, nL_0, nL_1, nL_2, nL_3, nL_4, nL_5, nL_6, nL_7, nL_8, nL_9, nL_10, nL_11, nL_12, nL_13, nL_14, nL_15, nL_16, nL_17, nL_18, nL_19, nL_20, nL_21, nL_22, nL_23, nL_24, nL_25, nL_26, nL_27, nL_28, nL_29, nL_30, nL_31, nL_32, nL_33, nL_34, nL_35, nL_36, nL_37, nL_38, nL_39, nL_40, nL_41, nL_42, nL_43, nL_44, nL_45, nL_46, nL_47, nL_48, nL_49, nL_50, nL_51, nL_52, nL_53, nL_54, nL_55, nL_56, nL_57, nL_58, nL_59, nL_60, nL_61, nL_62, nL_63, nL_64, nL_65, nL_66, nL_67, nL_68, nL_69, nL_70, nL_400, nL_402, nL_800, nL_2000]
        · rw [if_neg (by omega)]
          cases eR : f_X14_carryOut_R97 (n1 + 1 + (e - s)) (nI k) (th, ta, bs, ea, kd, nu, po, ln, tk, wr, er, et, dp, fn, gn, va, N, kp) T (nI k) va' N with
          | none =>
            refine iter_none ?_
            show f_X14_carryOut_L10 (n1 + 1 + (e - s)) (nI k) (th, ta, bs, ea, kd, nu, po, ln, tk, wr, er, et, dp, fn, gn, va, N, kp) T (nI k) (nI e) va' N = none
            unfold f_X14_carryOut_L10
            simp (disch := omega) only [a6, b1, hm1, e5, eR, sb, nJ_of, nJ_lt, nJ_le, nJ_eq, nJ_clamp, nJ_add, nJ_sub, if_pos, if_neg, if_true, if_false, nL_0, nL_1, nL_2, nL_3, nL_4, nL_5, nL_6, nL_7, nL_8, nL_9, nL_10, nL_11, nL_12, nL_13, nL_14, nL_15, nL_16, nL_17, nL_18, nL_19, nL_20, nL_21, nL_22, nL_23, nL_24, nL_25, nL_26, nL_27, nL_28, nL_29, nL_30, nL_31, nL_32, nL_33, nL_34, nL_35, nL_36, nL_37, nL_38, nL_39, nL_40, nL_41, nL_42, nL_43, nL_44, nL_45, nL_46, nL_47, nL_48, nL_49, nL_50, nL_51, nL_52, nL_53, nL_54, nL_55, nL_56, nL_57, nL_58, nL_59, nL_60, nL_61, nL_62, nL_63, nL_64, nL_65, nL_66, nL_67, nL_68, nL_69, nL_70, nL_400, nL_402, nL_800, nL_2000]
            rfl
          | some r =>
            refine iter_inr ?_
            show f_X14_carryOut_L10 (n1 + 1 + (e - s)) (nI k) (th, ta, bs, ea, kd, nu, po, ln, tk, wr, er, et, dp, fn, gn, va, N, kp) T (nI k) (nI e) va' N = _
            unfold f_X14_carryOut_L10
            simp (disch := omega) only [a6, b1, hm1, e5, eR, sb, nJ_of, nJ_lt, nJ_le, nJ_eq, nJ_clamp, nJ_add, nJ_sub, if_pos, if_neg, if_true, if_false, nL_0, nL_1, nL_2, nL_3, nL_4, nL_5, nL_6, nL_7, nL_8, nL_9, nL_10, nL_11, nL_12, nL_13, nL_14, nL_15, nL_16, nL_17, nL_18, nL_19, nL_20, nL_21, nL_22, nL_23, nL_24, nL_25, nL_26, nL_27, nL_28, nL_29, nL_30, nL_31, nL_32, nL_33, nL_34, nL_35, nL_36, nL_37, nL_38, nL_39, nL_40, nL_41, nL_42, nL_43, nL_44, nL_45, nL_46, nL_47, nL_48, nL_49, nL_50, nL_51, nL_52, nL_53, nL_54, nL_55, nL_56, nL_57, nL_58, nL_59, nL_60, nL_61, nL_62, nL_63, nL_64, nL_65, nL_66, nL_67, nL_68, nL_69, nL_70, nL_400, nL_402, nL_800, nL_2000]
end P12
