/-! all tokens, both readers -/
theorem kpa_42 : ∀ k : Nat, k < 49 → kpa k ≠ 42 := by decide +kernel
theorem vp_same2 (f : Nat → Int64) (k : Nat) (x : Int64) : vp_updL f k x k = x := if_pos rfl
/-- a token, alike -/
def TI (Y : Nat → Nat) (len : Nat) (K : Nat → Nat) (sT : Nat → Int32) (vT : Nat → Int64) (kd nu po ln : Nat → Int32) (j : Nat) : Prop := K j < 49 ∧ kd j = nI (kpa (K j)) ∧ sT j = po j ∧ (K j = 48 → (vT j).toInt32 = nu j) ∧ (K j = 47 → NMT Y len (po j) (ln j) (vT j))
def TFI (Y : Nat → Nat) (len : Nat) (K : Nat → Nat) (sT : Nat → Int32) (vT : Nat → Int64) (kd nu po ln : Nat → Int32) (t : Nat) : Prop := t ≤ 400 ∧ (∀ j, j < t → TI Y len K sT vT kd nu po ln j) ∧ (K t = 49 ∨ K t = 50) ∧ kd t = nI (kpa (K t)) ∧ sT t = po t
theorem TI_congr {Y : Nat → Nat} {len : Nat} {K K' : Nat → Nat} {sT sT' : Nat → Int32} {vT vT' : Nat → Int64} {kd nu po ln kd' nu' po' ln' : Nat → Int32} {j : Nat} (e1 : K' j = K j) (e2 : sT' j = sT j) (e3 : vT' j = vT j) (e4 : kd' j = kd j) (e5 : nu' j = nu j) (e6 : po' j = po j) (e7 : ln' j = ln j) (h : TI Y len K sT vT kd nu po ln j) : TI Y len K' sT' vT' kd' nu' po' ln' j := by
  unfold TI
  rw [e1, e2, e3, e4, e5, e6, e7]
  exact h
section P64
variable {Y : Nat → Nat} {len : Nat} {bT : Nat → Int32} {th bs ea tk wr er et dp : Int32} {ta kd nu po ln fn gn va kp : Nat → Int32}
variable {N : Nat → Int32} {n i a e sz k : Nat} {K : Nat → Nat} {sT : Nat → Int32} {vT : Nat → Int64} {bh : bX11} {v : Int64}
theorem c_addt (hi : i ≤ 400) (hk : k < 52) (x : Int32) (v : Int64) : f_X11_add k x v (K, sT, vT, nI i, nI 0, nI 0, nI 0) = some (va_up K i k, upd sT i x, vp_updL vT i v, nI (i + 1)) := by
  unfold f_X11_add
  simp (disch := omega) only [X11_kinds, X11_starts, X11_values, X11_count, X11_cursor, X11_error, X11_errorToken, ↓reduceIte, ↓if_pos, ↓if_neg, Nat.reduceEqDiff, Nat.reduceLeDiff, Nat.reduceLT, and_true, true_and, and_false, false_and, true_or, or_true, false_or, or_false, eq_self, sb, nJ_of, nJ_lt, nJ_le, nJ_eq, nJ_clamp, nJ_add, nJ_sub, if_pos, if_neg, if_true, if_false, nL_0, nL_1, nL_2, nL_3, nL_4, nL_5, nL_6, nL_7, nL_8, nL_9, nL_10, nL_11, nL_12, nL_13, nL_14, nL_15, nL_16, nL_17, nL_18, nL_19, nL_20, nL_21, nL_22, nL_23, nL_24, nL_25, nL_26, nL_27, nL_28, nL_29, nL_30, nL_31, nL_32, nL_33, nL_34, nL_35, nL_36, nL_37, nL_38, nL_39, nL_40, nL_41, nL_42, nL_43, nL_44, nL_45, nL_46, nL_47, nL_48, nL_49, nL_50, nL_51, nL_52, nL_53, nL_54, nL_55, nL_56, nL_57, nL_58, nL_59, nL_60, nL_61, nL_62, nL_63, nL_64, nL_65, nL_66, nL_67, nL_68, nL_69, nL_70, nL_400, nL_402, nL_800, nL_2000]
theorem cR_99 (hl : len ≤ 2000) (hi : i ≤ 400) (ha : a ≤ len) : f_X11_readAll_R99 n bh (bT, nI len) (nI a) K sT vT (nI i) (nI 0) (nI 0) (nI 0) = some (va_up K i (if len ≤ a then 49 else 50), upd sT i (nI a), vp_updL vT i 0, nI (i + 1), nI 0, nI 0, nI 0) := by
  have h1 := c_addt (K := K) (sT := sT) (vT := vT) hi (k := 49) (by omega) (nI a) 0
  have h2 := c_addt (K := K) (sT := sT) (vT := vT) hi (k := 50) (by omega) (nI a) 0
  unfold f_X11_readAll_R99 f_X11_readAll_R117
  by_cases q : len ≤ a
  · rw [if_pos q, if_pos (show (X10_length (bT, nI len)) ≤ nI a from by rw [show X10_length (bT, nI len) = nI len from rfl, nJ_le (by omega) (by omega)]; exact q), bd h1]
  · rw [if_neg q, if_neg (show ¬ (X10_length (bT, nI len)) ≤ nI a from by rw [show X10_length (bT, nI len) = nI len from rfl, nJ_le (by omega) (by omega)]; exact q), bd h2]
theorem cR_end (hl : len ≤ 2000) (hi : i ≤ 400) (ha : a ≤ len) (hq : i = 400 ∨ len ≤ a) : f_X11_readAll_L28 n bh (bT, nI len) (nI a) (nI i) K sT vT (nI i) (nI 0) (nI 0) (nI 0) = some (.inr (va_up K i (if len ≤ a then 49 else 50), upd sT i (nI a), vp_updL vT i 0, nI (i + 1), nI 0, nI 0, nI 0)) := by
  have h9 := cR_99 (n := n) (bh := bh) (bT := bT) (K := K) (sT := sT) (vT := vT) hl hi ha
  unfold f_X11_readAll_L28
  by_cases q : 400 ≤ i
  · rw [if_pos (show (400 : Int32) ≤ nI i from by rw [nL_400, nJ_le (by omega) (by omega)]; exact q), bd h9]
  · rw [if_neg (show ¬ (400 : Int32) ≤ nI i from by rw [nL_400, nJ_le (by omega) (by omega)]; exact q), if_pos (show (X10_length (bT, nI len)) ≤ nI a from by rw [show X10_length (bT, nI len) = nI len from rfl, nJ_le (by omega) (by omega)]; omega), bd h9]
theorem cR_bad (hl : len ≤ 2000) (hi : i < 400) (ha : a < len) (h1 : f_X11_sizeOf n (nI a) (bT, nI len) = some (nI sz)) (h2 : f_X11_kindOf n (nI a) (nI sz) (bT, nI len) = some 50) : f_X11_readAll_L28 n bh (bT, nI len) (nI a) (nI i) K sT vT (nI i) (nI 0) (nI 0) (nI 0) = some (.inr (va_up K i 50, upd sT i (nI a), vp_updL vT i 0, nI (i + 1), nI 0, nI 0, nI 0)) := by
  have h9 := cR_99 (n := n) (bh := bh) (bT := bT) (K := K) (sT := sT) (vT := vT) hl (i := i) (by omega) (a := a) (by omega)
  rw [if_neg (by omega)] at h9
  unfold f_X11_readAll_L28
  rw [if_neg (show ¬ (400 : Int32) ≤ nI i from by rw [nL_400, nJ_le (by omega) (by omega)]; omega), if_neg (show ¬ (X10_length (bT, nI len)) ≤ nI a from by rw [show X10_length (bT, nI len) = nI len from rfl, nJ_le (by omega) (by omega)]; omega), bd h1, bd h2, if_pos (by omega), if_pos rfl, bd h9]
theorem cR_go (hl : len ≤ 2000) (hi : i < 400) (ha : a < len) (hs : a + sz ≤ len) (hk : k < 49) (h1 : f_X11_sizeOf n (nI a) (bT, nI len) = some (nI sz)) (h2 : f_X11_kindOf n (nI a) (nI sz) (bT, nI len) = some k) (h3 : f_X11_valueOf n (nI a) (nI sz) (bT, nI len) = some v) (h4 : f_X11_behindBlanks n (nI (a + sz)) (bT, nI len) = some (nI e)) : f_X11_readAll_L28 n bh (bT, nI len) (nI a) (nI i) K sT vT (nI i) (nI 0) (nI 0) (nI 0) = some (.inl (nI e, nI (i + 1), va_up K i k, upd sT i (nI a), vp_updL vT i v, nI (i + 1))) := by
  have h9 := c_addt (K := K) (sT := sT) (vT := vT) (i := i) (by omega) (k := k) (by omega) (nI a) v
  unfold f_X11_readAll_L28
  rw [if_neg (show ¬ (400 : Int32) ≤ nI i from by rw [nL_400, nJ_le (by omega) (by omega)]; omega), if_neg (show ¬ (X10_length (bT, nI len)) ≤ nI a from by rw [show X10_length (bT, nI len) = nI len from rfl, nJ_le (by omega) (by omega)]; omega), bd h1, bd h2, if_pos (by omega), if_neg (by omega), bd h3, bd h9]
  rw [show nI a + nI sz = nI (a + sz) from nJ_add a sz, bd h4, show nI i + 1 = nI (i + 1) from nJ_add i 1]
theorem mR_65 (hk : k ≤ 401) : f_X14_readAll_R65 n (th, ta, nI len, ea, kd, nu, po, ln, tk, wr, er, et, dp, fn, gn, va, N, kp) (nI k) kd nu po ln = some (upd kd k (nI 43), nu, upd po k (nI len), ln) := by
  unfold f_X14_readAll_R65
  simp (disch := omega) only [X14_thrown, X14_tape, X14_bytes, X14_errorAt, X14_kind, X14_number, X14_position, X14_length, X14_token, X14_isWrong, X14_error, X14_errorToken, X14_deep, X14_frontName, X14_guestName, X14_value, X14_now, X14_kept, ↓reduceIte, ↓if_pos, ↓if_neg, Nat.reduceEqDiff, Nat.reduceLeDiff, Nat.reduceLT, and_true, true_and, and_false, false_and, true_or, or_true, false_or, or_false, eq_self, sb, nJ_of, nJ_lt, nJ_le, nJ_eq, nJ_clamp, nJ_add, nJ_sub, if_pos, if_neg, if_true, if_false, nL_0, nL_1, nL_2, nL_3, nL_4, nL_5, nL_6, nL_7, nL_8, nL_9, nL_10, nL_11, nL_12, nL_13, nL_14, nL_15, nL_16, nL_17, nL_18, nL_19, nL_20, nL_21, nL_22, nL_23, nL_24, nL_25, nL_26, nL_27, nL_28, nL_29, nL_30, nL_31, nL_32, nL_33, nL_34, nL_35, nL_36, nL_37, nL_38, nL_39, nL_40, nL_41, nL_42, nL_43, nL_44, nL_45, nL_46, nL_47, nL_48, nL_49, nL_50, nL_51, nL_52, nL_53, nL_54, nL_55, nL_56, nL_57, nL_58, nL_59, nL_60, nL_61, nL_62, nL_63, nL_64, nL_65, nL_66, nL_67, nL_68, nL_69, nL_70, nL_400, nL_402, nL_800, nL_2000]
theorem mR_end (hl : len ≤ 2000) (hk : k ≤ 401) (ha : len ≤ a) (ha2 : a ≤ 2000) : f_X14_readAll_L8 n (th, ta, nI len, ea, kd, nu, po, ln, tk, wr, er, et, dp, fn, gn, va, N, kp) (nI a) (nI k) kd nu po ln = some (.inr (upd kd k (nI 43), nu, upd po k (nI len), ln)) := by
  have h1 := mR_65 (n := n) (N := N) (len := len) (kd := kd) (nu := nu) (po := po) (ln := ln) (th := th) (ta := ta) (ea := ea) (tk := tk) (wr := wr) (er := er) (et := et) (dp := dp) (fn := fn) (gn := gn) (va := va) (kp := kp) hk
  unfold f_X14_readAll_L8
  simp (disch := omega) only [X14_thrown, X14_tape, X14_bytes, X14_errorAt, X14_kind, X14_number, X14_position, X14_length, X14_token, X14_isWrong, X14_error, X14_errorToken, X14_deep, X14_frontName, X14_guestName, X14_value, X14_now, X14_kept, ↓bd h1, bd h1, ↓reduceIte, ↓if_pos, ↓if_neg, Nat.reduceEqDiff, Nat.reduceLeDiff, Nat.reduceLT, and_true, true_and, and_false, false_and, true_or, or_true, false_or, or_false, eq_self, sb, nJ_of, nJ_lt, nJ_le, nJ_eq, nJ_clamp, nJ_add, nJ_sub, if_pos, if_neg, if_true, if_false, nL_0, nL_1, nL_2, nL_3, nL_4, nL_5, nL_6, nL_7, nL_8, nL_9, nL_10, nL_11, nL_12, nL_13, nL_14, nL_15, nL_16, nL_17, nL_18, nL_19, nL_20, nL_21, nL_22, nL_23, nL_24, nL_25, nL_26, nL_27, nL_28, nL_29, nL_30, nL_31, nL_32, nL_33, nL_34, nL_35, nL_36, nL_37, nL_38, nL_39, nL_40, nL_41, nL_42, nL_43, nL_44, nL_45, nL_46, nL_47, nL_48, nL_49, nL_50, nL_51, nL_52, nL_53, nL_54, nL_55, nL_56, nL_57, nL_58, nL_59, nL_60, nL_61, nL_62, nL_63, nL_64, nL_65, nL_66, nL_67, nL_68, nL_69, nL_70, nL_400, nL_402, nL_800, nL_2000]
theorem mR_42 (hl : len ≤ 2000) (hk : k ≤ 400) (h42 : kd k = nI 42) (ha2 : a ≤ 2000) : f_X14_readAll_L8 n (th, ta, nI len, ea, kd, nu, po, ln, tk, wr, er, et, dp, fn, gn, va, N, kp) (nI a) (nI (k + 1)) kd nu po ln = some (.inr (upd kd (k + 1) (nI 43), nu, upd po (k + 1) (nI len), ln)) := by
  by_cases q : len ≤ a
  · exact mR_end hl (by omega) q ha2
  · have h1 := mR_65 (n := n) (N := N) (len := len) (k := k + 1) (kd := kd) (nu := nu) (po := po) (ln := ln) (th := th) (ta := ta) (ea := ea) (tk := tk) (wr := wr) (er := er) (et := et) (dp := dp) (fn := fn) (gn := gn) (va := va) (kp := kp) (by omega)
    have e1 : k + 1 - 1 = k := rfl
    unfold f_X14_readAll_L8
    simp (disch := omega) only [X14_thrown, X14_tape, X14_bytes, X14_errorAt, X14_kind, X14_number, X14_position, X14_length, X14_token, X14_isWrong, X14_error, X14_errorToken, X14_deep, X14_frontName, X14_guestName, X14_value, X14_now, X14_kept, e1, h42, ↓bd h1, bd h1, ↓reduceIte, ↓if_pos, ↓if_neg, Nat.reduceEqDiff, Nat.reduceLeDiff, Nat.reduceLT, and_true, true_and, and_false, false_and, true_or, or_true, false_or, or_false, eq_self, sb, nJ_of, nJ_lt, nJ_le, nJ_eq, nJ_clamp, nJ_add, nJ_sub, if_pos, if_neg, if_true, if_false, nL_0, nL_1, nL_2, nL_3, nL_4, nL_5, nL_6, nL_7, nL_8, nL_9, nL_10, nL_11, nL_12, nL_13, nL_14, nL_15, nL_16, nL_17, nL_18, nL_19, nL_20, nL_21, nL_22, nL_23, nL_24, nL_25, nL_26, nL_27, nL_28, nL_29, nL_30, nL_31, nL_32, nL_33, nL_34, nL_35, nL_36, nL_37, nL_38, nL_39, nL_40, nL_41, nL_42, nL_43, nL_44, nL_45, nL_46, nL_47, nL_48, nL_49, nL_50, nL_51, nL_52, nL_53, nL_54, nL_55, nL_56, nL_57, nL_58, nL_59, nL_60, nL_61, nL_62, nL_63, nL_64, nL_65, nL_66, nL_67, nL_68, nL_69, nL_70, nL_400, nL_402, nL_800, nL_2000]
theorem mR_go (hl : len ≤ 2000) (hk : k ≤ 400) (ha : a < len) (hp : k = 0 ∨ ∃ q, q < 49 ∧ kd (k - 1) = nI (kpa q)) {x : Int32} {nu' : Nat → Int32} (h1 : f_X14_read n (nI a) (nI k) (th, ta, nI len, ea, kd, nu, po, ln, tk, wr, er, et, dp, fn, gn, va, N, kp) = some (nI (a + sz), upd kd k x, nu', upd po k (nI a), upd ln k (nI sz))) (h2 : f_X14_skip n (nI (a + sz)) (th, ta, nI len, ea, upd kd k x, nu', upd po k (nI a), upd ln k (nI sz), tk, wr, er, et, dp, fn, gn, va, N, kp) = some (nI e)) : f_X14_readAll_L8 n (th, ta, nI len, ea, kd, nu, po, ln, tk, wr, er, et, dp, fn, gn, va, N, kp) (nI a) (nI k) kd nu po ln = some (.inl (nI e, nI (k + 1), (if k = 400 then upd kd k (nI 42) else upd kd k x), nu', upd po k (nI a), upd ln k (nI sz))) := by
  have h33 : f_X14_readAll_R33 n (th, ta, nI len, ea, kd, nu, po, ln, tk, wr, er, et, dp, fn, gn, va, N, kp) (nI a) (nI k) kd nu po ln = some (.inl (nI e, nI (k + 1), (if k = 400 then upd kd k (nI 42) else upd kd k x), nu', upd po k (nI a), upd ln k (nI sz))) := by
    unfold f_X14_readAll_R33
    by_cases q : k = 400
    · rw [if_pos q]
      subst q
      simp (disch := omega) only [X14_thrown, X14_tape, X14_bytes, X14_errorAt, X14_kind, X14_number, X14_position, X14_length, X14_token, X14_isWrong, X14_error, X14_errorToken, X14_deep, X14_frontName, X14_guestName, X14_value, X14_now, X14_kept, ↓bd h1, bd h1, ↓bd h2, bd h2, upd_twice, ↓reduceIte, ↓if_pos, ↓if_neg, Nat.reduceEqDiff, Nat.reduceLeDiff, Nat.reduceLT, and_true, true_and, and_false, false_and, true_or, or_true, false_or, or_false, eq_self, sb, nJ_of, nJ_lt, nJ_le, nJ_eq, nJ_clamp, nJ_add, nJ_sub, if_pos, if_neg, if_true, if_false, nL_0, nL_1, nL_2, nL_3, nL_4, nL_5, nL_6, nL_7, nL_8, nL_9, nL_10, nL_11, nL_12, nL_13, nL_14, nL_15, nL_16, nL_17, nL_18, nL_19, nL_20, nL_21, nL_22, nL_23, nL_24, nL_25, nL_26, nL_27, nL_28, nL_29, nL_30, nL_31, nL_32, nL_33, nL_34, nL_35, nL_36, nL_37, nL_38, nL_39, nL_40, nL_41, nL_42, nL_43, nL_44, nL_45, nL_46, nL_47, nL_48, nL_49, nL_50, nL_51, nL_52, nL_53, nL_54, nL_55, nL_56, nL_57, nL_58, nL_59, nL_60, nL_61, nL_62, nL_63, nL_64, nL_65, nL_66, nL_67, nL_68, nL_69, nL_70, nL_400, nL_402, nL_800, nL_2000]
    · rw [if_neg q]
      simp (disch := omega) only [X14_thrown, X14_tape, X14_bytes, X14_errorAt, X14_kind, X14_number, X14_position, X14_length, X14_token, X14_isWrong, X14_error, X14_errorToken, X14_deep, X14_frontName, X14_guestName, X14_value, X14_now, X14_kept, ↓bd h1, bd h1, ↓bd h2, bd h2, q, ↓reduceIte, ↓if_pos, ↓if_neg, Nat.reduceEqDiff, Nat.reduceLeDiff, Nat.reduceLT, and_true, true_and, and_false, false_and, true_or, or_true, false_or, or_false, eq_self, sb, nJ_of, nJ_lt, nJ_le, nJ_eq, nJ_clamp, nJ_add, nJ_sub, if_pos, if_neg, if_true, if_false, nL_0, nL_1, nL_2, nL_3, nL_4, nL_5, nL_6, nL_7, nL_8, nL_9, nL_10, nL_11, nL_12, nL_13, nL_14, nL_15, nL_16, nL_17, nL_18, nL_19, nL_20, nL_21, nL_22, nL_23, nL_24, nL_25, nL_26, nL_27, nL_28, nL_29, nL_30, nL_31, nL_32, nL_33, nL_34, nL_35, nL_36, nL_37, nL_38, nL_39, nL_40, nL_41, nL_42, nL_43, nL_44, nL_45, nL_46, nL_47, nL_48, nL_49, nL_50, nL_51, nL_52, nL_53, nL_54, nL_55, nL_56, nL_57, nL_58, nL_59, nL_60, nL_61, nL_62, nL_63, nL_64, nL_65, nL_66, nL_67, nL_68, nL_69, nL_70, nL_400, nL_402, nL_800, nL_2000]
  unfold f_X14_readAll_L8
  rcases hp with q | ⟨q, q1, q2⟩
  · subst q
    simp (disch := omega) only [X14_thrown, X14_tape, X14_bytes, X14_errorAt, X14_kind, X14_number, X14_position, X14_length, X14_token, X14_isWrong, X14_error, X14_errorToken, X14_deep, X14_frontName, X14_guestName, X14_value, X14_now, X14_kept, h33, ↓reduceIte, ↓if_pos, ↓if_neg, Nat.reduceEqDiff, Nat.reduceLeDiff, Nat.reduceLT, and_true, true_and, and_false, false_and, true_or, or_true, false_or, or_false, eq_self, sb, nJ_of, nJ_lt, nJ_le, nJ_eq, nJ_clamp, nJ_add, nJ_sub, if_pos, if_neg, if_true, if_false, nL_0, nL_1, nL_2, nL_3, nL_4, nL_5, nL_6, nL_7, nL_8, nL_9, nL_10, nL_11, nL_12, nL_13, nL_14, nL_15, nL_16, nL_17, nL_18, nL_19, nL_20, nL_21, nL_22, nL_23, nL_24, nL_25, nL_26, nL_27, nL_28, nL_29, nL_30, nL_31, nL_32, nL_33, nL_34, nL_35, nL_36, nL_37, nL_38, nL_39, nL_40, nL_41, nL_42, nL_43, nL_44, nL_45, nL_46, nL_47, nL_48, nL_49, nL_50, nL_51, nL_52, nL_53, nL_54, nL_55, nL_56, nL_57, nL_58, nL_59, nL_60, nL_61, nL_62, nL_63, nL_64, nL_65, nL_66, nL_67, nL_68, nL_69, nL_70, nL_400, nL_402, nL_800, nL_2000]
  · have h42 := kpa_42 q q1
    have hlt := kpa_lt q (by omega)
    by_cases z : k = 0
    · subst z
      simp (disch := omega) only [X14_thrown, X14_tape, X14_bytes, X14_errorAt, X14_kind, X14_number, X14_position, X14_length, X14_token, X14_isWrong, X14_error, X14_errorToken, X14_deep, X14_frontName, X14_guestName, X14_value, X14_now, X14_kept, h33, ↓reduceIte, ↓if_pos, ↓if_neg, Nat.reduceEqDiff, Nat.reduceLeDiff, Nat.reduceLT, and_true, true_and, and_false, false_and, true_or, or_true, false_or, or_false, eq_self, sb, nJ_of, nJ_lt, nJ_le, nJ_eq, nJ_clamp, nJ_add, nJ_sub, if_pos, if_neg, if_true, if_false, nL_0, nL_1, nL_2, nL_3, nL_4, nL_5, nL_6, nL_7, nL_8, nL_9, nL_10, nL_11, nL_12, nL_13, nL_14, nL_15, nL_16, nL_17, nL_18, nL_19, nL_20, nL_21, nL_22, nL_23, nL_24, nL_25, nL_26, nL_27, nL_28, nL_29, nL_30, nL_31, nL_32, nL_33, nL_34, nL_35, nL_36, nL_37, nL_38, nL_39, nL_40, nL_41, nL_42, nL_43, nL_44, nL_45, nL_46, nL_47, nL_48, nL_49, nL_50, nL_51, nL_52, nL_53, nL_54, nL_55, nL_56, nL_57, nL_58, nL_59, nL_60, nL_61, nL_62, nL_63, nL_64, nL_65, nL_66, nL_67, nL_68, nL_69, nL_70, nL_400, nL_402, nL_800, nL_2000]
    · simp (disch := omega) only [X14_thrown, X14_tape, X14_bytes, X14_errorAt, X14_kind, X14_number, X14_position, X14_length, X14_token, X14_isWrong, X14_error, X14_errorToken, X14_deep, X14_frontName, X14_guestName, X14_value, X14_now, X14_kept, q2, h42, z, h33, ↓reduceIte, ↓if_pos, ↓if_neg, Nat.reduceEqDiff, Nat.reduceLeDiff, Nat.reduceLT, and_true, true_and, and_false, false_and, true_or, or_true, false_or, or_false, eq_self, sb, nJ_of, nJ_lt, nJ_le, nJ_eq, nJ_clamp, nJ_add, nJ_sub, if_pos, if_neg, if_true, if_false, nL_0, nL_1, nL_2, nL_3, nL_4, nL_5, nL_6, nL_7, nL_8, nL_9, nL_10, nL_11, nL_12, nL_13, nL_14, nL_15, nL_16, nL_17, nL_18, nL_19, nL_20, nL_21, nL_22, nL_23, nL_24, nL_25, nL_26, nL_27, nL_28, nL_29, nL_30, nL_31, nL_32, nL_33, nL_34, nL_35, nL_36, nL_37, nL_38, nL_39, nL_40, nL_41, nL_42, nL_43, nL_44, nL_45, nL_46, nL_47, nL_48, nL_49, nL_50, nL_51, nL_52, nL_53, nL_54, nL_55, nL_56, nL_57, nL_58, nL_59, nL_60, nL_61, nL_62, nL_63, nL_64, nL_65, nL_66, nL_67, nL_68, nL_69, nL_70, nL_400, nL_402, nL_800, nL_2000]
variable {kd0 nu0 po0 ln0 : Nat → Int32}
/-- what the loops come to -/
def RDE (Y : Nat → Nat) (len : Nat) (rC : Option ((Nat → Nat) × (Nat → Int32) × (Nat → Int64) × Int32 × Int32 × Int32 × Int32)) (rM : Option ((Nat → Int32) × (Nat → Int32) × (Nat → Int32) × (Nat → Int32))) : Prop := ∃ (t : Nat) (K' : Nat → Nat) (sT' : Nat → Int32) (vT' : Nat → Int64) (kd' nu' po' ln' : Nat → Int32), rC = some (K', sT', vT', nI (t + 1), nI 0, nI 0, nI 0) ∧ rM = some (kd', nu', po', ln') ∧ TFI Y len K' sT' vT' kd' nu' po' ln' t
def raC (n : Nat) (bh : bX11) (bT : Nat → Int32) (len : Nat) (s : Int32 × Int32 × (Nat → Nat) × (Nat → Int32) × (Nat → Int64) × Int32) := f_X11_readAll_L28 n bh (bT, nI len) s.1 s.2.1 s.2.2.1 s.2.2.2.1 s.2.2.2.2.1 s.2.2.2.2.2 0 0 0
def raM (n : Nat) (B : bX14) (s : Int32 × Int32 × (Nat → Int32) × (Nat → Int32) × (Nat → Int32) × (Nat → Int32)) := f_X14_readAll_L8 n B s.1 s.2.1 s.2.2.1 s.2.2.2.1 s.2.2.2.2.1 s.2.2.2.2.2
theorem read_step (h : TPE Y len bT ta) (hn : 2100 < n) (i a : Nat) (K : Nat → Nat) (sT : Nat → Int32) (vT : Nat → Int64) (kd nu po ln : Nat → Int32) (hi : i ≤ 400) (ha : a ≤ len) (hI : ∀ j, j < i → TI Y len K sT vT kd nu po ln j) (nC nM : Nat) (hC : 3 ≤ nC) (hM : 3 ≤ nM)
    (ih : ∀ (e : Nat) (K2 : Nat → Nat) (sT2 : Nat → Int32) (vT2 : Nat → Int64) (kd2 nu2 po2 ln2 : Nat → Int32), i < 400 → e ≤ len → (∀ j, j < i + 1 → TI Y len K2 sT2 vT2 kd2 nu2 po2 ln2 j) → RDE Y len (iter (raC n bh bT len) (nC - 1) (nI e, nI (i + 1), K2, sT2, vT2, nI (i + 1))) (iter (raM n (th, ta, nI len, ea, kd0, nu0, po0, ln0, tk, wr, er, et, dp, fn, gn, va, N, kp)) (nM - 1) (nI e, nI (i + 1), kd2, nu2, po2, ln2))) :
    RDE Y len (iter (raC n bh bT len) nC (nI a, nI i, K, sT, vT, nI i)) (iter (raM n (th, ta, nI len, ea, kd0, nu0, po0, ln0, tk, wr, er, et, dp, fn, gn, va, N, kp)) nM (nI a, nI i, kd, nu, po, ln)) := by
  have h0 := h.1
  obtain ⟨nC, rfl⟩ : ∃ q, nC = q + 1 := ⟨nC - 1, by omega⟩
  obtain ⟨nM, rfl⟩ : ∃ q, nM = q + 1 + 1 := ⟨nM - 2, by omega⟩
  have hmB : ∀ (a k : Nat) (kd nu po ln : Nat → Int32), raM n (th, ta, nI len, ea, kd0, nu0, po0, ln0, tk, wr, er, et, dp, fn, gn, va, N, kp) (nI a, nI k, kd, nu, po, ln) = f_X14_readAll_L8 n (th, ta, nI len, ea, kd, nu, po, ln, tk, wr, er, et, dp, fn, gn, va, N, kp) (nI a) (nI k) kd nu po ln := by
    intro a k kd nu po ln
    unfold raM f_X14_readAll_L8 f_X14_readAll_R65 f_X14_readAll_R33
    rfl
  rcases Nat.lt_or_ge a len with hal | hal
  case inr =>
    have e : a = len := by omega
    have r1 : raC n bh bT len (nI a, nI i, K, sT, vT, nI i) = some (.inr (va_up K i (if len ≤ a then 49 else 50), upd sT i (nI a), vp_updL vT i 0, nI (i + 1), nI 0, nI 0, nI 0)) := cR_end h0 hi ha (Or.inr hal)
    rw [if_pos hal] at r1
    have r2 := (hmB a i kd nu po ln).trans (mR_end h0 (by omega) hal (by omega))
    refine ⟨i, _, _, _, _, _, _, _, iter_inr r1, iter_inr r2, hi, fun j hj => ?_, Or.inl (va_up_same _ _ _), ?_, ?_⟩
    · exact TI_congr (va_up_else _ _ (by omega)) (upd_else _ _ (by omega)) (vp_else _ _ (by omega)) (upd_else _ _ (by omega)) rfl (upd_else _ _ (by omega)) rfl (hI j hj)
    · rw [va_up_same, upd_same]
      rfl
    · rw [upd_same, upd_same, e]
  have hp : i = 0 ∨ ∃ q, q < 49 ∧ kd (i - 1) = nI (kpa q) := by
    by_cases z : i = 0
    · exact Or.inl z
    · have := hI (i - 1) (by omega)
      exact Or.inr ⟨_, this.1, this.2.1⟩
  obtain ⟨sz, nu', ⟨b1, b2, b3, b4, b5, b6⟩, t1, t2, t3, t4⟩ := tok_both (N := N) (kd := kd) (nu := nu) (po := po) (ln := ln) (th := th) (ea := ea) (tk := tk) (wr := wr) (er := er) (et := et) (dp := dp) (fn := fn) (gn := gn) (va := va) (kp := kp) h hn hal hi
  obtain ⟨e, hr, he⟩ := RUN_ex (p := blk) h.2.2 blk_256 (len - (a + sz)) (a + sz) (Nat.le_refl _)
  have he := he b2
  have s1 := c_skip h hn b2 hr he
  have s2 := m_skip (N := N) (kd := upd kd i (nI (kpa (kdC Y a sz)))) (nu := nu') (po := upd po i (nI a)) (ln := upd ln i (nI sz)) (th := th) (ea := ea) (tk := tk) (wr := wr) (er := er) (et := et) (dp := dp) (fn := fn) (gn := gn) (va := va) (kp := kp) h hn hr he
  have r2 := (hmB a i kd nu po ln).trans (mR_go h0 hi hal hp t4 s2)
  have hold : ∀ (k : Nat) (v : Int64) (x : Int32), ∀ j, j < i → TI Y len (va_up K i k) (upd sT i (nI a)) (vp_updL vT i v) (upd kd i x) nu' (upd po i (nI a)) (upd ln i (nI sz)) j := fun k v x j hj => TI_congr (va_up_else _ _ (by omega)) (upd_else _ _ (by omega)) (vp_else _ _ (by omega)) (upd_else _ _ (by omega)) (b3 j (by omega)) (upd_else _ _ (by omega)) (upd_else _ _ (by omega)) (hI j hj)
  by_cases q400 : i = 400
  · rw [if_pos q400] at r2
    have r1 : raC n bh bT len (nI a, nI i, K, sT, vT, nI i) = some (.inr (va_up K i (if len ≤ a then 49 else 50), upd sT i (nI a), vp_updL vT i 0, nI (i + 1), nI 0, nI 0, nI 0)) := cR_end h0 hi ha (Or.inl q400)
    rw [if_neg (by omega)] at r1
    have r3 := (hmB e (i + 1) (upd kd i (nI 42)) nu' (upd po i (nI a)) (upd ln i (nI sz))).trans (mR_42 h0 hi (upd_same _ _ _) (by omega))
    refine ⟨i, _, _, _, _, _, _, _, iter_inr r1, (iter_inl r2).trans (iter_inr r3), hi, fun j hj => ?_, Or.inr (va_up_same _ _ _), ?_, ?_⟩
    · exact TI_congr rfl rfl rfl (upd_else _ _ (by omega)) rfl (upd_else _ _ (by omega)) rfl (hold 50 0 (nI 42) j hj)
    · rw [va_up_same, upd_else _ _ (by omega), upd_same]
      rfl
    · rw [upd_same, upd_else _ _ (by omega), upd_same]
  · rw [if_neg q400] at r2
    by_cases q50 : kdC Y a sz = 50
    · rw [q50] at t2 r2
      have r1 : raC n bh bT len (nI a, nI i, K, sT, vT, nI i) = some (.inr (va_up K i 50, upd sT i (nI a), vp_updL vT i 0, nI (i + 1), nI 0, nI 0, nI 0)) := cR_bad h0 (by omega) hal t1 t2
      have r3 := (hmB e (i + 1) (upd kd i (nI (kpa 50))) nu' (upd po i (nI a)) (upd ln i (nI sz))).trans (mR_42 h0 hi (upd_same _ _ _) (by omega))
      refine ⟨i, _, _, _, _, _, _, _, iter_inr r1, (iter_inl r2).trans (iter_inr r3), hi, fun j hj => ?_, Or.inr (va_up_same _ _ _), ?_, ?_⟩
      · exact TI_congr rfl rfl rfl (upd_else _ _ (by omega)) rfl (upd_else _ _ (by omega)) rfl (hold 50 0 (nI (kpa 50)) j hj)
      · rw [va_up_same, upd_else _ _ (by omega), upd_same]
      · rw [upd_same, upd_else _ _ (by omega), upd_same]
    · have hk : kdC Y a sz < 49 := by omega
      have r1 : raC n bh bT len (nI a, nI i, K, sT, vT, nI i) = some (.inl (nI e, nI (i + 1), va_up K i (kdC Y a sz), upd sT i (nI a), vp_updL vT i (vlI (dig (Y a)) Y a sz), nI (i + 1))) := cR_go h0 (by omega) hal b2 hk t1 t2 t3 s1
      rw [iter_inl r1, iter_inl r2]
      refine ih e _ _ _ _ _ _ _ (by omega) he fun j hj => ?_
      rcases Nat.lt_or_ge j i with w | w
      · exact hold _ _ _ j w
      · have ej : j = i := by omega
        rw [ej]
        unfold TI
        rw [va_up_same, upd_same, upd_same, upd_same, vp_same2, upd_same]
        exact ⟨hk, rfl, rfl, b5, b6⟩
theorem read_all (h : TPE Y len bT ta) (hn : 2100 < n) : ∀ (d i a : Nat) (K : Nat → Nat) (sT : Nat → Int32) (vT : Nat → Int64) (kd nu po ln : Nat → Int32), 400 - i ≤ d → i ≤ 400 → a ≤ len → (∀ j, j < i → TI Y len K sT vT kd nu po ln j) → ∀ nC nM, d + 3 ≤ nC → d + 3 ≤ nM → RDE Y len (iter (raC n bh bT len) nC (nI a, nI i, K, sT, vT, nI i)) (iter (raM n (th, ta, nI len, ea, kd0, nu0, po0, ln0, tk, wr, er, et, dp, fn, gn, va, N, kp)) nM (nI a, nI i, kd, nu, po, ln)) := by
  have h0 := h.1
  intro d
  induction d with
  | zero =>
    intro i a K sT vT kd nu po ln hd hi ha hI nC nM hC hM
    exact read_step h hn i a K sT vT kd nu po ln hi ha hI nC nM (by omega) (by omega) (fun e K2 sT2 vT2 kd2 nu2 po2 ln2 hlt => by omega)
  | succ d ih =>
    intro i a K sT vT kd nu po ln hd hi ha hI nC nM hC hM
    exact read_step h hn i a K sT vT kd nu po ln hi ha hI nC nM (by omega) (by omega) (fun e K2 sT2 vT2 kd2 nu2 po2 ln2 hlt he hI2 => ih (i + 1) e K2 sT2 vT2 kd2 nu2 po2 ln2 (by omega) (by omega) he hI2 (nC - 1) (nM - 1) (by omega) (by omega))
/-- the tokens of a tape -/
theorem read_both (h : TPE Y len bT ta) (hn : 2100 < n) : RDE Y len (f_X11_readAll n bh (bT, nI len)) (f_X14_readAll n (th, ta, nI len, ea, kd, nu, po, ln, tk, wr, er, et, dp, fn, gn, va, N, kp)) := by
  have h0 := h.1
  obtain ⟨e, hr, he⟩ := RUN_ex (p := blk) h.2.2 blk_256 len 0 (by omega)
  have he := he (by omega)
  have s1 := c_skip h hn (Nat.zero_le _) hr he
  have s2 := m_skip (N := N) (th := th) (ea := ea) (kd := kd) (nu := nu) (po := po) (ln := ln) (tk := tk) (wr := wr) (er := er) (et := et) (dp := dp) (fn := fn) (gn := gn) (va := va) (kp := kp) h hn hr he
  have key := read_all (N := N) (bh := bh) (kd0 := kd) (nu0 := nu) (po0 := po) (ln0 := ln) (th := th) (ea := ea) (tk := tk) (wr := wr) (er := er) (et := et) (dp := dp) (fn := fn) (gn := gn) (va := va) (kp := kp) h hn 400 0 e (X11_kinds bh) (X11_starts bh) (X11_values bh) kd nu po ln (by omega) (by omega) he (fun j hj => by omega) n n (by omega) (by omega)
  have e1 : f_X11_readAll n bh (bT, nI len) = iter (raC n bh bT len) n (nI e, nI 0, X11_kinds bh, X11_starts bh, X11_values bh, nI 0) := by
    unfold f_X11_readAll
    exact bd s1 _
  have e2 : f_X14_readAll n (th, ta, nI len, ea, kd, nu, po, ln, tk, wr, er, et, dp, fn, gn, va, N, kp) = iter (raM n (th, ta, nI len, ea, kd, nu, po, ln, tk, wr, er, et, dp, fn, gn, va, N, kp)) n (nI e, nI 0, kd, nu, po, ln) := by
    unfold f_X14_readAll
    exact bd s2 _
  rw [e1, e2]
  exact key
end P64
