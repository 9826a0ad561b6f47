/-! the model's line -/
abbrev r23 : Type := Int32 × (Nat → Int32) × (Nat → Int32) × Int32 × (Nat → Int32) × (Nat → Int32) × (Nat → Int32) × (Nat → Int32) × Int32 × (Nat → Int32) × (Nat → Int32) × (Nat → Int32) × (Nat → Int32) × Int32 × (Nat → Int32) × (Nat → Int32) × (Nat → Int32) × (Nat → Int32) × (Nat → Int32) × Int32 × (Nat → Int32) × (Nat → Int32) × (Nat → Int32)
abbrev q8 : Type := (Nat → Nat) × (Nat → Int32) × (Nat → Int32) × (Nat → Int32) × (Nat → Nat) × (Nat → Int32) × Int32 × Int32
theorem kpa_ord0 : ∀ k : Nat, k < 51 → (11 ≤ kpa k ∧ kpa k ≤ 14) → (11 ≤ k ∧ k ≤ 14) := by decide +kernel
theorem kpa_ord (k : Nat) (h : k < 51) (h1 : k ≠ 11) (h2 : k ≠ 12) (h3 : k ≠ 13) (h4 : k ≠ 14) : ¬ (11 ≤ kpa k ∧ kpa k ≤ 14) := fun q => by
  have := kpa_ord0 k h q
  omega
section P46
variable {N : Nat → Int32} {n : Nat} {th bs ea tk wr er et dp : Int32} {ta kd nu po ln fn gn va kp : Nat → Int32} {pf pg pO nd : Int32} {pw pc px py ps pl ph pn pd pW pF pT pt so le ri : Nat → Int32}
variable {K : Nat → Nat} {t c : Nat}
theorem ml_0 (hK : TKO K kd t) (hc : c ≤ t) (h : K c = 0) : f_X14_line n (th, ta, bs, ea, kd, nu, po, ln, (nI c), (nI 0), er, et, dp, fn, gn, va, N, kp) (pf, pw, pc, px, py, pg, ps, pl, ph, pn, pO, pd, pW, pF, pT, pt, nd, so, le, ri) = (f_X14_newFront n (th, ta, bs, ea, kd, nu, po, ln, (nI (c + 1)), (nI 0), er, et, dp, fn, gn, va, N, kp) (pf, pw, pc, px, py, pg, ps, pl, ph, pn, pO, pd, pW, pF, pT, pt, nd, so, le, ri)).bind fun u => some (u.1, u.2.1, u.2.2.1, u.2.2.2.1, dp, u.2.2.2.2.1, gn, u.2.2.2.2.2.1, u.2.2.2.2.2.2.1, u.2.2.2.2.2.2.2.1, u.2.2.2.2.2.2.2.2.1, u.2.2.2.2.2.2.2.2.2, pg, ps, pl, ph, pn, pO, pd, pW, pF, pT, pt, nd, so, le, ri) := by
  have h0 := hK.1
  have e0 := m_takesk (N := N) (th := th) (ta := ta) (bs := bs) (ea := ea) (nu := nu) (po := po) (ln := ln) (er := er) (et := et) (dp := dp) (fn := fn) (gn := gn) (va := va) (kp := kp) hK hc 0 0 rfl (by omega)
  rw [if_pos h] at e0
  unfold f_X14_line
  simp (disch := omega) only [X14_thrown, X14_tape, X14_bytes, X14_errorAt, X14_kind, X14_number, X14_position, X14_length, X14_token, X14_isWrong, X14_error, X14_errorToken, X14_deep, X14_frontName, X14_guestName, X14_value, X14_now, X14_kept, X13_fronts, X13_warm, X13_force, X13_comes, X13_stays, X13_guests, X13_sits, X13_low, X13_high, X13_nerve, X13_orders, X13_does, X13_whom, X13_from, X13_to, X13_test, X13_nodes, X13_sort, X13_left, X13_right, ↓bd e0, bd e0, ↓reduceIte, ↓if_pos, ↓if_neg, Nat.reduceEqDiff, Nat.reduceLeDiff, Nat.reduceLT, and_true, true_and, and_false, false_and, true_or, or_true, false_or, or_false, eq_self, sb, nJ_of, nJ_lt, nJ_le, nJ_eq, nJ_clamp, nJ_add, nJ_sub, if_pos, if_neg, if_true, if_false, nL_0, nL_1, nL_2, nL_3, nL_4, nL_5, nL_6, nL_7, nL_8, nL_9, nL_10, nL_11, nL_12, nL_13, nL_14, nL_15, nL_16, nL_17, nL_18, nL_19, nL_20, nL_21, nL_22, nL_23, nL_24, nL_25, nL_26, nL_27, nL_28, nL_29, nL_30, nL_31, nL_32, nL_33, nL_34, nL_35, nL_36, nL_37, nL_38, nL_39, nL_40, nL_41, nL_42, nL_43, nL_44, nL_45, nL_46, nL_47, nL_48, nL_49, nL_50, nL_51, nL_52, nL_53, nL_54, nL_55, nL_56, nL_57, nL_58, nL_59, nL_60, nL_61, nL_62, nL_63, nL_64, nL_65, nL_66, nL_67, nL_68, nL_69, nL_70, nL_400, nL_402, nL_800, nL_2000]
theorem ml_7 (hK : TKO K kd t) (hc : c ≤ t) (h : K c = 7) : f_X14_line n (th, ta, bs, ea, kd, nu, po, ln, (nI c), (nI 0), er, et, dp, fn, gn, va, N, kp) (pf, pw, pc, px, py, pg, ps, pl, ph, pn, pO, pd, pW, pF, pT, pt, nd, so, le, ri) = (f_X14_newGuest n (th, ta, bs, ea, kd, nu, po, ln, (nI (c + 1)), (nI 0), er, et, dp, fn, gn, va, N, kp) (pf, pw, pc, px, py, pg, ps, pl, ph, pn, pO, pd, pW, pF, pT, pt, nd, so, le, ri)).bind fun u => some (u.1, u.2.1, u.2.2.1, u.2.2.2.1, dp, fn, u.2.2.2.2.1, pf, pw, pc, px, py, u.2.2.2.2.2.1, u.2.2.2.2.2.2.1, u.2.2.2.2.2.2.2.1, u.2.2.2.2.2.2.2.2.1, u.2.2.2.2.2.2.2.2.2, pO, pd, pW, pF, pT, pt, nd, so, le, ri) := by
  have h0 := hK.1
  have e0 := m_takesk (N := N) (th := th) (ta := ta) (bs := bs) (ea := ea) (nu := nu) (po := po) (ln := ln) (er := er) (et := et) (dp := dp) (fn := fn) (gn := gn) (va := va) (kp := kp) hK hc 0 0 rfl (by omega)
  have e7 := m_takesk (N := N) (th := th) (ta := ta) (bs := bs) (ea := ea) (nu := nu) (po := po) (ln := ln) (er := er) (et := et) (dp := dp) (fn := fn) (gn := gn) (va := va) (kp := kp) hK hc 7 7 rfl (by omega)
  rw [if_neg (by omega)] at e0
  rw [if_pos h] at e7
  unfold f_X14_line
  simp (disch := omega) only [X14_thrown, X14_tape, X14_bytes, X14_errorAt, X14_kind, X14_number, X14_position, X14_length, X14_token, X14_isWrong, X14_error, X14_errorToken, X14_deep, X14_frontName, X14_guestName, X14_value, X14_now, X14_kept, X13_fronts, X13_warm, X13_force, X13_comes, X13_stays, X13_guests, X13_sits, X13_low, X13_high, X13_nerve, X13_orders, X13_does, X13_whom, X13_from, X13_to, X13_test, X13_nodes, X13_sort, X13_left, X13_right, ↓bd e0, bd e0, ↓bd e7, bd e7, ↓reduceIte, ↓if_pos, ↓if_neg, Nat.reduceEqDiff, Nat.reduceLeDiff, Nat.reduceLT, and_true, true_and, and_false, false_and, true_or, or_true, false_or, or_false, eq_self, sb, nJ_of, nJ_lt, nJ_le, nJ_eq, nJ_clamp, nJ_add, nJ_sub, if_pos, if_neg, if_true, if_false, nL_0, nL_1, nL_2, nL_3, nL_4, nL_5, nL_6, nL_7, nL_8, nL_9, nL_10, nL_11, nL_12, nL_13, nL_14, nL_15, nL_16, nL_17, nL_18, nL_19, nL_20, nL_21, nL_22, nL_23, nL_24, nL_25, nL_26, nL_27, nL_28, nL_29, nL_30, nL_31, nL_32, nL_33, nL_34, nL_35, nL_36, nL_37, nL_38, nL_39, nL_40, nL_41, nL_42, nL_43, nL_44, nL_45, nL_46, nL_47, nL_48, nL_49, nL_50, nL_51, nL_52, nL_53, nL_54, nL_55, nL_56, nL_57, nL_58, nL_59, nL_60, nL_61, nL_62, nL_63, nL_64, nL_65, nL_66, nL_67, nL_68, nL_69, nL_70, nL_400, nL_402, nL_800, nL_2000]
theorem ml_o {k : Nat} (hk : k = 11 ∨ k = 12 ∨ k = 13 ∨ k = 14) (hK : TKO K kd t) (hc : c ≤ t) (h : K c = k) : f_X14_line n (th, ta, bs, ea, kd, nu, po, ln, (nI c), (nI 0), er, et, dp, fn, gn, va, N, kp) (pf, pw, pc, px, py, pg, ps, pl, ph, pn, pO, pd, pW, pF, pT, pt, nd, so, le, ri) = (f_X14_order n (nI k) (th, ta, bs, ea, kd, nu, po, ln, (nI c), (nI 0), er, et, dp, fn, gn, va, N, kp) (pf, pw, pc, px, py, pg, ps, pl, ph, pn, pO, pd, pW, pF, pT, pt, nd, so, le, ri)).bind fun u => some (u.1, u.2.1, u.2.2.1, u.2.2.2.1, u.2.2.2.2.1, fn, gn, pf, pw, pc, px, py, pg, ps, pl, ph, pn, u.2.2.2.2.2.1, u.2.2.2.2.2.2.1, u.2.2.2.2.2.2.2.1, u.2.2.2.2.2.2.2.2.1, u.2.2.2.2.2.2.2.2.2.1, u.2.2.2.2.2.2.2.2.2.2.1, u.2.2.2.2.2.2.2.2.2.2.2.1, u.2.2.2.2.2.2.2.2.2.2.2.2.1, u.2.2.2.2.2.2.2.2.2.2.2.2.2.1, u.2.2.2.2.2.2.2.2.2.2.2.2.2.2) := by
  have h0 := hK.1
  have e0 := m_takesk (N := N) (th := th) (ta := ta) (bs := bs) (ea := ea) (nu := nu) (po := po) (ln := ln) (er := er) (et := et) (dp := dp) (fn := fn) (gn := gn) (va := va) (kp := kp) hK hc 0 0 rfl (by omega)
  have e7 := m_takesk (N := N) (th := th) (ta := ta) (bs := bs) (ea := ea) (nu := nu) (po := po) (ln := ln) (er := er) (et := et) (dp := dp) (fn := fn) (gn := gn) (va := va) (kp := kp) hK hc 7 7 rfl (by omega)
  rw [if_neg (by omega)] at e0 e7
  have hkd : kd c = nI k := by
    rw [(hK.2.1 c hc).2, h]
    rcases hk with e | e | e | e <;> subst e <;> rfl
  have ei : f_X14_isIn (nI k) (nI 11) (nI 14) = some (nI 1) := by rw [k_isIn (by omega) (by omega) (by omega), if_pos (by omega)]
  unfold f_X14_line
  simp (disch := omega) only [X14_thrown, X14_tape, X14_bytes, X14_errorAt, X14_kind, X14_number, X14_position, X14_length, X14_token, X14_isWrong, X14_error, X14_errorToken, X14_deep, X14_frontName, X14_guestName, X14_value, X14_now, X14_kept, X13_fronts, X13_warm, X13_force, X13_comes, X13_stays, X13_guests, X13_sits, X13_low, X13_high, X13_nerve, X13_orders, X13_does, X13_whom, X13_from, X13_to, X13_test, X13_nodes, X13_sort, X13_left, X13_right, ↓bd e0, bd e0, ↓bd e7, bd e7, hkd, ↓bd ei, bd ei, ↓reduceIte, ↓if_pos, ↓if_neg, Nat.reduceEqDiff, Nat.reduceLeDiff, Nat.reduceLT, and_true, true_and, and_false, false_and, true_or, or_true, false_or, or_false, eq_self, sb, nJ_of, nJ_lt, nJ_le, nJ_eq, nJ_clamp, nJ_add, nJ_sub, if_pos, if_neg, if_true, if_false, nL_0, nL_1, nL_2, nL_3, nL_4, nL_5, nL_6, nL_7, nL_8, nL_9, nL_10, nL_11, nL_12, nL_13, nL_14, nL_15, nL_16, nL_17, nL_18, nL_19, nL_20, nL_21, nL_22, nL_23, nL_24, nL_25, nL_26, nL_27, nL_28, nL_29, nL_30, nL_31, nL_32, nL_33, nL_34, nL_35, nL_36, nL_37, nL_38, nL_39, nL_40, nL_41, nL_42, nL_43, nL_44, nL_45, nL_46, nL_47, nL_48, nL_49, nL_50, nL_51, nL_52, nL_53, nL_54, nL_55, nL_56, nL_57, nL_58, nL_59, nL_60, nL_61, nL_62, nL_63, nL_64, nL_65, nL_66, nL_67, nL_68, nL_69, nL_70, nL_400, nL_402, nL_800, nL_2000]
theorem ml_no (hK : TKO K kd t) (hc : c ≤ t) (h : K c ≠ 0 ∧ K c ≠ 7 ∧ K c ≠ 11 ∧ K c ≠ 12 ∧ K c ≠ 13 ∧ K c ≠ 14) : f_X14_line n (th, ta, bs, ea, kd, nu, po, ln, (nI c), (nI 0), er, et, dp, fn, gn, va, N, kp) (pf, pw, pc, px, py, pg, ps, pl, ph, pn, pO, pd, pW, pF, pT, pt, nd, so, le, ri) = some (nI c, nI 1, nI 1, nI c, dp, fn, gn, pf, pw, pc, px, py, pg, ps, pl, ph, pn, pO, pd, pW, pF, pT, pt, nd, so, le, ri) := by
  have h0 := hK.1
  have e0 := m_takesk (N := N) (th := th) (ta := ta) (bs := bs) (ea := ea) (nu := nu) (po := po) (ln := ln) (er := er) (et := et) (dp := dp) (fn := fn) (gn := gn) (va := va) (kp := kp) hK hc 0 0 rfl (by omega)
  have e7 := m_takesk (N := N) (th := th) (ta := ta) (bs := bs) (ea := ea) (nu := nu) (po := po) (ln := ln) (er := er) (et := et) (dp := dp) (fn := fn) (gn := gn) (va := va) (kp := kp) hK hc 7 7 rfl (by omega)
  rw [if_neg (by omega)] at e0 e7
  have hkd := (hK.2.1 c hc).2
  have hlt := kpa_lt _ (hK.2.1 c hc).1
  have ei : f_X14_isIn (nI (kpa (K c))) (nI 11) (nI 14) = some (nI 0) := by
    rw [k_isIn (by omega) (by omega) (by omega), if_neg (kpa_ord _ (hK.2.1 c hc).1 (by omega) (by omega) (by omega) (by omega))]
  have hw := m_wrong0 (N := N) (tk := nI c) (th := th) (ta := ta) (bs := bs) (ea := ea) (kd := kd) (nu := nu) (po := po) (ln := ln) (er := er) (et := et) (dp := dp) (fn := fn) (gn := gn) (va := va) (kp := kp)
  unfold f_X14_line f_X14_line_R73
  simp (disch := omega) only [X14_thrown, X14_tape, X14_bytes, X14_errorAt, X14_kind, X14_number, X14_position, X14_length, X14_token, X14_isWrong, X14_error, X14_errorToken, X14_deep, X14_frontName, X14_guestName, X14_value, X14_now, X14_kept, X13_fronts, X13_warm, X13_force, X13_comes, X13_stays, X13_guests, X13_sits, X13_low, X13_high, X13_nerve, X13_orders, X13_does, X13_whom, X13_from, X13_to, X13_test, X13_nodes, X13_sort, X13_left, X13_right, ↓bd e0, bd e0, ↓bd e7, bd e7, hkd, ↓bd ei, bd ei, ↓bd hw, bd hw, ↓reduceIte, ↓if_pos, ↓if_neg, Nat.reduceEqDiff, Nat.reduceLeDiff, Nat.reduceLT, and_true, true_and, and_false, false_and, true_or, or_true, false_or, or_false, eq_self, sb, nJ_of, nJ_lt, nJ_le, nJ_eq, nJ_clamp, nJ_add, nJ_sub, if_pos, if_neg, if_true, if_false, nL_0, nL_1, nL_2, nL_3, nL_4, nL_5, nL_6, nL_7, nL_8, nL_9, nL_10, nL_11, nL_12, nL_13, nL_14, nL_15, nL_16, nL_17, nL_18, nL_19, nL_20, nL_21, nL_22, nL_23, nL_24, nL_25, nL_26, nL_27, nL_28, nL_29, nL_30, nL_31, nL_32, nL_33, nL_34, nL_35, nL_36, nL_37, nL_38, nL_39, nL_40, nL_41, nL_42, nL_43, nL_44, nL_45, nL_46, nL_47, nL_48, nL_49, nL_50, nL_51, nL_52, nL_53, nL_54, nL_55, nL_56, nL_57, nL_58, nL_59, nL_60, nL_61, nL_62, nL_63, nL_64, nL_65, nL_66, nL_67, nL_68, nL_69, nL_70, nL_400, nL_402, nL_800, nL_2000]
/-- wrong in a front's line, a guest's line -/
theorem ml_w0 (hK : TKO K kd t) (hc : c ≤ t) (h : K c = 0) {c' : Nat} (hw : (f_X14_newFront n (th, ta, bs, ea, kd, nu, po, ln, (nI (c + 1)), (nI 0), er, et, dp, fn, gn, va, N, kp) (pf, pw, pc, px, py, pg, ps, pl, ph, pn, pO, pd, pW, pF, pT, pt, nd, so, le, ri)).map pr4 = some (nI c', nI 1, nI 1, nI c')) : ∃ r : r23, f_X14_line n (th, ta, bs, ea, kd, nu, po, ln, (nI c), (nI 0), er, et, dp, fn, gn, va, N, kp) (pf, pw, pc, px, py, pg, ps, pl, ph, pn, pO, pd, pW, pF, pT, pt, nd, so, le, ri) = some (nI c', nI 1, nI 1, nI c', r) := by
  rw [ml_0 hK hc h]
  generalize f_X14_newFront n (th, ta, bs, ea, kd, nu, po, ln, (nI (c + 1)), (nI 0), er, et, dp, fn, gn, va, N, kp) (pf, pw, pc, px, py, pg, ps, pl, ph, pn, pO, pd, pW, pF, pT, pt, nd, so, le, ri) = o at hw
  cases o with
  | none => exact nomatch hw
  | some u =>
    have e : pr4 u = (nI c', nI 1, nI 1, nI c') := Option.some.inj hw
    have e1 : u.1 = nI c' := congrArg (·.1) e
    have e2 : u.2.1 = nI 1 := congrArg (·.2.1) e
    have e3 : u.2.2.1 = nI 1 := congrArg (·.2.2.1) e
    have e4 : u.2.2.2.1 = nI c' := congrArg (·.2.2.2) e
    refine ⟨?r, ?M⟩
    case M =>
      rw [sb, e1, e2, e3, e4]
theorem ml_w7 (hK : TKO K kd t) (hc : c ≤ t) (h : K c = 7) {c' : Nat} (hw : (f_X14_newGuest n (th, ta, bs, ea, kd, nu, po, ln, (nI (c + 1)), (nI 0), er, et, dp, fn, gn, va, N, kp) (pf, pw, pc, px, py, pg, ps, pl, ph, pn, pO, pd, pW, pF, pT, pt, nd, so, le, ri)).map pr4 = some (nI c', nI 1, nI 1, nI c')) : ∃ r : r23, f_X14_line n (th, ta, bs, ea, kd, nu, po, ln, (nI c), (nI 0), er, et, dp, fn, gn, va, N, kp) (pf, pw, pc, px, py, pg, ps, pl, ph, pn, pO, pd, pW, pF, pT, pt, nd, so, le, ri) = some (nI c', nI 1, nI 1, nI c', r) := by
  rw [ml_7 hK hc h]
  generalize f_X14_newGuest n (th, ta, bs, ea, kd, nu, po, ln, (nI (c + 1)), (nI 0), er, et, dp, fn, gn, va, N, kp) (pf, pw, pc, px, py, pg, ps, pl, ph, pn, pO, pd, pW, pF, pT, pt, nd, so, le, ri) = o at hw
  cases o with
  | none => exact nomatch hw
  | some u =>
    have e : pr4 u = (nI c', nI 1, nI 1, nI c') := Option.some.inj hw
    have e1 : u.1 = nI c' := congrArg (·.1) e
    have e2 : u.2.1 = nI 1 := congrArg (·.2.1) e
    have e3 : u.2.2.1 = nI 1 := congrArg (·.2.2.1) e
    have e4 : u.2.2.2.1 = nI c' := congrArg (·.2.2.2) e
    refine ⟨?r, ?M⟩
    case M =>
      rw [sb, e1, e2, e3, e4]
end P46
