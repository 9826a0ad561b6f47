/-! an order's line -/
def adA (oA : Nat → Nat) (no k : Nat) : Nat → Nat := if no = 16 then oA else va_up oA no k
def adB (oB : Nat → Int32) (no : Nat) (x : Int32) : Nat → Int32 := if no = 16 then oB else upd oB no x
def adn (no : Nat) : Nat := if no = 16 then 16 else no + 1
def e4 (no c : Nat) (e : Int32 × Int32) : Int32 × Int32 := if no = 16 then mkx (nI 4) c e else e
section P37
variable {N : Nat → Int32} {n : Nat} {th bs ea tk wr er et dp : Int32} {ta kd nu po ln fn gn va kp : Nat → Int32} {pf pg pO nd : Int32} {pw pc px py ps pl ph pn pd pW pF pT pt so le ri : Nat → Int32} {K : Nat → Nat} {sT : Nat → Int32} {vT : Nat → Int64} {t : Nat} {e1 e2 : Int32} {oA : Nat → Nat} {oB oC oD : Nat → Int32} {oE : Int32}
variable {K : Nat → Nat} {t : Nat} {kF kG : Nat → Int32} {sk : Nat → Nat} {sv : Nat → Int32} {s c no : Nat}
theorem adn_pos : 0 < adn no := by unfold adn; by_cases q : no = 16 <;> simp [q]
theorem adn_le (h : no ≤ 16) : adn no ≤ 16 := by
  unfold adn
  by_cases q : no = 16
  · rw [if_pos q]; omega
  · rw [if_neg q]; omega
theorem o_addx (hno : no ≤ 16) {k : Nat} (hk : k < 52) (x : Int32) : f_X6_add k x (oA, oB, oC, oD, sk, sv, nI no, nI s) = some (adA oA no k, adB oB no x, adB oC no (nI s), adB oD no (nI s), nI (adn no)) := by
  unfold adA adB adn
  by_cases q : no = 16
  · subst q
    exact o_add16 x
  · rw [if_neg q, if_neg q, if_neg q, if_neg q, if_neg q]
    exact o_add (by omega) hk x
/-- the model's order up to its test -/
theorem mo_head (hn : 1000 < n) (hK : TKO K kd t) (hc : c ≤ t) (hno : no ≤ 16) (x0 : Int32) : f_X14_order n x0 (th, ta, bs, ea, kd, nu, po, ln, (nI c), (nI 0), er, et, (nI 0), fn, gn, va, N, kp) (pf, pw, pc, px, py, pg, ps, pl, ph, pn, (nI no), pd, pW, pF, pT, pt, (nI s), so, le, ri) = f_X14_order_R24 n x0 (th, ta, bs, ea, kd, nu, po, ln, (nI c), (nI 0), er, et, (nI 0), fn, gn, va, N, kp) (pf, pw, pc, px, py, pg, ps, pl, ph, pn, (nI no), pd, pW, pF, pT, pt, (nI s), so, le, ri) x0 (nI no) (nI c) (nI 0) (e4 no c (er, et)).1 (e4 no c (er, et)).2 (nI 0) (nI no) pd pW pF pT pt (nI s) so le ri := by
  unfold f_X14_order e4
  have mm := m_mark (N := N) (dp := nI 0) (th := th) (ta := ta) (bs := bs) (ea := ea) (kd := kd) (nu := nu) (po := po) (ln := ln) (er := er) (et := et) (fn := fn) (gn := gn) (va := va) (kp := kp) (nI 4) c
  by_cases q : no = 16
  · subst q
    simp (disch := omega) only [X14_thrown, X14_tape, X14_bytes, X14_errorAt, X14_kind, X14_number, X14_position, X14_length, X14_token, X14_isWrong, X14_error, X14_errorToken, X14_deep, X14_frontName, X14_guestName, X14_value, X14_now, X14_kept, X13_fronts, X13_warm, X13_force, X13_comes, X13_stays, X13_guests, X13_sits, X13_low, X13_high, X13_nerve, X13_orders, X13_does, X13_whom, X13_from, X13_to, X13_test, X13_nodes, X13_sort, X13_left, X13_right, ↓bd mm, bd mm, ↓reduceIte, ↓if_pos, ↓if_neg, Nat.reduceEqDiff, Nat.reduceLeDiff, Nat.reduceLT, and_true, true_and, and_false, false_and, true_or, or_true, false_or, or_false, eq_self, sb, nJ_of, nJ_lt, nJ_le, nJ_eq, nJ_clamp, nJ_add, nJ_sub, if_pos, if_neg, if_true, if_false, nL_0, nL_1, nL_2, nL_3, nL_4, nL_5, nL_6, nL_7, nL_8, nL_9, nL_10, nL_11, nL_12, nL_13, nL_14, nL_15, nL_16, nL_17, nL_18, nL_19, nL_20, nL_21, nL_22, nL_23, nL_24, nL_25, nL_26, nL_27, nL_28, nL_29, nL_30, nL_31, nL_32, nL_33, nL_34, nL_35, nL_36, nL_37, nL_38, nL_39, nL_40, nL_41, nL_42, nL_43, nL_44, nL_45, nL_46, nL_47, nL_48, nL_49, nL_50, nL_51, nL_52, nL_53, nL_54, nL_55, nL_56, nL_57, nL_58, nL_59, nL_60, nL_61, nL_62, nL_63, nL_64, nL_65, nL_66, nL_67, nL_68, nL_69, nL_70, nL_400, nL_402, nL_800, nL_2000]
  · simp (disch := omega) only [X14_thrown, X14_tape, X14_bytes, X14_errorAt, X14_kind, X14_number, X14_position, X14_length, X14_token, X14_isWrong, X14_error, X14_errorToken, X14_deep, X14_frontName, X14_guestName, X14_value, X14_now, X14_kept, X13_fronts, X13_warm, X13_force, X13_comes, X13_stays, X13_guests, X13_sits, X13_low, X13_high, X13_nerve, X13_orders, X13_does, X13_whom, X13_from, X13_to, X13_test, X13_nodes, X13_sort, X13_left, X13_right, q, ↓reduceIte, ↓if_pos, ↓if_neg, Nat.reduceEqDiff, Nat.reduceLeDiff, Nat.reduceLT, and_true, true_and, and_false, false_and, true_or, or_true, false_or, or_false, eq_self, sb, nJ_of, nJ_lt, nJ_le, nJ_eq, nJ_clamp, nJ_add, nJ_sub, if_pos, if_neg, if_true, if_false, nL_0, nL_1, nL_2, nL_3, nL_4, nL_5, nL_6, nL_7, nL_8, nL_9, nL_10, nL_11, nL_12, nL_13, nL_14, nL_15, nL_16, nL_17, nL_18, nL_19, nL_20, nL_21, nL_22, nL_23, nL_24, nL_25, nL_26, nL_27, nL_28, nL_29, nL_30, nL_31, nL_32, nL_33, nL_34, nL_35, nL_36, nL_37, nL_38, nL_39, nL_40, nL_41, nL_42, nL_43, nL_44, nL_45, nL_46, nL_47, nL_48, nL_49, nL_50, nL_51, nL_52, nL_53, nL_54, nL_55, nL_56, nL_57, nL_58, nL_59, nL_60, nL_61, nL_62, nL_63, nL_64, nL_65, nL_66, nL_67, nL_68, nL_69, nL_70, nL_400, nL_402, nL_800, nL_2000]
end P37
