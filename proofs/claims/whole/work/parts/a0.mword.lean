/-! a word, in the model -/
theorem kln_10 : ∀ k : Nat, k < 52 → kln k ≤ 10 := by decide +kernel
theorem kln_47 : ∀ k : Nat, k < 52 → 47 ≤ k → kln k = 0 := by decide +kernel
theorem kby_sym : ∀ k : Nat, k < 52 → 32 ≤ k → kln k = 0 ∨ ¬ (nI 97 ≤ kby k 0 ∧ kby k 0 ≤ nI 122) := by decide +kernel
theorem tkK_lt : ∀ j : Nat, j < 32 → tkK j < 52 ∧ kpa (tkK j) = j := by decide +kernel
theorem kpa_tkK : ∀ k : Nat, k < 32 → kpa k < 32 ∧ tkK (kpa k) = k := by decide +kernel
theorem kby_dis : ∀ k : Nat, k < 52 → ∀ k' : Nat, k' < 52 → (k = k' ∨ kln k ≠ kln k' ∨ kln k = 0 ∨ ¬ ∀ i, i < kln k → kby k i = kby k' i) := by decide +kernel
section P62
variable {Y : Nat → Nat} {len : Nat} {bT : Nat → Int32} {th bs ea tk wr er et dp : Int32} {ta kd nu po ln fn gn va kp : Nat → Int32}
variable {N : Nat → Int32} {n i e a sz k k' : Nat}
theorem HT_t (h : HT Y a sz k = true) : kln k = sz ∧ ∀ i, i < sz → cb (Y (a + i)) = kby k i := by
  unfold HT at h
  rw [Bool.and_eq_true, decide_eq_true_eq, decide_eq_true_eq] at h
  exact h
theorem HT_inj (h : HT Y a sz k = true) (h' : HT Y a sz k' = true) (hk : k < 52) (hk' : k' < 52) (hz : 1 ≤ sz) : k = k' := by
  obtain ⟨a1, a2⟩ := HT_t h
  obtain ⟨b1, b2⟩ := HT_t h'
  rcases kby_dis k hk k' hk' with q | q | q | q
  · exact q
  · omega
  · omega
  · exact absurd (fun i hi => (a2 i (by omega)).symm.trans (b2 i (by omega))) q
theorem ta_cb (h : TPE Y len bT ta) (ha : a < len) (hw : wrd (Y a) = true) : ta a = cb (Y a) := by
  rw [ta_mb h ha]
  obtain ⟨q1, q2⟩ := cb_mb (Y a) (TPE_lt h a) hw
  rw [q1, q2]
theorem m_isWord (h : TPE Y len bT ta) (hn : 2100 < n) (ha : a + sz ≤ len) (hw : ∀ i, i < sz → wrd (Y (a + i)) = true) (hk : k < 52) : f_X14_isWord n (nI a) (nI sz) k (th, ta, nI len, ea, kd, nu, po, ln, tk, wr, er, et, dp, fn, gn, va, N, kp) = some (b1 (HT Y a sz k)) := by
  have h0 := h.1
  have hkl : kln k < 100 := (show ∀ k : Nat, k < 52 → kln k < 100 by decide +kernel) k hk
  unfold f_X14_isWord
  rw [if_pos hk]
  by_cases q : kln k = sz
  · rw [if_pos (by rw [q])]
    have key : ∀ (d i m : Nat), sz - i = d → i ≤ sz → (∀ j, j < i → cb (Y (a + j)) = kby k j) → d < m → iter (fun s : Int32 => f_X14_isWord_L13 n (nI a) (nI sz) k (th, ta, nI len, ea, kd, nu, po, ln, tk, wr, er, et, dp, fn, gn, va, N, kp) (nI a) (nI sz) k s) m (nI i) = some (b1 (HT Y a sz k)) := by
      intro d
      induction d with
      | zero =>
        intro i m hd hi hall hm
        obtain ⟨m, rfl⟩ : ∃ q, m = q + 1 := ⟨m - 1, by omega⟩
        have hT : HT Y a sz k = true := by
          unfold HT
          rw [decide_eq_true q, decide_eq_true (fun j hj => hall j (by omega))]
          rfl
        rw [hT]
        refine iter_inr ?_
        show f_X14_isWord_L13 n (nI a) (nI sz) k (th, ta, nI len, ea, kd, nu, po, ln, tk, wr, er, et, dp, fn, gn, va, N, kp) (nI a) (nI sz) k (nI i) = some (.inr (nI 1))
        unfold f_X14_isWord_L13
        simp (disch := omega) only [↓reduceIte, ↓if_pos, ↓if_neg, Nat.reduceEqDiff, Nat.reduceLeDiff, Nat.reduceLT, and_true, true_and, and_false, false_and, true_or, or_true, false_or, or_false, eq_self, sb, nJ_of, nJ_lt, nJ_le, nJ_eq, nJ_clamp, nJ_add, nJ_sub, if_pos, if_neg, if_true, if_false, nL_0, nL_1, nL_2, nL_3, nL_4, nL_5, nL_6, nL_7, nL_8, nL_9, nL_10, nL_11, nL_12, nL_13, nL_14, nL_15, nL_16, nL_17, nL_18, nL_19, nL_20, nL_21, nL_22, nL_23, nL_24, nL_25, nL_26, nL_27, nL_28, nL_29, nL_30, nL_31, nL_32, nL_33, nL_34, nL_35, nL_36, nL_37, nL_38, nL_39, nL_40, nL_41, nL_42, nL_43, nL_44, nL_45, nL_46, nL_47, nL_48, nL_49, nL_50, nL_51, nL_52, nL_53, nL_54, nL_55, nL_56, nL_57, nL_58, nL_59, nL_60, nL_61, nL_62, nL_63, nL_64, nL_65, nL_66, nL_67, nL_68, nL_69, nL_70, nL_400, nL_402, nL_800, nL_2000]
      | succ d ih =>
        intro i m hd hi hall hm
        obtain ⟨m, rfl⟩ : ∃ q, m = q + 1 := ⟨m - 1, by omega⟩
        have hc := ta_cb h (a := a + i) (by omega) (hw i (by omega))
        by_cases w : cb (Y (a + i)) = kby k i
        · rw [iter_inl (s' := nI (i + 1)) ?_]
          · exact ih (i + 1) m (by omega) (by omega) (fun j hj => by
              rcases Nat.lt_or_ge j i with z | z
              · exact hall j z
              · have e : j = i := by omega
                rw [e]
                exact w) (by omega)
          · show f_X14_isWord_L13 n (nI a) (nI sz) k (th, ta, nI len, ea, kd, nu, po, ln, tk, wr, er, et, dp, fn, gn, va, N, kp) (nI a) (nI sz) k (nI i) = _
            unfold f_X14_isWord_L13
            simp (disch := omega) only [X14_tape, q, hc, w, ↓reduceIte, ↓if_pos, ↓if_neg, Nat.reduceEqDiff, Nat.reduceLeDiff, Nat.reduceLT, and_true, true_and, and_false, false_and, true_or, or_true, false_or, or_false, eq_self, sb, nJ_of, nJ_lt, nJ_le, nJ_eq, nJ_clamp, nJ_add, nJ_sub, if_pos, if_neg, if_true, if_false, nL_0, nL_1, nL_2, nL_3, nL_4, nL_5, nL_6, nL_7, nL_8, nL_9, nL_10, nL_11, nL_12, nL_13, nL_14, nL_15, nL_16, nL_17, nL_18, nL_19, nL_20, nL_21, nL_22, nL_23, nL_24, nL_25, nL_26, nL_27, nL_28, nL_29, nL_30, nL_31, nL_32, nL_33, nL_34, nL_35, nL_36, nL_37, nL_38, nL_39, nL_40, nL_41, nL_42, nL_43, nL_44, nL_45, nL_46, nL_47, nL_48, nL_49, nL_50, nL_51, nL_52, nL_53, nL_54, nL_55, nL_56, nL_57, nL_58, nL_59, nL_60, nL_61, nL_62, nL_63, nL_64, nL_65, nL_66, nL_67, nL_68, nL_69, nL_70, nL_400, nL_402, nL_800, nL_2000]
        · have hT : HT Y a sz k = false := by
            have w2 : ¬ ∀ i, i < sz → cb (Y (a + i)) = kby k i := fun z => w (z i (by omega))
            unfold HT
            rw [decide_eq_false w2, Bool.and_false]
          have w3 : ¬ kby k i = cb (Y (a + i)) := fun z => w z.symm
          rw [hT]
          refine iter_inr ?_
          show f_X14_isWord_L13 n (nI a) (nI sz) k (th, ta, nI len, ea, kd, nu, po, ln, tk, wr, er, et, dp, fn, gn, va, N, kp) (nI a) (nI sz) k (nI i) = some (.inr (nI 0))
          unfold f_X14_isWord_L13
          simp (disch := omega) only [X14_tape, q, hc, w3, ↓reduceIte, ↓if_pos, ↓if_neg, Nat.reduceEqDiff, Nat.reduceLeDiff, Nat.reduceLT, and_true, true_and, and_false, false_and, true_or, or_true, false_or, or_false, eq_self, sb, nJ_of, nJ_lt, nJ_le, nJ_eq, nJ_clamp, nJ_add, nJ_sub, if_pos, if_neg, if_true, if_false, nL_0, nL_1, nL_2, nL_3, nL_4, nL_5, nL_6, nL_7, nL_8, nL_9, nL_10, nL_11, nL_12, nL_13, nL_14, nL_15, nL_16, nL_17, nL_18, nL_19, nL_20, nL_21, nL_22, nL_23, nL_24, nL_25, nL_26, nL_27, nL_28, nL_29, nL_30, nL_31, nL_32, nL_33, nL_34, nL_35, nL_36, nL_37, nL_38, nL_39, nL_40, nL_41, nL_42, nL_43, nL_44, nL_45, nL_46, nL_47, nL_48, nL_49, nL_50, nL_51, nL_52, nL_53, nL_54, nL_55, nL_56, nL_57, nL_58, nL_59, nL_60, nL_61, nL_62, nL_63, nL_64, nL_65, nL_66, nL_67, nL_68, nL_69, nL_70, nL_400, nL_402, nL_800, nL_2000]
    exact key sz 0 n (by omega) (by omega) (fun j hj => by omega) (by omega)
  · rw [if_neg (by rw [nJ_eq (by omega) (by omega)]; exact q)]
    have hT : HT Y a sz k = false := by
      unfold HT
      rw [decide_eq_false q]
      rfl
    rw [hT]
    rfl
theorem m_keyword (h : TPE Y len bT ta) (hn : 2100 < n) (ha : a + sz ≤ len) (hw : ∀ i, i < sz → wrd (Y (a + i)) = true) : f_X14_keyword n (nI a) (nI sz) (th, ta, nI len, ea, kd, nu, po, ln, tk, wr, er, et, dp, fn, gn, va, N, kp) = some (fE (fnd (fun j => HT Y a sz (tkK j)) 32) (fun j => nI j) (if sz ≤ 10 then nI 40 else nI 42)) := by
  have h0 := h.1
  unfold f_X14_keyword
  refine fnd_loop (fun s : Int32 => f_X14_keyword_L2 n (nI a) (nI sz) (th, ta, nI len, ea, kd, nu, po, ln, tk, wr, er, et, dp, fn, gn, va, N, kp) (nI a) (nI sz) s) (fun j => HT Y a sz (tkK j)) 32 (fun j => nI j) _ (fun i hi hp => ?_) (fun i hi hp => ?_) ?_ 32 0 n (by omega) (by omega) rfl (by omega)
  · have ht := m_isWord (N := N) (th := th) (ea := ea) (kd := kd) (nu := nu) (po := po) (ln := ln) (tk := tk) (wr := wr) (er := er) (et := et) (dp := dp) (fn := fn) (gn := gn) (va := va) (kp := kp) h hn ha hw (tkK_lt i hi).1
    rw [hp] at ht
    have ht' : f_X14_isWord n (nI a) (nI sz) (tkK i) (th, ta, nI len, ea, kd, nu, po, ln, tk, wr, er, et, dp, fn, gn, va, N, kp) = some (nI 1) := ht
    show f_X14_keyword_L2 n (nI a) (nI sz) (th, ta, nI len, ea, kd, nu, po, ln, tk, wr, er, et, dp, fn, gn, va, N, kp) (nI a) (nI sz) (nI i) = _
    unfold f_X14_keyword_L2
    simp (disch := omega) only [↓bd ht', bd ht', ↓reduceIte, ↓if_pos, ↓if_neg, Nat.reduceEqDiff, Nat.reduceLeDiff, Nat.reduceLT, and_true, true_and, and_false, false_and, true_or, or_true, false_or, or_false, eq_self, sb, nJ_of, nJ_lt, nJ_le, nJ_eq, nJ_clamp, nJ_add, nJ_sub, if_pos, if_neg, if_true, if_false, nL_0, nL_1, nL_2, nL_3, nL_4, nL_5, nL_6, nL_7, nL_8, nL_9, nL_10, nL_11, nL_12, nL_13, nL_14, nL_15, nL_16, nL_17, nL_18, nL_19, nL_20, nL_21, nL_22, nL_23, nL_24, nL_25, nL_26, nL_27, nL_28, nL_29, nL_30, nL_31, nL_32, nL_33, nL_34, nL_35, nL_36, nL_37, nL_38, nL_39, nL_40, nL_41, nL_42, nL_43, nL_44, nL_45, nL_46, nL_47, nL_48, nL_49, nL_50, nL_51, nL_52, nL_53, nL_54, nL_55, nL_56, nL_57, nL_58, nL_59, nL_60, nL_61, nL_62, nL_63, nL_64, nL_65, nL_66, nL_67, nL_68, nL_69, nL_70, nL_400, nL_402, nL_800, nL_2000]
  · have ht := m_isWord (N := N) (th := th) (ea := ea) (kd := kd) (nu := nu) (po := po) (ln := ln) (tk := tk) (wr := wr) (er := er) (et := et) (dp := dp) (fn := fn) (gn := gn) (va := va) (kp := kp) h hn ha hw (tkK_lt i hi).1
    rw [hp] at ht
    have ht' : f_X14_isWord n (nI a) (nI sz) (tkK i) (th, ta, nI len, ea, kd, nu, po, ln, tk, wr, er, et, dp, fn, gn, va, N, kp) = some (nI 0) := ht
    show f_X14_keyword_L2 n (nI a) (nI sz) (th, ta, nI len, ea, kd, nu, po, ln, tk, wr, er, et, dp, fn, gn, va, N, kp) (nI a) (nI sz) (nI i) = _
    unfold f_X14_keyword_L2
    simp (disch := omega) only [↓bd ht', bd ht', ↓reduceIte, ↓if_pos, ↓if_neg, Nat.reduceEqDiff, Nat.reduceLeDiff, Nat.reduceLT, and_true, true_and, and_false, false_and, true_or, or_true, false_or, or_false, eq_self, sb, nJ_of, nJ_lt, nJ_le, nJ_eq, nJ_clamp, nJ_add, nJ_sub, if_pos, if_neg, if_true, if_false, nL_0, nL_1, nL_2, nL_3, nL_4, nL_5, nL_6, nL_7, nL_8, nL_9, nL_10, nL_11, nL_12, nL_13, nL_14, nL_15, nL_16, nL_17, nL_18, nL_19, nL_20, nL_21, nL_22, nL_23, nL_24, nL_25, nL_26, nL_27, nL_28, nL_29, nL_30, nL_31, nL_32, nL_33, nL_34, nL_35, nL_36, nL_37, nL_38, nL_39, nL_40, nL_41, nL_42, nL_43, nL_44, nL_45, nL_46, nL_47, nL_48, nL_49, nL_50, nL_51, nL_52, nL_53, nL_54, nL_55, nL_56, nL_57, nL_58, nL_59, nL_60, nL_61, nL_62, nL_63, nL_64, nL_65, nL_66, nL_67, nL_68, nL_69, nL_70, nL_400, nL_402, nL_800, nL_2000]
  · show f_X14_keyword_L2 n (nI a) (nI sz) (th, ta, nI len, ea, kd, nu, po, ln, tk, wr, er, et, dp, fn, gn, va, N, kp) (nI a) (nI sz) (nI 32) = _
    unfold f_X14_keyword_L2
    by_cases z : sz ≤ 10
    · rw [if_pos z]
      simp (disch := omega) only [↓reduceIte, ↓if_pos, ↓if_neg, Nat.reduceEqDiff, Nat.reduceLeDiff, Nat.reduceLT, and_true, true_and, and_false, false_and, true_or, or_true, false_or, or_false, eq_self, sb, nJ_of, nJ_lt, nJ_le, nJ_eq, nJ_clamp, nJ_add, nJ_sub, if_pos, if_neg, if_true, if_false, nL_0, nL_1, nL_2, nL_3, nL_4, nL_5, nL_6, nL_7, nL_8, nL_9, nL_10, nL_11, nL_12, nL_13, nL_14, nL_15, nL_16, nL_17, nL_18, nL_19, nL_20, nL_21, nL_22, nL_23, nL_24, nL_25, nL_26, nL_27, nL_28, nL_29, nL_30, nL_31, nL_32, nL_33, nL_34, nL_35, nL_36, nL_37, nL_38, nL_39, nL_40, nL_41, nL_42, nL_43, nL_44, nL_45, nL_46, nL_47, nL_48, nL_49, nL_50, nL_51, nL_52, nL_53, nL_54, nL_55, nL_56, nL_57, nL_58, nL_59, nL_60, nL_61, nL_62, nL_63, nL_64, nL_65, nL_66, nL_67, nL_68, nL_69, nL_70, nL_400, nL_402, nL_800, nL_2000]
    · rw [if_neg z]
      simp (disch := omega) only [↓reduceIte, ↓if_pos, ↓if_neg, Nat.reduceEqDiff, Nat.reduceLeDiff, Nat.reduceLT, and_true, true_and, and_false, false_and, true_or, or_true, false_or, or_false, eq_self, sb, nJ_of, nJ_lt, nJ_le, nJ_eq, nJ_clamp, nJ_add, nJ_sub, if_pos, if_neg, if_true, if_false, nL_0, nL_1, nL_2, nL_3, nL_4, nL_5, nL_6, nL_7, nL_8, nL_9, nL_10, nL_11, nL_12, nL_13, nL_14, nL_15, nL_16, nL_17, nL_18, nL_19, nL_20, nL_21, nL_22, nL_23, nL_24, nL_25, nL_26, nL_27, nL_28, nL_29, nL_30, nL_31, nL_32, nL_33, nL_34, nL_35, nL_36, nL_37, nL_38, nL_39, nL_40, nL_41, nL_42, nL_43, nL_44, nL_45, nL_46, nL_47, nL_48, nL_49, nL_50, nL_51, nL_52, nL_53, nL_54, nL_55, nL_56, nL_57, nL_58, nL_59, nL_60, nL_61, nL_62, nL_63, nL_64, nL_65, nL_66, nL_67, nL_68, nL_69, nL_70, nL_400, nL_402, nL_800, nL_2000]
theorem kw_eq (h : TPE Y len bT ta) (hz : 1 ≤ sz) (hl : ltr (Y a) = true) : fE (fnd (fun j => HT Y a sz (tkK j)) 32) (fun j => nI j) (if sz ≤ 10 then nI 40 else nI 42) = nI (kpa (kdC Y a sz)) := by
  have hd : dig (Y a) = false := by
    unfold ltr at hl
    unfold dig
    simp only [Bool.and_eq_true, decide_eq_true_eq] at hl
    simp only [Bool.and_eq_false_iff, decide_eq_false_iff_not]
    omega
  unfold kdC
  rw [hd, hl, if_neg Bool.false_ne_true]
  by_cases z : 10 < sz
  · rw [if_pos (show true = true ∧ 10 < sz from ⟨rfl, z⟩), if_neg (by omega)]
    have hn : fnd (fun j => HT Y a sz (tkK j)) 32 = none := fnd_non (fun j hj => by
      have := kln_10 _ (tkK_lt j hj).1
      unfold HT
      rw [decide_eq_false (by omega)]
      rfl)
    rw [hn]
    rfl
  · rw [if_neg (show ¬ (true = true ∧ 10 < sz) from fun w => z w.2), if_pos (by omega)]
    cases q : fnd (HT Y a sz) 52 with
    | none =>
      have hn : fnd (fun j => HT Y a sz (tkK j)) 32 = none := fnd_non (fun j hj => fnd_all q _ (tkK_lt j hj).1)
      rw [hn]
      rfl
    | some k =>
      obtain ⟨k1, k2⟩ := fnd_some q
      obtain ⟨k3, k4⟩ := HT_t k2
      have k5 : k < 32 := by
        rcases Nat.lt_or_ge k 32 with w | w
        · exact w
        · rcases kby_sym k k1 w with w2 | w2
          · omega
          · exfalso
            apply w2
            have e := k4 0 (by omega)
            rw [Nat.add_zero, (cb_mb (Y a) (TPE_lt h a) (ltr_wrd hl)).1] at e
            unfold ltr at hl
            simp only [Bool.and_eq_true, decide_eq_true_eq] at hl
            rw [← e, nJ_le (by omega) (by omega), nJ_le (by omega) (by omega)]
            exact hl
      obtain ⟨j1, j2⟩ := kpa_tkK k k5
      cases q2 : fnd (fun j => HT Y a sz (tkK j)) 32 with
      | none =>
        have := fnd_all q2 _ j1
        simp only [j2, k2] at this
        exact nomatch this
      | some j =>
        obtain ⟨j3, j4⟩ := fnd_some q2
        have e := HT_inj j4 k2 (tkK_lt j j3).1 k1 hz
        show nI j = nI (kpa k)
        rw [← e, (tkK_lt j j3).2]
theorem m_readW (h : TPE Y len bT ta) (hn : 2100 < n) (ha : a < len) (hk : k ≤ 400) (hl : ltr (Y a) = true) (hr : RUN wrd Y (a + 1) e) (he : e ≤ len) : f_X14_read n (nI a) (nI k) (th, ta, nI len, ea, kd, nu, po, ln, tk, wr, er, et, dp, fn, gn, va, N, kp) = some (nI e, upd kd k (nI (kpa (kdC Y a (e - a)))), nu, upd po k (nI a), upd ln k (nI (e - a))) := by
  have h0 := h.1
  have hle := hr.1
  have c1 := mb_ltr (Y a) (TPE_lt h a)
  rw [hl] at c1
  have c1' : f_X14_isLetter (mb (Y a)) = some (nI 1) := c1
  have hta := ta_mb h ha
  have hw : ∀ i, i < e - a → wrd (Y (a + i)) = true := by
    intro i hi
    by_cases z : i = 0
    · rw [z]
      exact ltr_wrd hl
    · exact hr.2.1 (a + i) (by omega) (by omega)
  have key : ∀ kd0 po0 kd po : Nat → Int32, iter (fun s : Int32 => f_X14_read_L26 n (nI a) (nI k) (th, ta, nI len, ea, kd0, nu, po0, ln, tk, wr, er, et, dp, fn, gn, va, N, kp) (nI a) (nI k) s kd nu po ln) n (nI (a + 1)) = some (nI e, upd kd k (nI (kpa (kdC Y a (e - a)))), nu, po, upd ln k (nI (e - a))) := by
    intro kd0 po0 kd po
    refine it_run _ hr.1 (fun j p q => ?_) ?_ (by omega)
    · have hb := hr.2.1 j p q
      have hj := run_len h wrd_256 hb
      have hcj : f_X14_byteAt (nI j) (th, ta, nI len, ea, kd, nu, po, ln, tk, wr, er, et, dp, fn, gn, va, N, kp) = some (mb (Y j)) := m_byte h (by omega)
      have cl := mb_ltr (Y j) (TPE_lt h j)
      have cd := mb_dig (Y j) (TPE_lt h j)
      show f_X14_read_L26 n (nI a) (nI k) (th, ta, nI len, ea, kd0, nu, po0, ln, tk, wr, er, et, dp, fn, gn, va, N, kp) (nI a) (nI k) (nI j) kd nu po ln = _
      unfold f_X14_read_L26
      cases ql : ltr (Y j) with
      | true =>
        rw [ql] at cl
        have cl' : f_X14_isLetter (mb (Y j)) = some (nI 1) := cl
        simp (disch := omega) only [X14_thrown, X14_tape, X14_bytes, X14_errorAt, X14_kind, X14_number, X14_position, X14_length, X14_token, X14_isWrong, X14_error, X14_errorToken, X14_deep, X14_frontName, X14_guestName, X14_value, X14_now, X14_kept, ↓bd hcj, bd hcj, ↓bd cl', bd cl', ↓reduceIte, ↓if_pos, ↓if_neg, Nat.reduceEqDiff, Nat.reduceLeDiff, Nat.reduceLT, and_true, true_and, and_false, false_and, true_or, or_true, false_or, or_false, eq_self, sb, nJ_of, nJ_lt, nJ_le, nJ_eq, nJ_clamp, nJ_add, nJ_sub, if_pos, if_neg, if_true, if_false, nL_0, nL_1, nL_2, nL_3, nL_4, nL_5, nL_6, nL_7, nL_8, nL_9, nL_10, nL_11, nL_12, nL_13, nL_14, nL_15, nL_16, nL_17, nL_18, nL_19, nL_20, nL_21, nL_22, nL_23, nL_24, nL_25, nL_26, nL_27, nL_28, nL_29, nL_30, nL_31, nL_32, nL_33, nL_34, nL_35, nL_36, nL_37, nL_38, nL_39, nL_40, nL_41, nL_42, nL_43, nL_44, nL_45, nL_46, nL_47, nL_48, nL_49, nL_50, nL_51, nL_52, nL_53, nL_54, nL_55, nL_56, nL_57, nL_58, nL_59, nL_60, nL_61, nL_62, nL_63, nL_64, nL_65, nL_66, nL_67, nL_68, nL_69, nL_70, nL_400, nL_402, nL_800, nL_2000]
      | false =>
        rw [ql] at cl
        have cl' : f_X14_isLetter (mb (Y j)) = some (nI 0) := cl
        have qd : dig (Y j) = true := by
          unfold wrd at hb
          rw [ql, Bool.false_or] at hb
          exact hb
        rw [qd] at cd
        have cd' : f_X14_isDigit (mb (Y j)) = some (nI 1) := cd
        simp (disch := omega) only [X14_thrown, X14_tape, X14_bytes, X14_errorAt, X14_kind, X14_number, X14_position, X14_length, X14_token, X14_isWrong, X14_error, X14_errorToken, X14_deep, X14_frontName, X14_guestName, X14_value, X14_now, X14_kept, ↓bd hcj, bd hcj, ↓bd cl', bd cl', ↓bd cd', bd cd', ↓reduceIte, ↓if_pos, ↓if_neg, Nat.reduceEqDiff, Nat.reduceLeDiff, Nat.reduceLT, and_true, true_and, and_false, false_and, true_or, or_true, false_or, or_false, eq_self, sb, nJ_of, nJ_lt, nJ_le, nJ_eq, nJ_clamp, nJ_add, nJ_sub, if_pos, if_neg, if_true, if_false, nL_0, nL_1, nL_2, nL_3, nL_4, nL_5, nL_6, nL_7, nL_8, nL_9, nL_10, nL_11, nL_12, nL_13, nL_14, nL_15, nL_16, nL_17, nL_18, nL_19, nL_20, nL_21, nL_22, nL_23, nL_24, nL_25, nL_26, nL_27, nL_28, nL_29, nL_30, nL_31, nL_32, nL_33, nL_34, nL_35, nL_36, nL_37, nL_38, nL_39, nL_40, nL_41, nL_42, nL_43, nL_44, nL_45, nL_46, nL_47, nL_48, nL_49, nL_50, nL_51, nL_52, nL_53, nL_54, nL_55, nL_56, nL_57, nL_58, nL_59, nL_60, nL_61, nL_62, nL_63, nL_64, nL_65, nL_66, nL_67, nL_68, nL_69, nL_70, nL_400, nL_402, nL_800, nL_2000]
    · have hce : f_X14_byteAt (nI e) (th, ta, nI len, ea, kd, nu, po, ln, tk, wr, er, et, dp, fn, gn, va, N, kp) = some (mb (Y e)) := m_byte h (by omega)
      obtain ⟨q1, q2⟩ := wrd_or.1 hr.2.2
      have cl := mb_ltr (Y e) (TPE_lt h e)
      have cd := mb_dig (Y e) (TPE_lt h e)
      rw [q1] at cl
      rw [q2] at cd
      have cl' : f_X14_isLetter (mb (Y e)) = some (nI 0) := cl
      have cd' : f_X14_isDigit (mb (Y e)) = some (nI 0) := cd
      have hkw := m_keyword (N := N) (kd := kd) (po := po) (th := th) (ea := ea) (nu := nu) (ln := ln) (tk := tk) (wr := wr) (er := er) (et := et) (dp := dp) (fn := fn) (gn := gn) (va := va) (kp := kp) h hn (show a + (e - a) ≤ len by omega) hw
      rw [kw_eq h (by omega) hl] at hkw
      show f_X14_read_L26 n (nI a) (nI k) (th, ta, nI len, ea, kd0, nu, po0, ln, tk, wr, er, et, dp, fn, gn, va, N, kp) (nI a) (nI k) (nI e) kd nu po ln = _
      unfold f_X14_read_L26 f_X14_read_R239
      simp (disch := omega) only [X14_thrown, X14_tape, X14_bytes, X14_errorAt, X14_kind, X14_number, X14_position, X14_length, X14_token, X14_isWrong, X14_error, X14_errorToken, X14_deep, X14_frontName, X14_guestName, X14_value, X14_now, X14_kept, ↓bd hce, bd hce, ↓bd cl', bd cl', ↓bd cd', bd cd', ↓bd hkw, bd hkw, ↓reduceIte, ↓if_pos, ↓if_neg, Nat.reduceEqDiff, Nat.reduceLeDiff, Nat.reduceLT, and_true, true_and, and_false, false_and, true_or, or_true, false_or, or_false, eq_self, sb, nJ_of, nJ_lt, nJ_le, nJ_eq, nJ_clamp, nJ_add, nJ_sub, if_pos, if_neg, if_true, if_false, nL_0, nL_1, nL_2, nL_3, nL_4, nL_5, nL_6, nL_7, nL_8, nL_9, nL_10, nL_11, nL_12, nL_13, nL_14, nL_15, nL_16, nL_17, nL_18, nL_19, nL_20, nL_21, nL_22, nL_23, nL_24, nL_25, nL_26, nL_27, nL_28, nL_29, nL_30, nL_31, nL_32, nL_33, nL_34, nL_35, nL_36, nL_37, nL_38, nL_39, nL_40, nL_41, nL_42, nL_43, nL_44, nL_45, nL_46, nL_47, nL_48, nL_49, nL_50, nL_51, nL_52, nL_53, nL_54, nL_55, nL_56, nL_57, nL_58, nL_59, nL_60, nL_61, nL_62, nL_63, nL_64, nL_65, nL_66, nL_67, nL_68, nL_69, nL_70, nL_400, nL_402, nL_800, nL_2000]
  unfold f_X14_read
  simp (disch := omega) only [X14_thrown, X14_tape, X14_bytes, X14_errorAt, X14_kind, X14_number, X14_position, X14_length, X14_token, X14_isWrong, X14_error, X14_errorToken, X14_deep, X14_frontName, X14_guestName, X14_value, X14_now, X14_kept, hta, ↓bd c1', bd c1', key, ↓reduceIte, ↓if_pos, ↓if_neg, Nat.reduceEqDiff, Nat.reduceLeDiff, Nat.reduceLT, and_true, true_and, and_false, false_and, true_or, or_true, false_or, or_false, eq_self, sb, nJ_of, nJ_lt, nJ_le, nJ_eq, nJ_clamp, nJ_add, nJ_sub, if_pos, if_neg, if_true, if_false, nL_0, nL_1, nL_2, nL_3, nL_4, nL_5, nL_6, nL_7, nL_8, nL_9, nL_10, nL_11, nL_12, nL_13, nL_14, nL_15, nL_16, nL_17, nL_18, nL_19, nL_20, nL_21, nL_22, nL_23, nL_24, nL_25, nL_26, nL_27, nL_28, nL_29, nL_30, nL_31, nL_32, nL_33, nL_34, nL_35, nL_36, nL_37, nL_38, nL_39, nL_40, nL_41, nL_42, nL_43, nL_44, nL_45, nL_46, nL_47, nL_48, nL_49, nL_50, nL_51, nL_52, nL_53, nL_54, nL_55, nL_56, nL_57, nL_58, nL_59, nL_60, nL_61, nL_62, nL_63, nL_64, nL_65, nL_66, nL_67, nL_68, nL_69, nL_70, nL_400, nL_402, nL_800, nL_2000]
end P62
