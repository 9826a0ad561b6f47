/-! the four deeds and the heat -/
theorem less3 : ∀ w : Nat, w < 31 → (if nI 0 < nI w - nI 3 then nI w - nI 3 else nI 0) = nI (w - 3) := by decide +kernel
theorem less5 : ∀ w : Nat, w < 31 → (if nI 0 < nI w - nI 5 then nI w - nI 5 else nI 0) = nI (w - 5) := by decide +kernel
section P5
variable {F : bX2} {G : bX4} {T : bX13} {nf ng : Nat} {fo fr hr gr : Nat → Nat} {N : Nat → Int32} {h n : Nat} {th bs ea tk wr er et dp : Int32} {ta kd nu po ln fn gn va kp : Nat → Int32}
variable {ho wa sr ch lm sa co sm : Int32} {fs gs gt : Nat → Int32}
theorem str_le (hp : RPl F G T nf ng fo fr hr gr) (ht : RPt nf ng fr hr gr (ho, wa, sr, ch, lm, sa, co, sm, fs, gs, gt) N h) {f : Nat} (hf : f < nf) : ∃ w, w ≤ 30 ∧ strN N T f = nI w := by
  obtain ⟨w, w1, w2, w3⟩ := ht_str ht
  have q := (hp_fo hp hf).2.1
  have q4 := (hp_fo hp hf).2.2.2
  unfold strN
  by_cases c : w + fo f < 30
  · exact ⟨w + fo f, by omega, by simp (disch := omega) only [w3, q, sb, nJ_of, nJ_lt, nJ_le, nJ_eq, nJ_clamp, nJ_add, nJ_sub, if_pos, if_neg, if_true, if_false, nL_0, nL_1, nL_2, nL_3, nL_4, nL_5, nL_6, nL_7, nL_8, nL_9, nL_10, nL_11, nL_12, nL_13, nL_14, nL_15, nL_16, nL_17, nL_18, nL_20, nL_21, nL_28, nL_30, nL_38, nL_40, nL_48, nL_58, nL_60, nL_400, nL_2000]⟩
  · exact ⟨30, by omega, by simp (disch := omega) only [w3, q, sb, nJ_of, nJ_lt, nJ_le, nJ_eq, nJ_clamp, nJ_add, nJ_sub, if_pos, if_neg, if_true, if_false, nL_0, nL_1, nL_2, nL_3, nL_4, nL_5, nL_6, nL_7, nL_8, nL_9, nL_10, nL_11, nL_12, nL_13, nL_14, nL_15, nL_16, nL_17, nL_18, nL_20, nL_21, nL_28, nL_30, nL_38, nL_40, nL_48, nL_58, nL_60, nL_400, nL_2000]⟩
theorem r_steep (hp : RPl F G T nf ng fo fr hr gr) (ht : RPt nf ng fr hr gr (ho, wa, sr, ch, lm, sa, co, sm, fs, gs, gt) N h) {f : Nat} (hf : f < nf) (h1 : N (8 + f) = nI 1) : RPt nf ng fr hr gr (ho, wa, strN N T f, ch, lm, sa, co, sm, upd fs f (nI 1), gs, gt) (upd (upd (upd N 2 (strN N T f)) (8 + f) (nI 0)) (18 + f) (nI 1)) h := by
  obtain ⟨w, w1, w2⟩ := str_le hp ht hf
  have p1 := hp.1
  obtain ⟨t1, t2, ⟨x3, a3, b3, c3⟩, t4, ⟨x5, a5, b5, c5⟩, ⟨x6, a6, b6, c6⟩, ⟨x7, a7, b7, c7⟩, t8, t9, t10, t11⟩ := ht
  refine ⟨t1, by simp (disch := omega) only [upd_else, t2, sb, nJ_of, nJ_lt, nJ_le, nJ_eq, nJ_clamp, nJ_add, nJ_sub, if_pos, if_neg, if_true, if_false, nL_0, nL_1, nL_2, nL_3, nL_4, nL_5, nL_6, nL_7, nL_8, nL_9, nL_10, nL_11, nL_12, nL_13, nL_14, nL_15, nL_16, nL_17, nL_18, nL_20, nL_21, nL_28, nL_30, nL_38, nL_40, nL_48, nL_58, nL_60, nL_400, nL_2000], ⟨x3, a3, b3, by simp (disch := omega) only [upd_else, c3, sb, nJ_of, nJ_lt, nJ_le, nJ_eq, nJ_clamp, nJ_add, nJ_sub, if_pos, if_neg, if_true, if_false, nL_0, nL_1, nL_2, nL_3, nL_4, nL_5, nL_6, nL_7, nL_8, nL_9, nL_10, nL_11, nL_12, nL_13, nL_14, nL_15, nL_16, nL_17, nL_18, nL_20, nL_21, nL_28, nL_30, nL_38, nL_40, nL_48, nL_58, nL_60, nL_400, nL_2000]⟩, ⟨w, w1, w2, by simp (disch := omega) only [upd_else, upd_same, w2, sb, nJ_of, nJ_lt, nJ_le, nJ_eq, nJ_clamp, nJ_add, nJ_sub, if_pos, if_neg, if_true, if_false, nL_0, nL_1, nL_2, nL_3, nL_4, nL_5, nL_6, nL_7, nL_8, nL_9, nL_10, nL_11, nL_12, nL_13, nL_14, nL_15, nL_16, nL_17, nL_18, nL_20, nL_21, nL_28, nL_30, nL_38, nL_40, nL_48, nL_58, nL_60, nL_400, nL_2000]⟩, ⟨x5, a5, b5, by simp (disch := omega) only [upd_else, c5, sb, nJ_of, nJ_lt, nJ_le, nJ_eq, nJ_clamp, nJ_add, nJ_sub, if_pos, if_neg, if_true, if_false, nL_0, nL_1, nL_2, nL_3, nL_4, nL_5, nL_6, nL_7, nL_8, nL_9, nL_10, nL_11, nL_12, nL_13, nL_14, nL_15, nL_16, nL_17, nL_18, nL_20, nL_21, nL_28, nL_30, nL_38, nL_40, nL_48, nL_58, nL_60, nL_400, nL_2000]⟩, ⟨x6, a6, b6, by simp (disch := omega) only [upd_else, c6, sb, nJ_of, nJ_lt, nJ_le, nJ_eq, nJ_clamp, nJ_add, nJ_sub, if_pos, if_neg, if_true, if_false, nL_0, nL_1, nL_2, nL_3, nL_4, nL_5, nL_6, nL_7, nL_8, nL_9, nL_10, nL_11, nL_12, nL_13, nL_14, nL_15, nL_16, nL_17, nL_18, nL_20, nL_21, nL_28, nL_30, nL_38, nL_40, nL_48, nL_58, nL_60, nL_400, nL_2000]⟩, ⟨x7, a7, b7, by simp (disch := omega) only [upd_else, c7, sb, nJ_of, nJ_lt, nJ_le, nJ_eq, nJ_clamp, nJ_add, nJ_sub, if_pos, if_neg, if_true, if_false, nL_0, nL_1, nL_2, nL_3, nL_4, nL_5, nL_6, nL_7, nL_8, nL_9, nL_10, nL_11, nL_12, nL_13, nL_14, nL_15, nL_16, nL_17, nL_18, nL_20, nL_21, nL_28, nL_30, nL_38, nL_40, nL_48, nL_58, nL_60, nL_400, nL_2000]⟩, by simp (disch := omega) only [upd_else, t8, sb, nJ_of, nJ_lt, nJ_le, nJ_eq, nJ_clamp, nJ_add, nJ_sub, if_pos, if_neg, if_true, if_false, nL_0, nL_1, nL_2, nL_3, nL_4, nL_5, nL_6, nL_7, nL_8, nL_9, nL_10, nL_11, nL_12, nL_13, nL_14, nL_15, nL_16, nL_17, nL_18, nL_20, nL_21, nL_28, nL_30, nL_38, nL_40, nL_48, nL_58, nL_60, nL_400, nL_2000], by simp (disch := omega) only [upd_else, t9, sb, nJ_of, nJ_lt, nJ_le, nJ_eq, nJ_clamp, nJ_add, nJ_sub, if_pos, if_neg, if_true, if_false, nL_0, nL_1, nL_2, nL_3, nL_4, nL_5, nL_6, nL_7, nL_8, nL_9, nL_10, nL_11, nL_12, nL_13, nL_14, nL_15, nL_16, nL_17, nL_18, nL_20, nL_21, nL_28, nL_30, nL_38, nL_40, nL_48, nL_58, nL_60, nL_400, nL_2000], fun f' hf' => ?_, fun g hg => ?_⟩
  · obtain ⟨t, e1, e2, e3, e4, e5⟩ := t10 f' hf'
    by_cases e : f' = f
    · subst e
      rw [h1] at e5
      have e6 : t = 0 ∧ fr f' ≤ h ∧ h < fr f' + hr f' := by
        by_cases c : t = 0 ∧ fr f' ≤ h ∧ h < fr f' + hr f'
        · exact c
        · rw [if_neg c, nJ_eq (by omega) (by omega)] at e5
          omega
      exact ⟨1, by omega, upd_same _ _ _, upd_same _ _ _, fun _ => e6.2.1, by simp (disch := omega) only [upd_else, upd_same, sb, nJ_of, nJ_lt, nJ_le, nJ_eq, nJ_clamp, nJ_add, nJ_sub, if_pos, if_neg, if_true, if_false, nL_0, nL_1, nL_2, nL_3, nL_4, nL_5, nL_6, nL_7, nL_8, nL_9, nL_10, nL_11, nL_12, nL_13, nL_14, nL_15, nL_16, nL_17, nL_18, nL_20, nL_21, nL_28, nL_30, nL_38, nL_40, nL_48, nL_58, nL_60, nL_400, nL_2000]⟩
    · refine ⟨t, e1, ?_, ?_, e4, ?_⟩
      · show upd fs f (nI 1) f' = nI t
        rw [upd_else _ _ e]
        exact e2
      · simp (disch := omega) only [upd_else, e3, sb, nJ_of, nJ_lt, nJ_le, nJ_eq, nJ_clamp, nJ_add, nJ_sub, if_pos, if_neg, if_true, if_false, nL_0, nL_1, nL_2, nL_3, nL_4, nL_5, nL_6, nL_7, nL_8, nL_9, nL_10, nL_11, nL_12, nL_13, nL_14, nL_15, nL_16, nL_17, nL_18, nL_20, nL_21, nL_28, nL_30, nL_38, nL_40, nL_48, nL_58, nL_60, nL_400, nL_2000]
      · rw [upd_else _ _ (by omega), upd_else _ _ (by omega), upd_else _ _ (by omega)]
        exact e5
  · obtain ⟨t, u, e1, e2, e3, e4, e5, e6, e7, e8⟩ := t11 g hg
    refine ⟨t, u, e1, e2, e3, e4, ?_, ?_, e7, ?_⟩
    · rw [upd_else _ _ (by omega), upd_else _ _ (by omega), upd_else _ _ (by omega)]
      exact e5
    · rw [upd_else _ _ (by omega), upd_else _ _ (by omega), upd_else _ _ (by omega)]
      exact e6
    · rw [upd_else _ _ (by omega), upd_else _ _ (by omega), upd_else _ _ (by omega)]
      exact e8
theorem k_steepIt (p1 : nf ≤ 10) {f : Nat} (hf : f < nf) : f_X14_steepIt (nI f) (th, ta, bs, ea, kd, nu, po, ln, tk, wr, er, et, dp, fn, gn, va, N, kp) T = some (upd (upd (upd N 2 (strN N T f)) (8 + f) (nI 0)) (18 + f) (nI 1)) := by
  unfold f_X14_steepIt strN
  simp (disch := omega) only [X14_now, sb, nJ_of, nJ_lt, nJ_le, nJ_eq, nJ_clamp, nJ_add, nJ_sub, if_pos, if_neg, if_true, if_false, nL_0, nL_1, nL_2, nL_3, nL_4, nL_5, nL_6, nL_7, nL_8, nL_9, nL_10, nL_11, nL_12, nL_13, nL_14, nL_15, nL_16, nL_17, nL_18, nL_20, nL_21, nL_28, nL_30, nL_38, nL_40, nL_48, nL_58, nL_60, nL_400, nL_2000]
theorem k_steep (hp : RPl F G T nf ng fo fr hr gr) (ht : RPt nf ng fr hr gr (ho, wa, sr, ch, lm, sa, co, sm, fs, gs, gt) N h) (hh : h < 1000000) {f : Nat} (hf : f < nf) : f_X8_steepFront (nI f) (ho, wa, sr, ch, lm, sa, co, sm, fs, gs, gt) F = some (if N (8 + f) = nI 1 then (nI 1, strN N T f, upd fs f (nI 1)) else (nI 0, sr, fs)) := by
  have p1 := hp.1
  unfold f_X8_steepFront
  rw [k_over hp ht hh hf, k_strength hp ht hf]
  obtain ⟨t, h1, h2⟩ := ht_bit ht hf
  by_cases c : t = 0
  · simp (disch := omega) only [h2, c, X8_strength, X8_frontSteeped, sb, nJ_of, nJ_lt, nJ_le, nJ_eq, nJ_clamp, nJ_add, nJ_sub, if_pos, if_neg, if_true, if_false, nL_0, nL_1, nL_2, nL_3, nL_4, nL_5, nL_6, nL_7, nL_8, nL_9, nL_10, nL_11, nL_12, nL_13, nL_14, nL_15, nL_16, nL_17, nL_18, nL_20, nL_21, nL_28, nL_30, nL_38, nL_40, nL_48, nL_58, nL_60, nL_400, nL_2000]
  · have e : t = 1 := by omega
    simp (disch := omega) only [h2, e, X8_strength, X8_frontSteeped, sb, nJ_of, nJ_lt, nJ_le, nJ_eq, nJ_clamp, nJ_add, nJ_sub, if_pos, if_neg, if_true, if_false, nL_0, nL_1, nL_2, nL_3, nL_4, nL_5, nL_6, nL_7, nL_8, nL_9, nL_10, nL_11, nL_12, nL_13, nL_14, nL_15, nL_16, nL_17, nL_18, nL_20, nL_21, nL_28, nL_30, nL_38, nL_40, nL_48, nL_58, nL_60, nL_400, nL_2000]
theorem r_row (ht : RPt nf ng fr hr gr (ho, wa, sr, ch, lm, sa, co, sm, fs, gs, gt) N h) {N' : Nat → Int32} (hN : ∀ j, 8 ≤ j → N' j = N j) (p1 : nf ≤ 10) :
    (∀ f, f < nf → ∃ t, t ≤ 1 ∧ fs f = nI t ∧ N' (18 + f) = nI t ∧ (t = 1 → fr f ≤ h) ∧ N' (8 + f) = nI (if t = 0 ∧ fr f ≤ h ∧ h < fr f + hr f then 1 else 0)) ∧
    (∀ g, g < ng → ∃ t u, t ≤ 1 ∧ u ≤ 1 ∧ gs g = nI t ∧ gt g = nI u ∧ N' (38 + g) = nI t ∧ N' (48 + g) = nI u ∧ (t = 1 ∨ u = 1 → gr g ≤ h) ∧ N' (28 + g) = nI (if t = 0 ∧ u = 0 ∧ gr g ≤ h ∧ h < gr g + 8 then 1 else 0)) := by
  obtain ⟨-, -, -, -, -, -, -, -, -, t10, t11⟩ := ht
  refine ⟨fun f hf => ?_, fun g hg => ?_⟩
  · rw [hN _ (by omega), hN _ (by omega)]
    exact t10 f hf
  · rw [hN _ (by omega), hN _ (by omega), hN _ (by omega)]
    exact t11 g hg
theorem r_lemon (p1 : nf ≤ 10) (ht : RPt nf ng fr hr gr (ho, wa, sr, ch, lm, sa, co, sm, fs, gs, gt) N h) (h0 : N 4 ≠ nI 0) : RPt nf ng fr hr gr (ho, wa, sr, (if ch + 6 < 30 then ch + 6 else 30), lm - 1, sa, co, sm, fs, gs, gt) (upd (upd N 3 (if N 3 + 6 < 30 then N 3 + 6 else 30)) 4 (N 4 - 1)) h := by
  obtain ⟨r1, r2⟩ := r_row (N' := upd (upd N 3 (if N 3 + 6 < 30 then N 3 + 6 else 30)) 4 (N 4 - 1)) ht (fun j hj => by rw [upd_else _ _ (by omega), upd_else _ _ (by omega)]) p1
  obtain ⟨t1, t2, ⟨x3, a3, b3, c3⟩, ⟨x4, a4, b4, c4⟩, ⟨x5, a5, b5, c5⟩, ⟨x6, a6, b6, c6⟩, ⟨x7, a7, b7, c7⟩, t8, t9, t10, t11⟩ := ht
  have b5 : ch = nI x5 := b5
  have b6 : lm = nI x6 := b6
  have c6' := c6
  rw [c6'] at h0
  have h6 : x6 ≠ 0 := fun e => h0 (by rw [e])
  refine ⟨t1, by simp (disch := omega) only [upd_else, t2, sb, nJ_of, nJ_lt, nJ_le, nJ_eq, nJ_clamp, nJ_add, nJ_sub, if_pos, if_neg, if_true, if_false, nL_0, nL_1, nL_2, nL_3, nL_4, nL_5, nL_6, nL_7, nL_8, nL_9, nL_10, nL_11, nL_12, nL_13, nL_14, nL_15, nL_16, nL_17, nL_18, nL_20, nL_21, nL_28, nL_30, nL_38, nL_40, nL_48, nL_58, nL_60, nL_400, nL_2000], ⟨x3, a3, b3, by simp (disch := omega) only [upd_else, c3, sb, nJ_of, nJ_lt, nJ_le, nJ_eq, nJ_clamp, nJ_add, nJ_sub, if_pos, if_neg, if_true, if_false, nL_0, nL_1, nL_2, nL_3, nL_4, nL_5, nL_6, nL_7, nL_8, nL_9, nL_10, nL_11, nL_12, nL_13, nL_14, nL_15, nL_16, nL_17, nL_18, nL_20, nL_21, nL_28, nL_30, nL_38, nL_40, nL_48, nL_58, nL_60, nL_400, nL_2000]⟩, ⟨x4, a4, b4, by simp (disch := omega) only [upd_else, c4, sb, nJ_of, nJ_lt, nJ_le, nJ_eq, nJ_clamp, nJ_add, nJ_sub, if_pos, if_neg, if_true, if_false, nL_0, nL_1, nL_2, nL_3, nL_4, nL_5, nL_6, nL_7, nL_8, nL_9, nL_10, nL_11, nL_12, nL_13, nL_14, nL_15, nL_16, nL_17, nL_18, nL_20, nL_21, nL_28, nL_30, nL_38, nL_40, nL_48, nL_58, nL_60, nL_400, nL_2000]⟩, ?_, ⟨x6 - 1, by omega, ?_, ?_⟩, ⟨x7, a7, b7, by simp (disch := omega) only [upd_else, c7, sb, nJ_of, nJ_lt, nJ_le, nJ_eq, nJ_clamp, nJ_add, nJ_sub, if_pos, if_neg, if_true, if_false, nL_0, nL_1, nL_2, nL_3, nL_4, nL_5, nL_6, nL_7, nL_8, nL_9, nL_10, nL_11, nL_12, nL_13, nL_14, nL_15, nL_16, nL_17, nL_18, nL_20, nL_21, nL_28, nL_30, nL_38, nL_40, nL_48, nL_58, nL_60, nL_400, nL_2000]⟩, by simp (disch := omega) only [upd_else, t8, sb, nJ_of, nJ_lt, nJ_le, nJ_eq, nJ_clamp, nJ_add, nJ_sub, if_pos, if_neg, if_true, if_false, nL_0, nL_1, nL_2, nL_3, nL_4, nL_5, nL_6, nL_7, nL_8, nL_9, nL_10, nL_11, nL_12, nL_13, nL_14, nL_15, nL_16, nL_17, nL_18, nL_20, nL_21, nL_28, nL_30, nL_38, nL_40, nL_48, nL_58, nL_60, nL_400, nL_2000], by simp (disch := omega) only [upd_else, t9, sb, nJ_of, nJ_lt, nJ_le, nJ_eq, nJ_clamp, nJ_add, nJ_sub, if_pos, if_neg, if_true, if_false, nL_0, nL_1, nL_2, nL_3, nL_4, nL_5, nL_6, nL_7, nL_8, nL_9, nL_10, nL_11, nL_12, nL_13, nL_14, nL_15, nL_16, nL_17, nL_18, nL_20, nL_21, nL_28, nL_30, nL_38, nL_40, nL_48, nL_58, nL_60, nL_400, nL_2000], r1, r2⟩
  · by_cases c : x5 + 6 < 30
    · refine ⟨x5 + 6, by omega, ?_, ?_⟩
      · simp (disch := omega) only [X8_charge, b5, sb, nJ_of, nJ_lt, nJ_le, nJ_eq, nJ_clamp, nJ_add, nJ_sub, if_pos, if_neg, if_true, if_false, nL_0, nL_1, nL_2, nL_3, nL_4, nL_5, nL_6, nL_7, nL_8, nL_9, nL_10, nL_11, nL_12, nL_13, nL_14, nL_15, nL_16, nL_17, nL_18, nL_20, nL_21, nL_28, nL_30, nL_38, nL_40, nL_48, nL_58, nL_60, nL_400, nL_2000]
      · simp (disch := omega) only [upd_else, upd_same, c5, sb, nJ_of, nJ_lt, nJ_le, nJ_eq, nJ_clamp, nJ_add, nJ_sub, if_pos, if_neg, if_true, if_false, nL_0, nL_1, nL_2, nL_3, nL_4, nL_5, nL_6, nL_7, nL_8, nL_9, nL_10, nL_11, nL_12, nL_13, nL_14, nL_15, nL_16, nL_17, nL_18, nL_20, nL_21, nL_28, nL_30, nL_38, nL_40, nL_48, nL_58, nL_60, nL_400, nL_2000]
    · refine ⟨30, by omega, ?_, ?_⟩
      · simp (disch := omega) only [X8_charge, b5, sb, nJ_of, nJ_lt, nJ_le, nJ_eq, nJ_clamp, nJ_add, nJ_sub, if_pos, if_neg, if_true, if_false, nL_0, nL_1, nL_2, nL_3, nL_4, nL_5, nL_6, nL_7, nL_8, nL_9, nL_10, nL_11, nL_12, nL_13, nL_14, nL_15, nL_16, nL_17, nL_18, nL_20, nL_21, nL_28, nL_30, nL_38, nL_40, nL_48, nL_58, nL_60, nL_400, nL_2000]
      · simp (disch := omega) only [upd_else, upd_same, c5, sb, nJ_of, nJ_lt, nJ_le, nJ_eq, nJ_clamp, nJ_add, nJ_sub, if_pos, if_neg, if_true, if_false, nL_0, nL_1, nL_2, nL_3, nL_4, nL_5, nL_6, nL_7, nL_8, nL_9, nL_10, nL_11, nL_12, nL_13, nL_14, nL_15, nL_16, nL_17, nL_18, nL_20, nL_21, nL_28, nL_30, nL_38, nL_40, nL_48, nL_58, nL_60, nL_400, nL_2000]
  · simp (disch := omega) only [X8_lemons, b6, sb, nJ_of, nJ_lt, nJ_le, nJ_eq, nJ_clamp, nJ_add, nJ_sub, if_pos, if_neg, if_true, if_false, nL_0, nL_1, nL_2, nL_3, nL_4, nL_5, nL_6, nL_7, nL_8, nL_9, nL_10, nL_11, nL_12, nL_13, nL_14, nL_15, nL_16, nL_17, nL_18, nL_20, nL_21, nL_28, nL_30, nL_38, nL_40, nL_48, nL_58, nL_60, nL_400, nL_2000]
  · simp (disch := omega) only [upd_same, c6, sb, nJ_of, nJ_lt, nJ_le, nJ_eq, nJ_clamp, nJ_add, nJ_sub, if_pos, if_neg, if_true, if_false, nL_0, nL_1, nL_2, nL_3, nL_4, nL_5, nL_6, nL_7, nL_8, nL_9, nL_10, nL_11, nL_12, nL_13, nL_14, nL_15, nL_16, nL_17, nL_18, nL_20, nL_21, nL_28, nL_30, nL_38, nL_40, nL_48, nL_58, nL_60, nL_400, nL_2000]
theorem r_saucer (p1 : nf ≤ 10) (ht : RPt nf ng fr hr gr (ho, wa, sr, ch, lm, sa, co, sm, fs, gs, gt) N h) (h0 : N 5 ≠ nI 0) : RPt nf ng fr hr gr (ho, wa, sr, (if 0 < ch - 5 then ch - 5 else 0), lm, sa - 1, co, sm, fs, gs, gt) (upd (upd N 3 (if 0 < N 3 - 5 then N 3 - 5 else 0)) 5 (N 5 - 1)) h := by
  obtain ⟨r1, r2⟩ := r_row (N' := upd (upd N 3 (if 0 < N 3 - 5 then N 3 - 5 else 0)) 5 (N 5 - 1)) ht (fun j hj => by rw [upd_else _ _ (by omega), upd_else _ _ (by omega)]) p1
  obtain ⟨t1, t2, ⟨x3, a3, b3, c3⟩, ⟨x4, a4, b4, c4⟩, ⟨x5, a5, b5, c5⟩, ⟨x6, a6, b6, c6⟩, ⟨x7, a7, b7, c7⟩, t8, t9, t10, t11⟩ := ht
  have b5 : ch = nI x5 := b5
  have b7 : sa = nI x7 := b7
  have c7' := c7
  rw [c7'] at h0
  have h7 : x7 ≠ 0 := fun e => h0 (by rw [e])
  have hl := less5 x5 (by omega)
  refine ⟨t1, by simp (disch := omega) only [upd_else, t2, sb, nJ_of, nJ_lt, nJ_le, nJ_eq, nJ_clamp, nJ_add, nJ_sub, if_pos, if_neg, if_true, if_false, nL_0, nL_1, nL_2, nL_3, nL_4, nL_5, nL_6, nL_7, nL_8, nL_9, nL_10, nL_11, nL_12, nL_13, nL_14, nL_15, nL_16, nL_17, nL_18, nL_20, nL_21, nL_28, nL_30, nL_38, nL_40, nL_48, nL_58, nL_60, nL_400, nL_2000], ⟨x3, a3, b3, by simp (disch := omega) only [upd_else, c3, sb, nJ_of, nJ_lt, nJ_le, nJ_eq, nJ_clamp, nJ_add, nJ_sub, if_pos, if_neg, if_true, if_false, nL_0, nL_1, nL_2, nL_3, nL_4, nL_5, nL_6, nL_7, nL_8, nL_9, nL_10, nL_11, nL_12, nL_13, nL_14, nL_15, nL_16, nL_17, nL_18, nL_20, nL_21, nL_28, nL_30, nL_38, nL_40, nL_48, nL_58, nL_60, nL_400, nL_2000]⟩, ⟨x4, a4, b4, by simp (disch := omega) only [upd_else, c4, sb, nJ_of, nJ_lt, nJ_le, nJ_eq, nJ_clamp, nJ_add, nJ_sub, if_pos, if_neg, if_true, if_false, nL_0, nL_1, nL_2, nL_3, nL_4, nL_5, nL_6, nL_7, nL_8, nL_9, nL_10, nL_11, nL_12, nL_13, nL_14, nL_15, nL_16, nL_17, nL_18, nL_20, nL_21, nL_28, nL_30, nL_38, nL_40, nL_48, nL_58, nL_60, nL_400, nL_2000]⟩, ⟨x5 - 5, by omega, ?_, ?_⟩, ⟨x6, a6, b6, by simp (disch := omega) only [upd_else, c6, sb, nJ_of, nJ_lt, nJ_le, nJ_eq, nJ_clamp, nJ_add, nJ_sub, if_pos, if_neg, if_true, if_false, nL_0, nL_1, nL_2, nL_3, nL_4, nL_5, nL_6, nL_7, nL_8, nL_9, nL_10, nL_11, nL_12, nL_13, nL_14, nL_15, nL_16, nL_17, nL_18, nL_20, nL_21, nL_28, nL_30, nL_38, nL_40, nL_48, nL_58, nL_60, nL_400, nL_2000]⟩, ⟨x7 - 1, by omega, ?_, ?_⟩, by simp (disch := omega) only [upd_else, t8, sb, nJ_of, nJ_lt, nJ_le, nJ_eq, nJ_clamp, nJ_add, nJ_sub, if_pos, if_neg, if_true, if_false, nL_0, nL_1, nL_2, nL_3, nL_4, nL_5, nL_6, nL_7, nL_8, nL_9, nL_10, nL_11, nL_12, nL_13, nL_14, nL_15, nL_16, nL_17, nL_18, nL_20, nL_21, nL_28, nL_30, nL_38, nL_40, nL_48, nL_58, nL_60, nL_400, nL_2000], by simp (disch := omega) only [upd_else, t9, sb, nJ_of, nJ_lt, nJ_le, nJ_eq, nJ_clamp, nJ_add, nJ_sub, if_pos, if_neg, if_true, if_false, nL_0, nL_1, nL_2, nL_3, nL_4, nL_5, nL_6, nL_7, nL_8, nL_9, nL_10, nL_11, nL_12, nL_13, nL_14, nL_15, nL_16, nL_17, nL_18, nL_20, nL_21, nL_28, nL_30, nL_38, nL_40, nL_48, nL_58, nL_60, nL_400, nL_2000], r1, r2⟩
  · show (if (0 : Int32) < ch - 5 then ch - 5 else 0) = nI (x5 - 5)
    rw [b5]
    exact hl
  · rw [upd_else _ _ (by decide), upd_same, c5]
    exact hl
  · simp (disch := omega) only [X8_saucers, b7, sb, nJ_of, nJ_lt, nJ_le, nJ_eq, nJ_clamp, nJ_add, nJ_sub, if_pos, if_neg, if_true, if_false, nL_0, nL_1, nL_2, nL_3, nL_4, nL_5, nL_6, nL_7, nL_8, nL_9, nL_10, nL_11, nL_12, nL_13, nL_14, nL_15, nL_16, nL_17, nL_18, nL_20, nL_21, nL_28, nL_30, nL_38, nL_40, nL_48, nL_58, nL_60, nL_400, nL_2000]
  · simp (disch := omega) only [upd_same, c7, sb, nJ_of, nJ_lt, nJ_le, nJ_eq, nJ_clamp, nJ_add, nJ_sub, if_pos, if_neg, if_true, if_false, nL_0, nL_1, nL_2, nL_3, nL_4, nL_5, nL_6, nL_7, nL_8, nL_9, nL_10, nL_11, nL_12, nL_13, nL_14, nL_15, nL_16, nL_17, nL_18, nL_20, nL_21, nL_28, nL_30, nL_38, nL_40, nL_48, nL_58, nL_60, nL_400, nL_2000]
theorem r_serve (p1 : nf ≤ 10) (p2 : ng ≤ 10) (ht : RPt nf ng fr hr gr (ho, wa, sr, ch, lm, sa, co, sm, fs, gs, gt) N h) {g : Nat} (hg : g < ng) (h1 : N (28 + g) = nI 1) : RPt nf ng fr hr gr (ho, wa, (if 0 < sr - 3 then sr - 3 else 0), ch, lm, sa, co + sr, sm, fs, upd gs g (nI 1), gt) (upd (upd (upd (upd N 7 (N 7 + N 2)) (28 + g) (nI 0)) (38 + g) (nI 1)) 2 (if 0 < N 2 - 3 then N 2 - 3 else 0)) h := by
  obtain ⟨t1, t2, ⟨x3, a3, b3, c3⟩, ⟨x4, a4, b4, c4⟩, ⟨x5, a5, b5, c5⟩, ⟨x6, a6, b6, c6⟩, ⟨x7, a7, b7, c7⟩, t8, t9, t10, t11⟩ := ht
  have b4 : sr = nI x4 := b4
  have t9 : N 7 = co := t9
  have hl := less3 x4 (by omega)
  refine ⟨t1, by simp (disch := omega) only [upd_else, t2, sb, nJ_of, nJ_lt, nJ_le, nJ_eq, nJ_clamp, nJ_add, nJ_sub, if_pos, if_neg, if_true, if_false, nL_0, nL_1, nL_2, nL_3, nL_4, nL_5, nL_6, nL_7, nL_8, nL_9, nL_10, nL_11, nL_12, nL_13, nL_14, nL_15, nL_16, nL_17, nL_18, nL_20, nL_21, nL_28, nL_30, nL_38, nL_40, nL_48, nL_58, nL_60, nL_400, nL_2000], ⟨x3, a3, b3, by simp (disch := omega) only [upd_else, c3, sb, nJ_of, nJ_lt, nJ_le, nJ_eq, nJ_clamp, nJ_add, nJ_sub, if_pos, if_neg, if_true, if_false, nL_0, nL_1, nL_2, nL_3, nL_4, nL_5, nL_6, nL_7, nL_8, nL_9, nL_10, nL_11, nL_12, nL_13, nL_14, nL_15, nL_16, nL_17, nL_18, nL_20, nL_21, nL_28, nL_30, nL_38, nL_40, nL_48, nL_58, nL_60, nL_400, nL_2000]⟩, ⟨x4 - 3, by omega, ?_, ?_⟩, ⟨x5, a5, b5, by simp (disch := omega) only [upd_else, c5, sb, nJ_of, nJ_lt, nJ_le, nJ_eq, nJ_clamp, nJ_add, nJ_sub, if_pos, if_neg, if_true, if_false, nL_0, nL_1, nL_2, nL_3, nL_4, nL_5, nL_6, nL_7, nL_8, nL_9, nL_10, nL_11, nL_12, nL_13, nL_14, nL_15, nL_16, nL_17, nL_18, nL_20, nL_21, nL_28, nL_30, nL_38, nL_40, nL_48, nL_58, nL_60, nL_400, nL_2000]⟩, ⟨x6, a6, b6, by simp (disch := omega) only [upd_else, c6, sb, nJ_of, nJ_lt, nJ_le, nJ_eq, nJ_clamp, nJ_add, nJ_sub, if_pos, if_neg, if_true, if_false, nL_0, nL_1, nL_2, nL_3, nL_4, nL_5, nL_6, nL_7, nL_8, nL_9, nL_10, nL_11, nL_12, nL_13, nL_14, nL_15, nL_16, nL_17, nL_18, nL_20, nL_21, nL_28, nL_30, nL_38, nL_40, nL_48, nL_58, nL_60, nL_400, nL_2000]⟩, ⟨x7, a7, b7, by simp (disch := omega) only [upd_else, c7, sb, nJ_of, nJ_lt, nJ_le, nJ_eq, nJ_clamp, nJ_add, nJ_sub, if_pos, if_neg, if_true, if_false, nL_0, nL_1, nL_2, nL_3, nL_4, nL_5, nL_6, nL_7, nL_8, nL_9, nL_10, nL_11, nL_12, nL_13, nL_14, nL_15, nL_16, nL_17, nL_18, nL_20, nL_21, nL_28, nL_30, nL_38, nL_40, nL_48, nL_58, nL_60, nL_400, nL_2000]⟩, by simp (disch := omega) only [upd_else, t8, sb, nJ_of, nJ_lt, nJ_le, nJ_eq, nJ_clamp, nJ_add, nJ_sub, if_pos, if_neg, if_true, if_false, nL_0, nL_1, nL_2, nL_3, nL_4, nL_5, nL_6, nL_7, nL_8, nL_9, nL_10, nL_11, nL_12, nL_13, nL_14, nL_15, nL_16, nL_17, nL_18, nL_20, nL_21, nL_28, nL_30, nL_38, nL_40, nL_48, nL_58, nL_60, nL_400, nL_2000], ?_, fun f hf => ?_, fun g' hg' => ?_⟩
  · show (if (0 : Int32) < sr - 3 then sr - 3 else 0) = nI (x4 - 3)
    rw [b4]
    exact hl
  · rw [upd_same, c4]
    exact hl
  · simp (disch := omega) only [upd_else, upd_same, t9, c4, b4, X8_coins, sb, nJ_of, nJ_lt, nJ_le, nJ_eq, nJ_clamp, nJ_add, nJ_sub, if_pos, if_neg, if_true, if_false, nL_0, nL_1, nL_2, nL_3, nL_4, nL_5, nL_6, nL_7, nL_8, nL_9, nL_10, nL_11, nL_12, nL_13, nL_14, nL_15, nL_16, nL_17, nL_18, nL_20, nL_21, nL_28, nL_30, nL_38, nL_40, nL_48, nL_58, nL_60, nL_400, nL_2000]
  · obtain ⟨t, e1, e2, e3, e4, e5⟩ := t10 f hf
    refine ⟨t, e1, e2, ?_, e4, ?_⟩
    · rw [upd_else _ _ (by omega), upd_else _ _ (by omega), upd_else _ _ (by omega), upd_else _ _ (by omega)]
      exact e3
    · rw [upd_else _ _ (by omega), upd_else _ _ (by omega), upd_else _ _ (by omega), upd_else _ _ (by omega)]
      exact e5
  · obtain ⟨t, u, e1, e2, e3, e4, e5, e6, e7, e8⟩ := t11 g' hg'
    by_cases e : g' = g
    · subst e
      rw [h1] at e8
      have e9 : t = 0 ∧ u = 0 ∧ gr g' ≤ h ∧ h < gr g' + 8 := by
        by_cases c : t = 0 ∧ u = 0 ∧ gr g' ≤ h ∧ h < gr g' + 8
        · exact c
        · rw [if_neg c, nJ_eq (by omega) (by omega)] at e8
          omega
      exact ⟨1, u, by omega, e2, upd_same _ _ _, e4, by simp (disch := omega) only [upd_else, upd_same, sb, nJ_of, nJ_lt, nJ_le, nJ_eq, nJ_clamp, nJ_add, nJ_sub, if_pos, if_neg, if_true, if_false, nL_0, nL_1, nL_2, nL_3, nL_4, nL_5, nL_6, nL_7, nL_8, nL_9, nL_10, nL_11, nL_12, nL_13, nL_14, nL_15, nL_16, nL_17, nL_18, nL_20, nL_21, nL_28, nL_30, nL_38, nL_40, nL_48, nL_58, nL_60, nL_400, nL_2000], by simp (disch := omega) only [upd_else, upd_same, e6, sb, nJ_of, nJ_lt, nJ_le, nJ_eq, nJ_clamp, nJ_add, nJ_sub, if_pos, if_neg, if_true, if_false, nL_0, nL_1, nL_2, nL_3, nL_4, nL_5, nL_6, nL_7, nL_8, nL_9, nL_10, nL_11, nL_12, nL_13, nL_14, nL_15, nL_16, nL_17, nL_18, nL_20, nL_21, nL_28, nL_30, nL_38, nL_40, nL_48, nL_58, nL_60, nL_400, nL_2000], fun _ => e9.2.2.1, by simp (disch := omega) only [upd_else, upd_same, sb, nJ_of, nJ_lt, nJ_le, nJ_eq, nJ_clamp, nJ_add, nJ_sub, if_pos, if_neg, if_true, if_false, nL_0, nL_1, nL_2, nL_3, nL_4, nL_5, nL_6, nL_7, nL_8, nL_9, nL_10, nL_11, nL_12, nL_13, nL_14, nL_15, nL_16, nL_17, nL_18, nL_20, nL_21, nL_28, nL_30, nL_38, nL_40, nL_48, nL_58, nL_60, nL_400, nL_2000]⟩
    · refine ⟨t, u, e1, e2, ?_, e4, ?_, ?_, e7, ?_⟩
      · show upd gs g (nI 1) g' = nI t
        rw [upd_else _ _ e]
        exact e3
      · rw [upd_else _ _ (by omega), upd_else _ _ (by omega), upd_else _ _ (by omega), upd_else _ _ (by omega)]
        exact e5
      · rw [upd_else _ _ (by omega), upd_else _ _ (by omega), upd_else _ _ (by omega), upd_else _ _ (by omega)]
        exact e6
      · rw [upd_else _ _ (by omega), upd_else _ _ (by omega), upd_else _ _ (by omega), upd_else _ _ (by omega)]
        exact e8
theorem r_heat (p1 : nf ≤ 10) (ht : RPt nf ng fr hr gr (ho, wa, sr, ch, lm, sa, co, sm, fs, gs, gt) N h) {w : Nat} (hw : w ≤ 40) : RPt nf ng fr hr gr (ho, nI w, sr, ch, lm, sa, co, sm, fs, gs, gt) (upd N 1 (nI w)) h := by
  obtain ⟨r1, r2⟩ := r_row (N' := upd N 1 (nI w)) ht (fun j hj => by rw [upd_else _ _ (by omega)]) p1
  obtain ⟨t1, t2, ⟨x3, a3, b3, c3⟩, ⟨x4, a4, b4, c4⟩, ⟨x5, a5, b5, c5⟩, ⟨x6, a6, b6, c6⟩, ⟨x7, a7, b7, c7⟩, t8, t9, t10, t11⟩ := ht
  exact ⟨t1, by simp (disch := omega) only [upd_else, t2, sb, nJ_of, nJ_lt, nJ_le, nJ_eq, nJ_clamp, nJ_add, nJ_sub, if_pos, if_neg, if_true, if_false, nL_0, nL_1, nL_2, nL_3, nL_4, nL_5, nL_6, nL_7, nL_8, nL_9, nL_10, nL_11, nL_12, nL_13, nL_14, nL_15, nL_16, nL_17, nL_18, nL_20, nL_21, nL_28, nL_30, nL_38, nL_40, nL_48, nL_58, nL_60, nL_400, nL_2000], ⟨w, hw, rfl, upd_same _ _ _⟩, ⟨x4, a4, b4, by simp (disch := omega) only [upd_else, c4, sb, nJ_of, nJ_lt, nJ_le, nJ_eq, nJ_clamp, nJ_add, nJ_sub, if_pos, if_neg, if_true, if_false, nL_0, nL_1, nL_2, nL_3, nL_4, nL_5, nL_6, nL_7, nL_8, nL_9, nL_10, nL_11, nL_12, nL_13, nL_14, nL_15, nL_16, nL_17, nL_18, nL_20, nL_21, nL_28, nL_30, nL_38, nL_40, nL_48, nL_58, nL_60, nL_400, nL_2000]⟩, ⟨x5, a5, b5, by simp (disch := omega) only [upd_else, c5, sb, nJ_of, nJ_lt, nJ_le, nJ_eq, nJ_clamp, nJ_add, nJ_sub, if_pos, if_neg, if_true, if_false, nL_0, nL_1, nL_2, nL_3, nL_4, nL_5, nL_6, nL_7, nL_8, nL_9, nL_10, nL_11, nL_12, nL_13, nL_14, nL_15, nL_16, nL_17, nL_18, nL_20, nL_21, nL_28, nL_30, nL_38, nL_40, nL_48, nL_58, nL_60, nL_400, nL_2000]⟩, ⟨x6, a6, b6, by simp (disch := omega) only [upd_else, c6, sb, nJ_of, nJ_lt, nJ_le, nJ_eq, nJ_clamp, nJ_add, nJ_sub, if_pos, if_neg, if_true, if_false, nL_0, nL_1, nL_2, nL_3, nL_4, nL_5, nL_6, nL_7, nL_8, nL_9, nL_10, nL_11, nL_12, nL_13, nL_14, nL_15, nL_16, nL_17, nL_18, nL_20, nL_21, nL_28, nL_30, nL_38, nL_40, nL_48, nL_58, nL_60, nL_400, nL_2000]⟩, ⟨x7, a7, b7, by simp (disch := omega) only [upd_else, c7, sb, nJ_of, nJ_lt, nJ_le, nJ_eq, nJ_clamp, nJ_add, nJ_sub, if_pos, if_neg, if_true, if_false, nL_0, nL_1, nL_2, nL_3, nL_4, nL_5, nL_6, nL_7, nL_8, nL_9, nL_10, nL_11, nL_12, nL_13, nL_14, nL_15, nL_16, nL_17, nL_18, nL_20, nL_21, nL_28, nL_30, nL_38, nL_40, nL_48, nL_58, nL_60, nL_400, nL_2000]⟩, by simp (disch := omega) only [upd_else, t8, sb, nJ_of, nJ_lt, nJ_le, nJ_eq, nJ_clamp, nJ_add, nJ_sub, if_pos, if_neg, if_true, if_false, nL_0, nL_1, nL_2, nL_3, nL_4, nL_5, nL_6, nL_7, nL_8, nL_9, nL_10, nL_11, nL_12, nL_13, nL_14, nL_15, nL_16, nL_17, nL_18, nL_20, nL_21, nL_28, nL_30, nL_38, nL_40, nL_48, nL_58, nL_60, nL_400, nL_2000], by simp (disch := omega) only [upd_else, t9, sb, nJ_of, nJ_lt, nJ_le, nJ_eq, nJ_clamp, nJ_add, nJ_sub, if_pos, if_neg, if_true, if_false, nL_0, nL_1, nL_2, nL_3, nL_4, nL_5, nL_6, nL_7, nL_8, nL_9, nL_10, nL_11, nL_12, nL_13, nL_14, nL_15, nL_16, nL_17, nL_18, nL_20, nL_21, nL_28, nL_30, nL_38, nL_40, nL_48, nL_58, nL_60, nL_400, nL_2000], r1, r2⟩
theorem k_lemon (ht : RPt nf ng fr hr gr (ho, wa, sr, ch, lm, sa, co, sm, fs, gs, gt) N h) : f_X8_squeezeLemon (ho, wa, sr, ch, lm, sa, co, sm, fs, gs, gt) = some (if N 4 = nI 0 then (nI 0, ch, lm) else (nI 1, (if ch + 6 < 30 then ch + 6 else 30), lm - 1)) := by
  obtain ⟨-, -, -, -, -, ⟨x6, a6, b6, c6⟩, -⟩ := ht
  have b6 : lm = nI x6 := b6
  unfold f_X8_squeezeLemon
  by_cases c : x6 = 0
  · simp (disch := omega) only [X8_lemons, X8_charge, b6, c6, c, sb, nJ_of, nJ_lt, nJ_le, nJ_eq, nJ_clamp, nJ_add, nJ_sub, if_pos, if_neg, if_true, if_false, nL_0, nL_1, nL_2, nL_3, nL_4, nL_5, nL_6, nL_7, nL_8, nL_9, nL_10, nL_11, nL_12, nL_13, nL_14, nL_15, nL_16, nL_17, nL_18, nL_20, nL_21, nL_28, nL_30, nL_38, nL_40, nL_48, nL_58, nL_60, nL_400, nL_2000]
  · simp (disch := omega) only [X8_lemons, X8_charge, b6, c6, sb, nJ_of, nJ_lt, nJ_le, nJ_eq, nJ_clamp, nJ_add, nJ_sub, if_pos, if_neg, if_true, if_false, nL_0, nL_1, nL_2, nL_3, nL_4, nL_5, nL_6, nL_7, nL_8, nL_9, nL_10, nL_11, nL_12, nL_13, nL_14, nL_15, nL_16, nL_17, nL_18, nL_20, nL_21, nL_28, nL_30, nL_38, nL_40, nL_48, nL_58, nL_60, nL_400, nL_2000]
theorem k_saucer (ht : RPt nf ng fr hr gr (ho, wa, sr, ch, lm, sa, co, sm, fs, gs, gt) N h) : f_X8_putSaucer (ho, wa, sr, ch, lm, sa, co, sm, fs, gs, gt) = some (if N 5 = nI 0 then (nI 0, ch, sa) else (nI 1, (if 0 < ch - 5 then ch - 5 else 0), sa - 1)) := by
  obtain ⟨-, -, -, -, -, -, ⟨x6, a6, b6, c6⟩, -⟩ := ht
  have b6 : sa = nI x6 := b6
  unfold f_X8_putSaucer
  by_cases c : x6 = 0
  · simp (disch := omega) only [X8_saucers, X8_charge, b6, c6, c, sb, nJ_of, nJ_lt, nJ_le, nJ_eq, nJ_clamp, nJ_add, nJ_sub, if_pos, if_neg, if_true, if_false, nL_0, nL_1, nL_2, nL_3, nL_4, nL_5, nL_6, nL_7, nL_8, nL_9, nL_10, nL_11, nL_12, nL_13, nL_14, nL_15, nL_16, nL_17, nL_18, nL_20, nL_21, nL_28, nL_30, nL_38, nL_40, nL_48, nL_58, nL_60, nL_400, nL_2000]
  · simp (disch := omega) only [X8_saucers, X8_charge, b6, c6, sb, nJ_of, nJ_lt, nJ_le, nJ_eq, nJ_clamp, nJ_add, nJ_sub, if_pos, if_neg, if_true, if_false, nL_0, nL_1, nL_2, nL_3, nL_4, nL_5, nL_6, nL_7, nL_8, nL_9, nL_10, nL_11, nL_12, nL_13, nL_14, nL_15, nL_16, nL_17, nL_18, nL_20, nL_21, nL_28, nL_30, nL_38, nL_40, nL_48, nL_58, nL_60, nL_400, nL_2000]
theorem k_squeeze : f_X14_squeeze (th, ta, bs, ea, kd, nu, po, ln, tk, wr, er, et, dp, fn, gn, va, N, kp) = some (upd (upd N 3 (if N 3 + 6 < 30 then N 3 + 6 else 30)) 4 (N 4 - 1)) := by
  unfold f_X14_squeeze
  simp (disch := omega) only [X14_now, upd_else, sb, nJ_of, nJ_lt, nJ_le, nJ_eq, nJ_clamp, nJ_add, nJ_sub, if_pos, if_neg, if_true, if_false, nL_0, nL_1, nL_2, nL_3, nL_4, nL_5, nL_6, nL_7, nL_8, nL_9, nL_10, nL_11, nL_12, nL_13, nL_14, nL_15, nL_16, nL_17, nL_18, nL_20, nL_21, nL_28, nL_30, nL_38, nL_40, nL_48, nL_58, nL_60, nL_400, nL_2000]
  rfl
theorem k_calm : f_X14_calm (th, ta, bs, ea, kd, nu, po, ln, tk, wr, er, et, dp, fn, gn, va, N, kp) = some (upd (upd N 3 (if 0 < N 3 - 5 then N 3 - 5 else 0)) 5 (N 5 - 1)) := by
  unfold f_X14_calm
  simp (disch := omega) only [X14_now, upd_else, sb, nJ_of, nJ_lt, nJ_le, nJ_eq, nJ_clamp, nJ_add, nJ_sub, if_pos, if_neg, if_true, if_false, nL_0, nL_1, nL_2, nL_3, nL_4, nL_5, nL_6, nL_7, nL_8, nL_9, nL_10, nL_11, nL_12, nL_13, nL_14, nL_15, nL_16, nL_17, nL_18, nL_20, nL_21, nL_28, nL_30, nL_38, nL_40, nL_48, nL_58, nL_60, nL_400, nL_2000]
  rfl
theorem k_serveIt (p2 : ng ≤ 10) {g : Nat} (hg : g < ng) : f_X14_serveIt (nI g) (th, ta, bs, ea, kd, nu, po, ln, tk, wr, er, et, dp, fn, gn, va, N, kp) = some (N 2, upd (upd (upd (upd N 7 (N 7 + N 2)) (28 + g) (nI 0)) (38 + g) (nI 1)) 2 (if 0 < N 2 - 3 then N 2 - 3 else 0)) := by
  unfold f_X14_serveIt
  simp (disch := omega) only [X14_now, sb, nJ_of, nJ_lt, nJ_le, nJ_eq, nJ_clamp, nJ_add, nJ_sub, if_pos, if_neg, if_true, if_false, nL_0, nL_1, nL_2, nL_3, nL_4, nL_5, nL_6, nL_7, nL_8, nL_9, nL_10, nL_11, nL_12, nL_13, nL_14, nL_15, nL_16, nL_17, nL_18, nL_20, nL_21, nL_28, nL_30, nL_38, nL_40, nL_48, nL_58, nL_60, nL_400, nL_2000]
  rfl
theorem k_serve (hp : RPl F G T nf ng fo fr hr gr) (ht : RPt nf ng fr hr gr (ho, wa, sr, ch, lm, sa, co, sm, fs, gs, gt) N h) (hh : h < 1000000) {g : Nat} (hg : g < ng) : f_X8_serveGuest (nI g) (ho, wa, sr, ch, lm, sa, co, sm, fs, gs, gt) G = some (if lkN N T (N 2) g = 0 then (nI 0, sr, co, gs) else (nI 1, (if 0 < sr - 3 then sr - 3 else 0), co + sr, upd gs g (nI 1))) := by
  have p2 := hp.2.1
  obtain ⟨w, w1, w2, w3⟩ := ht_str ht
  have w2 : sr = nI w := w2
  have hl := lkN_le (N := N) (T := T) (N 2) g
  unfold f_X8_serveGuest
  rw [k_likes hp ht hh hg]
  rw [w3] at hl ⊢
  rw [show X8_strength (ho, wa, sr, ch, lm, sa, co, sm, fs, gs, gt) = nI w from w2]
  by_cases c : lkN N T (nI w) g = 0
  · simp (disch := omega) only [c, w2, X8_coins, X8_guestServed, sb, nJ_of, nJ_lt, nJ_le, nJ_eq, nJ_clamp, nJ_add, nJ_sub, if_pos, if_neg, if_true, if_false, nL_0, nL_1, nL_2, nL_3, nL_4, nL_5, nL_6, nL_7, nL_8, nL_9, nL_10, nL_11, nL_12, nL_13, nL_14, nL_15, nL_16, nL_17, nL_18, nL_20, nL_21, nL_28, nL_30, nL_38, nL_40, nL_48, nL_58, nL_60, nL_400, nL_2000]
  · have e : lkN N T (nI w) g = 1 := by omega
    simp (disch := omega) only [e, w2, X8_coins, X8_guestServed, sb, nJ_of, nJ_lt, nJ_le, nJ_eq, nJ_clamp, nJ_add, nJ_sub, if_pos, if_neg, if_true, if_false, nL_0, nL_1, nL_2, nL_3, nL_4, nL_5, nL_6, nL_7, nL_8, nL_9, nL_10, nL_11, nL_12, nL_13, nL_14, nL_15, nL_16, nL_17, nL_18, nL_20, nL_21, nL_28, nL_30, nL_38, nL_40, nL_48, nL_58, nL_60, nL_400, nL_2000]
    rfl
end P5
