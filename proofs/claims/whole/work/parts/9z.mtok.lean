/-! one token, in the model -/
theorem upd_twice (f : Nat → Int32) (k : Nat) (x y : Int32) : upd (upd f k x) k y = upd f k y := by
  funext j
  by_cases e : j = k
  · rw [e, upd_same, upd_same]
  · rw [upd_else _ _ e, upd_else _ _ e, upd_else _ _ e]
theorem nJ_mul (a b : Nat) : nI a * nI b = nI (a * b) := (Int32.ofNat_mul a b).symm
def dv (Y : Nat → Nat) (a : Nat) : Nat → Nat
  | 0 => 0
  | l + 1 => dv Y a l * 10 + (Y (a + l) - 48)
def sg (v : Nat) : Nat := if dig v = true then v - 48 + 1 else v - 97 + 11
def bv (Y : Nat → Nat) (a : Nat) : Nat → Nat
  | 0 => 0
  | l + 1 => bv Y a l * 37 + sg (Y (a + l))
def scl (v : Nat) : Nat := fE (fnd (fun k => decide (kln k = 1) && decide (cb v = kby k 0)) 52) (fun k => k) 50
def sc2 (v : Nat) : Nat := fE (fnd (fun k => decide (kln k = 2) && (decide (cb v = kby k 0) && decide (cb 61 = kby k 1))) 52) (fun k => k) 50
theorem sc2_60 : sc2 60 = 45 ∧ sc2 62 = 46 := by decide +kernel
theorem scl_60 : scl 60 = 42 ∧ scl 62 = 43 := by decide +kernel
theorem scl_all : ∀ v : Nat, v < 256 → wrd v = false → f_X14_symbol (mb v) = some (nI (kpa (scl v))) := by decide +kernel
theorem scl_ne : ∀ v : Nat, v < 256 → (kpa (scl v) = 54 ∨ kpa (scl v) = 55) → (v = 60 ∨ v = 62) := by decide +kernel
theorem scl_k : ∀ v : Nat, v < 256 → wrd v = false → (scl v < 47 ∨ scl v = 50) := by decide +kernel
section P61
variable {Y : Nat → Nat} {len : Nat} {bT : Nat → Int32} {th bs ea tk wr er et dp : Int32} {ta kd nu po ln fn gn va kp : Nat → Int32}
variable {N : Nat → Int32} {n i e a sz k : Nat}
theorem kdC_1 (h : wrd (Y a) = false) : kdC Y a 1 = scl (Y a) := by
  obtain ⟨h1, h2⟩ := wrd_or.1 h
  unfold kdC scl
  rw [h1, h2, if_neg Bool.false_ne_true, if_neg (show ¬ (false = true ∧ 10 < 1) from fun w => Bool.false_ne_true w.1)]
  show fE (fnd (HT Y a 1) 52) (fun k => k) 50 = _
  rw [fnd_congr (q := fun k => decide (kln k = 1) && decide (cb (Y a) = kby k 0))]
  intro k _
  unfold HT
  have e : ∀ s, s = 1 → decide (∀ i, i < s → cb (Y (a + i)) = kby k i) = decide (cb (Y a) = kby k 0) := by
    intro s hs
    apply decide_eq_decide.2
    constructor
    · intro z
      exact z 0 (by omega)
    · intro z i hi
      have e : i = 0 := by omega
      rw [e]
      exact z
  rw [e 1 rfl]
theorem kdC_2 (h : wrd (Y a) = false) (h61 : Y (a + 1) = 61) : kdC Y a 2 = sc2 (Y a) := by
  obtain ⟨h1, h2⟩ := wrd_or.1 h
  unfold kdC sc2
  rw [h1, h2, if_neg Bool.false_ne_true, if_neg (show ¬ (false = true ∧ 10 < 2) from fun w => Bool.false_ne_true w.1)]
  show fE (fnd (HT Y a 2) 52) (fun k => k) 50 = _
  rw [fnd_congr (q := fun k => decide (kln k = 2) && (decide (cb (Y a) = kby k 0) && decide (cb 61 = kby k 1)))]
  intro k _
  unfold HT
  have e : ∀ s, s = 2 → decide (∀ i, i < s → cb (Y (a + i)) = kby k i) = (decide (cb (Y a) = kby k 0) && decide (cb 61 = kby k 1)) := by
    intro s hs
    rw [← Bool.decide_and]
    apply decide_eq_decide.2
    constructor
    · intro z
      exact ⟨z 0 (by omega), by rw [← h61]; exact z 1 (by omega)⟩
    · intro z i hi
      have e : i = 0 ∨ i = 1 := by omega
      rcases e with e | e
      · rw [e]
        exact z.1
      · rw [e, h61]
        exact z.2
  rw [e 2 rfl]
theorem ta_mb (h : TPE Y len bT ta) (ha : a < len) : ta a = mb (Y a) := by
  obtain ⟨h1, -, h2⟩ := h.2.1 a ha
  rw [h2]
  exact (if_pos h1).symm
theorem m_readS (h : TPE Y len bT ta) (ha : a < len) (hk : k ≤ 400) (hs : wrd (Y a) = false) : f_X14_read n (nI a) (nI k) (th, ta, nI len, ea, kd, nu, po, ln, tk, wr, er, et, dp, fn, gn, va, N, kp) = some (nI (a + szS Y a), upd kd k (nI (kpa (kdC Y a (szS Y a)))), nu, upd po k (nI a), upd ln k (nI (szS Y a))) := by
  have h0 := h.1
  have hv := (h.2.1 a ha).1
  obtain ⟨h1, h2⟩ := wrd_or.1 hs
  have c1 := mb_ltr (Y a) (by omega)
  have d1 := mb_dig (Y a) (by omega)
  rw [h1] at c1
  rw [h2] at d1
  have c1' : f_X14_isLetter (mb (Y a)) = some (nI 0) := c1
  have d1' : f_X14_isDigit (mb (Y a)) = some (nI 0) := d1
  have sy := scl_all (Y a) hv hs
  have hta := ta_mb h ha
  have e2 : f_X14_byteAt (nI (a + 1)) (th, ta, nI len, ea, upd kd k (nI (kpa (scl (Y a)))), nu, upd po k (nI a), ln, tk, wr, er, et, dp, fn, gn, va, N, kp) = some (mb (Y (a + 1))) := m_byte h (by omega)
  obtain ⟨-, -, e61⟩ := mb_eqs (Y (a + 1)) (TPE_lt h (a + 1))
  have ea1 : a + 1 - a = 1 := by omega
  have ea2 : a + 1 + 1 - a = 2 := by omega
  have ea3 : a + 1 + 1 = a + 2 := rfl
  have ea4 : a + 2 - a = 2 := by omega
  unfold f_X14_read
  by_cases q60 : Y a = 60 ∨ Y a = 62
  · by_cases q61 : Y (a + 1) = 61
    · have z61 := e61.2 q61
      have esz : szS Y a = 2 := if_pos ⟨q60, q61⟩
      rw [esz, kdC_2 hs q61]
      rcases q60 with q | q
      · rw [q, scl_60.1] at sy e2
        rw [q, sc2_60.1]
        rw [q] at c1' d1' hta
        unfold f_X14_read_R201 f_X14_read_R235 f_X14_read_R239
        rw [show kpa 42 = 54 from rfl] at sy e2
        rw [show kpa 45 = 57 from rfl]
        simp (disch := omega) only [X14_thrown, X14_tape, X14_bytes, X14_errorAt, X14_kind, X14_number, X14_position, X14_length, X14_token, X14_isWrong, X14_error, X14_errorToken, X14_deep, X14_frontName, X14_guestName, X14_value, X14_now, X14_kept, hta, ↓bd c1', bd c1', ↓bd d1', bd d1', ↓bd sy, bd sy, upd_same, ↓bd e2, bd e2, z61, upd_twice, ea1, ea2, ea3, ea4, ↓reduceIte, ↓if_pos, ↓if_neg, Nat.reduceEqDiff, Nat.reduceLeDiff, Nat.reduceLT, and_true, true_and, and_false, false_and, true_or, or_true, false_or, or_false, eq_self, sb, nJ_of, nJ_lt, nJ_le, nJ_eq, nJ_clamp, nJ_add, nJ_sub, if_pos, if_neg, if_true, if_false, nL_0, nL_1, nL_2, nL_3, nL_4, nL_5, nL_6, nL_7, nL_8, nL_9, nL_10, nL_11, nL_12, nL_13, nL_14, nL_15, nL_16, nL_17, nL_18, nL_19, nL_20, nL_21, nL_22, nL_23, nL_24, nL_25, nL_26, nL_27, nL_28, nL_29, nL_30, nL_31, nL_32, nL_33, nL_34, nL_35, nL_36, nL_37, nL_38, nL_39, nL_40, nL_41, nL_42, nL_43, nL_44, nL_45, nL_46, nL_47, nL_48, nL_49, nL_50, nL_51, nL_52, nL_53, nL_54, nL_55, nL_56, nL_57, nL_58, nL_59, nL_60, nL_61, nL_62, nL_63, nL_64, nL_65, nL_66, nL_67, nL_68, nL_69, nL_70, nL_400, nL_402, nL_800, nL_2000]
      · rw [q, scl_60.2] at sy e2
        rw [q, sc2_60.2]
        rw [q] at c1' d1' hta
        unfold f_X14_read_R201 f_X14_read_R235 f_X14_read_R239
        rw [show kpa 43 = 55 from rfl] at sy e2
        rw [show kpa 46 = 58 from rfl]
        simp (disch := omega) only [X14_thrown, X14_tape, X14_bytes, X14_errorAt, X14_kind, X14_number, X14_position, X14_length, X14_token, X14_isWrong, X14_error, X14_errorToken, X14_deep, X14_frontName, X14_guestName, X14_value, X14_now, X14_kept, hta, ↓bd c1', bd c1', ↓bd d1', bd d1', ↓bd sy, bd sy, upd_same, ↓bd e2, bd e2, z61, upd_twice, ea1, ea2, ea3, ea4, ↓reduceIte, ↓if_pos, ↓if_neg, Nat.reduceEqDiff, Nat.reduceLeDiff, Nat.reduceLT, and_true, true_and, and_false, false_and, true_or, or_true, false_or, or_false, eq_self, sb, nJ_of, nJ_lt, nJ_le, nJ_eq, nJ_clamp, nJ_add, nJ_sub, if_pos, if_neg, if_true, if_false, nL_0, nL_1, nL_2, nL_3, nL_4, nL_5, nL_6, nL_7, nL_8, nL_9, nL_10, nL_11, nL_12, nL_13, nL_14, nL_15, nL_16, nL_17, nL_18, nL_19, nL_20, nL_21, nL_22, nL_23, nL_24, nL_25, nL_26, nL_27, nL_28, nL_29, nL_30, nL_31, nL_32, nL_33, nL_34, nL_35, nL_36, nL_37, nL_38, nL_39, nL_40, nL_41, nL_42, nL_43, nL_44, nL_45, nL_46, nL_47, nL_48, nL_49, nL_50, nL_51, nL_52, nL_53, nL_54, nL_55, nL_56, nL_57, nL_58, nL_59, nL_60, nL_61, nL_62, nL_63, nL_64, nL_65, nL_66, nL_67, nL_68, nL_69, nL_70, nL_400, nL_402, nL_800, nL_2000]
    · have z61 : ¬ mb (Y (a + 1)) = nI 61 := fun z => q61 (e61.1 z)
      have esz : szS Y a = 1 := if_neg (fun w => q61 w.2)
      rw [esz, kdC_1 hs]
      rcases q60 with q | q
      · rw [q, scl_60.1] at sy e2
        rw [q, scl_60.1]
        rw [q] at c1' d1' hta
        unfold f_X14_read_R201 f_X14_read_R239
        rw [show kpa 42 = 54 from rfl] at sy e2
        rw [show kpa 42 = 54 from rfl]
        simp (disch := omega) only [X14_thrown, X14_tape, X14_bytes, X14_errorAt, X14_kind, X14_number, X14_position, X14_length, X14_token, X14_isWrong, X14_error, X14_errorToken, X14_deep, X14_frontName, X14_guestName, X14_value, X14_now, X14_kept, hta, ↓bd c1', bd c1', ↓bd d1', bd d1', ↓bd sy, bd sy, upd_same, ↓bd e2, bd e2, z61, upd_twice, ea1, ea2, ea3, ea4, ↓reduceIte, ↓if_pos, ↓if_neg, Nat.reduceEqDiff, Nat.reduceLeDiff, Nat.reduceLT, and_true, true_and, and_false, false_and, true_or, or_true, false_or, or_false, eq_self, sb, nJ_of, nJ_lt, nJ_le, nJ_eq, nJ_clamp, nJ_add, nJ_sub, if_pos, if_neg, if_true, if_false, nL_0, nL_1, nL_2, nL_3, nL_4, nL_5, nL_6, nL_7, nL_8, nL_9, nL_10, nL_11, nL_12, nL_13, nL_14, nL_15, nL_16, nL_17, nL_18, nL_19, nL_20, nL_21, nL_22, nL_23, nL_24, nL_25, nL_26, nL_27, nL_28, nL_29, nL_30, nL_31, nL_32, nL_33, nL_34, nL_35, nL_36, nL_37, nL_38, nL_39, nL_40, nL_41, nL_42, nL_43, nL_44, nL_45, nL_46, nL_47, nL_48, nL_49, nL_50, nL_51, nL_52, nL_53, nL_54, nL_55, nL_56, nL_57, nL_58, nL_59, nL_60, nL_61, nL_62, nL_63, nL_64, nL_65, nL_66, nL_67, nL_68, nL_69, nL_70, nL_400, nL_402, nL_800, nL_2000]
      · rw [q, scl_60.2] at sy e2
        rw [q, scl_60.2]
        rw [q] at c1' d1' hta
        unfold f_X14_read_R201 f_X14_read_R239
        rw [show kpa 43 = 55 from rfl] at sy e2
        rw [show kpa 43 = 55 from rfl]
        simp (disch := omega) only [X14_thrown, X14_tape, X14_bytes, X14_errorAt, X14_kind, X14_number, X14_position, X14_length, X14_token, X14_isWrong, X14_error, X14_errorToken, X14_deep, X14_frontName, X14_guestName, X14_value, X14_now, X14_kept, hta, ↓bd c1', bd c1', ↓bd d1', bd d1', ↓bd sy, bd sy, upd_same, ↓bd e2, bd e2, z61, upd_twice, ea1, ea2, ea3, ea4, ↓reduceIte, ↓if_pos, ↓if_neg, Nat.reduceEqDiff, Nat.reduceLeDiff, Nat.reduceLT, and_true, true_and, and_false, false_and, true_or, or_true, false_or, or_false, eq_self, sb, nJ_of, nJ_lt, nJ_le, nJ_eq, nJ_clamp, nJ_add, nJ_sub, if_pos, if_neg, if_true, if_false, nL_0, nL_1, nL_2, nL_3, nL_4, nL_5, nL_6, nL_7, nL_8, nL_9, nL_10, nL_11, nL_12, nL_13, nL_14, nL_15, nL_16, nL_17, nL_18, nL_19, nL_20, nL_21, nL_22, nL_23, nL_24, nL_25, nL_26, nL_27, nL_28, nL_29, nL_30, nL_31, nL_32, nL_33, nL_34, nL_35, nL_36, nL_37, nL_38, nL_39, nL_40, nL_41, nL_42, nL_43, nL_44, nL_45, nL_46, nL_47, nL_48, nL_49, nL_50, nL_51, nL_52, nL_53, nL_54, nL_55, nL_56, nL_57, nL_58, nL_59, nL_60, nL_61, nL_62, nL_63, nL_64, nL_65, nL_66, nL_67, nL_68, nL_69, nL_70, nL_400, nL_402, nL_800, nL_2000]
  · have esz : szS Y a = 1 := if_neg (fun w => q60 w.1)
    rw [esz, kdC_1 hs]
    have n54 : kpa (scl (Y a)) ≠ 54 := fun z => q60 (scl_ne _ hv (Or.inl z))
    have n55 : kpa (scl (Y a)) ≠ 55 := fun z => q60 (scl_ne _ hv (Or.inr z))
    have hlt : kpa (scl (Y a)) < 100 := by
      rcases scl_k _ hv hs with z | z
      · exact kpa_lt _ (by omega)
      · rw [z]
        decide
    unfold f_X14_read_R239
    simp (disch := omega) only [X14_thrown, X14_tape, X14_bytes, X14_errorAt, X14_kind, X14_number, X14_position, X14_length, X14_token, X14_isWrong, X14_error, X14_errorToken, X14_deep, X14_frontName, X14_guestName, X14_value, X14_now, X14_kept, hta, ↓bd c1', bd c1', ↓bd d1', bd d1', ↓bd sy, bd sy, upd_same, n54, n55, ea1, ↓reduceIte, ↓if_pos, ↓if_neg, Nat.reduceEqDiff, Nat.reduceLeDiff, Nat.reduceLT, and_true, true_and, and_false, false_and, true_or, or_true, false_or, or_false, eq_self, sb, nJ_of, nJ_lt, nJ_le, nJ_eq, nJ_clamp, nJ_add, nJ_sub, if_pos, if_neg, if_true, if_false, nL_0, nL_1, nL_2, nL_3, nL_4, nL_5, nL_6, nL_7, nL_8, nL_9, nL_10, nL_11, nL_12, nL_13, nL_14, nL_15, nL_16, nL_17, nL_18, nL_19, nL_20, nL_21, nL_22, nL_23, nL_24, nL_25, nL_26, nL_27, nL_28, nL_29, nL_30, nL_31, nL_32, nL_33, nL_34, nL_35, nL_36, nL_37, nL_38, nL_39, nL_40, nL_41, nL_42, nL_43, nL_44, nL_45, nL_46, nL_47, nL_48, nL_49, nL_50, nL_51, nL_52, nL_53, nL_54, nL_55, nL_56, nL_57, nL_58, nL_59, nL_60, nL_61, nL_62, nL_63, nL_64, nL_65, nL_66, nL_67, nL_68, nL_69, nL_70, nL_400, nL_402, nL_800, nL_2000]
theorem m_readD (h : TPE Y len bT ta) (hn : 2100 < n) (ha : a < len) (hk : k ≤ 400) (hd : dig (Y a) = true) (hr : RUN dig Y (a + 1) e) (he : e ≤ len) : f_X14_read n (nI a) (nI k) (th, ta, nI len, ea, kd, nu, po, ln, tk, wr, er, et, dp, fn, gn, va, N, kp) = some (nI e, upd kd k (nI (kpa (kdC Y a (e - a)))), upd nu k (nI (dv Y a (min (e - a) 7))), upd po k (nI a), upd ln k (nI (e - a))) := by
  have h0 := h.1
  have hv := (h.2.1 a ha).1
  have hle := hr.1
  have c1 := mb_ltr (Y a) (by omega)
  have d1 := mb_dig (Y a) (by omega)
  have hl : ltr (Y a) = false := by
    unfold dig at hd
    unfold ltr
    simp only [Bool.and_eq_true, decide_eq_true_eq] at hd
    simp only [Bool.and_eq_false_iff, decide_eq_false_iff_not]
    omega
  rw [hl] at c1
  rw [hd] at d1
  have c1' : f_X14_isLetter (mb (Y a)) = some (nI 0) := c1
  have d1' : f_X14_isDigit (mb (Y a)) = some (nI 1) := d1
  have hta := ta_mb h ha
  have d48 : ∀ v, dig v = true → 48 ≤ v := by
    intro v hv
    unfold dig at hv
    simp only [Bool.and_eq_true, decide_eq_true_eq] at hv
    omega
  have key : ∀ kd0 po0 kd po : Nat → Int32, iter (fun s : Int32 × Int32 => f_X14_read_L87 n (nI a) (nI k) (th, ta, nI len, ea, kd0, nu, po0, ln, tk, wr, er, et, dp, fn, gn, va, N, kp) (nI a) (nI k) s.1 s.2 kd nu po ln) n (nI (a + 1), nI (dv Y a (min 1 7))) = some (nI e, upd kd k (nI (kpa (kdC Y a (e - a)))), upd nu k (nI (dv Y a (min (e - a) 7))), po, upd ln k (nI (e - a))) := by
    intro kd0 po0 kd po
    have hh := iter_count (fun s : Int32 × Int32 => f_X14_read_L87 n (nI a) (nI k) (th, ta, nI len, ea, kd0, nu, po0, ln, tk, wr, er, et, dp, fn, gn, va, N, kp) (nI a) (nI k) s.1 s.2 kd nu po ln) (fun q => (nI (a + 1 + q), nI (dv Y a (min (1 + q) 7)))) (e - (a + 1)) (nI e, upd kd k (nI (kpa (kdC Y a (e - a)))), upd nu k (nI (dv Y a (min (e - a) 7))), po, upd ln k (nI (e - a))) (fun q hq => ?_) ?_ (n := n) (by omega)
    · exact hh
    · have hb := hr.2.1 (a + 1 + q) (by omega) (by omega)
      have hj := run_len h dig_256 hb
      have hcj : f_X14_byteAt (nI (a + 1 + q)) (th, ta, nI len, ea, kd, nu, po, ln, tk, wr, er, et, dp, fn, gn, va, N, kp) = some (mb (Y (a + 1 + q))) := m_byte h (by omega)
      have cd := mb_dig (Y (a + 1 + q)) (TPE_lt h _)
      rw [hb] at cd
      have cd' : f_X14_isDigit (mb (Y (a + 1 + q))) = some (nI 1) := cd
      have hv2 := (h.2.1 _ hj).1
      have e3 : mb (Y (a + 1 + q)) = nI (Y (a + 1 + q)) := if_pos hv2
      have h48 := d48 _ hb
      show f_X14_read_L87 n (nI a) (nI k) (th, ta, nI len, ea, kd0, nu, po0, ln, tk, wr, er, et, dp, fn, gn, va, N, kp) (nI a) (nI k) (nI (a + 1 + q)) (nI (dv Y a (min (1 + q) 7))) kd nu po ln = some (.inl (nI (a + 1 + (q + 1)), nI (dv Y a (min (1 + (q + 1)) 7))))
      unfold f_X14_read_L87
      by_cases w : 7 ≤ 1 + q
      · have e4 : min (1 + (q + 1)) 7 = min (1 + q) 7 := by omega
        rw [e4]
        have e5 : a + 1 + q - a = 1 + q := by omega
        simp (disch := omega) only [X14_thrown, X14_tape, X14_bytes, X14_errorAt, X14_kind, X14_number, X14_position, X14_length, X14_token, X14_isWrong, X14_error, X14_errorToken, X14_deep, X14_frontName, X14_guestName, X14_value, X14_now, X14_kept, ↓bd hcj, bd hcj, ↓bd cd', bd cd', e5, w, ↓reduceIte, ↓if_pos, ↓if_neg, Nat.reduceEqDiff, Nat.reduceLeDiff, Nat.reduceLT, and_true, true_and, and_false, false_and, true_or, or_true, false_or, or_false, eq_self, sb, nJ_of, nJ_lt, nJ_le, nJ_eq, nJ_clamp, nJ_add, nJ_sub, if_pos, if_neg, if_true, if_false, nL_0, nL_1, nL_2, nL_3, nL_4, nL_5, nL_6, nL_7, nL_8, nL_9, nL_10, nL_11, nL_12, nL_13, nL_14, nL_15, nL_16, nL_17, nL_18, nL_19, nL_20, nL_21, nL_22, nL_23, nL_24, nL_25, nL_26, nL_27, nL_28, nL_29, nL_30, nL_31, nL_32, nL_33, nL_34, nL_35, nL_36, nL_37, nL_38, nL_39, nL_40, nL_41, nL_42, nL_43, nL_44, nL_45, nL_46, nL_47, nL_48, nL_49, nL_50, nL_51, nL_52, nL_53, nL_54, nL_55, nL_56, nL_57, nL_58, nL_59, nL_60, nL_61, nL_62, nL_63, nL_64, nL_65, nL_66, nL_67, nL_68, nL_69, nL_70, nL_400, nL_402, nL_800, nL_2000]
        rfl
      · have e4 : min (1 + (q + 1)) 7 = (1 + q) + 1 := by omega
        have e6 : min (1 + q) 7 = 1 + q := by omega
        have e5 : a + 1 + q - a = 1 + q := by omega
        have e7 : dv Y a (1 + q + 1) = 10 * dv Y a (1 + q) + Y (a + 1 + q) - 48 := by
          show dv Y a (1 + q) * 10 + (Y (a + (1 + q)) - 48) = _
          rw [show a + (1 + q) = a + 1 + q by omega]
          omega
        rw [e4, e6, e7]
        simp (disch := omega) only [X14_thrown, X14_tape, X14_bytes, X14_errorAt, X14_kind, X14_number, X14_position, X14_length, X14_token, X14_isWrong, X14_error, X14_errorToken, X14_deep, X14_frontName, X14_guestName, X14_value, X14_now, X14_kept, ↓bd hcj, bd hcj, ↓bd cd', bd cd', e5, e3, nJ_mul, ↓reduceIte, ↓if_pos, ↓if_neg, Nat.reduceEqDiff, Nat.reduceLeDiff, Nat.reduceLT, and_true, true_and, and_false, false_and, true_or, or_true, false_or, or_false, eq_self, sb, nJ_of, nJ_lt, nJ_le, nJ_eq, nJ_clamp, nJ_add, nJ_sub, if_pos, if_neg, if_true, if_false, nL_0, nL_1, nL_2, nL_3, nL_4, nL_5, nL_6, nL_7, nL_8, nL_9, nL_10, nL_11, nL_12, nL_13, nL_14, nL_15, nL_16, nL_17, nL_18, nL_19, nL_20, nL_21, nL_22, nL_23, nL_24, nL_25, nL_26, nL_27, nL_28, nL_29, nL_30, nL_31, nL_32, nL_33, nL_34, nL_35, nL_36, nL_37, nL_38, nL_39, nL_40, nL_41, nL_42, nL_43, nL_44, nL_45, nL_46, nL_47, nL_48, nL_49, nL_50, nL_51, nL_52, nL_53, nL_54, nL_55, nL_56, nL_57, nL_58, nL_59, nL_60, nL_61, nL_62, nL_63, nL_64, nL_65, nL_66, nL_67, nL_68, nL_69, nL_70, nL_400, nL_402, nL_800, nL_2000]
        rfl
    · have ee : a + 1 + (e - (a + 1)) = e := by omega
      have ee2 : 1 + (e - (a + 1)) = e - a := by omega
      have hce : f_X14_byteAt (nI e) (th, ta, nI len, ea, kd, nu, po, ln, tk, wr, er, et, dp, fn, gn, va, N, kp) = some (mb (Y e)) := m_byte h (by omega)
      have cd := mb_dig (Y e) (TPE_lt h _)
      rw [hr.2.2] at cd
      have cd' : f_X14_isDigit (mb (Y e)) = some (nI 0) := cd
      show f_X14_read_L87 n (nI a) (nI k) (th, ta, nI len, ea, kd0, nu, po0, ln, tk, wr, er, et, dp, fn, gn, va, N, kp) (nI a) (nI k) (nI (a + 1 + (e - (a + 1)))) (nI (dv Y a (min (1 + (e - (a + 1))) 7))) kd nu po ln = _
      rw [ee, ee2]
      unfold f_X14_read_L87 f_X14_read_R165 f_X14_read_R239
      by_cases w : e - a ≤ 6
      · have ek : kdC Y a (e - a) = 48 := by
          unfold kdC
          rw [if_pos hd, if_pos w]
        rw [ek, show kpa 48 = 41 from rfl]
        simp (disch := omega) only [X14_thrown, X14_tape, X14_bytes, X14_errorAt, X14_kind, X14_number, X14_position, X14_length, X14_token, X14_isWrong, X14_error, X14_errorToken, X14_deep, X14_frontName, X14_guestName, X14_value, X14_now, X14_kept, ↓bd hce, bd hce, ↓bd cd', bd cd', w, ↓reduceIte, ↓if_pos, ↓if_neg, Nat.reduceEqDiff, Nat.reduceLeDiff, Nat.reduceLT, and_true, true_and, and_false, false_and, true_or, or_true, false_or, or_false, eq_self, sb, nJ_of, nJ_lt, nJ_le, nJ_eq, nJ_clamp, nJ_add, nJ_sub, if_pos, if_neg, if_true, if_false, nL_0, nL_1, nL_2, nL_3, nL_4, nL_5, nL_6, nL_7, nL_8, nL_9, nL_10, nL_11, nL_12, nL_13, nL_14, nL_15, nL_16, nL_17, nL_18, nL_19, nL_20, nL_21, nL_22, nL_23, nL_24, nL_25, nL_26, nL_27, nL_28, nL_29, nL_30, nL_31, nL_32, nL_33, nL_34, nL_35, nL_36, nL_37, nL_38, nL_39, nL_40, nL_41, nL_42, nL_43, nL_44, nL_45, nL_46, nL_47, nL_48, nL_49, nL_50, nL_51, nL_52, nL_53, nL_54, nL_55, nL_56, nL_57, nL_58, nL_59, nL_60, nL_61, nL_62, nL_63, nL_64, nL_65, nL_66, nL_67, nL_68, nL_69, nL_70, nL_400, nL_402, nL_800, nL_2000]
      · have ek : kdC Y a (e - a) = 50 := by
          unfold kdC
          rw [if_pos hd, if_neg w]
        rw [ek, show kpa 50 = 42 from rfl]
        simp (disch := omega) only [X14_thrown, X14_tape, X14_bytes, X14_errorAt, X14_kind, X14_number, X14_position, X14_length, X14_token, X14_isWrong, X14_error, X14_errorToken, X14_deep, X14_frontName, X14_guestName, X14_value, X14_now, X14_kept, ↓bd hce, bd hce, ↓bd cd', bd cd', w, ↓reduceIte, ↓if_pos, ↓if_neg, Nat.reduceEqDiff, Nat.reduceLeDiff, Nat.reduceLT, and_true, true_and, and_false, false_and, true_or, or_true, false_or, or_false, eq_self, sb, nJ_of, nJ_lt, nJ_le, nJ_eq, nJ_clamp, nJ_add, nJ_sub, if_pos, if_neg, if_true, if_false, nL_0, nL_1, nL_2, nL_3, nL_4, nL_5, nL_6, nL_7, nL_8, nL_9, nL_10, nL_11, nL_12, nL_13, nL_14, nL_15, nL_16, nL_17, nL_18, nL_19, nL_20, nL_21, nL_22, nL_23, nL_24, nL_25, nL_26, nL_27, nL_28, nL_29, nL_30, nL_31, nL_32, nL_33, nL_34, nL_35, nL_36, nL_37, nL_38, nL_39, nL_40, nL_41, nL_42, nL_43, nL_44, nL_45, nL_46, nL_47, nL_48, nL_49, nL_50, nL_51, nL_52, nL_53, nL_54, nL_55, nL_56, nL_57, nL_58, nL_59, nL_60, nL_61, nL_62, nL_63, nL_64, nL_65, nL_66, nL_67, nL_68, nL_69, nL_70, nL_400, nL_402, nL_800, nL_2000]
  have e1 : mb (Y a) - nI 48 = nI (dv Y a (min 1 7)) := by
    have h48 := d48 _ hd
    rw [show mb (Y a) = nI (Y a) from if_pos hv, nJ_sub h48]
    show nI (Y a - 48) = nI (0 * 10 + (Y (a + 0) - 48))
    rw [Nat.zero_mul, Nat.zero_add, Nat.add_zero]
  unfold f_X14_read
  simp (disch := omega) only [X14_thrown, X14_tape, X14_bytes, X14_errorAt, X14_kind, X14_number, X14_position, X14_length, X14_token, X14_isWrong, X14_error, X14_errorToken, X14_deep, X14_frontName, X14_guestName, X14_value, X14_now, X14_kept, hta, ↓bd c1', bd c1', ↓bd d1', bd d1', e1, key, ↓reduceIte, ↓if_pos, ↓if_neg, Nat.reduceEqDiff, Nat.reduceLeDiff, Nat.reduceLT, and_true, true_and, and_false, false_and, true_or, or_true, false_or, or_false, eq_self, sb, nJ_of, nJ_lt, nJ_le, nJ_eq, nJ_clamp, nJ_add, nJ_sub, if_pos, if_neg, if_true, if_false, nL_0, nL_1, nL_2, nL_3, nL_4, nL_5, nL_6, nL_7, nL_8, nL_9, nL_10, nL_11, nL_12, nL_13, nL_14, nL_15, nL_16, nL_17, nL_18, nL_19, nL_20, nL_21, nL_22, nL_23, nL_24, nL_25, nL_26, nL_27, nL_28, nL_29, nL_30, nL_31, nL_32, nL_33, nL_34, nL_35, nL_36, nL_37, nL_38, nL_39, nL_40, nL_41, nL_42, nL_43, nL_44, nL_45, nL_46, nL_47, nL_48, nL_49, nL_50, nL_51, nL_52, nL_53, nL_54, nL_55, nL_56, nL_57, nL_58, nL_59, nL_60, nL_61, nL_62, nL_63, nL_64, nL_65, nL_66, nL_67, nL_68, nL_69, nL_70, nL_400, nL_402, nL_800, nL_2000]
end P61
