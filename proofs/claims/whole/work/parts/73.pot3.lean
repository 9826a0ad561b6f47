/-! the mean force, the digest -/
set_option maxRecDepth 100000 in
theorem div_ok : ∀ s : Nat, s < 91 → ∀ m : Nat, m < 10 → (FP.ddiv (FP.i2d (nI s)) (FP.i2d (nI (m + 1)))) &&& 0x7fffffffffffffff ≤ 0x7ff0000000000000 := by decide +kernel
theorem div_ok' {s m : Nat} (hs : s ≤ 90) (h0 : m ≠ 0) (hm : m ≤ 10) : (FP.ddiv (FP.i2d (nI s)) (FP.i2d (nI m))) &&& 0x7fffffffffffffff ≤ 0x7ff0000000000000 := by
  obtain ⟨k, rfl⟩ := Nat.exists_eq_succ_of_ne_zero h0
  exact div_ok s (by omega) k (by omega)
def bitN (N : Nat → Int32) (f : Nat) : Nat := if N (8 + f) = nI 1 then 1 else 0
theorem bitN_le (N : Nat → Int32) (f : Nat) : bitN N f ≤ 1 := by
  unfold bitN
  split <;> omega
theorem nJ_mul0 (x : Int32) : nI 0 * x = nI 0 := Int32.zero_mul
theorem nJ_mul1 (x : Int32) : nI 1 * x = x := Int32.one_mul x
theorem nJ_zadd (x : Int32) : x + nI 0 = x := Int32.add_zero x
def meanS (s m : Nat) : UInt64 := if m = 0 then 0 else FP.ddiv (FP.i2d (nI s)) (FP.i2d (nI m))
def dA (q : Nat → Int32) (c : Int64) : Nat → Int64
  | 0 => c
  | i + 1 => dA q c i * 31 + Int32.toInt64 (q i)
def dF (N : Nat → Int32) (c : Int64) : Nat → Int64
  | 0 => c
  | f + 1 => (dF N c f * 31 + Int32.toInt64 (N (8 + f))) * 31 + Int32.toInt64 (N (18 + f))
def dG (N : Nat → Int32) (T : bX13) (c : Int64) : Nat → Int64
  | 0 => c
  | g + 1 => (((dG N T c g * 31 + Int32.toInt64 (N (28 + g))) * 31 + Int32.toInt64 (nI (lkN N T (N 2) g))) * 31 + Int32.toInt64 (N (38 + g))) * 31 + Int32.toInt64 (N (48 + g))
section P4
variable {F : bX2} {G : bX4} {T : bX13} {nf ng : Nat} {fo fr hr gr : Nat → Nat} {P : bX8} {N : Nat → Int32} {h n : Nat} {th bs ea tk wr er et dp : Int32} {ta kd nu po ln fn gn va kp : Nat → Int32}
theorem ht_bitN (ht : RPt nf ng fr hr gr P N h) {f : Nat} (hf : f < nf) : N (8 + f) = nI (bitN N f) := by
  obtain ⟨t, h1, h2⟩ := ht_bit ht hf
  unfold bitN
  by_cases c : t = 0
  · rw [h2, c, if_neg (by rw [nJ_eq] <;> omega)]
  · have e : t = 1 := by omega
    rw [h2, e, if_pos rfl]
theorem ht_steep (ht : RPt nf ng fr hr gr P N h) {f : Nat} (hf : f < nf) : ∃ t, t ≤ 1 ∧ X8_frontSteeped P f = nI t ∧ N (18 + f) = nI t := by
  obtain ⟨-, -, -, -, -, -, -, -, -, t10, -⟩ := ht
  obtain ⟨t, a, b, c, -⟩ := t10 f hf
  exact ⟨t, a, b, c⟩
theorem ht_gs (ht : RPt nf ng fr hr gr P N h) {g : Nat} (hg : g < ng) : ∃ t u, t ≤ 1 ∧ u ≤ 1 ∧ X8_guestServed P g = nI t ∧ X8_guestStormed P g = nI u ∧ N (38 + g) = nI t ∧ N (48 + g) = nI u := by
  obtain ⟨-, -, -, -, -, -, -, -, -, -, t11⟩ := ht
  obtain ⟨t, u, a, b, c, d, e, f, -⟩ := t11 g hg
  exact ⟨t, u, a, b, c, d, e, f⟩
theorem ht_warm (ht : RPt nf ng fr hr gr P N h) : ∃ w, w ≤ 40 ∧ N 1 = nI w := by
  obtain ⟨-, -, ⟨w, a, b, c⟩, -⟩ := ht
  exact ⟨w, a, c⟩
theorem ht_str (ht : RPt nf ng fr hr gr P N h) : ∃ w, w ≤ 30 ∧ X8_strength P = nI w ∧ N 2 = nI w := ht.2.2.2.1
theorem hp_fo (hp : RPl F G T nf ng fo fr hr gr) {f : Nat} (hf : f < nf) : X2_force F f = nI (fo f) ∧ X13_force T f = nI (fo f) ∧ 1 ≤ fo f ∧ fo f ≤ 9 := by
  obtain ⟨-, -, -, -, -, -, p7, -⟩ := hp
  obtain ⟨-, -, a, b, c, d, -⟩ := p7 f hf
  exact ⟨a, b, c, d⟩
theorem mean_le (hp : RPl F G T nf ng fo fr hr gr) : sumN (fun f => bitN N f * fo f) nf ≤ 90 ∧ sumN (bitN N) nf ≤ 10 := by
  have h1 := sumN_le (f := fun f => bitN N f * fo f) (c := 9) (n := nf) (fun i hi => by
    have a := (hp_fo hp hi).2.2.2
    have b := bitN_le N i
    have := Nat.mul_le_mul b a
    omega)
  have h2 := sumN_le (f := bitN N) (c := 1) (n := nf) (fun i _ => bitN_le N i)
  have := hp.1
  omega
theorem k_mean (hp : RPl F G T nf ng fo fr hr gr) (ht : RPt nf ng fr hr gr P N h) (hh : h < 1000000) (hn : 20 < n) (bh : bX12) : f_X12_meanForce n bh P F = some (meanS (sumN (fun f => bitN N f * fo f) nf) (sumN (bitN N) nf)) := by
  have p1 := hp.1
  have p3 := hp.2.2.1
  unfold f_X12_meanForce
  refine iter_count _ (fun i => (nI (sumN (fun f => bitN N f * fo f) i), nI (sumN (bitN N) i), nI i)) nf _ (fun i hi => ?_) ?_ (by omega)
  · show f_X12_meanForce_L6 n bh P F (nI (sumN (fun f => bitN N f * fo f) i)) (nI (sumN (bitN N) i)) (nI i) = _
    unfold f_X12_meanForce_L6
    rw [k_over hp ht hh hi, ht_bitN ht hi]
    have h1 := bitN_le N i
    have h2 := (hp_fo hp hi).1
    by_cases c : bitN N i = 0
    · simp (disch := omega) only [c, p3, sumN, Nat.zero_mul, Nat.add_zero, sb, nJ_of, nJ_lt, nJ_le, nJ_eq, nJ_clamp, nJ_add, nJ_sub, if_pos, if_neg, if_true, if_false, nL_0, nL_1, nL_2, nL_3, nL_4, nL_5, nL_6, nL_7, nL_8, nL_9, nL_10, nL_11, nL_12, nL_13, nL_14, nL_15, nL_16, nL_17, nL_18, nL_19, nL_20, nL_21, nL_22, nL_23, nL_24, nL_25, nL_26, nL_27, nL_28, nL_29, nL_30, nL_31, nL_32, nL_33, nL_34, nL_35, nL_36, nL_37, nL_38, nL_39, nL_40, nL_41, nL_42, nL_43, nL_44, nL_45, nL_46, nL_47, nL_48, nL_49, nL_50, nL_51, nL_52, nL_53, nL_54, nL_55, nL_56, nL_57, nL_58, nL_59, nL_60, nL_61, nL_62, nL_63, nL_64, nL_65, nL_66, nL_67, nL_68, nL_69, nL_70, nL_400, nL_402, nL_800, nL_2000]
    · have e : bitN N i = 1 := by omega
      simp (disch := omega) only [e, p3, sumN, Nat.one_mul, h2, sb, nJ_of, nJ_lt, nJ_le, nJ_eq, nJ_clamp, nJ_add, nJ_sub, if_pos, if_neg, if_true, if_false, nL_0, nL_1, nL_2, nL_3, nL_4, nL_5, nL_6, nL_7, nL_8, nL_9, nL_10, nL_11, nL_12, nL_13, nL_14, nL_15, nL_16, nL_17, nL_18, nL_19, nL_20, nL_21, nL_22, nL_23, nL_24, nL_25, nL_26, nL_27, nL_28, nL_29, nL_30, nL_31, nL_32, nL_33, nL_34, nL_35, nL_36, nL_37, nL_38, nL_39, nL_40, nL_41, nL_42, nL_43, nL_44, nL_45, nL_46, nL_47, nL_48, nL_49, nL_50, nL_51, nL_52, nL_53, nL_54, nL_55, nL_56, nL_57, nL_58, nL_59, nL_60, nL_61, nL_62, nL_63, nL_64, nL_65, nL_66, nL_67, nL_68, nL_69, nL_70, nL_400, nL_402, nL_800, nL_2000]
  · show f_X12_meanForce_L6 n bh P F (nI (sumN (fun f => bitN N f * fo f) nf)) (nI (sumN (bitN N) nf)) (nI nf) = _
    unfold f_X12_meanForce_L6 meanS
    obtain ⟨a, b⟩ := mean_le (N := N) hp
    by_cases c : sumN (bitN N) nf = 0
    · simp (disch := omega) only [c, p3, sb, nJ_of, nJ_lt, nJ_le, nJ_eq, nJ_clamp, nJ_add, nJ_sub, if_pos, if_neg, if_true, if_false, nL_0, nL_1, nL_2, nL_3, nL_4, nL_5, nL_6, nL_7, nL_8, nL_9, nL_10, nL_11, nL_12, nL_13, nL_14, nL_15, nL_16, nL_17, nL_18, nL_19, nL_20, nL_21, nL_22, nL_23, nL_24, nL_25, nL_26, nL_27, nL_28, nL_29, nL_30, nL_31, nL_32, nL_33, nL_34, nL_35, nL_36, nL_37, nL_38, nL_39, nL_40, nL_41, nL_42, nL_43, nL_44, nL_45, nL_46, nL_47, nL_48, nL_49, nL_50, nL_51, nL_52, nL_53, nL_54, nL_55, nL_56, nL_57, nL_58, nL_59, nL_60, nL_61, nL_62, nL_63, nL_64, nL_65, nL_66, nL_67, nL_68, nL_69, nL_70, nL_400, nL_402, nL_800, nL_2000]
    · rw [if_pos (div_ok' a c b)]
      simp (disch := omega) only [p3, sb, nJ_of, nJ_lt, nJ_le, nJ_eq, nJ_clamp, nJ_add, nJ_sub, if_pos, if_neg, if_true, if_false, nL_0, nL_1, nL_2, nL_3, nL_4, nL_5, nL_6, nL_7, nL_8, nL_9, nL_10, nL_11, nL_12, nL_13, nL_14, nL_15, nL_16, nL_17, nL_18, nL_19, nL_20, nL_21, nL_22, nL_23, nL_24, nL_25, nL_26, nL_27, nL_28, nL_29, nL_30, nL_31, nL_32, nL_33, nL_34, nL_35, nL_36, nL_37, nL_38, nL_39, nL_40, nL_41, nL_42, nL_43, nL_44, nL_45, nL_46, nL_47, nL_48, nL_49, nL_50, nL_51, nL_52, nL_53, nL_54, nL_55, nL_56, nL_57, nL_58, nL_59, nL_60, nL_61, nL_62, nL_63, nL_64, nL_65, nL_66, nL_67, nL_68, nL_69, nL_70, nL_400, nL_402, nL_800, nL_2000]
theorem k_meanM (hp : RPl F G T nf ng fo fr hr gr) (ht : RPt nf ng fr hr gr P N h) (hn : 20 < n) : f_X14_meanForce n (th, ta, bs, ea, kd, nu, po, ln, tk, wr, er, et, dp, fn, gn, va, N, kp) T = some (meanS (sumN (fun f => bitN N f * fo f) nf) (sumN (bitN N) nf), nI 0) := by
  have p1 := hp.1
  have p3 := hp.2.2.2.1
  unfold f_X14_meanForce
  refine iter_count _ (fun i => (nI (sumN (fun f => bitN N f * fo f) i), nI (sumN (bitN N) i), nI i)) nf _ (fun i hi => ?_) ?_ (by omega)
  · show f_X14_meanForce_L11 n (th, ta, bs, ea, kd, nu, po, ln, tk, wr, er, et, dp, fn, gn, va, N, kp) T (nI (sumN (fun f => bitN N f * fo f) i)) (nI (sumN (bitN N) i)) (nI i) 0 = _
    unfold f_X14_meanForce_L11
    have h1 := bitN_le N i
    have h2 := (hp_fo hp hi).2.1
    by_cases c : bitN N i = 0
    · simp (disch := omega) only [X14_now, ht_bitN ht hi, c, p3, sumN, Nat.zero_mul, Nat.add_zero, nJ_mul0, sb, nJ_of, nJ_lt, nJ_le, nJ_eq, nJ_clamp, nJ_add, nJ_sub, if_pos, if_neg, if_true, if_false, nL_0, nL_1, nL_2, nL_3, nL_4, nL_5, nL_6, nL_7, nL_8, nL_9, nL_10, nL_11, nL_12, nL_13, nL_14, nL_15, nL_16, nL_17, nL_18, nL_19, nL_20, nL_21, nL_22, nL_23, nL_24, nL_25, nL_26, nL_27, nL_28, nL_29, nL_30, nL_31, nL_32, nL_33, nL_34, nL_35, nL_36, nL_37, nL_38, nL_39, nL_40, nL_41, nL_42, nL_43, nL_44, nL_45, nL_46, nL_47, nL_48, nL_49, nL_50, nL_51, nL_52, nL_53, nL_54, nL_55, nL_56, nL_57, nL_58, nL_59, nL_60, nL_61, nL_62, nL_63, nL_64, nL_65, nL_66, nL_67, nL_68, nL_69, nL_70, nL_400, nL_402, nL_800, nL_2000]
    · have e : bitN N i = 1 := by omega
      simp (disch := omega) only [X14_now, ht_bitN ht hi, e, p3, sumN, Nat.one_mul, h2, nJ_mul1, sb, nJ_of, nJ_lt, nJ_le, nJ_eq, nJ_clamp, nJ_add, nJ_sub, if_pos, if_neg, if_true, if_false, nL_0, nL_1, nL_2, nL_3, nL_4, nL_5, nL_6, nL_7, nL_8, nL_9, nL_10, nL_11, nL_12, nL_13, nL_14, nL_15, nL_16, nL_17, nL_18, nL_19, nL_20, nL_21, nL_22, nL_23, nL_24, nL_25, nL_26, nL_27, nL_28, nL_29, nL_30, nL_31, nL_32, nL_33, nL_34, nL_35, nL_36, nL_37, nL_38, nL_39, nL_40, nL_41, nL_42, nL_43, nL_44, nL_45, nL_46, nL_47, nL_48, nL_49, nL_50, nL_51, nL_52, nL_53, nL_54, nL_55, nL_56, nL_57, nL_58, nL_59, nL_60, nL_61, nL_62, nL_63, nL_64, nL_65, nL_66, nL_67, nL_68, nL_69, nL_70, nL_400, nL_402, nL_800, nL_2000]
  · show f_X14_meanForce_L11 n (th, ta, bs, ea, kd, nu, po, ln, tk, wr, er, et, dp, fn, gn, va, N, kp) T (nI (sumN (fun f => bitN N f * fo f) nf)) (nI (sumN (bitN N) nf)) (nI nf) 0 = _
    unfold f_X14_meanForce_L11 meanS
    obtain ⟨a, b⟩ := mean_le (N := N) hp
    by_cases c : sumN (bitN N) nf = 0
    · simp (disch := omega) only [c, p3, sb, nJ_of, nJ_lt, nJ_le, nJ_eq, nJ_clamp, nJ_add, nJ_sub, if_pos, if_neg, if_true, if_false, nL_0, nL_1, nL_2, nL_3, nL_4, nL_5, nL_6, nL_7, nL_8, nL_9, nL_10, nL_11, nL_12, nL_13, nL_14, nL_15, nL_16, nL_17, nL_18, nL_19, nL_20, nL_21, nL_22, nL_23, nL_24, nL_25, nL_26, nL_27, nL_28, nL_29, nL_30, nL_31, nL_32, nL_33, nL_34, nL_35, nL_36, nL_37, nL_38, nL_39, nL_40, nL_41, nL_42, nL_43, nL_44, nL_45, nL_46, nL_47, nL_48, nL_49, nL_50, nL_51, nL_52, nL_53, nL_54, nL_55, nL_56, nL_57, nL_58, nL_59, nL_60, nL_61, nL_62, nL_63, nL_64, nL_65, nL_66, nL_67, nL_68, nL_69, nL_70, nL_400, nL_402, nL_800, nL_2000]
    · rw [if_pos (div_ok' a c b)]
      simp (disch := omega) only [p3, sb, nJ_of, nJ_lt, nJ_le, nJ_eq, nJ_clamp, nJ_add, nJ_sub, if_pos, if_neg, if_true, if_false, nL_0, nL_1, nL_2, nL_3, nL_4, nL_5, nL_6, nL_7, nL_8, nL_9, nL_10, nL_11, nL_12, nL_13, nL_14, nL_15, nL_16, nL_17, nL_18, nL_19, nL_20, nL_21, nL_22, nL_23, nL_24, nL_25, nL_26, nL_27, nL_28, nL_29, nL_30, nL_31, nL_32, nL_33, nL_34, nL_35, nL_36, nL_37, nL_38, nL_39, nL_40, nL_41, nL_42, nL_43, nL_44, nL_45, nL_46, nL_47, nL_48, nL_49, nL_50, nL_51, nL_52, nL_53, nL_54, nL_55, nL_56, nL_57, nL_58, nL_59, nL_60, nL_61, nL_62, nL_63, nL_64, nL_65, nL_66, nL_67, nL_68, nL_69, nL_70, nL_400, nL_402, nL_800, nL_2000]
/-- what both digests are -/
def digN (N : Nat → Int32) (T : bX13) (nf ng : Nat) : Int64 :=
  dG N T (dF N (((((((((((((((1033 * 31 + Int32.toInt64 (nI nf)) * 31 + Int32.toInt64 (nI ng)) * 31 + Int32.toInt64 (N 0)) * 31 + Int32.toInt64 (N 1)) * 31 + Int32.toInt64 (N 2)) * 31 + Int32.toInt64 (N 3)) * 31 + Int32.toInt64 (N 4)) * 31 + Int32.toInt64 (N 5)) * 31 + Int32.toInt64 (N 7)) * 31 + Int32.toInt64 (N 6)) * 31 + Int32.toInt64 (sumI (fun g => N (28 + g)) ng)) * 31 + Int32.toInt64 (sumI (fun g => N (38 + g)) ng)) * 31 + Int32.toInt64 (sumI (fun g => N (48 + g)) ng)) * 31 + Int32.toInt64 (bstB (bestS (fun f => N (8 + f)) (fun f => ctN N T ng (strN N T f)) nf)))) nf) ng
theorem k_digG (hp : RPl F G T nf ng fo fr hr gr) (ht : RPt nf ng fr hr gr P N h) (hh : h < 1000000) (hn : 20 < n) (bh : bX12) (c : Int64) : iter (fun s : Int64 × Int32 => f_X12_digest_L238 n bh P F G s.1 s.2) n (c, nI 0) = some (dG N T c ng) := by
  have p2 := hp.2.1
  have p5 := hp.2.2.2.2.1
  refine iter_count _ (fun i => (dG N T c i, nI i)) ng _ (fun i hi => ?_) ?_ (by omega)
  · show f_X12_digest_L238 n bh P F G (dG N T c i) (nI i) = _
    unfold f_X12_digest_L238
    obtain ⟨w, w1, w2, w3⟩ := ht_str ht
    obtain ⟨t, u, a1, a2, a3, a4, a5, a6⟩ := ht_gs ht hi
    obtain ⟨b, b1, b2⟩ := ht_bitg ht hi
    have hl := lkN_le (N := N) (T := T) (N 2) i
    rw [w3] at hl
    simp (disch := omega) only [p5, k_sits hp ht hh hi, k_likes hp ht hh hi, w2, b2, a3, a4, k_one a1, k_one a2, k_one b1, k_one hl, dG, w3, a5, a6, sb, nJ_of, nJ_lt, nJ_le, nJ_eq, nJ_clamp, nJ_add, nJ_sub, if_pos, if_neg, if_true, if_false, nL_0, nL_1, nL_2, nL_3, nL_4, nL_5, nL_6, nL_7, nL_8, nL_9, nL_10, nL_11, nL_12, nL_13, nL_14, nL_15, nL_16, nL_17, nL_18, nL_19, nL_20, nL_21, nL_22, nL_23, nL_24, nL_25, nL_26, nL_27, nL_28, nL_29, nL_30, nL_31, nL_32, nL_33, nL_34, nL_35, nL_36, nL_37, nL_38, nL_39, nL_40, nL_41, nL_42, nL_43, nL_44, nL_45, nL_46, nL_47, nL_48, nL_49, nL_50, nL_51, nL_52, nL_53, nL_54, nL_55, nL_56, nL_57, nL_58, nL_59, nL_60, nL_61, nL_62, nL_63, nL_64, nL_65, nL_66, nL_67, nL_68, nL_69, nL_70, nL_400, nL_402, nL_800, nL_2000]
  · show f_X12_digest_L238 n bh P F G (dG N T c ng) (nI ng) = _
    unfold f_X12_digest_L238
    simp (disch := omega) only [p5, sb, nJ_of, nJ_lt, nJ_le, nJ_eq, nJ_clamp, nJ_add, nJ_sub, if_pos, if_neg, if_true, if_false, nL_0, nL_1, nL_2, nL_3, nL_4, nL_5, nL_6, nL_7, nL_8, nL_9, nL_10, nL_11, nL_12, nL_13, nL_14, nL_15, nL_16, nL_17, nL_18, nL_19, nL_20, nL_21, nL_22, nL_23, nL_24, nL_25, nL_26, nL_27, nL_28, nL_29, nL_30, nL_31, nL_32, nL_33, nL_34, nL_35, nL_36, nL_37, nL_38, nL_39, nL_40, nL_41, nL_42, nL_43, nL_44, nL_45, nL_46, nL_47, nL_48, nL_49, nL_50, nL_51, nL_52, nL_53, nL_54, nL_55, nL_56, nL_57, nL_58, nL_59, nL_60, nL_61, nL_62, nL_63, nL_64, nL_65, nL_66, nL_67, nL_68, nL_69, nL_70, nL_400, nL_402, nL_800, nL_2000]
theorem k_digF (hp : RPl F G T nf ng fo fr hr gr) (ht : RPt nf ng fr hr gr P N h) (hh : h < 1000000) (hn : 20 < n) (bh : bX12) (c : Int64) : iter (fun s : Int64 × Int32 => f_X12_digest_L174 n bh P F G s.1 s.2) n (c, nI 0) = some (dG N T (dF N c nf) ng) := by
  have p1 := hp.1
  have p3 := hp.2.2.1
  refine iter_count _ (fun i => (dF N c i, nI i)) nf _ (fun i hi => ?_) ?_ (by omega)
  · show f_X12_digest_L174 n bh P F G (dF N c i) (nI i) = _
    unfold f_X12_digest_L174
    obtain ⟨t, a1, a2, a3⟩ := ht_steep ht hi
    obtain ⟨b, b1, b2⟩ := ht_bit ht hi
    simp (disch := omega) only [p3, k_over hp ht hh hi, a2, k_one a1, b2, k_one b1, dF, a3, sb, nJ_of, nJ_lt, nJ_le, nJ_eq, nJ_clamp, nJ_add, nJ_sub, if_pos, if_neg, if_true, if_false, nL_0, nL_1, nL_2, nL_3, nL_4, nL_5, nL_6, nL_7, nL_8, nL_9, nL_10, nL_11, nL_12, nL_13, nL_14, nL_15, nL_16, nL_17, nL_18, nL_19, nL_20, nL_21, nL_22, nL_23, nL_24, nL_25, nL_26, nL_27, nL_28, nL_29, nL_30, nL_31, nL_32, nL_33, nL_34, nL_35, nL_36, nL_37, nL_38, nL_39, nL_40, nL_41, nL_42, nL_43, nL_44, nL_45, nL_46, nL_47, nL_48, nL_49, nL_50, nL_51, nL_52, nL_53, nL_54, nL_55, nL_56, nL_57, nL_58, nL_59, nL_60, nL_61, nL_62, nL_63, nL_64, nL_65, nL_66, nL_67, nL_68, nL_69, nL_70, nL_400, nL_402, nL_800, nL_2000]
  · show f_X12_digest_L174 n bh P F G (dF N c nf) (nI nf) = _
    unfold f_X12_digest_L174
    have e := k_digG hp ht hh hn bh (dF N c nf)
    simp (disch := omega) only [p3, e, sb, nJ_of, nJ_lt, nJ_le, nJ_eq, nJ_clamp, nJ_add, nJ_sub, if_pos, if_neg, if_true, if_false, nL_0, nL_1, nL_2, nL_3, nL_4, nL_5, nL_6, nL_7, nL_8, nL_9, nL_10, nL_11, nL_12, nL_13, nL_14, nL_15, nL_16, nL_17, nL_18, nL_19, nL_20, nL_21, nL_22, nL_23, nL_24, nL_25, nL_26, nL_27, nL_28, nL_29, nL_30, nL_31, nL_32, nL_33, nL_34, nL_35, nL_36, nL_37, nL_38, nL_39, nL_40, nL_41, nL_42, nL_43, nL_44, nL_45, nL_46, nL_47, nL_48, nL_49, nL_50, nL_51, nL_52, nL_53, nL_54, nL_55, nL_56, nL_57, nL_58, nL_59, nL_60, nL_61, nL_62, nL_63, nL_64, nL_65, nL_66, nL_67, nL_68, nL_69, nL_70, nL_400, nL_402, nL_800, nL_2000]
theorem k_digest (hp : RPl F G T nf ng fo fr hr gr) (ht : RPt nf ng fr hr gr P N h) (hh : h < 1000000) (hn : 20 < n) (bh : bX12) : f_X12_digest n bh P F G = some (digN N T nf ng) := by
  have p2 := hp.2.1
  have p3 := hp.2.2.1
  have p5 := hp.2.2.2.2.1
  have k1 := k_seated hp ht hh hn bh
  have k2 := k_countTrue (n := n) (f := X8_guestServed P) hn p2 (fun g hg => by obtain ⟨t, u, a1, a2, a3, a4, a5, a6⟩ := ht_gs ht hg; exact ⟨t, a1, a3⟩)
  have k3 := k_countTrue (n := n) (f := X8_guestStormed P) hn p2 (fun g hg => by obtain ⟨t, u, a1, a2, a3, a4, a5, a6⟩ := ht_gs ht hg; exact ⟨u, a2, a4⟩)
  have k4 : sumI (X8_guestServed P) ng = sumI (fun g => N (38 + g)) ng := sumI_congr (fun g hg => by obtain ⟨t, u, a1, a2, a3, a4, a5, a6⟩ := ht_gs ht hg; rw [a3, a5])
  have k5 : sumI (X8_guestStormed P) ng = sumI (fun g => N (48 + g)) ng := sumI_congr (fun g hg => by obtain ⟨t, u, a1, a2, a3, a4, a5, a6⟩ := ht_gs ht hg; rw [a4, a6])
  have k6 := k_best hp ht hh hn bh
  rw [k4] at k2
  rw [k5] at k3
  obtain ⟨t1, t2, ⟨w, -, w2, w3⟩, ⟨x, -, x2, x3⟩, ⟨c, -, c2, c3⟩, ⟨l, -, l2, l3⟩, ⟨s, -, s2, s3⟩, t8, t9, -⟩ := id ht
  unfold f_X12_digest f_X12_fronts f_X12_guests f_X12_hour f_X12_warmth f_X12_strength f_X12_charge f_X12_lemons f_X12_saucers f_X12_coins f_X12_storms f_X12_served f_X12_stormed
  simp only [sb, k1, k2, k3, k6, p3, p5]
  refine (k_digF hp ht hh hn bh _).trans ?_
  unfold digN
  rw [t1, t2, w2, w3, x2, x3, c2, c3, l2, l3, s2, s3, t8, t9]
theorem k_digGM (hp : RPl F G T nf ng fo fr hr gr) (ht : RPt nf ng fr hr gr P N h) (hn : 20 < n) (c : Int64) (w : Int32) (q : Nat → Int32) : iter (fun s : Int64 × Int32 => f_X14_digest_L244 n (th, ta, bs, ea, kd, nu, po, ln, tk, wr, er, et, dp, fn, gn, va, N, kp) T s.1 s.2 w N q) n (c, nI 0) = some (dG N T c ng, nI 0, N) := by
  have p2 := hp.2.1
  have p6 := hp.2.2.2.2.2.1
  refine iter_count _ (fun i => (dG N T c i, nI i)) ng _ (fun i hi => ?_) ?_ (by omega)
  · show f_X14_digest_L244 n (th, ta, bs, ea, kd, nu, po, ln, tk, wr, er, et, dp, fn, gn, va, N, kp) T (dG N T c i) (nI i) w N q = _
    unfold f_X14_digest_L244 f_X14_digest_R291
    have hl := lkN_le (N := N) (T := T) (N 2) i
    have hb := ht_bitg ht hi
    rw [k_likesM hp hi hb (ht_warm ht)]
    by_cases e : lkN N T (N 2) i = 0
    · simp (disch := omega) only [p6, e, dG, sb, nJ_of, nJ_lt, nJ_le, nJ_eq, nJ_clamp, nJ_add, nJ_sub, if_pos, if_neg, if_true, if_false, nL_0, nL_1, nL_2, nL_3, nL_4, nL_5, nL_6, nL_7, nL_8, nL_9, nL_10, nL_11, nL_12, nL_13, nL_14, nL_15, nL_16, nL_17, nL_18, nL_19, nL_20, nL_21, nL_22, nL_23, nL_24, nL_25, nL_26, nL_27, nL_28, nL_29, nL_30, nL_31, nL_32, nL_33, nL_34, nL_35, nL_36, nL_37, nL_38, nL_39, nL_40, nL_41, nL_42, nL_43, nL_44, nL_45, nL_46, nL_47, nL_48, nL_49, nL_50, nL_51, nL_52, nL_53, nL_54, nL_55, nL_56, nL_57, nL_58, nL_59, nL_60, nL_61, nL_62, nL_63, nL_64, nL_65, nL_66, nL_67, nL_68, nL_69, nL_70, nL_400, nL_402, nL_800, nL_2000]
    · have e1 : lkN N T (N 2) i = 1 := by omega
      simp (disch := omega) only [p6, e1, dG, sb, nJ_of, nJ_lt, nJ_le, nJ_eq, nJ_clamp, nJ_add, nJ_sub, if_pos, if_neg, if_true, if_false, nL_0, nL_1, nL_2, nL_3, nL_4, nL_5, nL_6, nL_7, nL_8, nL_9, nL_10, nL_11, nL_12, nL_13, nL_14, nL_15, nL_16, nL_17, nL_18, nL_19, nL_20, nL_21, nL_22, nL_23, nL_24, nL_25, nL_26, nL_27, nL_28, nL_29, nL_30, nL_31, nL_32, nL_33, nL_34, nL_35, nL_36, nL_37, nL_38, nL_39, nL_40, nL_41, nL_42, nL_43, nL_44, nL_45, nL_46, nL_47, nL_48, nL_49, nL_50, nL_51, nL_52, nL_53, nL_54, nL_55, nL_56, nL_57, nL_58, nL_59, nL_60, nL_61, nL_62, nL_63, nL_64, nL_65, nL_66, nL_67, nL_68, nL_69, nL_70, nL_400, nL_402, nL_800, nL_2000]
  · show f_X14_digest_L244 n (th, ta, bs, ea, kd, nu, po, ln, tk, wr, er, et, dp, fn, gn, va, N, kp) T (dG N T c ng) (nI ng) w N q = _
    unfold f_X14_digest_L244
    simp (disch := omega) only [p6, sb, nJ_of, nJ_lt, nJ_le, nJ_eq, nJ_clamp, nJ_add, nJ_sub, if_pos, if_neg, if_true, if_false, nL_0, nL_1, nL_2, nL_3, nL_4, nL_5, nL_6, nL_7, nL_8, nL_9, nL_10, nL_11, nL_12, nL_13, nL_14, nL_15, nL_16, nL_17, nL_18, nL_19, nL_20, nL_21, nL_22, nL_23, nL_24, nL_25, nL_26, nL_27, nL_28, nL_29, nL_30, nL_31, nL_32, nL_33, nL_34, nL_35, nL_36, nL_37, nL_38, nL_39, nL_40, nL_41, nL_42, nL_43, nL_44, nL_45, nL_46, nL_47, nL_48, nL_49, nL_50, nL_51, nL_52, nL_53, nL_54, nL_55, nL_56, nL_57, nL_58, nL_59, nL_60, nL_61, nL_62, nL_63, nL_64, nL_65, nL_66, nL_67, nL_68, nL_69, nL_70, nL_400, nL_402, nL_800, nL_2000]
theorem k_digFM (hp : RPl F G T nf ng fo fr hr gr) (ht : RPt nf ng fr hr gr P N h) (hn : 20 < n) (c : Int64) (w : Int32) (q : Nat → Int32) : iter (fun s : Int64 × Int32 => f_X14_digest_L189 n (th, ta, bs, ea, kd, nu, po, ln, tk, wr, er, et, dp, fn, gn, va, N, kp) T s.1 s.2 w N q) n (c, nI 0) = some (dG N T (dF N c nf) ng, nI 0, N) := by
  have p1 := hp.1
  have p4 := hp.2.2.2.1
  refine iter_count _ (fun i => (dF N c i, nI i)) nf _ (fun i hi => ?_) ?_ (by omega)
  · show f_X14_digest_L189 n (th, ta, bs, ea, kd, nu, po, ln, tk, wr, er, et, dp, fn, gn, va, N, kp) T (dF N c i) (nI i) w N q = _
    unfold f_X14_digest_L189
    simp (disch := omega) only [p4, dF, sb, nJ_of, nJ_lt, nJ_le, nJ_eq, nJ_clamp, nJ_add, nJ_sub, if_pos, if_neg, if_true, if_false, nL_0, nL_1, nL_2, nL_3, nL_4, nL_5, nL_6, nL_7, nL_8, nL_9, nL_10, nL_11, nL_12, nL_13, nL_14, nL_15, nL_16, nL_17, nL_18, nL_19, nL_20, nL_21, nL_22, nL_23, nL_24, nL_25, nL_26, nL_27, nL_28, nL_29, nL_30, nL_31, nL_32, nL_33, nL_34, nL_35, nL_36, nL_37, nL_38, nL_39, nL_40, nL_41, nL_42, nL_43, nL_44, nL_45, nL_46, nL_47, nL_48, nL_49, nL_50, nL_51, nL_52, nL_53, nL_54, nL_55, nL_56, nL_57, nL_58, nL_59, nL_60, nL_61, nL_62, nL_63, nL_64, nL_65, nL_66, nL_67, nL_68, nL_69, nL_70, nL_400, nL_402, nL_800, nL_2000]
  · show f_X14_digest_L189 n (th, ta, bs, ea, kd, nu, po, ln, tk, wr, er, et, dp, fn, gn, va, N, kp) T (dF N c nf) (nI nf) w N q = _
    unfold f_X14_digest_L189
    have e := k_digGM (th := th) (ta := ta) (bs := bs) (ea := ea) (kd := kd) (nu := nu) (po := po) (ln := ln) (tk := tk) (wr := wr) (er := er) (et := et) (dp := dp) (fn := fn) (gn := gn) (va := va) (kp := kp) hp ht hn (dF N c nf) w q
    simp (disch := omega) only [p4, e, sb, nJ_of, nJ_lt, nJ_le, nJ_eq, nJ_clamp, nJ_add, nJ_sub, if_pos, if_neg, if_true, if_false, nL_0, nL_1, nL_2, nL_3, nL_4, nL_5, nL_6, nL_7, nL_8, nL_9, nL_10, nL_11, nL_12, nL_13, nL_14, nL_15, nL_16, nL_17, nL_18, nL_19, nL_20, nL_21, nL_22, nL_23, nL_24, nL_25, nL_26, nL_27, nL_28, nL_29, nL_30, nL_31, nL_32, nL_33, nL_34, nL_35, nL_36, nL_37, nL_38, nL_39, nL_40, nL_41, nL_42, nL_43, nL_44, nL_45, nL_46, nL_47, nL_48, nL_49, nL_50, nL_51, nL_52, nL_53, nL_54, nL_55, nL_56, nL_57, nL_58, nL_59, nL_60, nL_61, nL_62, nL_63, nL_64, nL_65, nL_66, nL_67, nL_68, nL_69, nL_70, nL_400, nL_402, nL_800, nL_2000]
theorem k_digAM (hp : RPl F G T nf ng fo fr hr gr) (ht : RPt nf ng fr hr gr P N h) (hn : 20 < n) (c : Int64) (w : Int32) (q : Nat → Int32) : iter (fun s : Int64 × Int32 => f_X14_digest_L156 n (th, ta, bs, ea, kd, nu, po, ln, tk, wr, er, et, dp, fn, gn, va, N, kp) T s.1 14 s.2 w N q) n (c, nI 0) = some (dG N T (dF N (dA q c 14) nf) ng, nI 0, N) := by
  refine iter_count _ (fun i => (dA q c i, nI i)) 14 _ (fun i hi => ?_) ?_ (by omega)
  · show f_X14_digest_L156 n (th, ta, bs, ea, kd, nu, po, ln, tk, wr, er, et, dp, fn, gn, va, N, kp) T (dA q c i) 14 (nI i) w N q = _
    unfold f_X14_digest_L156
    simp (disch := omega) only [dA, sb, nJ_of, nJ_lt, nJ_le, nJ_eq, nJ_clamp, nJ_add, nJ_sub, if_pos, if_neg, if_true, if_false, nL_0, nL_1, nL_2, nL_3, nL_4, nL_5, nL_6, nL_7, nL_8, nL_9, nL_10, nL_11, nL_12, nL_13, nL_14, nL_15, nL_16, nL_17, nL_18, nL_19, nL_20, nL_21, nL_22, nL_23, nL_24, nL_25, nL_26, nL_27, nL_28, nL_29, nL_30, nL_31, nL_32, nL_33, nL_34, nL_35, nL_36, nL_37, nL_38, nL_39, nL_40, nL_41, nL_42, nL_43, nL_44, nL_45, nL_46, nL_47, nL_48, nL_49, nL_50, nL_51, nL_52, nL_53, nL_54, nL_55, nL_56, nL_57, nL_58, nL_59, nL_60, nL_61, nL_62, nL_63, nL_64, nL_65, nL_66, nL_67, nL_68, nL_69, nL_70, nL_400, nL_402, nL_800, nL_2000]
  · show f_X14_digest_L156 n (th, ta, bs, ea, kd, nu, po, ln, tk, wr, er, et, dp, fn, gn, va, N, kp) T (dA q c 14) 14 (nI 14) w N q = _
    unfold f_X14_digest_L156
    have e := k_digFM (th := th) (ta := ta) (bs := bs) (ea := ea) (kd := kd) (nu := nu) (po := po) (ln := ln) (tk := tk) (wr := wr) (er := er) (et := et) (dp := dp) (fn := fn) (gn := gn) (va := va) (kp := kp) hp ht hn (dA q c 14) w q
    simp (disch := omega) only [e, sb, nJ_of, nJ_lt, nJ_le, nJ_eq, nJ_clamp, nJ_add, nJ_sub, if_pos, if_neg, if_true, if_false, nL_0, nL_1, nL_2, nL_3, nL_4, nL_5, nL_6, nL_7, nL_8, nL_9, nL_10, nL_11, nL_12, nL_13, nL_14, nL_15, nL_16, nL_17, nL_18, nL_19, nL_20, nL_21, nL_22, nL_23, nL_24, nL_25, nL_26, nL_27, nL_28, nL_29, nL_30, nL_31, nL_32, nL_33, nL_34, nL_35, nL_36, nL_37, nL_38, nL_39, nL_40, nL_41, nL_42, nL_43, nL_44, nL_45, nL_46, nL_47, nL_48, nL_49, nL_50, nL_51, nL_52, nL_53, nL_54, nL_55, nL_56, nL_57, nL_58, nL_59, nL_60, nL_61, nL_62, nL_63, nL_64, nL_65, nL_66, nL_67, nL_68, nL_69, nL_70, nL_400, nL_402, nL_800, nL_2000]
theorem k_digestM (hp : RPl F G T nf ng fo fr hr gr) (ht : RPt nf ng fr hr gr P N h) (hn : 20 < n) : f_X14_digest n (th, ta, bs, ea, kd, nu, po, ln, tk, wr, er, et, dp, fn, gn, va, N, kp) T = some (digN N T nf ng, nI 0, N) := by
  have p2 := hp.2.1
  have p4 := hp.2.2.2.1
  have p6 := hp.2.2.2.2.2.1
  have w1 := k_with (N := N) (th := th) (ta := ta) (bs := bs) (ea := ea) (kd := kd) (nu := nu) (po := po) (ln := ln) (tk := tk) (wr := wr) (er := er) (et := et) (dp := dp) (fn := fn) (gn := gn) (va := va) (kp := kp) (c := 28) p2 p6 hn (by omega)
  have w2 := k_with (N := N) (th := th) (ta := ta) (bs := bs) (ea := ea) (kd := kd) (nu := nu) (po := po) (ln := ln) (tk := tk) (wr := wr) (er := er) (et := et) (dp := dp) (fn := fn) (gn := gn) (va := va) (kp := kp) (c := 38) p2 p6 hn (by omega)
  have w3 := k_with (N := N) (th := th) (ta := ta) (bs := bs) (ea := ea) (kd := kd) (nu := nu) (po := po) (ln := ln) (tk := tk) (wr := wr) (er := er) (et := et) (dp := dp) (fn := fn) (gn := gn) (va := va) (kp := kp) (c := 48) p2 p6 hn (by omega)
  have w4 := k_bestM (th := th) (ta := ta) (bs := bs) (ea := ea) (kd := kd) (nu := nu) (po := po) (ln := ln) (tk := tk) (wr := wr) (er := er) (et := et) (dp := dp) (fn := fn) (gn := gn) (va := va) (kp := kp) hp ht hn
  unfold f_X14_digest
  simp (disch := omega) only [w1, w2, w3, w4, X14_now, X14_thrown, p4, p6, sb, nJ_of, nJ_lt, nJ_le, nJ_eq, nJ_clamp, nJ_add, nJ_sub, if_pos, if_neg, if_true, if_false, nL_0, nL_1, nL_2, nL_3, nL_4, nL_5, nL_6, nL_7, nL_8, nL_9, nL_10, nL_11, nL_12, nL_13, nL_14, nL_15, nL_16, nL_17, nL_18, nL_19, nL_20, nL_21, nL_22, nL_23, nL_24, nL_25, nL_26, nL_27, nL_28, nL_29, nL_30, nL_31, nL_32, nL_33, nL_34, nL_35, nL_36, nL_37, nL_38, nL_39, nL_40, nL_41, nL_42, nL_43, nL_44, nL_45, nL_46, nL_47, nL_48, nL_49, nL_50, nL_51, nL_52, nL_53, nL_54, nL_55, nL_56, nL_57, nL_58, nL_59, nL_60, nL_61, nL_62, nL_63, nL_64, nL_65, nL_66, nL_67, nL_68, nL_69, nL_70, nL_400, nL_402, nL_800, nL_2000]
  refine (k_digAM (th := th) (ta := ta) (bs := bs) (ea := ea) (kd := kd) (nu := nu) (po := po) (ln := ln) (tk := tk) (wr := wr) (er := er) (et := et) (dp := dp) (fn := fn) (gn := gn) (va := va) (kp := kp) hp ht hn _ _ _).trans ?_
  unfold digN
  rfl
end P4
