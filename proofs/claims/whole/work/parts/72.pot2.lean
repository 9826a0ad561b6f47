/-! counts, the best front, the mean force -/
theorem sumI_nI (f : Nat → Nat) : ∀ n : Nat, sumI (fun g => nI (f g)) n = nI (sumN f n)
  | 0 => rfl
  | n + 1 => by rw [sumI_s, sumI_nI f n, nI_add]; rfl
def bstR (o : Option (Nat × Nat)) (i c : Nat) : Option (Nat × Nat) := match o with
  | none => some (i, c)
  | some (b, m) => if c ≤ m then some (b, m) else some (i, c)
def bestS (ov : Nat → Int32) (ct : Nat → Nat) : Nat → Option (Nat × Nat)
  | 0 => none
  | i + 1 => if ov i = nI 0 then bestS ov ct i else bstR (bestS ov ct i) i (ct i)
def bstB : Option (Nat × Nat) → Int32
  | none => -nI 1
  | some (b, _) => nI b
def bstC : Option (Nat × Nat) → Int32
  | none => -nI 1
  | some (_, m) => nI m
def bstM : Option (Nat × Nat) → Int32
  | none => nI 0
  | some (_, m) => nI m
theorem bestS_le {ov : Nat → Int32} {ct : Nat → Nat} (hc : ∀ i, ct i ≤ 10) : ∀ {n b m : Nat}, bestS ov ct n = some (b, m) → b < n ∧ m ≤ 10
  | 0, b, m, h => by cases h
  | n + 1, b, m, h => by
    unfold bestS at h
    by_cases c : ov n = nI 0
    · rw [if_pos c] at h
      have := bestS_le hc h
      exact ⟨by omega, this.2⟩
    · rw [if_neg c] at h
      cases e : bestS ov ct n with
      | none =>
        rw [e] at h
        unfold bstR at h
        cases h
        exact ⟨by omega, hc n⟩
      | some q =>
        obtain ⟨b', m'⟩ := q
        rw [e] at h
        unfold bstR at h
        dsimp only at h
        by_cases c2 : ct n ≤ m'
        · rw [if_pos c2] at h
          cases h
          have := bestS_le hc e
          exact ⟨by omega, this.2⟩
        · rw [if_neg c2] at h
          cases h
          exact ⟨by omega, hc n⟩
section P2
variable {F : bX2} {G : bX4} {T : bX13} {nf ng : Nat} {fo fr hr gr : Nat → Nat} {P : bX8} {N : Nat → Int32} {h n : Nat} {th bs ea tk wr er et dp : Int32} {ta kd nu po ln fn gn va kp : Nat → Int32}
theorem k_seated (hp : RPl F G T nf ng fo fr hr gr) (ht : RPt nf ng fr hr gr P N h) (hh : h < 1000000) (hn : 20 < n) (bh : bX12) : f_X12_seatedGuests n bh P G = some (sumI (fun g => N (28 + g)) ng) := by
  have p2 := hp.2.1
  have p5 := hp.2.2.2.2.1
  unfold f_X12_seatedGuests
  refine iter_count _ (fun i => (sumI (fun g => N (28 + g)) i, nI i)) ng _ (fun i hi => ?_) ?_ (by omega)
  · obtain ⟨t, h1, h2⟩ := ht_bitg ht hi
    show f_X12_seatedGuests_L4 n bh P G (sumI (fun g => N (28 + g)) i) (nI i) = _
    unfold f_X12_seatedGuests_L4
    simp (disch := omega) only [k_sits hp ht hh hi, h2, k_one h1, p5, sumI_s, sb, nJ_of, nJ_lt, nJ_le, nJ_eq, nJ_clamp, nJ_add, nJ_sub, if_pos, if_neg, if_true, if_false, nL_0, nL_1, nL_2, nL_3, nL_4, nL_5, nL_6, nL_7, nL_8, nL_9, nL_10, nL_11, nL_12, nL_13, nL_14, nL_15, nL_16, nL_17, nL_18, nL_19, nL_20, nL_21, nL_22, nL_23, nL_24, nL_25, nL_26, nL_27, nL_28, nL_29, nL_30, nL_31, nL_32, nL_33, nL_34, nL_35, nL_36, nL_37, nL_38, nL_39, nL_40, nL_41, nL_42, nL_43, nL_44, nL_45, nL_46, nL_47, nL_48, nL_49, nL_50, nL_51, nL_52, nL_53, nL_54, nL_55, nL_56, nL_57, nL_58, nL_59, nL_60, nL_61, nL_62, nL_63, nL_64, nL_65, nL_66, nL_67, nL_68, nL_69, nL_70, nL_400, nL_402, nL_800, nL_2000]
  · show f_X12_seatedGuests_L4 n bh P G (sumI (fun g => N (28 + g)) ng) (nI ng) = _
    unfold f_X12_seatedGuests_L4
    simp (disch := omega) only [p5, sb, nJ_of, nJ_lt, nJ_le, nJ_eq, nJ_clamp, nJ_add, nJ_sub, if_pos, if_neg, if_true, if_false, nL_0, nL_1, nL_2, nL_3, nL_4, nL_5, nL_6, nL_7, nL_8, nL_9, nL_10, nL_11, nL_12, nL_13, nL_14, nL_15, nL_16, nL_17, nL_18, nL_19, nL_20, nL_21, nL_22, nL_23, nL_24, nL_25, nL_26, nL_27, nL_28, nL_29, nL_30, nL_31, nL_32, nL_33, nL_34, nL_35, nL_36, nL_37, nL_38, nL_39, nL_40, nL_41, nL_42, nL_43, nL_44, nL_45, nL_46, nL_47, nL_48, nL_49, nL_50, nL_51, nL_52, nL_53, nL_54, nL_55, nL_56, nL_57, nL_58, nL_59, nL_60, nL_61, nL_62, nL_63, nL_64, nL_65, nL_66, nL_67, nL_68, nL_69, nL_70, nL_400, nL_402, nL_800, nL_2000]
theorem k_countTrue {f : Nat → Int32} (hn : 20 < n) (p2 : ng ≤ 10) (hf : ∀ g, g < ng → ∃ t, t ≤ 1 ∧ f g = nI t) : f_X12_countTrue n (nI ng) 10 f = some (sumI f ng) := by
  unfold f_X12_countTrue
  refine iter_count _ (fun i => (sumI f i, nI i)) ng _ (fun i hi => ?_) ?_ (by omega)
  · obtain ⟨t, h1, h2⟩ := hf i hi
    show f_X12_countTrue_L4 n (nI ng) 10 f (nI ng) (sumI f i) (nI i) = _
    unfold f_X12_countTrue_L4
    simp (disch := omega) only [h2, k_one h1, sumI_s, sb, nJ_of, nJ_lt, nJ_le, nJ_eq, nJ_clamp, nJ_add, nJ_sub, if_pos, if_neg, if_true, if_false, nL_0, nL_1, nL_2, nL_3, nL_4, nL_5, nL_6, nL_7, nL_8, nL_9, nL_10, nL_11, nL_12, nL_13, nL_14, nL_15, nL_16, nL_17, nL_18, nL_19, nL_20, nL_21, nL_22, nL_23, nL_24, nL_25, nL_26, nL_27, nL_28, nL_29, nL_30, nL_31, nL_32, nL_33, nL_34, nL_35, nL_36, nL_37, nL_38, nL_39, nL_40, nL_41, nL_42, nL_43, nL_44, nL_45, nL_46, nL_47, nL_48, nL_49, nL_50, nL_51, nL_52, nL_53, nL_54, nL_55, nL_56, nL_57, nL_58, nL_59, nL_60, nL_61, nL_62, nL_63, nL_64, nL_65, nL_66, nL_67, nL_68, nL_69, nL_70, nL_400, nL_402, nL_800, nL_2000]
  · show f_X12_countTrue_L4 n (nI ng) 10 f (nI ng) (sumI f ng) (nI ng) = _
    unfold f_X12_countTrue_L4
    simp (disch := omega) only [sb, nJ_of, nJ_lt, nJ_le, nJ_eq, nJ_clamp, nJ_add, nJ_sub, if_pos, if_neg, if_true, if_false, nL_0, nL_1, nL_2, nL_3, nL_4, nL_5, nL_6, nL_7, nL_8, nL_9, nL_10, nL_11, nL_12, nL_13, nL_14, nL_15, nL_16, nL_17, nL_18, nL_19, nL_20, nL_21, nL_22, nL_23, nL_24, nL_25, nL_26, nL_27, nL_28, nL_29, nL_30, nL_31, nL_32, nL_33, nL_34, nL_35, nL_36, nL_37, nL_38, nL_39, nL_40, nL_41, nL_42, nL_43, nL_44, nL_45, nL_46, nL_47, nL_48, nL_49, nL_50, nL_51, nL_52, nL_53, nL_54, nL_55, nL_56, nL_57, nL_58, nL_59, nL_60, nL_61, nL_62, nL_63, nL_64, nL_65, nL_66, nL_67, nL_68, nL_69, nL_70, nL_400, nL_402, nL_800, nL_2000]
theorem k_with (p2 : ng ≤ 10) (p6 : X13_guests T = nI ng) (hn : 20 < n) {c : Nat} (hc : c ≤ 48) : f_X14_guestsWith n (nI c) (th, ta, bs, ea, kd, nu, po, ln, tk, wr, er, et, dp, fn, gn, va, N, kp) T = some (sumI (fun g => N (c + g)) ng) := by
  unfold f_X14_guestsWith
  refine iter_count _ (fun i => (sumI (fun g => N (c + g)) i, nI i)) ng _ (fun i hi => ?_) ?_ (by omega)
  · show f_X14_guestsWith_L4 n (nI c) (th, ta, bs, ea, kd, nu, po, ln, tk, wr, er, et, dp, fn, gn, va, N, kp) T (nI c) (sumI (fun g => N (c + g)) i) (nI i) = _
    unfold f_X14_guestsWith_L4
    simp (disch := omega) only [p6, X14_now, sumI_s, sb, nJ_of, nJ_lt, nJ_le, nJ_eq, nJ_clamp, nJ_add, nJ_sub, if_pos, if_neg, if_true, if_false, nL_0, nL_1, nL_2, nL_3, nL_4, nL_5, nL_6, nL_7, nL_8, nL_9, nL_10, nL_11, nL_12, nL_13, nL_14, nL_15, nL_16, nL_17, nL_18, nL_19, nL_20, nL_21, nL_22, nL_23, nL_24, nL_25, nL_26, nL_27, nL_28, nL_29, nL_30, nL_31, nL_32, nL_33, nL_34, nL_35, nL_36, nL_37, nL_38, nL_39, nL_40, nL_41, nL_42, nL_43, nL_44, nL_45, nL_46, nL_47, nL_48, nL_49, nL_50, nL_51, nL_52, nL_53, nL_54, nL_55, nL_56, nL_57, nL_58, nL_59, nL_60, nL_61, nL_62, nL_63, nL_64, nL_65, nL_66, nL_67, nL_68, nL_69, nL_70, nL_400, nL_402, nL_800, nL_2000]
  · show f_X14_guestsWith_L4 n (nI c) (th, ta, bs, ea, kd, nu, po, ln, tk, wr, er, et, dp, fn, gn, va, N, kp) T (nI c) (sumI (fun g => N (c + g)) ng) (nI ng) = _
    unfold f_X14_guestsWith_L4
    simp (disch := omega) only [p6, sb, nJ_of, nJ_lt, nJ_le, nJ_eq, nJ_clamp, nJ_add, nJ_sub, if_pos, if_neg, if_true, if_false, nL_0, nL_1, nL_2, nL_3, nL_4, nL_5, nL_6, nL_7, nL_8, nL_9, nL_10, nL_11, nL_12, nL_13, nL_14, nL_15, nL_16, nL_17, nL_18, nL_19, nL_20, nL_21, nL_22, nL_23, nL_24, nL_25, nL_26, nL_27, nL_28, nL_29, nL_30, nL_31, nL_32, nL_33, nL_34, nL_35, nL_36, nL_37, nL_38, nL_39, nL_40, nL_41, nL_42, nL_43, nL_44, nL_45, nL_46, nL_47, nL_48, nL_49, nL_50, nL_51, nL_52, nL_53, nL_54, nL_55, nL_56, nL_57, nL_58, nL_59, nL_60, nL_61, nL_62, nL_63, nL_64, nL_65, nL_66, nL_67, nL_68, nL_69, nL_70, nL_400, nL_402, nL_800, nL_2000]
/-- how many guests tea with the front f would please -/
def ctN (N : Nat → Int32) (T : bX13) (ng : Nat) (x : Int32) : Nat := sumN (lkN N T x) ng
theorem ctN_le (p2 : ng ≤ 10) (x : Int32) : ctN N T ng x ≤ 10 := by
  have := sumN_le (f := lkN N T x) (c := 1) (n := ng) (fun i _ => lkN_le x i)
  unfold ctN
  omega
def strN (N : Nat → Int32) (T : bX13) (f : Nat) : Int32 := if N 2 + X13_force T f < nI 30 then N 2 + X13_force T f else nI 30
theorem k_strength (hp : RPl F G T nf ng fo fr hr gr) (ht : RPt nf ng fr hr gr P N h) {f : Nat} (hf : f < nf) : f_X8_strengthWith (nI f) P F = some (strN N T f) := by
  obtain ⟨p1, p2, p3, p4, p5, p6, p7, p8⟩ := hp
  obtain ⟨-, -, -, ⟨w, w1, w2, w3⟩, -⟩ := ht
  obtain ⟨-, -, q3, q4, -⟩ := p7 f hf
  unfold f_X8_strengthWith f_X8_strengthWith_R30 strN
  rw [k_fhas p3 p1 hf, q4, w3]
  simp (disch := omega) only [w2, q3, sb, nJ_of, nJ_lt, nJ_le, nJ_eq, nJ_clamp, nJ_add, nJ_sub, if_pos, if_neg, if_true, if_false, nL_0, nL_1, nL_2, nL_3, nL_4, nL_5, nL_6, nL_7, nL_8, nL_9, nL_10, nL_11, nL_12, nL_13, nL_14, nL_15, nL_16, nL_17, nL_18, nL_19, nL_20, nL_21, nL_22, nL_23, nL_24, nL_25, nL_26, nL_27, nL_28, nL_29, nL_30, nL_31, nL_32, nL_33, nL_34, nL_35, nL_36, nL_37, nL_38, nL_39, nL_40, nL_41, nL_42, nL_43, nL_44, nL_45, nL_46, nL_47, nL_48, nL_49, nL_50, nL_51, nL_52, nL_53, nL_54, nL_55, nL_56, nL_57, nL_58, nL_59, nL_60, nL_61, nL_62, nL_63, nL_64, nL_65, nL_66, nL_67, nL_68, nL_69, nL_70, nL_400, nL_402, nL_800, nL_2000]
theorem k_cont (hp : RPl F G T nf ng fo fr hr gr) (ht : RPt nf ng fr hr gr P N h) (hh : h < 1000000) (hn : 20 < n) {f : Nat} (hf : f < nf) : f_X8_contentIfSteeped n (nI f) P F G = some (nI (ctN N T ng (strN N T f))) := by
  have p2 := hp.2.1
  have p5 := hp.2.2.2.2.1
  unfold f_X8_contentIfSteeped
  rw [k_strength hp ht hf]
  show iter _ n (0, 0) = _
  refine iter_count _ (fun i => (nI (sumN (lkN N T (strN N T f)) i), nI i)) ng _ (fun i hi => ?_) ?_ (by omega)
  · show f_X8_contentIfSteeped_L11 n (nI f) P F G (strN N T f) (nI (sumN (lkN N T (strN N T f)) i)) (nI i) = _
    unfold f_X8_contentIfSteeped_L11
    simp (disch := omega) only [k_likes hp ht hh hi, k_one (lkN_le (N := N) (T := T) (strN N T f) i), p5, sumN, sb, nJ_of, nJ_lt, nJ_le, nJ_eq, nJ_clamp, nJ_add, nJ_sub, if_pos, if_neg, if_true, if_false, nL_0, nL_1, nL_2, nL_3, nL_4, nL_5, nL_6, nL_7, nL_8, nL_9, nL_10, nL_11, nL_12, nL_13, nL_14, nL_15, nL_16, nL_17, nL_18, nL_19, nL_20, nL_21, nL_22, nL_23, nL_24, nL_25, nL_26, nL_27, nL_28, nL_29, nL_30, nL_31, nL_32, nL_33, nL_34, nL_35, nL_36, nL_37, nL_38, nL_39, nL_40, nL_41, nL_42, nL_43, nL_44, nL_45, nL_46, nL_47, nL_48, nL_49, nL_50, nL_51, nL_52, nL_53, nL_54, nL_55, nL_56, nL_57, nL_58, nL_59, nL_60, nL_61, nL_62, nL_63, nL_64, nL_65, nL_66, nL_67, nL_68, nL_69, nL_70, nL_400, nL_402, nL_800, nL_2000]
  · show f_X8_contentIfSteeped_L11 n (nI f) P F G (strN N T f) (nI (sumN (lkN N T (strN N T f)) ng)) (nI ng) = _
    unfold f_X8_contentIfSteeped_L11
    simp (disch := omega) only [p5, ctN, sb, nJ_of, nJ_lt, nJ_le, nJ_eq, nJ_clamp, nJ_add, nJ_sub, if_pos, if_neg, if_true, if_false, nL_0, nL_1, nL_2, nL_3, nL_4, nL_5, nL_6, nL_7, nL_8, nL_9, nL_10, nL_11, nL_12, nL_13, nL_14, nL_15, nL_16, nL_17, nL_18, nL_19, nL_20, nL_21, nL_22, nL_23, nL_24, nL_25, nL_26, nL_27, nL_28, nL_29, nL_30, nL_31, nL_32, nL_33, nL_34, nL_35, nL_36, nL_37, nL_38, nL_39, nL_40, nL_41, nL_42, nL_43, nL_44, nL_45, nL_46, nL_47, nL_48, nL_49, nL_50, nL_51, nL_52, nL_53, nL_54, nL_55, nL_56, nL_57, nL_58, nL_59, nL_60, nL_61, nL_62, nL_63, nL_64, nL_65, nL_66, nL_67, nL_68, nL_69, nL_70, nL_400, nL_402, nL_800, nL_2000]
theorem k_best (hp : RPl F G T nf ng fo fr hr gr) (ht : RPt nf ng fr hr gr P N h) (hh : h < 1000000) (hn : 20 < n) (bh : bX12) : f_X12_bestToSteep n bh P F G = some (bstB (bestS (fun f => N (8 + f)) (fun f => ctN N T ng (strN N T f)) nf)) := by
  have p1 := hp.1
  have p2 := hp.2.1
  have p3 := hp.2.2.1
  have hc : ∀ i, (fun f => ctN N T ng (strN N T f)) i ≤ 10 := fun i => ctN_le p2 _
  unfold f_X12_bestToSteep
  refine iter_count _ (fun i => (bstB (bestS (fun f => N (8 + f)) (fun f => ctN N T ng (strN N T f)) i), bstC (bestS (fun f => N (8 + f)) (fun f => ctN N T ng (strN N T f)) i), nI i)) nf _ (fun i hi => ?_) ?_ (by omega)
  · show f_X12_bestToSteep_L6 n bh P F G (bstB (bestS (fun f => N (8 + f)) (fun f => ctN N T ng (strN N T f)) i)) (bstC (bestS (fun f => N (8 + f)) (fun f => ctN N T ng (strN N T f)) i)) (nI i) = _
    have hci := hc i
    dsimp only at hci ⊢
    unfold f_X12_bestToSteep_L6
    rw [k_over hp ht hh hi, k_cont hp ht hh hn hi]
    obtain ⟨t, h1, h2⟩ := ht_bit ht hi
    rw [bestS]
    cases e : bestS (fun f => N (8 + f)) (fun f => ctN N T ng (strN N T f)) i with
    | none =>
      by_cases c : t = 0
      · simp (disch := omega) only [h2, c, p3, bstR, bstB, bstC, sb, nJ_of, nJ_lt, nJ_le, nJ_eq, nJ_clamp, nJ_add, nJ_sub, if_pos, if_neg, if_true, if_false, nL_0, nL_1, nL_2, nL_3, nL_4, nL_5, nL_6, nL_7, nL_8, nL_9, nL_10, nL_11, nL_12, nL_13, nL_14, nL_15, nL_16, nL_17, nL_18, nL_19, nL_20, nL_21, nL_22, nL_23, nL_24, nL_25, nL_26, nL_27, nL_28, nL_29, nL_30, nL_31, nL_32, nL_33, nL_34, nL_35, nL_36, nL_37, nL_38, nL_39, nL_40, nL_41, nL_42, nL_43, nL_44, nL_45, nL_46, nL_47, nL_48, nL_49, nL_50, nL_51, nL_52, nL_53, nL_54, nL_55, nL_56, nL_57, nL_58, nL_59, nL_60, nL_61, nL_62, nL_63, nL_64, nL_65, nL_66, nL_67, nL_68, nL_69, nL_70, nL_400, nL_402, nL_800, nL_2000]
      · simp (disch := omega) only [h2, p3, bstR, bstB, bstC, nJ_lem1, if_false, sb, nJ_of, nJ_lt, nJ_le, nJ_eq, nJ_clamp, nJ_add, nJ_sub, if_pos, if_neg, if_true, if_false, nL_0, nL_1, nL_2, nL_3, nL_4, nL_5, nL_6, nL_7, nL_8, nL_9, nL_10, nL_11, nL_12, nL_13, nL_14, nL_15, nL_16, nL_17, nL_18, nL_19, nL_20, nL_21, nL_22, nL_23, nL_24, nL_25, nL_26, nL_27, nL_28, nL_29, nL_30, nL_31, nL_32, nL_33, nL_34, nL_35, nL_36, nL_37, nL_38, nL_39, nL_40, nL_41, nL_42, nL_43, nL_44, nL_45, nL_46, nL_47, nL_48, nL_49, nL_50, nL_51, nL_52, nL_53, nL_54, nL_55, nL_56, nL_57, nL_58, nL_59, nL_60, nL_61, nL_62, nL_63, nL_64, nL_65, nL_66, nL_67, nL_68, nL_69, nL_70, nL_400, nL_402, nL_800, nL_2000]
    | some q =>
      obtain ⟨b, m⟩ := q
      have hb := bestS_le hc e
      by_cases c : t = 0
      · simp (disch := omega) only [h2, c, p3, bstR, bstB, bstC, sb, nJ_of, nJ_lt, nJ_le, nJ_eq, nJ_clamp, nJ_add, nJ_sub, if_pos, if_neg, if_true, if_false, nL_0, nL_1, nL_2, nL_3, nL_4, nL_5, nL_6, nL_7, nL_8, nL_9, nL_10, nL_11, nL_12, nL_13, nL_14, nL_15, nL_16, nL_17, nL_18, nL_19, nL_20, nL_21, nL_22, nL_23, nL_24, nL_25, nL_26, nL_27, nL_28, nL_29, nL_30, nL_31, nL_32, nL_33, nL_34, nL_35, nL_36, nL_37, nL_38, nL_39, nL_40, nL_41, nL_42, nL_43, nL_44, nL_45, nL_46, nL_47, nL_48, nL_49, nL_50, nL_51, nL_52, nL_53, nL_54, nL_55, nL_56, nL_57, nL_58, nL_59, nL_60, nL_61, nL_62, nL_63, nL_64, nL_65, nL_66, nL_67, nL_68, nL_69, nL_70, nL_400, nL_402, nL_800, nL_2000]
      · by_cases c2 : ctN N T ng (strN N T i) ≤ m
        · simp (disch := omega) only [h2, p3, bstR, bstB, bstC, sb, nJ_of, nJ_lt, nJ_le, nJ_eq, nJ_clamp, nJ_add, nJ_sub, if_pos, if_neg, if_true, if_false, nL_0, nL_1, nL_2, nL_3, nL_4, nL_5, nL_6, nL_7, nL_8, nL_9, nL_10, nL_11, nL_12, nL_13, nL_14, nL_15, nL_16, nL_17, nL_18, nL_19, nL_20, nL_21, nL_22, nL_23, nL_24, nL_25, nL_26, nL_27, nL_28, nL_29, nL_30, nL_31, nL_32, nL_33, nL_34, nL_35, nL_36, nL_37, nL_38, nL_39, nL_40, nL_41, nL_42, nL_43, nL_44, nL_45, nL_46, nL_47, nL_48, nL_49, nL_50, nL_51, nL_52, nL_53, nL_54, nL_55, nL_56, nL_57, nL_58, nL_59, nL_60, nL_61, nL_62, nL_63, nL_64, nL_65, nL_66, nL_67, nL_68, nL_69, nL_70, nL_400, nL_402, nL_800, nL_2000]
        · simp (disch := omega) only [h2, p3, bstR, bstB, bstC, sb, nJ_of, nJ_lt, nJ_le, nJ_eq, nJ_clamp, nJ_add, nJ_sub, if_pos, if_neg, if_true, if_false, nL_0, nL_1, nL_2, nL_3, nL_4, nL_5, nL_6, nL_7, nL_8, nL_9, nL_10, nL_11, nL_12, nL_13, nL_14, nL_15, nL_16, nL_17, nL_18, nL_19, nL_20, nL_21, nL_22, nL_23, nL_24, nL_25, nL_26, nL_27, nL_28, nL_29, nL_30, nL_31, nL_32, nL_33, nL_34, nL_35, nL_36, nL_37, nL_38, nL_39, nL_40, nL_41, nL_42, nL_43, nL_44, nL_45, nL_46, nL_47, nL_48, nL_49, nL_50, nL_51, nL_52, nL_53, nL_54, nL_55, nL_56, nL_57, nL_58, nL_59, nL_60, nL_61, nL_62, nL_63, nL_64, nL_65, nL_66, nL_67, nL_68, nL_69, nL_70, nL_400, nL_402, nL_800, nL_2000]
  · show f_X12_bestToSteep_L6 n bh P F G (bstB (bestS (fun f => N (8 + f)) (fun f => ctN N T ng (strN N T f)) nf)) (bstC (bestS (fun f => N (8 + f)) (fun f => ctN N T ng (strN N T f)) nf)) (nI nf) = _
    unfold f_X12_bestToSteep_L6
    simp (disch := omega) only [p3, sb, nJ_of, nJ_lt, nJ_le, nJ_eq, nJ_clamp, nJ_add, nJ_sub, if_pos, if_neg, if_true, if_false, nL_0, nL_1, nL_2, nL_3, nL_4, nL_5, nL_6, nL_7, nL_8, nL_9, nL_10, nL_11, nL_12, nL_13, nL_14, nL_15, nL_16, nL_17, nL_18, nL_19, nL_20, nL_21, nL_22, nL_23, nL_24, nL_25, nL_26, nL_27, nL_28, nL_29, nL_30, nL_31, nL_32, nL_33, nL_34, nL_35, nL_36, nL_37, nL_38, nL_39, nL_40, nL_41, nL_42, nL_43, nL_44, nL_45, nL_46, nL_47, nL_48, nL_49, nL_50, nL_51, nL_52, nL_53, nL_54, nL_55, nL_56, nL_57, nL_58, nL_59, nL_60, nL_61, nL_62, nL_63, nL_64, nL_65, nL_66, nL_67, nL_68, nL_69, nL_70, nL_400, nL_402, nL_800, nL_2000]
end P2
theorem lkN_upd {N : Nat → Int32} {T : bX13} (x y : Int32) (g : Nat) : lkN (upd N 2 y) T x g = lkN N T x g := by
  unfold lkN
  rw [upd_else _ _ (by omega : 28 + g ≠ 2), upd_else _ _ (by decide : (1 : Nat) ≠ 2)]
section P3
variable {F : bX2} {G : bX4} {T : bX13} {nf ng : Nat} {fo fr hr gr : Nat → Nat} {P : bX8} {N : Nat → Int32} {h n : Nat} {th bs ea tk wr er et dp : Int32} {ta kd nu po ln fn gn va kp : Nat → Int32}
theorem k_bestM_in (hp : RPl F G T nf ng fo fr hr gr) (ht : RPt nf ng fr hr gr P N h) (hn : 20 < n) {i : Nat} (hi : i < nf) (o : Option (Nat × Nat)) (ho : ∀ b m, o = some (b, m) → b < 10 ∧ m ≤ 10) (x : Int32) : iter (fun s : Int32 × Int32 => f_X14_best_L67 n (th, ta, bs, ea, kd, nu, po, ln, tk, wr, er, et, dp, fn, gn, va, N, kp) T (bstB o) (bstM o) (N 2) (nI i) s.1 s.2 (upd N 2 x)) n (nI 0, nI 0) = some (.inl (bstB (bstR o i (ctN N T ng x)), bstM (bstR o i (ctN N T ng x)), nI (i + 1), N)) := by
  have p1 := hp.1
  have p2 := hp.2.1
  have p6 := hp.2.2.2.2.2.1
  have hx := ctN_le (N := N) (T := T) p2 x
  have hw : ∃ w, w ≤ 40 ∧ (upd N 2 x) 1 = nI w := by
    obtain ⟨-, -, ⟨w, w1, w2, w3⟩, -⟩ := ht
    exact ⟨w, w1, by rw [upd_else _ _ (by decide)]; exact w3⟩
  refine iter_count _ (fun g => (nI (sumN (lkN N T x) g), nI g)) ng _ (fun g hg => ?_) ?_ (by omega)
  · show f_X14_best_L67 n (th, ta, bs, ea, kd, nu, po, ln, tk, wr, er, et, dp, fn, gn, va, N, kp) T (bstB o) (bstM o) (N 2) (nI i) (nI (sumN (lkN N T x) g)) (nI g) (upd N 2 x) = _
    unfold f_X14_best_L67
    have hb : ∃ t, t ≤ 1 ∧ (upd N 2 x) (28 + g) = nI t := by
      obtain ⟨t, h1, h2⟩ := ht_bitg ht hg
      exact ⟨t, h1, by rw [upd_else _ _ (by omega)]; exact h2⟩
    have hl := lkN_le (N := N) (T := T) x g
    rw [k_likesM hp hg hb hw, upd_same, lkN_upd]
    by_cases c : lkN N T x g = 0
    · simp (disch := omega) only [c, p6, sumN, sb, nJ_of, nJ_lt, nJ_le, nJ_eq, nJ_clamp, nJ_add, nJ_sub, if_pos, if_neg, if_true, if_false, nL_0, nL_1, nL_2, nL_3, nL_4, nL_5, nL_6, nL_7, nL_8, nL_9, nL_10, nL_11, nL_12, nL_13, nL_14, nL_15, nL_16, nL_17, nL_18, nL_19, nL_20, nL_21, nL_22, nL_23, nL_24, nL_25, nL_26, nL_27, nL_28, nL_29, nL_30, nL_31, nL_32, nL_33, nL_34, nL_35, nL_36, nL_37, nL_38, nL_39, nL_40, nL_41, nL_42, nL_43, nL_44, nL_45, nL_46, nL_47, nL_48, nL_49, nL_50, nL_51, nL_52, nL_53, nL_54, nL_55, nL_56, nL_57, nL_58, nL_59, nL_60, nL_61, nL_62, nL_63, nL_64, nL_65, nL_66, nL_67, nL_68, nL_69, nL_70, nL_400, nL_402, nL_800, nL_2000]
    · have e : lkN N T x g = 1 := by omega
      simp (disch := omega) only [e, p6, sumN, sb, nJ_of, nJ_lt, nJ_le, nJ_eq, nJ_clamp, nJ_add, nJ_sub, if_pos, if_neg, if_true, if_false, nL_0, nL_1, nL_2, nL_3, nL_4, nL_5, nL_6, nL_7, nL_8, nL_9, nL_10, nL_11, nL_12, nL_13, nL_14, nL_15, nL_16, nL_17, nL_18, nL_19, nL_20, nL_21, nL_22, nL_23, nL_24, nL_25, nL_26, nL_27, nL_28, nL_29, nL_30, nL_31, nL_32, nL_33, nL_34, nL_35, nL_36, nL_37, nL_38, nL_39, nL_40, nL_41, nL_42, nL_43, nL_44, nL_45, nL_46, nL_47, nL_48, nL_49, nL_50, nL_51, nL_52, nL_53, nL_54, nL_55, nL_56, nL_57, nL_58, nL_59, nL_60, nL_61, nL_62, nL_63, nL_64, nL_65, nL_66, nL_67, nL_68, nL_69, nL_70, nL_400, nL_402, nL_800, nL_2000]
  · show f_X14_best_L67 n (th, ta, bs, ea, kd, nu, po, ln, tk, wr, er, et, dp, fn, gn, va, N, kp) T (bstB o) (bstM o) (N 2) (nI i) (nI (sumN (lkN N T x) ng)) (nI ng) (upd N 2 x) = _
    unfold f_X14_best_L67 f_X14_best_R125
    unfold ctN at hx ⊢
    cases o with
    | none => simp (disch := omega) only [p6, bstR, bstB, bstM, upd_back, sb, nJ_of, nJ_lt, nJ_le, nJ_eq, nJ_clamp, nJ_add, nJ_sub, if_pos, if_neg, if_true, if_false, nL_0, nL_1, nL_2, nL_3, nL_4, nL_5, nL_6, nL_7, nL_8, nL_9, nL_10, nL_11, nL_12, nL_13, nL_14, nL_15, nL_16, nL_17, nL_18, nL_19, nL_20, nL_21, nL_22, nL_23, nL_24, nL_25, nL_26, nL_27, nL_28, nL_29, nL_30, nL_31, nL_32, nL_33, nL_34, nL_35, nL_36, nL_37, nL_38, nL_39, nL_40, nL_41, nL_42, nL_43, nL_44, nL_45, nL_46, nL_47, nL_48, nL_49, nL_50, nL_51, nL_52, nL_53, nL_54, nL_55, nL_56, nL_57, nL_58, nL_59, nL_60, nL_61, nL_62, nL_63, nL_64, nL_65, nL_66, nL_67, nL_68, nL_69, nL_70, nL_400, nL_402, nL_800, nL_2000]
    | some q =>
      obtain ⟨b, m⟩ := q
      have hb := ho b m rfl
      by_cases c : sumN (lkN N T x) ng ≤ m
      · simp (disch := omega) only [p6, bstR, bstB, bstM, upd_back, nJ_nm1, if_false, sb, nJ_of, nJ_lt, nJ_le, nJ_eq, nJ_clamp, nJ_add, nJ_sub, if_pos, if_neg, if_true, if_false, nL_0, nL_1, nL_2, nL_3, nL_4, nL_5, nL_6, nL_7, nL_8, nL_9, nL_10, nL_11, nL_12, nL_13, nL_14, nL_15, nL_16, nL_17, nL_18, nL_19, nL_20, nL_21, nL_22, nL_23, nL_24, nL_25, nL_26, nL_27, nL_28, nL_29, nL_30, nL_31, nL_32, nL_33, nL_34, nL_35, nL_36, nL_37, nL_38, nL_39, nL_40, nL_41, nL_42, nL_43, nL_44, nL_45, nL_46, nL_47, nL_48, nL_49, nL_50, nL_51, nL_52, nL_53, nL_54, nL_55, nL_56, nL_57, nL_58, nL_59, nL_60, nL_61, nL_62, nL_63, nL_64, nL_65, nL_66, nL_67, nL_68, nL_69, nL_70, nL_400, nL_402, nL_800, nL_2000]
      · simp (disch := omega) only [p6, bstR, bstB, bstM, upd_back, nJ_nm1, if_false, sb, nJ_of, nJ_lt, nJ_le, nJ_eq, nJ_clamp, nJ_add, nJ_sub, if_pos, if_neg, if_true, if_false, nL_0, nL_1, nL_2, nL_3, nL_4, nL_5, nL_6, nL_7, nL_8, nL_9, nL_10, nL_11, nL_12, nL_13, nL_14, nL_15, nL_16, nL_17, nL_18, nL_19, nL_20, nL_21, nL_22, nL_23, nL_24, nL_25, nL_26, nL_27, nL_28, nL_29, nL_30, nL_31, nL_32, nL_33, nL_34, nL_35, nL_36, nL_37, nL_38, nL_39, nL_40, nL_41, nL_42, nL_43, nL_44, nL_45, nL_46, nL_47, nL_48, nL_49, nL_50, nL_51, nL_52, nL_53, nL_54, nL_55, nL_56, nL_57, nL_58, nL_59, nL_60, nL_61, nL_62, nL_63, nL_64, nL_65, nL_66, nL_67, nL_68, nL_69, nL_70, nL_400, nL_402, nL_800, nL_2000]
theorem k_bestM (hp : RPl F G T nf ng fo fr hr gr) (ht : RPt nf ng fr hr gr P N h) (hn : 20 < n) : f_X14_best n (th, ta, bs, ea, kd, nu, po, ln, tk, wr, er, et, dp, fn, gn, va, N, kp) T = some (bstB (bestS (fun f => N (8 + f)) (fun f => ctN N T ng (strN N T f)) nf), N) := by
  have p1 := hp.1
  have p2 := hp.2.1
  have p4 := hp.2.2.2.1
  have hc : ∀ i, (fun f => ctN N T ng (strN N T f)) i ≤ 10 := fun i => ctN_le p2 _
  unfold f_X14_best
  simp (disch := omega) only [X14_now, sb, nJ_of, nJ_lt, nJ_le, nJ_eq, nJ_clamp, nJ_add, nJ_sub, if_pos, if_neg, if_true, if_false, nL_0, nL_1, nL_2, nL_3, nL_4, nL_5, nL_6, nL_7, nL_8, nL_9, nL_10, nL_11, nL_12, nL_13, nL_14, nL_15, nL_16, nL_17, nL_18, nL_19, nL_20, nL_21, nL_22, nL_23, nL_24, nL_25, nL_26, nL_27, nL_28, nL_29, nL_30, nL_31, nL_32, nL_33, nL_34, nL_35, nL_36, nL_37, nL_38, nL_39, nL_40, nL_41, nL_42, nL_43, nL_44, nL_45, nL_46, nL_47, nL_48, nL_49, nL_50, nL_51, nL_52, nL_53, nL_54, nL_55, nL_56, nL_57, nL_58, nL_59, nL_60, nL_61, nL_62, nL_63, nL_64, nL_65, nL_66, nL_67, nL_68, nL_69, nL_70, nL_400, nL_402, nL_800, nL_2000]
  refine iter_count _ (fun i => (bstB (bestS (fun f => N (8 + f)) (fun f => ctN N T ng (strN N T f)) i), bstM (bestS (fun f => N (8 + f)) (fun f => ctN N T ng (strN N T f)) i), nI i, N)) nf _ (fun i hi => ?_) ?_ (by omega)
  · show f_X14_best_L14 n (th, ta, bs, ea, kd, nu, po, ln, tk, wr, er, et, dp, fn, gn, va, N, kp) T (bstB (bestS (fun f => N (8 + f)) (fun f => ctN N T ng (strN N T f)) i)) (bstM (bestS (fun f => N (8 + f)) (fun f => ctN N T ng (strN N T f)) i)) (N 2) (nI i) N = _
    unfold f_X14_best_L14
    obtain ⟨t, h1, h2⟩ := ht_bit ht hi
    rw [k_can ht p1 hi, bestS]
    by_cases c : t = 0
    · simp (disch := omega) only [h2, c, p4, sb, nJ_of, nJ_lt, nJ_le, nJ_eq, nJ_clamp, nJ_add, nJ_sub, if_pos, if_neg, if_true, if_false, nL_0, nL_1, nL_2, nL_3, nL_4, nL_5, nL_6, nL_7, nL_8, nL_9, nL_10, nL_11, nL_12, nL_13, nL_14, nL_15, nL_16, nL_17, nL_18, nL_19, nL_20, nL_21, nL_22, nL_23, nL_24, nL_25, nL_26, nL_27, nL_28, nL_29, nL_30, nL_31, nL_32, nL_33, nL_34, nL_35, nL_36, nL_37, nL_38, nL_39, nL_40, nL_41, nL_42, nL_43, nL_44, nL_45, nL_46, nL_47, nL_48, nL_49, nL_50, nL_51, nL_52, nL_53, nL_54, nL_55, nL_56, nL_57, nL_58, nL_59, nL_60, nL_61, nL_62, nL_63, nL_64, nL_65, nL_66, nL_67, nL_68, nL_69, nL_70, nL_400, nL_402, nL_800, nL_2000]
    · have ho : ∀ b m, bestS (fun f => N (8 + f)) (fun f => ctN N T ng (strN N T f)) i = some (b, m) → b < 10 ∧ m ≤ 10 := fun b m e => by
        have := bestS_le hc e
        exact ⟨by omega, this.2⟩
      have hin := k_bestM_in (th := th) (ta := ta) (bs := bs) (ea := ea) (kd := kd) (nu := nu) (po := po) (ln := ln) (tk := tk) (wr := wr) (er := er) (et := et) (dp := dp) (fn := fn) (gn := gn) (va := va) (kp := kp) hp ht hn hi (bestS (fun f => N (8 + f)) (fun f => ctN N T ng (strN N T f)) i) ho (strN N T i)
      simp (disch := omega) only [h2, p4, sb, nJ_of, nJ_lt, nJ_le, nJ_eq, nJ_clamp, nJ_add, nJ_sub, if_pos, if_neg, if_true, if_false, nL_0, nL_1, nL_2, nL_3, nL_4, nL_5, nL_6, nL_7, nL_8, nL_9, nL_10, nL_11, nL_12, nL_13, nL_14, nL_15, nL_16, nL_17, nL_18, nL_19, nL_20, nL_21, nL_22, nL_23, nL_24, nL_25, nL_26, nL_27, nL_28, nL_29, nL_30, nL_31, nL_32, nL_33, nL_34, nL_35, nL_36, nL_37, nL_38, nL_39, nL_40, nL_41, nL_42, nL_43, nL_44, nL_45, nL_46, nL_47, nL_48, nL_49, nL_50, nL_51, nL_52, nL_53, nL_54, nL_55, nL_56, nL_57, nL_58, nL_59, nL_60, nL_61, nL_62, nL_63, nL_64, nL_65, nL_66, nL_67, nL_68, nL_69, nL_70, nL_400, nL_402, nL_800, nL_2000]
      exact hin
  · show f_X14_best_L14 n (th, ta, bs, ea, kd, nu, po, ln, tk, wr, er, et, dp, fn, gn, va, N, kp) T (bstB (bestS (fun f => N (8 + f)) (fun f => ctN N T ng (strN N T f)) nf)) (bstM (bestS (fun f => N (8 + f)) (fun f => ctN N T ng (strN N T f)) nf)) (N 2) (nI nf) N = _
    unfold f_X14_best_L14
    simp (disch := omega) only [p4, sb, nJ_of, nJ_lt, nJ_le, nJ_eq, nJ_clamp, nJ_add, nJ_sub, if_pos, if_neg, if_true, if_false, nL_0, nL_1, nL_2, nL_3, nL_4, nL_5, nL_6, nL_7, nL_8, nL_9, nL_10, nL_11, nL_12, nL_13, nL_14, nL_15, nL_16, nL_17, nL_18, nL_19, nL_20, nL_21, nL_22, nL_23, nL_24, nL_25, nL_26, nL_27, nL_28, nL_29, nL_30, nL_31, nL_32, nL_33, nL_34, nL_35, nL_36, nL_37, nL_38, nL_39, nL_40, nL_41, nL_42, nL_43, nL_44, nL_45, nL_46, nL_47, nL_48, nL_49, nL_50, nL_51, nL_52, nL_53, nL_54, nL_55, nL_56, nL_57, nL_58, nL_59, nL_60, nL_61, nL_62, nL_63, nL_64, nL_65, nL_66, nL_67, nL_68, nL_69, nL_70, nL_400, nL_402, nL_800, nL_2000]
end P3
