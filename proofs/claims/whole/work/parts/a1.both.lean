/-! one token, both readers; what values say -/
theorem wsg_all : ∀ v : Nat, v < 257 → wrd v = true → Int32.toInt64 (wsg (cb v)) = Int64.ofNat (sg v) := by decide +kernel
theorem sg_le : ∀ v : Nat, v < 257 → wrd v = true → 1 ≤ sg v ∧ sg v ≤ 36 := by decide +kernel
theorem sg_inj {v w : Nat} (hv : wrd v = true) (hw : wrd w = true) (h : sg v = sg w) : v = w := by
  unfold sg dig at h
  unfold wrd ltr dig at hv hw
  simp only [Bool.or_eq_true, Bool.and_eq_true, decide_eq_true_eq] at hv hw h
  by_cases a : 48 ≤ v ∧ v ≤ 57
  · rw [if_pos a] at h
    by_cases b : 48 ≤ w ∧ w ≤ 57
    · rw [if_pos b] at h
      omega
    · rw [if_neg b] at h
      omega
  · rw [if_neg a] at h
    by_cases b : 48 ≤ w ∧ w ≤ 57
    · rw [if_pos b] at h
      omega
    · rw [if_neg b] at h
      omega
section P63
variable {Y : Nat → Nat} {len : Nat} {bT : Nat → Int32} {th bs ea tk wr er et dp : Int32} {ta kd nu po ln fn gn va kp : Nat → Int32}
variable {N : Nat → Int32} {n i e a p q z z' sz k : Nat}
theorem bv_vl (h : TPE Y len bT ta) : ∀ z : Nat, (∀ i, i < z → wrd (Y (a + i)) = true) → vlI false Y a z = Int64.ofNat (bv Y a z)
  | 0, _ => rfl
  | z + 1, hw => by
    show vlI false Y a z * 37 + Int32.toInt64 (wsg (cb (Y (a + z)))) = Int64.ofNat (bv Y a z * 37 + sg (Y (a + z)))
    rw [bv_vl h z (fun i hi => hw i (by omega)), wsg_all _ (TPE_lt h _) (hw z (by omega)), Int64.ofNat_add, Int64.ofNat_mul]
    rfl
theorem dv_vl (h : TPE Y len bT ta) : ∀ z : Nat, (∀ i, i < z → dig (Y (a + i)) = true) → (vlI true Y a z).toInt32 = nI (dv Y a z)
  | 0, _ => rfl
  | z + 1, hd => by
    show (vlI true Y a z * 10 + Int32.toInt64 (cb (Y (a + z)) - 48)).toInt32 = nI (dv Y a z * 10 + (Y (a + z) - 48))
    have h1 := hd z (by omega)
    have h2 := (cb_mb _ (TPE_lt h (a + z)) (dig_wrd h1)).1
    have h48 : 48 ≤ Y (a + z) := by
      unfold dig at h1
      simp only [Bool.and_eq_true, decide_eq_true_eq] at h1
      omega
    rw [Int64.toInt32_add, Int64.toInt32_mul, Int32.toInt32_toInt64, dv_vl h z (fun i hi => hd i (by omega)), h2, show (48 : Int32) = nI 48 from rfl, nJ_sub h48, show (10 : Int64).toInt32 = nI 10 from by decide, nJ_mul, nJ_add]
theorem bv_lt (h : TPE Y len bT ta) : ∀ z : Nat, (∀ i, i < z → wrd (Y (a + i)) = true) → bv Y a z < 37 ^ z
  | 0, _ => by
    show 0 < 1
    omega
  | z + 1, hw => by
    show bv Y a z * 37 + sg (Y (a + z)) < 37 ^ z * 37
    have h1 := bv_lt h z (fun i hi => hw i (by omega))
    have h2 := (sg_le _ (TPE_lt h _) (hw z (by omega))).2
    omega
theorem bv_inj (h : TPE Y len bT ta) : ∀ z z' : Nat, (∀ i, i < z → wrd (Y (p + i)) = true) → (∀ i, i < z' → wrd (Y (q + i)) = true) → bv Y p z = bv Y q z' → z = z' ∧ ∀ i, i < z → Y (p + i) = Y (q + i)
  | 0, 0, _, _, _ => ⟨rfl, fun i hi => by omega⟩
  | 0, z' + 1, _, h2, e => by
    have e' : 0 = bv Y q z' * 37 + sg (Y (q + z')) := e
    have := (sg_le _ (TPE_lt h _) (h2 z' (by omega))).1
    omega
  | z + 1, 0, h1, _, e => by
    have e' : bv Y p z * 37 + sg (Y (p + z)) = 0 := e
    have := (sg_le _ (TPE_lt h _) (h1 z (by omega))).1
    omega
  | z + 1, z' + 1, h1, h2, e => by
    have e' : bv Y p z * 37 + sg (Y (p + z)) = bv Y q z' * 37 + sg (Y (q + z')) := e
    have s1 := sg_le _ (TPE_lt h _) (h1 z (by omega))
    have s2 := sg_le _ (TPE_lt h _) (h2 z' (by omega))
    obtain ⟨r1, r2⟩ := bv_inj h z z' (fun i hi => h1 i (by omega)) (fun i hi => h2 i (by omega)) (by omega)
    refine ⟨by omega, fun i hi => ?_⟩
    rcases Nat.lt_or_ge i z with w | w
    · exact r2 i w
    · have e2 : i = z := by omega
      rw [e2]
      refine sg_inj (h1 z (by omega)) (by rw [r1]; exact h2 z' (by omega)) ?_
      rw [← r1] at e' s2
      have : bv Y p z = bv Y q z := by omega
      omega
/-- a name that was read: where, how long, what it is worth -/
def NMT (Y : Nat → Nat) (len : Nat) (po ln : Int32) (v : Int64) : Prop := ∃ p z, po = nI p ∧ ln = nI z ∧ 1 ≤ z ∧ z ≤ 10 ∧ p + z ≤ len ∧ (∀ i, i < z → wrd (Y (p + i)) = true) ∧ v = Int64.ofNat (bv Y p z)
theorem same_name (h : TPE Y len bT ta) (hn : 2100 < n) {i j : Nat} {v w : Int64} (hi : i ≤ 400) (hj : j ≤ 400) (h1 : NMT Y len (po i) (ln i) v) (h2 : NMT Y len (po j) (ln j) w) : f_X14_isSameName n (nI i) (nI j) (th, ta, bs, ea, kd, nu, po, ln, tk, wr, er, et, dp, fn, gn, va, N, kp) = some (if v = w then nI 1 else nI 0) := by
  obtain ⟨p, z, a1, a2, a3, a4, a5, a6, a7⟩ := h1
  obtain ⟨q, z', b1, b2, b3, b4, b5, b6, b7⟩ := h2
  have h0 := h.1
  have hp : ∀ z : Nat, z ≤ 10 → 37 ^ z ≤ 37 ^ 10 := fun z hz => Nat.pow_le_pow_right (by omega) hz
  have l1 := bv_lt h z a6
  have l2 := bv_lt h z' b6
  have l3 := hp z a4
  have l4 := hp z' b4
  have l5 : (37 : Nat) ^ 10 < 2 ^ 63 := by decide
  have hvw : v = w ↔ (z = z' ∧ ∀ i, i < z → Y (p + i) = Y (q + i)) := by
    constructor
    · intro e
      rw [a7, b7] at e
      have e2 : Int64.toNatClampNeg (Int64.ofNat (bv Y p z)) = Int64.toNatClampNeg (Int64.ofNat (bv Y q z')) := by rw [e]
      rw [Int64.toNatClampNeg_ofNat_of_lt (by omega), Int64.toNatClampNeg_ofNat_of_lt (by omega)] at e2
      exact bv_inj h z z' a6 b6 e2
    · intro e0
      obtain ⟨e1, e2⟩ := e0
      subst e1
      have : ∀ l, l ≤ z → bv Y p l = bv Y q l := by
        intro l
        induction l with
        | zero => intro _; rfl
        | succ l ih =>
          intro hl
          show bv Y p l * 37 + sg (Y (p + l)) = bv Y q l * 37 + sg (Y (q + l))
          rw [ih (by omega), e2 l (by omega)]
      rw [a7, b7, this z (Nat.le_refl z)]
  unfold f_X14_isSameName
  by_cases e : z = z'
  · subst e
    have key : ∀ (d l m : Nat), z - l = d → l ≤ z → (∀ r, r < l → Y (p + r) = Y (q + r)) → d < m → iter (fun s : Int32 => f_X14_isSameName_L19 n (nI i) (nI j) (th, ta, bs, ea, kd, nu, po, ln, tk, wr, er, et, dp, fn, gn, va, N, kp) (nI i) (nI j) s) m (nI l) = some (if v = w then nI 1 else nI 0) := by
      intro d
      induction d with
      | zero =>
        intro l m hd hl hall hm
        obtain ⟨m, rfl⟩ : ∃ q, m = q + 1 := ⟨m - 1, by omega⟩
        rw [if_pos (hvw.2 ⟨rfl, fun r hr => hall r (by omega)⟩)]
        refine iter_inr ?_
        show f_X14_isSameName_L19 n (nI i) (nI j) (th, ta, bs, ea, kd, nu, po, ln, tk, wr, er, et, dp, fn, gn, va, N, kp) (nI i) (nI j) (nI l) = some (.inr (nI 1))
        unfold f_X14_isSameName_L19
        simp (disch := omega) only [X14_length, a2, ↓reduceIte, ↓if_pos, ↓if_neg, Nat.reduceEqDiff, Nat.reduceLeDiff, Nat.reduceLT, and_true, true_and, and_false, false_and, true_or, or_true, false_or, or_false, eq_self, sb, nJ_of, nJ_lt, nJ_le, nJ_eq, nJ_clamp, nJ_add, nJ_sub, if_pos, if_neg, if_true, if_false, nL_0, nL_1, nL_2, nL_3, nL_4, nL_5, nL_6, nL_7, nL_8, nL_9, nL_10, nL_11, nL_12, nL_13, nL_14, nL_15, nL_16, nL_17, nL_18, nL_19, nL_20, nL_21, nL_22, nL_23, nL_24, nL_25, nL_26, nL_27, nL_28, nL_29, nL_30, nL_31, nL_32, nL_33, nL_34, nL_35, nL_36, nL_37, nL_38, nL_39, nL_40, nL_41, nL_42, nL_43, nL_44, nL_45, nL_46, nL_47, nL_48, nL_49, nL_50, nL_51, nL_52, nL_53, nL_54, nL_55, nL_56, nL_57, nL_58, nL_59, nL_60, nL_61, nL_62, nL_63, nL_64, nL_65, nL_66, nL_67, nL_68, nL_69, nL_70, nL_400, nL_402, nL_800, nL_2000]
      | succ d ih =>
        intro l m hd hl hall hm
        obtain ⟨m, rfl⟩ : ∃ q, m = q + 1 := ⟨m - 1, by omega⟩
        obtain ⟨u1, -, u2⟩ := h.2.1 (p + l) (by omega)
        obtain ⟨w1, -, w2⟩ := h.2.1 (q + l) (by omega)
        by_cases g : Y (p + l) = Y (q + l)
        · rw [iter_inl (s' := nI (l + 1)) ?_]
          · exact ih (l + 1) m (by omega) (by omega) (fun r hr => by
              rcases Nat.lt_or_ge r l with x | x
              · exact hall r x
              · have e : r = l := by omega
                rw [e]
                exact g) (by omega)
          · show f_X14_isSameName_L19 n (nI i) (nI j) (th, ta, bs, ea, kd, nu, po, ln, tk, wr, er, et, dp, fn, gn, va, N, kp) (nI i) (nI j) (nI l) = _
            unfold f_X14_isSameName_L19
            simp (disch := omega) only [X14_length, X14_position, X14_tape, a1, a2, b1, u2, w2, g, ↓reduceIte, ↓if_pos, ↓if_neg, Nat.reduceEqDiff, Nat.reduceLeDiff, Nat.reduceLT, and_true, true_and, and_false, false_and, true_or, or_true, false_or, or_false, eq_self, sb, nJ_of, nJ_lt, nJ_le, nJ_eq, nJ_clamp, nJ_add, nJ_sub, if_pos, if_neg, if_true, if_false, nL_0, nL_1, nL_2, nL_3, nL_4, nL_5, nL_6, nL_7, nL_8, nL_9, nL_10, nL_11, nL_12, nL_13, nL_14, nL_15, nL_16, nL_17, nL_18, nL_19, nL_20, nL_21, nL_22, nL_23, nL_24, nL_25, nL_26, nL_27, nL_28, nL_29, nL_30, nL_31, nL_32, nL_33, nL_34, nL_35, nL_36, nL_37, nL_38, nL_39, nL_40, nL_41, nL_42, nL_43, nL_44, nL_45, nL_46, nL_47, nL_48, nL_49, nL_50, nL_51, nL_52, nL_53, nL_54, nL_55, nL_56, nL_57, nL_58, nL_59, nL_60, nL_61, nL_62, nL_63, nL_64, nL_65, nL_66, nL_67, nL_68, nL_69, nL_70, nL_400, nL_402, nL_800, nL_2000]
        · rw [if_neg (fun x => g ((hvw.1 x).2 l (by omega)))]
          refine iter_inr ?_
          show f_X14_isSameName_L19 n (nI i) (nI j) (th, ta, bs, ea, kd, nu, po, ln, tk, wr, er, et, dp, fn, gn, va, N, kp) (nI i) (nI j) (nI l) = some (.inr (nI 0))
          unfold f_X14_isSameName_L19
          simp (disch := omega) only [X14_length, X14_position, X14_tape, a1, a2, b1, u2, w2, g, ↓reduceIte, ↓if_pos, ↓if_neg, Nat.reduceEqDiff, Nat.reduceLeDiff, Nat.reduceLT, and_true, true_and, and_false, false_and, true_or, or_true, false_or, or_false, eq_self, sb, nJ_of, nJ_lt, nJ_le, nJ_eq, nJ_clamp, nJ_add, nJ_sub, if_pos, if_neg, if_true, if_false, nL_0, nL_1, nL_2, nL_3, nL_4, nL_5, nL_6, nL_7, nL_8, nL_9, nL_10, nL_11, nL_12, nL_13, nL_14, nL_15, nL_16, nL_17, nL_18, nL_19, nL_20, nL_21, nL_22, nL_23, nL_24, nL_25, nL_26, nL_27, nL_28, nL_29, nL_30, nL_31, nL_32, nL_33, nL_34, nL_35, nL_36, nL_37, nL_38, nL_39, nL_40, nL_41, nL_42, nL_43, nL_44, nL_45, nL_46, nL_47, nL_48, nL_49, nL_50, nL_51, nL_52, nL_53, nL_54, nL_55, nL_56, nL_57, nL_58, nL_59, nL_60, nL_61, nL_62, nL_63, nL_64, nL_65, nL_66, nL_67, nL_68, nL_69, nL_70, nL_400, nL_402, nL_800, nL_2000]
    have kk := key z 0 n (by omega) (by omega) (fun r hr => by omega) (by omega)
    simp (disch := omega) only [X14_length, a2, b2, kk, ↓reduceIte, ↓if_pos, ↓if_neg, Nat.reduceEqDiff, Nat.reduceLeDiff, Nat.reduceLT, and_true, true_and, and_false, false_and, true_or, or_true, false_or, or_false, eq_self, sb, nJ_of, nJ_lt, nJ_le, nJ_eq, nJ_clamp, nJ_add, nJ_sub, if_pos, if_neg, if_true, if_false, nL_0, nL_1, nL_2, nL_3, nL_4, nL_5, nL_6, nL_7, nL_8, nL_9, nL_10, nL_11, nL_12, nL_13, nL_14, nL_15, nL_16, nL_17, nL_18, nL_19, nL_20, nL_21, nL_22, nL_23, nL_24, nL_25, nL_26, nL_27, nL_28, nL_29, nL_30, nL_31, nL_32, nL_33, nL_34, nL_35, nL_36, nL_37, nL_38, nL_39, nL_40, nL_41, nL_42, nL_43, nL_44, nL_45, nL_46, nL_47, nL_48, nL_49, nL_50, nL_51, nL_52, nL_53, nL_54, nL_55, nL_56, nL_57, nL_58, nL_59, nL_60, nL_61, nL_62, nL_63, nL_64, nL_65, nL_66, nL_67, nL_68, nL_69, nL_70, nL_400, nL_402, nL_800, nL_2000]
  · rw [if_neg (fun x => e (hvw.1 x).1)]
    simp (disch := omega) only [X14_length, a2, b2, e, ↓reduceIte, ↓if_pos, ↓if_neg, Nat.reduceEqDiff, Nat.reduceLeDiff, Nat.reduceLT, and_true, true_and, and_false, false_and, true_or, or_true, false_or, or_false, eq_self, sb, nJ_of, nJ_lt, nJ_le, nJ_eq, nJ_clamp, nJ_add, nJ_sub, if_pos, if_neg, if_true, if_false, nL_0, nL_1, nL_2, nL_3, nL_4, nL_5, nL_6, nL_7, nL_8, nL_9, nL_10, nL_11, nL_12, nL_13, nL_14, nL_15, nL_16, nL_17, nL_18, nL_19, nL_20, nL_21, nL_22, nL_23, nL_24, nL_25, nL_26, nL_27, nL_28, nL_29, nL_30, nL_31, nL_32, nL_33, nL_34, nL_35, nL_36, nL_37, nL_38, nL_39, nL_40, nL_41, nL_42, nL_43, nL_44, nL_45, nL_46, nL_47, nL_48, nL_49, nL_50, nL_51, nL_52, nL_53, nL_54, nL_55, nL_56, nL_57, nL_58, nL_59, nL_60, nL_61, nL_62, nL_63, nL_64, nL_65, nL_66, nL_67, nL_68, nL_69, nL_70, nL_400, nL_402, nL_800, nL_2000]
/-- one token, alike -/
def TKB (Y : Nat → Nat) (len : Nat) (a sz : Nat) (nu nu' : Nat → Int32) (k : Nat) : Prop := 1 ≤ sz ∧ a + sz ≤ len ∧ (∀ j, j ≠ k → nu' j = nu j) ∧ (kdC Y a sz < 49 ∨ kdC Y a sz = 50) ∧ (kdC Y a sz = 48 → (vlI (dig (Y a)) Y a sz).toInt32 = nu' k) ∧ (kdC Y a sz = 47 → NMT Y len (nI a) (nI sz) (vlI (dig (Y a)) Y a sz))
theorem kdC_or (hz : 1 ≤ sz) : kdC Y a sz < 49 ∨ kdC Y a sz = 50 := by
  unfold kdC
  by_cases h1 : dig (Y a) = true
  · rw [if_pos h1]
    by_cases h2 : sz ≤ 6
    · rw [if_pos h2]; omega
    · rw [if_neg h2]; omega
  · rw [if_neg h1]
    by_cases h2 : ltr (Y a) = true ∧ 10 < sz
    · rw [if_pos h2]; omega
    · rw [if_neg h2]
      cases q : fnd (HT Y a sz) 52 with
      | none =>
        show (bif ltr (Y a) then 47 else 50) < 49 ∨ (bif ltr (Y a) then 47 else 50) = 50
        cases ltr (Y a) with
        | true => exact Or.inl (by show 47 < 49; omega)
        | false => exact Or.inr rfl
      | some k =>
        obtain ⟨k1, k2⟩ := fnd_some q
        obtain ⟨k3, k4⟩ := HT_t k2
        show k < 49 ∨ k = 50
        rcases Nat.lt_or_ge k 47 with w | w
        · omega
        · have := kln_47 k k1 w
          omega
theorem tok_both (h : TPE Y len bT ta) (hn : 2100 < n) (ha : a < len) (hk : k ≤ 400) : ∃ (sz : Nat) (nu' : Nat → Int32), TKB Y len a sz nu nu' k ∧ f_X11_sizeOf n (nI a) (bT, nI len) = some (nI sz) ∧ f_X11_kindOf n (nI a) (nI sz) (bT, nI len) = some (kdC Y a sz) ∧ f_X11_valueOf n (nI a) (nI sz) (bT, nI len) = some (vlI (dig (Y a)) Y a sz) ∧ f_X14_read n (nI a) (nI k) (th, ta, nI len, ea, kd, nu, po, ln, tk, wr, er, et, dp, fn, gn, va, N, kp) = some (nI (a + sz), upd kd k (nI (kpa (kdC Y a sz))), nu', upd po k (nI a), upd ln k (nI sz)) := by
  have h0 := h.1
  cases hl : ltr (Y a) with
  | true =>
    obtain ⟨e, hr, he⟩ := RUN_ex (p := wrd) h.2.2 wrd_256 (len - (a + 1)) (a + 1) (Nat.le_refl _)
    have he := he (by omega)
    have hle := hr.1
    have hd : dig (Y a) = false := by
      unfold ltr at hl
      unfold dig
      simp only [Bool.and_eq_true, decide_eq_true_eq] at hl
      simp only [Bool.and_eq_false_iff, decide_eq_false_iff_not]
      omega
    have hw : ∀ i, i < e - a → wrd (Y (a + i)) = true := by
      intro i hi
      by_cases z : i = 0
      · rw [z]
        exact ltr_wrd hl
      · exact hr.2.1 (a + i) (by omega) (by omega)
    have hR := m_readW (N := N) (kd := kd) (nu := nu) (po := po) (ln := ln) (th := th) (ea := ea) (tk := tk) (wr := wr) (er := er) (et := et) (dp := dp) (fn := fn) (gn := gn) (va := va) (kp := kp) h hn ha hk hl hr he
    have eae : a + (e - a) = e := by omega
    refine ⟨e - a, nu, ⟨by omega, by omega, fun j _ => rfl, kdC_or (by omega), fun q => ?_, fun q => ?_⟩, c_sizeW h hn ha hl hr he, c_kind h hn ha (by omega), c_value h hn ha (by omega), by rw [eae]; exact hR⟩
    · exfalso
      unfold kdC at q
      rw [hd, hl, if_neg Bool.false_ne_true] at q
      by_cases z : 10 < e - a
      · rw [if_pos (show true = true ∧ 10 < e - a from ⟨rfl, z⟩)] at q
        omega
      · rw [if_neg (show ¬ (true = true ∧ 10 < e - a) from fun w => z w.2)] at q
        cases w : fnd (HT Y a (e - a)) 52 with
        | none =>
          rw [w] at q
          exact absurd q (by decide)
        | some k =>
          rw [w] at q
          obtain ⟨k1, k2⟩ := fnd_some w
          obtain ⟨k3, k4⟩ := HT_t k2
          have q' : k = 48 := q
          have := kln_47 k k1 (by omega)
          omega
    · refine ⟨a, e - a, rfl, rfl, by omega, ?_, by omega, hw, ?_⟩
      · rcases Nat.lt_or_ge 10 (e - a) with z | z
        · exfalso
          unfold kdC at q
          rw [hd, hl, if_neg Bool.false_ne_true, if_pos (show true = true ∧ 10 < e - a from ⟨rfl, z⟩)] at q
          omega
        · exact z
      · rw [hd]
        exact bv_vl h _ hw
  | false =>
    cases hd : dig (Y a) with
    | true =>
      obtain ⟨e, hr, he⟩ := RUN_ex (p := dig) h.2.2 dig_256 (len - (a + 1)) (a + 1) (Nat.le_refl _)
      have he := he (by omega)
      have hle := hr.1
      have hR := m_readD (N := N) (kd := kd) (nu := nu) (po := po) (ln := ln) (th := th) (ea := ea) (tk := tk) (wr := wr) (er := er) (et := et) (dp := dp) (fn := fn) (gn := gn) (va := va) (kp := kp) h hn ha hk hd hr he
      have eae : a + (e - a) = e := by omega
      have hw : ∀ i, i < e - a → dig (Y (a + i)) = true := by
        intro i hi
        by_cases z : i = 0
        · rw [z]
          exact hd
        · exact hr.2.1 (a + i) (by omega) (by omega)
      have hv := c_value h hn ha (sz := e - a) (by omega)
      rw [hd] at hv
      refine ⟨e - a, _, ⟨by omega, by omega, fun j hj => upd_else _ _ hj, kdC_or (by omega), fun q => ?_, fun q => ?_⟩, c_sizeD h hn ha hd hr he, c_kind h hn ha (by omega), hv, by rw [eae]; exact hR⟩
      · have z : e - a ≤ 6 := by
          rcases Nat.lt_or_ge 6 (e - a) with z | z
          · exfalso
            unfold kdC at q
            rw [if_pos hd, if_neg (by omega)] at q
            omega
          · exact z
        rw [upd_same, hd, dv_vl h _ hw, show min (e - a) 7 = e - a by omega]
      · exfalso
        unfold kdC at q
        rw [if_pos hd] at q
        by_cases z : e - a ≤ 6
        · rw [if_pos z] at q
          omega
        · rw [if_neg z] at q
          omega
    | false =>
      have hw : wrd (Y a) = false := wrd_or.2 ⟨hl, hd⟩
      have hR := m_readS (N := N) (n := n) (kd := kd) (nu := nu) (po := po) (ln := ln) (th := th) (ea := ea) (tk := tk) (wr := wr) (er := er) (et := et) (dp := dp) (fn := fn) (gn := gn) (va := va) (kp := kp) h ha hk hw
      have hsz : szS Y a = 1 ∨ (szS Y a = 2 ∧ Y (a + 1) = 61 ∧ (Y a = 60 ∨ Y a = 62)) := by
        unfold szS
        by_cases z : (Y a = 60 ∨ Y a = 62) ∧ Y (a + 1) = 61
        · rw [if_pos z]
          exact Or.inr ⟨rfl, z.2, z.1⟩
        · rw [if_neg z]
          exact Or.inl rfl
      have hkk : kdC Y a (szS Y a) < 47 ∨ kdC Y a (szS Y a) = 50 := by
        rcases hsz with z | ⟨z, z1, z2⟩
        · rw [z, kdC_1 hw]
          exact scl_k _ (h.2.1 a ha).1 hw
        · rw [z, kdC_2 hw z1]
          rcases z2 with z2 | z2
          · rw [z2, sc2_60.1]
            omega
          · rw [z2, sc2_60.2]
            omega
      have hal : a + szS Y a ≤ len := by
        rcases hsz with z | ⟨z, z1, z2⟩
        · omega
        · have : a + 1 < len := by
            rcases Nat.lt_or_ge (a + 1) len with x | x
            · exact x
            · have := h.2.2 _ x
              omega
          omega
      have hv := c_value h hn ha (sz := szS Y a) (by omega)
      rw [hd] at hv
      exact ⟨szS Y a, nu, ⟨by omega, hal, fun j _ => rfl, by omega, fun q => by omega, fun q => by omega⟩, c_sizeS h ha hl hd, c_kind h hn ha (by omega), hv, hR⟩
end P63
