/-! reading a plan: both readers over the same tokens -/
def kaL : List Nat := [0, 1, 2, 3, 4, 5, 6, 7, 8, 9, 10, 11, 12, 13, 14, 15, 16, 17, 18, 19, 20, 21, 24, 22, 23, 25, 31, 26, 27, 28, 29, 30, 59, 60, 61, 62, 63, 64, 50, 51, 52, 53, 54, 55, 56, 57, 58, 40, 41, 43, 42]
/-- the model's number of a kind -/
def kpa (k : Nat) : Nat := kaL.getD k 99
theorem kpa_inj : ∀ a : Nat, a < 51 → ∀ b : Nat, b < 51 → kpa a = kpa b → a = b := by decide +kernel
theorem kpa_lt : ∀ a : Nat, a < 51 → kpa a < 100 := by decide +kernel
/-- the tokens, alike: t of them, and the end or what is bad -/
def TKO (K : Nat → Nat) (kd : Nat → Int32) (t : Nat) : Prop := t ≤ 400 ∧ (∀ j, j ≤ t → K j < 51 ∧ kd j = nI (kpa (K j))) ∧ (∀ j, j < t → K j < 49) ∧ 49 ≤ K t
def mk3 (j : Nat) (e : Int32 × Int32) : Int32 × Int32 := if e.1 = nI 0 then (nI 3, nI j) else e
/-- what is marked at a keyword -/
def mkK (K : Nat → Nat) (kF kG : Nat → Int32) (i : Nat) (e : Int32 × Int32) : Int32 × Int32 :=
  if (K i = 11 ∨ K i = 24 ∨ K i = 26) ∧ kF (i + 1) = -nI 1 then mk3 (i + 1) e else if (K i = 14 ∨ K i = 23 ∨ K i = 25) ∧ kG (i + 1) = -nI 1 then mk3 (i + 1) e else e
/-- .. from the token c on, over l tokens -/
def mkR (K : Nat → Nat) (kF kG : Nat → Int32) (c : Nat) : Nat → Int32 × Int32 → Int32 × Int32
  | 0, e => e
  | l + 1, e => mkK K kF kG (c + l) (mkR K kF kG c l e)
theorem mkR_app {K : Nat → Nat} {kF kG : Nat → Int32} {c l : Nat} {e : Int32 × Int32} : ∀ {l2 : Nat}, mkR K kF kG c (l + l2) e = mkR K kF kG (c + l) l2 (mkR K kF kG c l e)
  | 0 => rfl
  | l2 + 1 => by
    show mkK K kF kG (c + (l + l2)) (mkR K kF kG c (l + l2) e) = mkK K kF kG (c + l + l2) (mkR K kF kG (c + l) l2 (mkR K kF kG c l e))
    rw [mkR_app, Nat.add_assoc]
theorem mkR_0 {K : Nat → Nat} {kF kG : Nat → Int32} {c : Nat} {e : Int32 × Int32} : mkR K kF kG c 0 e = e := rfl
theorem mkK_no {K : Nat → Nat} {kF kG : Nat → Int32} {i : Nat} {e : Int32 × Int32} (h : K i ≠ 11 ∧ K i ≠ 24 ∧ K i ≠ 26 ∧ K i ≠ 14 ∧ K i ≠ 23 ∧ K i ≠ 25) : mkK K kF kG i e = e := by
  unfold mkK
  rw [if_neg (by omega), if_neg (by omega)]
/-- a token without a mark, then the rest -/
theorem mkR_one {K : Nat → Nat} {kF kG : Nat → Int32} {c c' : Nat} {e : Int32 × Int32} (hc : c < c') (h : K c ≠ 11 ∧ K c ≠ 24 ∧ K c ≠ 26 ∧ K c ≠ 14 ∧ K c ≠ 23 ∧ K c ≠ 25) : mkR K kF kG c (c' - c) e = mkR K kF kG (c + 1) (c' - (c + 1)) e := by
  have e1 : c' - c = 1 + (c' - (c + 1)) := by omega
  rw [e1, mkR_app]
  show mkR K kF kG (c + 1) (c' - (c + 1)) (mkK K kF kG c e) = _
  rw [mkK_no h]
theorem mkR_cat {K : Nat → Nat} {kF kG : Nat → Int32} {c c' c2 : Nat} {e : Int32 × Int32} (h : c ≤ c') (h2 : c' ≤ c2) : mkR K kF kG c (c2 - c) e = mkR K kF kG c' (c2 - c') (mkR K kF kG c (c' - c) e) := by
  have e1 : c2 - c = (c' - c) + (c2 - c') := by omega
  have e2 : c + (c' - c) = c' := by omega
  rw [e1, mkR_app, e2]
def lFx (k : Int32) : Int32 := if nI 0 < k then k else nI 0
/-- steps as they are read: what stands for itself, by its token -/
def lpI (K : Nat → Nat) (nu kF : Nat → Int32) (t : Nat) (sk : Nat → Nat) (sv so le : Nat → Int32) (i : Nat) : Prop := (sk i = 48 ∧ so i = nI 41 ∧ ∃ j, j < t ∧ K j = 48 ∧ sv i = nI j ∧ le i = nu j) ∨ (sk i = 22 ∧ so i = nI 24) ∨ (∃ w, w < 6 ∧ sk i = 16 + w ∧ so i = nI (16 + w)) ∨ (sk i = 6 ∧ so i = nI 6 ∧ ∃ j, j < t ∧ 0 < j ∧ K j = 47 ∧ K (j - 1) = 26 ∧ sv i = nI j ∧ le i = lFx (kF j))
def lpB (K : Nat → Nat) (kF kG : Nat → Int32) (t : Nat) (sk : Nat → Nat) (sv so le : Nat → Int32) (i : Nat) : Prop := (sk i = 24 ∧ so i = nI 23 ∧ ∃ j, j < t ∧ 0 < j ∧ K j = 47 ∧ K (j - 1) = 24 ∧ sv i = nI j ∧ le i = lFx (kF j)) ∨ (sk i = 23 ∧ so i = nI 22 ∧ ∃ j, j < t ∧ 0 < j ∧ K j = 47 ∧ K (j - 1) = 23 ∧ sv i = nI j ∧ le i = lFx (kG j)) ∨ (sk i = 25 ∧ so i = nI 25 ∧ ∃ j, j < t ∧ 0 < j ∧ K j = 47 ∧ K (j - 1) = 25 ∧ sv i = nI j ∧ le i = lFx (kG j))
/-- what both readers come to: a value read, or the same token wrong -/
def POK (K : Nat → Nat) (nu kF kG : Nat → Int32) (t ty c s : Nat) (sk : Nat → Nat) (sv so le ri : Nat → Int32) (er et dp : Int32) (d : Nat) (rC : Option (Int32 × Int32 × (Nat → Nat) × (Nat → Int32) × Int32)) (rM : Option (Int32 × Int32 × Int32 × Int32 × Int32 × Int32 × Int32 × (Nat → Int32) × (Nat → Int32) × (Nat → Int32))) : Prop :=
  (∃ (c' s' : Nat) (sk' : Nat → Nat) (sv' so' le' ri' : Nat → Int32), rC = some (nI 1, nI c', sk', sv', nI s') ∧ rM = some (nI (s' - 1), nI c', nI 0, (mkR K kF kG c (c' - c) (er, et)).1, (mkR K kF kG c (c' - c) (er, et)).2, dp, nI s', so', le', ri') ∧ c < c' ∧ c' ≤ t ∧ s < s' ∧ s' + c ≤ s + c' ∧ (∀ i, i < s → sk' i = sk i ∧ sv' i = sv i ∧ so' i = so i ∧ le' i = le i ∧ ri' i = ri i) ∧ Ex (lpI K nu kF c' sk' sv' so' le') (lpB K kF kG c' sk' sv' so' le') sk' so' le' ri' ty s s') ∨
  (∃ (c' nd' : Nat) (sk' : Nat → Nat) (sv' so' le' ri' : Nat → Int32) (s' x dp' : Int32), rC = some (nI 0, nI c', sk', sv', s') ∧ rM = some (x, nI c', nI 1, nI 1, nI c', dp', nI nd', so', le', ri') ∧ c ≤ c' ∧ c' ≤ t ∧ nd' + c ≤ s + c' + d)
theorem POK_mono {K : Nat → Nat} {nu kF kG : Nat → Int32} {t ty c s : Nat} {sk : Nat → Nat} {sv so le ri : Nat → Int32} {er et dp : Int32} {d d' : Nat} {rC : Option (Int32 × Int32 × (Nat → Nat) × (Nat → Int32) × Int32)} {rM : Option (Int32 × Int32 × Int32 × Int32 × Int32 × Int32 × Int32 × (Nat → Int32) × (Nat → Int32) × (Nat → Int32))} (h : POK K nu kF kG t ty c s sk sv so le ri er et dp d rC rM) (hd : d ≤ d') : POK K nu kF kG t ty c s sk sv so le ri er et dp d' rC rM := by
  rcases h with h | ⟨c', nd', sk', sv', so', le', ri', s', x, dp', h1, h2, h3, h4, h5⟩
  · exact Or.inl h
  · exact Or.inr ⟨c', nd', sk', sv', so', le', ri', s', x, dp', h1, h2, h3, h4, by omega⟩
section P21
variable {N : Nat → Int32} {n : Nat} {th bs ea tk wr er et dp : Int32} {ta kd nu po ln fn gn va kp : Nat → Int32} {pf pg pO nd : Int32} {pw pc px py ps pl ph pn pd pW pF pT pt so le ri : Nat → Int32} {K : Nat → Nat} {sT : Nat → Int32} {vT : Nat → Int64} {t : Nat} {e1 e2 : Int32} {oA : Nat → Nat} {oB oC oD : Nat → Int32} {oE : Int32}
variable {sk : Nat → Nat} {sv : Nat → Int32} {s c : Nat}
theorem c_next (hK : TKO K kd t) (hc : c ≤ t) : f_X11_next (K, sT, vT, nI (t + 1), nI (c), e1, e2) = some (K c) := by
  have h := hK.1
  unfold f_X11_next
  simp (disch := omega) only [X11_kinds, X11_starts, X11_values, X11_count, X11_cursor, X11_error, X11_errorToken, sb, nJ_of, nJ_lt, nJ_le, nJ_eq, nJ_clamp, nJ_add, nJ_sub, if_pos, if_neg, if_true, if_false, nL_0, nL_1, nL_2, nL_3, nL_4, nL_5, nL_6, nL_7, nL_8, nL_9, nL_10, nL_11, nL_12, nL_13, nL_14, nL_15, nL_16, nL_17, nL_18, nL_19, nL_20, nL_21, nL_22, nL_23, nL_24, nL_25, nL_26, nL_27, nL_28, nL_29, nL_30, nL_31, nL_32, nL_33, nL_34, nL_35, nL_36, nL_37, nL_38, nL_39, nL_40, nL_41, nL_42, nL_43, nL_44, nL_45, nL_46, nL_47, nL_48, nL_49, nL_50, nL_51, nL_52, nL_53, nL_54, nL_55, nL_56, nL_57, nL_58, nL_59, nL_60, nL_61, nL_62, nL_63, nL_64, nL_65, nL_66, nL_67, nL_68, nL_69, nL_70, nL_400, nL_402, nL_800, nL_2000]
theorem c_take (hK : TKO K kd t) (hc : c ≤ t) {k : Nat} (hk : k < 52) : f_X11_take k (K, sT, vT, nI (t + 1), nI (c), e1, e2) = some (if K c = k then (nI 1, nI (c + 1)) else (nI 0, nI c)) := by
  have h := hK.1
  have h2 := (hK.2.1 c hc).1
  unfold f_X11_take
  by_cases e : K c = k
  · simp (disch := omega) only [X11_kinds, X11_starts, X11_values, X11_count, X11_cursor, X11_error, X11_errorToken, e, sb, nJ_of, nJ_lt, nJ_le, nJ_eq, nJ_clamp, nJ_add, nJ_sub, if_pos, if_neg, if_true, if_false, nL_0, nL_1, nL_2, nL_3, nL_4, nL_5, nL_6, nL_7, nL_8, nL_9, nL_10, nL_11, nL_12, nL_13, nL_14, nL_15, nL_16, nL_17, nL_18, nL_19, nL_20, nL_21, nL_22, nL_23, nL_24, nL_25, nL_26, nL_27, nL_28, nL_29, nL_30, nL_31, nL_32, nL_33, nL_34, nL_35, nL_36, nL_37, nL_38, nL_39, nL_40, nL_41, nL_42, nL_43, nL_44, nL_45, nL_46, nL_47, nL_48, nL_49, nL_50, nL_51, nL_52, nL_53, nL_54, nL_55, nL_56, nL_57, nL_58, nL_59, nL_60, nL_61, nL_62, nL_63, nL_64, nL_65, nL_66, nL_67, nL_68, nL_69, nL_70, nL_400, nL_402, nL_800, nL_2000]
  · simp (disch := omega) only [X11_kinds, X11_starts, X11_values, X11_count, X11_cursor, X11_error, X11_errorToken, e, sb, nJ_of, nJ_lt, nJ_le, nJ_eq, nJ_clamp, nJ_add, nJ_sub, if_pos, if_neg, if_true, if_false, nL_0, nL_1, nL_2, nL_3, nL_4, nL_5, nL_6, nL_7, nL_8, nL_9, nL_10, nL_11, nL_12, nL_13, nL_14, nL_15, nL_16, nL_17, nL_18, nL_19, nL_20, nL_21, nL_22, nL_23, nL_24, nL_25, nL_26, nL_27, nL_28, nL_29, nL_30, nL_31, nL_32, nL_33, nL_34, nL_35, nL_36, nL_37, nL_38, nL_39, nL_40, nL_41, nL_42, nL_43, nL_44, nL_45, nL_46, nL_47, nL_48, nL_49, nL_50, nL_51, nL_52, nL_53, nL_54, nL_55, nL_56, nL_57, nL_58, nL_59, nL_60, nL_61, nL_62, nL_63, nL_64, nL_65, nL_66, nL_67, nL_68, nL_69, nL_70, nL_400, nL_402, nL_800, nL_2000]
theorem c_add (hs : s < 400) {k : Nat} (hk : k < 52) (x : Int32) : f_X6_addStep k x (oA, oB, oC, oD, sk, sv, oE, nI (s)) = some (nI 1, va_up sk s k, upd sv s x, nI (s + 1)) := by
  unfold f_X6_addStep
  simp (disch := omega) only [X6_deeds, X6_targets, X6_firstSteps, X6_endSteps, X6_stepKinds, X6_stepValues, X6_count, X6_steps, sb, nJ_of, nJ_lt, nJ_le, nJ_eq, nJ_clamp, nJ_add, nJ_sub, if_pos, if_neg, if_true, if_false, nL_0, nL_1, nL_2, nL_3, nL_4, nL_5, nL_6, nL_7, nL_8, nL_9, nL_10, nL_11, nL_12, nL_13, nL_14, nL_15, nL_16, nL_17, nL_18, nL_19, nL_20, nL_21, nL_22, nL_23, nL_24, nL_25, nL_26, nL_27, nL_28, nL_29, nL_30, nL_31, nL_32, nL_33, nL_34, nL_35, nL_36, nL_37, nL_38, nL_39, nL_40, nL_41, nL_42, nL_43, nL_44, nL_45, nL_46, nL_47, nL_48, nL_49, nL_50, nL_51, nL_52, nL_53, nL_54, nL_55, nL_56, nL_57, nL_58, nL_59, nL_60, nL_61, nL_62, nL_63, nL_64, nL_65, nL_66, nL_67, nL_68, nL_69, nL_70, nL_400, nL_402, nL_800, nL_2000]
theorem m_isk (hK : TKO K kd t) (hc : c ≤ t) (x k : Nat) (hx : kpa k = x) (hk : k < 51) : f_X14_is (nI x) (th, ta, bs, ea, kd, nu, po, ln, (nI c), (nI 0), er, et, dp, fn, gn, va, N, kp) = some (if K c = k then nI 1 else nI 0) := by
  obtain ⟨h1, h2, -, -⟩ := hK
  obtain ⟨a, b⟩ := h2 c hc
  have l1 := kpa_lt _ a
  have l2 := kpa_lt _ hk
  rw [m_is x (k := kpa (K c)) (by omega) (by omega) b (by omega)]
  by_cases e : K c = k
  · rw [if_pos e, if_pos (by rw [e, hx])]
  · rw [if_neg e, if_neg (fun q => e (kpa_inj _ a _ hk (q.trans hx.symm)))]
theorem m_takesk (hK : TKO K kd t) (hc : c ≤ t) (x k : Nat) (hx : kpa k = x) (hk : k < 51) : f_X14_takes (nI x) (th, ta, bs, ea, kd, nu, po, ln, (nI c), (nI 0), er, et, dp, fn, gn, va, N, kp) = some (if K c = k then (nI 1, nI (c + 1)) else (nI 0, nI c)) := by
  unfold f_X14_takes
  rw [m_isk hK hc x k hx hk]
  by_cases e : K c = k
  · simp (disch := omega) only [e, X14_token, sb, nJ_of, nJ_lt, nJ_le, nJ_eq, nJ_clamp, nJ_add, nJ_sub, if_pos, if_neg, if_true, if_false, nL_0, nL_1, nL_2, nL_3, nL_4, nL_5, nL_6, nL_7, nL_8, nL_9, nL_10, nL_11, nL_12, nL_13, nL_14, nL_15, nL_16, nL_17, nL_18, nL_19, nL_20, nL_21, nL_22, nL_23, nL_24, nL_25, nL_26, nL_27, nL_28, nL_29, nL_30, nL_31, nL_32, nL_33, nL_34, nL_35, nL_36, nL_37, nL_38, nL_39, nL_40, nL_41, nL_42, nL_43, nL_44, nL_45, nL_46, nL_47, nL_48, nL_49, nL_50, nL_51, nL_52, nL_53, nL_54, nL_55, nL_56, nL_57, nL_58, nL_59, nL_60, nL_61, nL_62, nL_63, nL_64, nL_65, nL_66, nL_67, nL_68, nL_69, nL_70, nL_400, nL_402, nL_800, nL_2000]
  · simp (disch := omega) only [if_neg e, X14_token, sb, nJ_of, nJ_lt, nJ_le, nJ_eq, nJ_clamp, nJ_add, nJ_sub, if_pos, if_neg, if_true, if_false, nL_0, nL_1, nL_2, nL_3, nL_4, nL_5, nL_6, nL_7, nL_8, nL_9, nL_10, nL_11, nL_12, nL_13, nL_14, nL_15, nL_16, nL_17, nL_18, nL_19, nL_20, nL_21, nL_22, nL_23, nL_24, nL_25, nL_26, nL_27, nL_28, nL_29, nL_30, nL_31, nL_32, nL_33, nL_34, nL_35, nL_36, nL_37, nL_38, nL_39, nL_40, nL_41, nL_42, nL_43, nL_44, nL_45, nL_46, nL_47, nL_48, nL_49, nL_50, nL_51, nL_52, nL_53, nL_54, nL_55, nL_56, nL_57, nL_58, nL_59, nL_60, nL_61, nL_62, nL_63, nL_64, nL_65, nL_66, nL_67, nL_68, nL_69, nL_70, nL_400, nL_402, nL_800, nL_2000]
theorem m_wrong0 : f_X14_wrong (th, ta, bs, ea, kd, nu, po, ln, tk, (nI 0), er, et, dp, fn, gn, va, N, kp) = some (nI 1, nI 1, tk) := by
  unfold f_X14_wrong
  simp (disch := omega) only [X14_isWrong, X14_token, sb, nJ_of, nJ_lt, nJ_le, nJ_eq, nJ_clamp, nJ_add, nJ_sub, if_pos, if_neg, if_true, if_false, nL_0, nL_1, nL_2, nL_3, nL_4, nL_5, nL_6, nL_7, nL_8, nL_9, nL_10, nL_11, nL_12, nL_13, nL_14, nL_15, nL_16, nL_17, nL_18, nL_19, nL_20, nL_21, nL_22, nL_23, nL_24, nL_25, nL_26, nL_27, nL_28, nL_29, nL_30, nL_31, nL_32, nL_33, nL_34, nL_35, nL_36, nL_37, nL_38, nL_39, nL_40, nL_41, nL_42, nL_43, nL_44, nL_45, nL_46, nL_47, nL_48, nL_49, nL_50, nL_51, nL_52, nL_53, nL_54, nL_55, nL_56, nL_57, nL_58, nL_59, nL_60, nL_61, nL_62, nL_63, nL_64, nL_65, nL_66, nL_67, nL_68, nL_69, nL_70, nL_400, nL_402, nL_800, nL_2000]
theorem m_takek (hK : TKO K kd t) (hc : c ≤ t) (x k : Nat) (hx : kpa k = x) (hk : k < 51) : f_X14_take (nI x) (th, ta, bs, ea, kd, nu, po, ln, (nI c), (nI 0), er, et, dp, fn, gn, va, N, kp) = some (if K c = k then (nI (c + 1), nI 0, er, et) else (nI c, nI 1, nI 1, nI c)) := by
  unfold f_X14_take
  rw [m_isk hK hc x k hx hk]
  by_cases e : K c = k
  · simp (disch := omega) only [e, X14_token, X14_isWrong, X14_error, X14_errorToken, sb, nJ_of, nJ_lt, nJ_le, nJ_eq, nJ_clamp, nJ_add, nJ_sub, if_pos, if_neg, if_true, if_false, nL_0, nL_1, nL_2, nL_3, nL_4, nL_5, nL_6, nL_7, nL_8, nL_9, nL_10, nL_11, nL_12, nL_13, nL_14, nL_15, nL_16, nL_17, nL_18, nL_19, nL_20, nL_21, nL_22, nL_23, nL_24, nL_25, nL_26, nL_27, nL_28, nL_29, nL_30, nL_31, nL_32, nL_33, nL_34, nL_35, nL_36, nL_37, nL_38, nL_39, nL_40, nL_41, nL_42, nL_43, nL_44, nL_45, nL_46, nL_47, nL_48, nL_49, nL_50, nL_51, nL_52, nL_53, nL_54, nL_55, nL_56, nL_57, nL_58, nL_59, nL_60, nL_61, nL_62, nL_63, nL_64, nL_65, nL_66, nL_67, nL_68, nL_69, nL_70, nL_400, nL_402, nL_800, nL_2000]
  · simp (disch := omega) only [if_neg e, X14_token, m_wrong0, sb, nJ_of, nJ_lt, nJ_le, nJ_eq, nJ_clamp, nJ_add, nJ_sub, if_pos, if_neg, if_true, if_false, nL_0, nL_1, nL_2, nL_3, nL_4, nL_5, nL_6, nL_7, nL_8, nL_9, nL_10, nL_11, nL_12, nL_13, nL_14, nL_15, nL_16, nL_17, nL_18, nL_19, nL_20, nL_21, nL_22, nL_23, nL_24, nL_25, nL_26, nL_27, nL_28, nL_29, nL_30, nL_31, nL_32, nL_33, nL_34, nL_35, nL_36, nL_37, nL_38, nL_39, nL_40, nL_41, nL_42, nL_43, nL_44, nL_45, nL_46, nL_47, nL_48, nL_49, nL_50, nL_51, nL_52, nL_53, nL_54, nL_55, nL_56, nL_57, nL_58, nL_59, nL_60, nL_61, nL_62, nL_63, nL_64, nL_65, nL_66, nL_67, nL_68, nL_69, nL_70, nL_400, nL_402, nL_800, nL_2000]
theorem m_deeper {dd : Nat} (hd : dd ≤ 8) : f_X14_deeper (th, ta, bs, ea, kd, nu, po, ln, (nI c), (nI 0), er, et, (nI dd), fn, gn, va, N, kp) = some (if dd = 8 then (nI c, nI 1, nI 1, nI c, nI (dd + 1)) else (nI (c + 1), nI 0, er, et, nI (dd + 1))) := by
  unfold f_X14_deeper f_X14_deeper_R26
  by_cases e : dd = 8
  · simp (disch := omega) only [e, X14_thrown, X14_tape, X14_bytes, X14_errorAt, X14_kind, X14_number, X14_position, X14_length, X14_token, X14_isWrong, X14_error, X14_errorToken, X14_deep, X14_frontName, X14_guestName, X14_value, X14_now, X14_kept, m_wrong0, sb, nJ_of, nJ_lt, nJ_le, nJ_eq, nJ_clamp, nJ_add, nJ_sub, if_pos, if_neg, if_true, if_false, nL_0, nL_1, nL_2, nL_3, nL_4, nL_5, nL_6, nL_7, nL_8, nL_9, nL_10, nL_11, nL_12, nL_13, nL_14, nL_15, nL_16, nL_17, nL_18, nL_19, nL_20, nL_21, nL_22, nL_23, nL_24, nL_25, nL_26, nL_27, nL_28, nL_29, nL_30, nL_31, nL_32, nL_33, nL_34, nL_35, nL_36, nL_37, nL_38, nL_39, nL_40, nL_41, nL_42, nL_43, nL_44, nL_45, nL_46, nL_47, nL_48, nL_49, nL_50, nL_51, nL_52, nL_53, nL_54, nL_55, nL_56, nL_57, nL_58, nL_59, nL_60, nL_61, nL_62, nL_63, nL_64, nL_65, nL_66, nL_67, nL_68, nL_69, nL_70, nL_400, nL_402, nL_800, nL_2000]
  · simp (disch := omega) only [X14_thrown, X14_tape, X14_bytes, X14_errorAt, X14_kind, X14_number, X14_position, X14_length, X14_token, X14_isWrong, X14_error, X14_errorToken, X14_deep, X14_frontName, X14_guestName, X14_value, X14_now, X14_kept, sb, nJ_of, nJ_lt, nJ_le, nJ_eq, nJ_clamp, nJ_add, nJ_sub, if_pos, if_neg, if_true, if_false, nL_0, nL_1, nL_2, nL_3, nL_4, nL_5, nL_6, nL_7, nL_8, nL_9, nL_10, nL_11, nL_12, nL_13, nL_14, nL_15, nL_16, nL_17, nL_18, nL_19, nL_20, nL_21, nL_22, nL_23, nL_24, nL_25, nL_26, nL_27, nL_28, nL_29, nL_30, nL_31, nL_32, nL_33, nL_34, nL_35, nL_36, nL_37, nL_38, nL_39, nL_40, nL_41, nL_42, nL_43, nL_44, nL_45, nL_46, nL_47, nL_48, nL_49, nL_50, nL_51, nL_52, nL_53, nL_54, nL_55, nL_56, nL_57, nL_58, nL_59, nL_60, nL_61, nL_62, nL_63, nL_64, nL_65, nL_66, nL_67, nL_68, nL_69, nL_70, nL_400, nL_402, nL_800, nL_2000]
theorem m_node (x y z : Int32) {q : Nat} (hq : q < 800) : f_X14_node x y z (th, ta, bs, ea, kd, nu, po, ln, tk, wr, er, et, dp, fn, gn, va, N, kp) (pf, pw, pc, px, py, pg, ps, pl, ph, pn, pO, pd, pW, pF, pT, pt, (nI q), so, le, ri) = some (nI q, nI (q + 1), upd so q x, upd le q y, upd ri q z) := by
  unfold f_X14_node
  simp (disch := omega) only [X13_fronts, X13_warm, X13_force, X13_comes, X13_stays, X13_guests, X13_sits, X13_low, X13_high, X13_nerve, X13_orders, X13_does, X13_whom, X13_from, X13_to, X13_test, X13_nodes, X13_sort, X13_left, X13_right, sb, nJ_of, nJ_lt, nJ_le, nJ_eq, nJ_clamp, nJ_add, nJ_sub, if_pos, if_neg, if_true, if_false, nL_0, nL_1, nL_2, nL_3, nL_4, nL_5, nL_6, nL_7, nL_8, nL_9, nL_10, nL_11, nL_12, nL_13, nL_14, nL_15, nL_16, nL_17, nL_18, nL_19, nL_20, nL_21, nL_22, nL_23, nL_24, nL_25, nL_26, nL_27, nL_28, nL_29, nL_30, nL_31, nL_32, nL_33, nL_34, nL_35, nL_36, nL_37, nL_38, nL_39, nL_40, nL_41, nL_42, nL_43, nL_44, nL_45, nL_46, nL_47, nL_48, nL_49, nL_50, nL_51, nL_52, nL_53, nL_54, nL_55, nL_56, nL_57, nL_58, nL_59, nL_60, nL_61, nL_62, nL_63, nL_64, nL_65, nL_66, nL_67, nL_68, nL_69, nL_70, nL_400, nL_402, nL_800, nL_2000]
/-- what the model knows of names -/
def KNW (n : Nat) (pf pg : Int32) (ta kd nu po ln fn gn : Nat → Int32) (K : Nat → Nat) (kF kG : Nat → Int32) (t : Nat) : Prop := ∀ (th bs ea wr er et dp : Int32) (va N kp : Nat → Int32) (j : Nat), j < t → K j = 47 → f_X14_known n pf (th, ta, bs, ea, kd, nu, po, ln, (nI j), wr, er, et, dp, fn, gn, va, N, kp) 10 fn = some (kF j) ∧ f_X14_known n pg (th, ta, bs, ea, kd, nu, po, ln, (nI j), wr, er, et, dp, fn, gn, va, N, kp) 10 gn = some (kG j) ∧ (kF j = -nI 1 ∨ ∃ i, i < 10 ∧ kF j = nI i) ∧ (kG j = -nI 1 ∨ ∃ i, i < 10 ∧ kG j = nI i)
theorem m_front {kF kG : Nat → Int32} (hK : TKO K kd t) (hW : KNW n pf pg ta kd nu po ln fn gn K kF kG t) (hc : c ≤ t) : f_X14_front n (th, ta, bs, ea, kd, nu, po, ln, (nI c), (nI 0), er, et, dp, fn, gn, va, N, kp) (pf, pw, pc, px, py, pg, ps, pl, ph, pn, pO, pd, pW, pF, pT, pt, nd, so, le, ri) = some (if K c = 47 then (lFx (kF c), nI (c + 1), nI 0, (if kF c = -nI 1 then (mk3 c (er, et)).1 else er), (if kF c = -nI 1 then (mk3 c (er, et)).2 else et)) else (nI 0, nI c, nI 1, nI 1, nI c)) := by
  have h4 := hK.2.2.2
  unfold f_X14_front f_X14_name
  have e40 := m_isk (N := N) (th := th) (ta := ta) (bs := bs) (ea := ea) (kd := kd) (nu := nu) (po := po) (ln := ln) (er := er) (et := et) (dp := dp) (fn := fn) (gn := gn) (va := va) (kp := kp) hK hc 40 47 rfl (by omega)
  by_cases e : K c = 47
  · have hlt : c < t := by
      rcases Nat.lt_or_ge c t with q | q
      · exact q
      · have : c = t := by omega
        subst this
        omega
    obtain ⟨w1, -, w3, -⟩ := hW th bs ea (nI 0) er et dp va N kp c hlt e
    rw [if_pos e]
    unfold f_X14_name_R19 f_X14_name_R30
    rcases w3 with q | ⟨i, hi, q⟩
    · have hm : f_X14_mark (nI 3) (th, ta, bs, ea, kd, nu, po, ln, (nI c), (nI 0), er, et, dp, fn, gn, va, N, kp) = some (mk3 c (er, et)) := by
        unfold f_X14_mark mk3
        by_cases z : er = nI 0
        · simp (disch := omega) only [X14_thrown, X14_tape, X14_bytes, X14_errorAt, X14_kind, X14_number, X14_position, X14_length, X14_token, X14_isWrong, X14_error, X14_errorToken, X14_deep, X14_frontName, X14_guestName, X14_value, X14_now, X14_kept, if_pos z, z, sb, nJ_of, nJ_lt, nJ_le, nJ_eq, nJ_clamp, nJ_add, nJ_sub, if_pos, if_neg, if_true, if_false, nL_0, nL_1, nL_2, nL_3, nL_4, nL_5, nL_6, nL_7, nL_8, nL_9, nL_10, nL_11, nL_12, nL_13, nL_14, nL_15, nL_16, nL_17, nL_18, nL_19, nL_20, nL_21, nL_22, nL_23, nL_24, nL_25, nL_26, nL_27, nL_28, nL_29, nL_30, nL_31, nL_32, nL_33, nL_34, nL_35, nL_36, nL_37, nL_38, nL_39, nL_40, nL_41, nL_42, nL_43, nL_44, nL_45, nL_46, nL_47, nL_48, nL_49, nL_50, nL_51, nL_52, nL_53, nL_54, nL_55, nL_56, nL_57, nL_58, nL_59, nL_60, nL_61, nL_62, nL_63, nL_64, nL_65, nL_66, nL_67, nL_68, nL_69, nL_70, nL_400, nL_402, nL_800, nL_2000]
        · simp (disch := omega) only [X14_thrown, X14_tape, X14_bytes, X14_errorAt, X14_kind, X14_number, X14_position, X14_length, X14_token, X14_isWrong, X14_error, X14_errorToken, X14_deep, X14_frontName, X14_guestName, X14_value, X14_now, X14_kept, z, sb, nJ_of, nJ_lt, nJ_le, nJ_eq, nJ_clamp, nJ_add, nJ_sub, if_pos, if_neg, if_true, if_false, nL_0, nL_1, nL_2, nL_3, nL_4, nL_5, nL_6, nL_7, nL_8, nL_9, nL_10, nL_11, nL_12, nL_13, nL_14, nL_15, nL_16, nL_17, nL_18, nL_19, nL_20, nL_21, nL_22, nL_23, nL_24, nL_25, nL_26, nL_27, nL_28, nL_29, nL_30, nL_31, nL_32, nL_33, nL_34, nL_35, nL_36, nL_37, nL_38, nL_39, nL_40, nL_41, nL_42, nL_43, nL_44, nL_45, nL_46, nL_47, nL_48, nL_49, nL_50, nL_51, nL_52, nL_53, nL_54, nL_55, nL_56, nL_57, nL_58, nL_59, nL_60, nL_61, nL_62, nL_63, nL_64, nL_65, nL_66, nL_67, nL_68, nL_69, nL_70, nL_400, nL_402, nL_800, nL_2000]
      have e41 := m_takek (er := (mk3 c (er, et)).1) (et := (mk3 c (er, et)).2) (N := N) (th := th) (ta := ta) (bs := bs) (ea := ea) (kd := kd) (nu := nu) (po := po) (ln := ln) (dp := dp) (fn := fn) (gn := gn) (va := va) (kp := kp) hK hc 40 47 rfl (by omega)
      rw [q] at w1
      simp (disch := omega) only [e40, e, w1, q, X13_fronts, X14_thrown, X14_tape, X14_bytes, X14_errorAt, X14_kind, X14_number, X14_position, X14_length, X14_token, X14_isWrong, X14_error, X14_errorToken, X14_deep, X14_frontName, X14_guestName, X14_value, X14_now, X14_kept, hm, e41, lFx, sb, nJ_of, nJ_lt, nJ_le, nJ_eq, nJ_clamp, nJ_add, nJ_sub, if_pos, if_neg, if_true, if_false, nL_0, nL_1, nL_2, nL_3, nL_4, nL_5, nL_6, nL_7, nL_8, nL_9, nL_10, nL_11, nL_12, nL_13, nL_14, nL_15, nL_16, nL_17, nL_18, nL_19, nL_20, nL_21, nL_22, nL_23, nL_24, nL_25, nL_26, nL_27, nL_28, nL_29, nL_30, nL_31, nL_32, nL_33, nL_34, nL_35, nL_36, nL_37, nL_38, nL_39, nL_40, nL_41, nL_42, nL_43, nL_44, nL_45, nL_46, nL_47, nL_48, nL_49, nL_50, nL_51, nL_52, nL_53, nL_54, nL_55, nL_56, nL_57, nL_58, nL_59, nL_60, nL_61, nL_62, nL_63, nL_64, nL_65, nL_66, nL_67, nL_68, nL_69, nL_70, nL_400, nL_402, nL_800, nL_2000]
      rfl
    · have e41 := m_takek (N := N) (th := th) (ta := ta) (bs := bs) (ea := ea) (kd := kd) (nu := nu) (po := po) (ln := ln) (er := er) (et := et) (dp := dp) (fn := fn) (gn := gn) (va := va) (kp := kp) hK hc 40 47 rfl (by omega)
      have hne := nJ_nm1 (a := i) (by omega)
      rw [q] at w1
      simp (disch := omega) only [e40, e, w1, q, X13_fronts, X14_thrown, X14_tape, X14_bytes, X14_errorAt, X14_kind, X14_number, X14_position, X14_length, X14_token, X14_isWrong, X14_error, X14_errorToken, X14_deep, X14_frontName, X14_guestName, X14_value, X14_now, X14_kept, hne, e41, lFx, sb, nJ_of, nJ_lt, nJ_le, nJ_eq, nJ_clamp, nJ_add, nJ_sub, if_pos, if_neg, if_true, if_false, nL_0, nL_1, nL_2, nL_3, nL_4, nL_5, nL_6, nL_7, nL_8, nL_9, nL_10, nL_11, nL_12, nL_13, nL_14, nL_15, nL_16, nL_17, nL_18, nL_19, nL_20, nL_21, nL_22, nL_23, nL_24, nL_25, nL_26, nL_27, nL_28, nL_29, nL_30, nL_31, nL_32, nL_33, nL_34, nL_35, nL_36, nL_37, nL_38, nL_39, nL_40, nL_41, nL_42, nL_43, nL_44, nL_45, nL_46, nL_47, nL_48, nL_49, nL_50, nL_51, nL_52, nL_53, nL_54, nL_55, nL_56, nL_57, nL_58, nL_59, nL_60, nL_61, nL_62, nL_63, nL_64, nL_65, nL_66, nL_67, nL_68, nL_69, nL_70, nL_400, nL_402, nL_800, nL_2000]
  · have e41 := m_takek (N := N) (th := th) (ta := ta) (bs := bs) (ea := ea) (kd := kd) (nu := nu) (po := po) (ln := ln) (er := er) (et := et) (dp := dp) (fn := fn) (gn := gn) (va := va) (kp := kp) hK hc 40 47 rfl (by omega)
    have h0 := nJ_nm1 (a := 0) (by omega)
    unfold f_X14_name_R19 f_X14_name_R30
    simp (disch := omega) only [e40, if_neg e, X14_thrown, X14_tape, X14_bytes, X14_errorAt, X14_kind, X14_number, X14_position, X14_length, X14_token, X14_isWrong, X14_error, X14_errorToken, X14_deep, X14_frontName, X14_guestName, X14_value, X14_now, X14_kept, h0, e41, sb, nJ_of, nJ_lt, nJ_le, nJ_eq, nJ_clamp, nJ_add, nJ_sub, if_pos, if_neg, if_true, if_false, nL_0, nL_1, nL_2, nL_3, nL_4, nL_5, nL_6, nL_7, nL_8, nL_9, nL_10, nL_11, nL_12, nL_13, nL_14, nL_15, nL_16, nL_17, nL_18, nL_19, nL_20, nL_21, nL_22, nL_23, nL_24, nL_25, nL_26, nL_27, nL_28, nL_29, nL_30, nL_31, nL_32, nL_33, nL_34, nL_35, nL_36, nL_37, nL_38, nL_39, nL_40, nL_41, nL_42, nL_43, nL_44, nL_45, nL_46, nL_47, nL_48, nL_49, nL_50, nL_51, nL_52, nL_53, nL_54, nL_55, nL_56, nL_57, nL_58, nL_59, nL_60, nL_61, nL_62, nL_63, nL_64, nL_65, nL_66, nL_67, nL_68, nL_69, nL_70, nL_400, nL_402, nL_800, nL_2000]
theorem m_guest {kF kG : Nat → Int32} (hK : TKO K kd t) (hW : KNW n pf pg ta kd nu po ln fn gn K kF kG t) (hc : c ≤ t) : f_X14_guest n (th, ta, bs, ea, kd, nu, po, ln, (nI c), (nI 0), er, et, dp, fn, gn, va, N, kp) (pf, pw, pc, px, py, pg, ps, pl, ph, pn, pO, pd, pW, pF, pT, pt, nd, so, le, ri) = some (if K c = 47 then (lFx (kG c), nI (c + 1), nI 0, (if kG c = -nI 1 then (mk3 c (er, et)).1 else er), (if kG c = -nI 1 then (mk3 c (er, et)).2 else et)) else (nI 0, nI c, nI 1, nI 1, nI c)) := by
  have h4 := hK.2.2.2
  unfold f_X14_guest f_X14_name
  have e40 := m_isk (N := N) (th := th) (ta := ta) (bs := bs) (ea := ea) (kd := kd) (nu := nu) (po := po) (ln := ln) (er := er) (et := et) (dp := dp) (fn := fn) (gn := gn) (va := va) (kp := kp) hK hc 40 47 rfl (by omega)
  by_cases e : K c = 47
  · have hlt : c < t := by
      rcases Nat.lt_or_ge c t with q | q
      · exact q
      · have : c = t := by omega
        subst this
        omega
    obtain ⟨-, w1, -, w3⟩ := hW th bs ea (nI 0) er et dp va N kp c hlt e
    rw [if_pos e]
    unfold f_X14_name_R19 f_X14_name_R30
    rcases w3 with q | ⟨i, hi, q⟩
    · have hm : f_X14_mark (nI 3) (th, ta, bs, ea, kd, nu, po, ln, (nI c), (nI 0), er, et, dp, fn, gn, va, N, kp) = some (mk3 c (er, et)) := by
        unfold f_X14_mark mk3
        by_cases z : er = nI 0
        · simp (disch := omega) only [X14_thrown, X14_tape, X14_bytes, X14_errorAt, X14_kind, X14_number, X14_position, X14_length, X14_token, X14_isWrong, X14_error, X14_errorToken, X14_deep, X14_frontName, X14_guestName, X14_value, X14_now, X14_kept, if_pos z, z, sb, nJ_of, nJ_lt, nJ_le, nJ_eq, nJ_clamp, nJ_add, nJ_sub, if_pos, if_neg, if_true, if_false, nL_0, nL_1, nL_2, nL_3, nL_4, nL_5, nL_6, nL_7, nL_8, nL_9, nL_10, nL_11, nL_12, nL_13, nL_14, nL_15, nL_16, nL_17, nL_18, nL_19, nL_20, nL_21, nL_22, nL_23, nL_24, nL_25, nL_26, nL_27, nL_28, nL_29, nL_30, nL_31, nL_32, nL_33, nL_34, nL_35, nL_36, nL_37, nL_38, nL_39, nL_40, nL_41, nL_42, nL_43, nL_44, nL_45, nL_46, nL_47, nL_48, nL_49, nL_50, nL_51, nL_52, nL_53, nL_54, nL_55, nL_56, nL_57, nL_58, nL_59, nL_60, nL_61, nL_62, nL_63, nL_64, nL_65, nL_66, nL_67, nL_68, nL_69, nL_70, nL_400, nL_402, nL_800, nL_2000]
        · simp (disch := omega) only [X14_thrown, X14_tape, X14_bytes, X14_errorAt, X14_kind, X14_number, X14_position, X14_length, X14_token, X14_isWrong, X14_error, X14_errorToken, X14_deep, X14_frontName, X14_guestName, X14_value, X14_now, X14_kept, z, sb, nJ_of, nJ_lt, nJ_le, nJ_eq, nJ_clamp, nJ_add, nJ_sub, if_pos, if_neg, if_true, if_false, nL_0, nL_1, nL_2, nL_3, nL_4, nL_5, nL_6, nL_7, nL_8, nL_9, nL_10, nL_11, nL_12, nL_13, nL_14, nL_15, nL_16, nL_17, nL_18, nL_19, nL_20, nL_21, nL_22, nL_23, nL_24, nL_25, nL_26, nL_27, nL_28, nL_29, nL_30, nL_31, nL_32, nL_33, nL_34, nL_35, nL_36, nL_37, nL_38, nL_39, nL_40, nL_41, nL_42, nL_43, nL_44, nL_45, nL_46, nL_47, nL_48, nL_49, nL_50, nL_51, nL_52, nL_53, nL_54, nL_55, nL_56, nL_57, nL_58, nL_59, nL_60, nL_61, nL_62, nL_63, nL_64, nL_65, nL_66, nL_67, nL_68, nL_69, nL_70, nL_400, nL_402, nL_800, nL_2000]
      have e41 := m_takek (er := (mk3 c (er, et)).1) (et := (mk3 c (er, et)).2) (N := N) (th := th) (ta := ta) (bs := bs) (ea := ea) (kd := kd) (nu := nu) (po := po) (ln := ln) (dp := dp) (fn := fn) (gn := gn) (va := va) (kp := kp) hK hc 40 47 rfl (by omega)
      rw [q] at w1
      simp (disch := omega) only [e40, e, w1, q, X13_guests, X14_thrown, X14_tape, X14_bytes, X14_errorAt, X14_kind, X14_number, X14_position, X14_length, X14_token, X14_isWrong, X14_error, X14_errorToken, X14_deep, X14_frontName, X14_guestName, X14_value, X14_now, X14_kept, hm, e41, lFx, sb, nJ_of, nJ_lt, nJ_le, nJ_eq, nJ_clamp, nJ_add, nJ_sub, if_pos, if_neg, if_true, if_false, nL_0, nL_1, nL_2, nL_3, nL_4, nL_5, nL_6, nL_7, nL_8, nL_9, nL_10, nL_11, nL_12, nL_13, nL_14, nL_15, nL_16, nL_17, nL_18, nL_19, nL_20, nL_21, nL_22, nL_23, nL_24, nL_25, nL_26, nL_27, nL_28, nL_29, nL_30, nL_31, nL_32, nL_33, nL_34, nL_35, nL_36, nL_37, nL_38, nL_39, nL_40, nL_41, nL_42, nL_43, nL_44, nL_45, nL_46, nL_47, nL_48, nL_49, nL_50, nL_51, nL_52, nL_53, nL_54, nL_55, nL_56, nL_57, nL_58, nL_59, nL_60, nL_61, nL_62, nL_63, nL_64, nL_65, nL_66, nL_67, nL_68, nL_69, nL_70, nL_400, nL_402, nL_800, nL_2000]
      rfl
    · have e41 := m_takek (N := N) (th := th) (ta := ta) (bs := bs) (ea := ea) (kd := kd) (nu := nu) (po := po) (ln := ln) (er := er) (et := et) (dp := dp) (fn := fn) (gn := gn) (va := va) (kp := kp) hK hc 40 47 rfl (by omega)
      have hne := nJ_nm1 (a := i) (by omega)
      rw [q] at w1
      simp (disch := omega) only [e40, e, w1, q, X13_guests, X14_thrown, X14_tape, X14_bytes, X14_errorAt, X14_kind, X14_number, X14_position, X14_length, X14_token, X14_isWrong, X14_error, X14_errorToken, X14_deep, X14_frontName, X14_guestName, X14_value, X14_now, X14_kept, hne, e41, lFx, sb, nJ_of, nJ_lt, nJ_le, nJ_eq, nJ_clamp, nJ_add, nJ_sub, if_pos, if_neg, if_true, if_false, nL_0, nL_1, nL_2, nL_3, nL_4, nL_5, nL_6, nL_7, nL_8, nL_9, nL_10, nL_11, nL_12, nL_13, nL_14, nL_15, nL_16, nL_17, nL_18, nL_19, nL_20, nL_21, nL_22, nL_23, nL_24, nL_25, nL_26, nL_27, nL_28, nL_29, nL_30, nL_31, nL_32, nL_33, nL_34, nL_35, nL_36, nL_37, nL_38, nL_39, nL_40, nL_41, nL_42, nL_43, nL_44, nL_45, nL_46, nL_47, nL_48, nL_49, nL_50, nL_51, nL_52, nL_53, nL_54, nL_55, nL_56, nL_57, nL_58, nL_59, nL_60, nL_61, nL_62, nL_63, nL_64, nL_65, nL_66, nL_67, nL_68, nL_69, nL_70, nL_400, nL_402, nL_800, nL_2000]
  · have e41 := m_takek (N := N) (th := th) (ta := ta) (bs := bs) (ea := ea) (kd := kd) (nu := nu) (po := po) (ln := ln) (er := er) (et := et) (dp := dp) (fn := fn) (gn := gn) (va := va) (kp := kp) hK hc 40 47 rfl (by omega)
    have h0 := nJ_nm1 (a := 0) (by omega)
    unfold f_X14_name_R19 f_X14_name_R30
    simp (disch := omega) only [e40, if_neg e, X14_thrown, X14_tape, X14_bytes, X14_errorAt, X14_kind, X14_number, X14_position, X14_length, X14_token, X14_isWrong, X14_error, X14_errorToken, X14_deep, X14_frontName, X14_guestName, X14_value, X14_now, X14_kept, h0, e41, sb, nJ_of, nJ_lt, nJ_le, nJ_eq, nJ_clamp, nJ_add, nJ_sub, if_pos, if_neg, if_true, if_false, nL_0, nL_1, nL_2, nL_3, nL_4, nL_5, nL_6, nL_7, nL_8, nL_9, nL_10, nL_11, nL_12, nL_13, nL_14, nL_15, nL_16, nL_17, nL_18, nL_19, nL_20, nL_21, nL_22, nL_23, nL_24, nL_25, nL_26, nL_27, nL_28, nL_29, nL_30, nL_31, nL_32, nL_33, nL_34, nL_35, nL_36, nL_37, nL_38, nL_39, nL_40, nL_41, nL_42, nL_43, nL_44, nL_45, nL_46, nL_47, nL_48, nL_49, nL_50, nL_51, nL_52, nL_53, nL_54, nL_55, nL_56, nL_57, nL_58, nL_59, nL_60, nL_61, nL_62, nL_63, nL_64, nL_65, nL_66, nL_67, nL_68, nL_69, nL_70, nL_400, nL_402, nL_800, nL_2000]
end P21
