/-! an hour: weather, storm, who comes and goes -/
theorem nJ_subI {a b : Nat} (ha : a < 1000000) (hb : b < 1000000) : (nI a - nI b).toInt = (a : Int) - b := by
  rw [Int32.toInt_sub, nI_toInt (by omega), nI_toInt (by omega)]
  have h2 : (2 : Int) ^ 32 = 4294967296 := by decide
  rw [Int.bmod_eq_of_le] <;> omega
theorem nJ_subneg {a b : Nat} (ha : a < b) (hb : b < 1000000) : (nI 0 < nI a - nI b) = False := by
  refine eq_false (fun e => ?_)
  rw [Int32.lt_iff_toInt_lt, nJ_subI (by omega) hb, nI_toInt (by decide)] at e
  omega
theorem nJ_sublt {a b c : Nat} (ha : a < b) (hb : b < 1000000) (hc : c < 1000000) : (nI a - nI b < nI c) = True := by
  refine eq_true ?_
  rw [Int32.lt_iff_toInt_lt, nJ_subI (by omega) hb, nI_toInt (by omega)]
  omega
/-- held between 0 and 40 -/
theorem held40 {a b : Nat} (ha : a < 1000000) (hb : b < 1000000) : (if nI 0 < (if nI a - nI b < nI 40 then nI a - nI b else nI 40) then (if nI a - nI b < nI 40 then nI a - nI b else nI 40) else nI 0) = nI (min 40 (a - b)) := by
  by_cases c : b ≤ a
  · by_cases d : a - b < 40
    · by_cases e : a - b = 0
      · simp (disch := omega) only [e, Nat.min_eq_right, sb, nJ_of, nJ_lt, nJ_le, nJ_eq, nJ_clamp, nJ_add, nJ_sub, if_pos, if_neg, if_true, if_false, nL_0, nL_1, nL_2, nL_3, nL_4, nL_5, nL_6, nL_7, nL_8, nL_9, nL_10, nL_11, nL_12, nL_13, nL_14, nL_15, nL_16, nL_17, nL_18, nL_19, nL_20, nL_21, nL_22, nL_23, nL_24, nL_25, nL_26, nL_27, nL_28, nL_29, nL_30, nL_31, nL_32, nL_33, nL_34, nL_35, nL_36, nL_37, nL_38, nL_39, nL_40, nL_41, nL_42, nL_43, nL_44, nL_45, nL_46, nL_47, nL_48, nL_49, nL_50, nL_51, nL_52, nL_53, nL_54, nL_55, nL_56, nL_57, nL_58, nL_59, nL_60, nL_61, nL_62, nL_63, nL_64, nL_65, nL_66, nL_67, nL_68, nL_69, nL_70, nL_400, nL_402, nL_800, nL_2000]
      · simp (disch := omega) only [sb, nJ_of, nJ_lt, nJ_le, nJ_eq, nJ_clamp, nJ_add, nJ_sub, if_pos, if_neg, if_true, if_false, nL_0, nL_1, nL_2, nL_3, nL_4, nL_5, nL_6, nL_7, nL_8, nL_9, nL_10, nL_11, nL_12, nL_13, nL_14, nL_15, nL_16, nL_17, nL_18, nL_19, nL_20, nL_21, nL_22, nL_23, nL_24, nL_25, nL_26, nL_27, nL_28, nL_29, nL_30, nL_31, nL_32, nL_33, nL_34, nL_35, nL_36, nL_37, nL_38, nL_39, nL_40, nL_41, nL_42, nL_43, nL_44, nL_45, nL_46, nL_47, nL_48, nL_49, nL_50, nL_51, nL_52, nL_53, nL_54, nL_55, nL_56, nL_57, nL_58, nL_59, nL_60, nL_61, nL_62, nL_63, nL_64, nL_65, nL_66, nL_67, nL_68, nL_69, nL_70, nL_400, nL_402, nL_800, nL_2000]
        rw [Nat.min_eq_right (by omega)]
    · simp (disch := omega) only [sb, nJ_of, nJ_lt, nJ_le, nJ_eq, nJ_clamp, nJ_add, nJ_sub, if_pos, if_neg, if_true, if_false, nL_0, nL_1, nL_2, nL_3, nL_4, nL_5, nL_6, nL_7, nL_8, nL_9, nL_10, nL_11, nL_12, nL_13, nL_14, nL_15, nL_16, nL_17, nL_18, nL_19, nL_20, nL_21, nL_22, nL_23, nL_24, nL_25, nL_26, nL_27, nL_28, nL_29, nL_30, nL_31, nL_32, nL_33, nL_34, nL_35, nL_36, nL_37, nL_38, nL_39, nL_40, nL_41, nL_42, nL_43, nL_44, nL_45, nL_46, nL_47, nL_48, nL_49, nL_50, nL_51, nL_52, nL_53, nL_54, nL_55, nL_56, nL_57, nL_58, nL_59, nL_60, nL_61, nL_62, nL_63, nL_64, nL_65, nL_66, nL_67, nL_68, nL_69, nL_70, nL_400, nL_402, nL_800, nL_2000]
      rw [Nat.min_eq_left (by omega)]
  · simp (disch := omega) only [nJ_sublt, nJ_subneg, sb, nJ_of, nJ_lt, nJ_le, nJ_eq, nJ_clamp, nJ_add, nJ_sub, if_pos, if_neg, if_true, if_false, nL_0, nL_1, nL_2, nL_3, nL_4, nL_5, nL_6, nL_7, nL_8, nL_9, nL_10, nL_11, nL_12, nL_13, nL_14, nL_15, nL_16, nL_17, nL_18, nL_19, nL_20, nL_21, nL_22, nL_23, nL_24, nL_25, nL_26, nL_27, nL_28, nL_29, nL_30, nL_31, nL_32, nL_33, nL_34, nL_35, nL_36, nL_37, nL_38, nL_39, nL_40, nL_41, nL_42, nL_43, nL_44, nL_45, nL_46, nL_47, nL_48, nL_49, nL_50, nL_51, nL_52, nL_53, nL_54, nL_55, nL_56, nL_57, nL_58, nL_59, nL_60, nL_61, nL_62, nL_63, nL_64, nL_65, nL_66, nL_67, nL_68, nL_69, nL_70, nL_400, nL_402, nL_800, nL_2000]
    rw [Nat.min_eq_right (by omega)]
    have e : a - b = 0 := by omega
    rw [e]
def tw (w : Nat) : Nat := if w < 20 then w + 1 else if w = 20 then 20 else w - 1
def cmpV (a b : Nat) : Int32 := if b ≤ a then if a = b then 0 else 1 else -1
theorem cmp1 : ∀ w : Nat, w < 41 → f_J6_compare_7cf53 (nI 20) (nI w) = some (cmpV 20 w) ∧ nI w + cmpV 20 w = nI (tw w) ∧ f_J6_compare_7cf53 (nI w) (nI 20) = some (cmpV w 20) ∧ nI w - cmpV w 20 = nI (tw w) ∧ tw w ≤ 40 := by decide +kernel
/-- a row in which some things change -/
def fillN (c : Nat → Bool) (b : Nat) (v : Int32) (N : Nat → Int32) : Nat → Nat → Int32
  | 0 => N
  | i + 1 => bif c i then upd (fillN c b v N i) (b + i) v else fillN c b v N i
theorem fillN_s {c : Nat → Bool} {b : Nat} {v : Int32} {N : Nat → Int32} (i : Nat) : fillN c b v N (i + 1) = bif c i then upd (fillN c b v N i) (b + i) v else fillN c b v N i := rfl
theorem fillN_t {c : Nat → Bool} {b : Nat} {v : Int32} {N : Nat → Int32} {i : Nat} (h : c i = true) : fillN c b v N (i + 1) = upd (fillN c b v N i) (b + i) v := by rw [fillN_s, h]; rfl
theorem fillN_f {c : Nat → Bool} {b : Nat} {v : Int32} {N : Nat → Int32} {i : Nat} (h : c i = false) : fillN c b v N (i + 1) = fillN c b v N i := by rw [fillN_s, h]; rfl
theorem fillN_out {c : Nat → Bool} {b : Nat} {v : Int32} {N : Nat → Int32} {j : Nat} : ∀ {i : Nat}, (j < b ∨ b + i ≤ j) → fillN c b v N i j = N j
  | 0, _ => rfl
  | i + 1, h => by
    cases e : c i with
    | true => rw [fillN_t e, upd_else _ _ (by omega), fillN_out (by omega)]
    | false => rw [fillN_f e, fillN_out (by omega)]
theorem fillN_in {c : Nat → Bool} {b : Nat} {v : Int32} {N : Nat → Int32} {f : Nat} : ∀ {i : Nat}, f < i → fillN c b v N i (b + f) = bif c f then v else N (b + f)
  | 0, h => by omega
  | i + 1, h => by
    by_cases e : f = i
    · subst e
      cases e : c f with
      | true => rw [fillN_t e, upd_same]; rfl
      | false => rw [fillN_f e, fillN_out (by omega)]; rfl
    · cases e2 : c i with
      | true => rw [fillN_t e2, upd_else _ _ (by omega), fillN_in (by omega)]
      | false => rw [fillN_f e2, fillN_in (by omega)]
section P6
variable {F : bX2} {G : bX4} {T : bX13} {nf ng : Nat} {fo fr hr gr : Nat → Nat} {N : Nat → Int32} {h n : Nat} {th bs ea tk wr er et dp : Int32} {ta kd nu po ln fn gn va kp : Nat → Int32}
variable {ho wa sr ch lm sa co sm : Int32} {fs gs gt : Nat → Int32}
def wmN (N : Nat → Int32) (T : bX13) (fo : Nat → Nat) (f : Nat) : Nat := if X13_warm T f = nI 1 then bitN N f * fo f else 0
def cdN (N : Nat → Int32) (T : bX13) (fo : Nat → Nat) (f : Nat) : Nat := if X13_warm T f = nI 1 then 0 else bitN N f * fo f
def calN (N : Nat → Int32) : Nat → Nat
  | 0 => 1
  | i + 1 => if bitN N i = 0 then calN N i else 0
theorem calN_eq (hf : ∀ f, f < nf → 1 ≤ fo f) : ∀ {i : Nat}, i ≤ nf → calN N i = if sumN (wmN N T fo) i + sumN (cdN N T fo) i = 0 then 1 else 0
  | 0, _ => rfl
  | i + 1, hi => by
    rw [calN, calN_eq hf (by omega), sumN, sumN]
    have h1 := hf i (by omega)
    have hb := bitN_le N i
    have ew : wmN N T fo i = (if X13_warm T i = nI 1 then bitN N i * fo i else 0) := rfl
    have ed : cdN N T fo i = (if X13_warm T i = nI 1 then 0 else bitN N i * fo i) := rfl
    rw [ew, ed]
    by_cases c : bitN N i = 0
    · rw [if_pos c, c, Nat.zero_mul]
      by_cases d : X13_warm T i = nI 1
      · rw [if_pos d]
        rfl
      · rw [if_neg d]
        rfl
    · have e : bitN N i = 1 := by omega
      rw [if_neg c, e, Nat.one_mul]
      by_cases d : X13_warm T i = nI 1
      · rw [if_pos d, if_pos d, if_neg (by omega)]
      · rw [if_neg d, if_neg d, if_neg (by omega)]
theorem wc_le (hp : RPl F G T nf ng fo fr hr gr) : ∀ {i : Nat}, i ≤ nf → sumN (wmN N T fo) i ≤ 9 * i ∧ sumN (cdN N T fo) i ≤ 9 * i := fun {i} hi => by
  have key : ∀ f, f < i → bitN N f * fo f ≤ 9 := fun f hf => by
    have a := (hp_fo hp (f := f) (by omega)).2.2.2
    have b := bitN_le N f
    have := Nat.mul_le_mul b a
    omega
  exact ⟨sumN_le (fun f hf => by
    have := key f hf
    unfold wmN
    split <;> omega), sumN_le (fun f hf => by
    have := key f hf
    unfold cdN
    split <;> omega)⟩
/-- the warmth and the charge behind the wind -/
def wS (w W C : Nat) : Nat := if W + C = 0 then tw w else min 40 (w + W - C)
def cS (c W C : Nat) : Nat := min 30 (c + min W C)
theorem min_if {a b : Nat} : (if b < a then nI b else nI a) = nI (min a b) := by
  by_cases c : b < a
  · rw [if_pos c, Nat.min_eq_right (by omega)]
  · rw [if_neg c, Nat.min_eq_left (by omega)]
theorem k_blow (hp : RPl F G T nf ng fo fr hr gr) (ht : RPt nf ng fr hr gr (ho, wa, sr, ch, lm, sa, co, sm, fs, gs, gt) N h) (hh : h < 1000000) (hn : 20 < n) {w c : Nat} (hw : w ≤ 40) (hc : c ≤ 30) (ew : wa = nI w) (ec : ch = nI c) : f_X8_blow n (ho, wa, sr, ch, lm, sa, co, sm, fs, gs, gt) F = some (nI (wS w (sumN (wmN N T fo) nf) (sumN (cdN N T fo) nf)), nI (cS c (sumN (wmN N T fo) nf) (sumN (cdN N T fo) nf))) := by
  have p1 := hp.1
  have p3 := hp.2.2.1
  unfold f_X8_blow
  refine iter_count _ (fun i => (nI (sumN (wmN N T fo) i), nI (sumN (cdN N T fo) i), nI i)) nf _ (fun i hi => ?_) ?_ (by omega)
  · show f_X8_blow_L6 n (ho, wa, sr, ch, lm, sa, co, sm, fs, gs, gt) F (nI (sumN (wmN N T fo) i)) (nI (sumN (cdN N T fo) i)) (nI i) wa ch = _
    have k := k_over hp ht hh hi
    have hb := bitN_le N i
    have h2 := (hp_fo hp hi).1
    have h3 : (X2_warm F i = nI 0 ∨ X2_warm F i = nI 1) ∧ X13_warm T i = X2_warm F i := ⟨(hp.2.2.2.2.2.2.1 i hi).1, (hp.2.2.2.2.2.2.1 i hi).2.1⟩
    obtain ⟨l1, l2⟩ := wc_le (N := N) hp (i := i) (by omega)
    unfold f_X8_blow_L6 f_X8_blow_R61
    rw [ht_bitN ht hi] at k
    by_cases e : bitN N i = 0
    · simp (disch := omega) only [X8_hour, X8_strength, X8_lemons, X8_saucers, X8_coins, X8_storms, X8_frontSteeped, X8_guestServed, X8_guestStormed, k, e, p3, sumN, wmN, cdN, Nat.zero_mul, ite_self, Nat.add_zero, sb, nJ_of, nJ_lt, nJ_le, nJ_eq, nJ_clamp, nJ_add, nJ_sub, if_pos, if_neg, if_true, if_false, nL_0, nL_1, nL_2, nL_3, nL_4, nL_5, nL_6, nL_7, nL_8, nL_9, nL_10, nL_11, nL_12, nL_13, nL_14, nL_15, nL_16, nL_17, nL_18, nL_19, nL_20, nL_21, nL_22, nL_23, nL_24, nL_25, nL_26, nL_27, nL_28, nL_29, nL_30, nL_31, nL_32, nL_33, nL_34, nL_35, nL_36, nL_37, nL_38, nL_39, nL_40, nL_41, nL_42, nL_43, nL_44, nL_45, nL_46, nL_47, nL_48, nL_49, nL_50, nL_51, nL_52, nL_53, nL_54, nL_55, nL_56, nL_57, nL_58, nL_59, nL_60, nL_61, nL_62, nL_63, nL_64, nL_65, nL_66, nL_67, nL_68, nL_69, nL_70, nL_400, nL_402, nL_800, nL_2000]
    · have e : bitN N i = 1 := by omega
      rcases h3 with ⟨d | d, d2⟩
      · rw [d] at d2
        simp (disch := omega) only [X8_hour, X8_strength, X8_lemons, X8_saucers, X8_coins, X8_storms, X8_frontSteeped, X8_guestServed, X8_guestStormed, k, e, p3, sumN, wmN, cdN, Nat.one_mul, d, d2, h2, Nat.add_zero, sb, nJ_of, nJ_lt, nJ_le, nJ_eq, nJ_clamp, nJ_add, nJ_sub, if_pos, if_neg, if_true, if_false, nL_0, nL_1, nL_2, nL_3, nL_4, nL_5, nL_6, nL_7, nL_8, nL_9, nL_10, nL_11, nL_12, nL_13, nL_14, nL_15, nL_16, nL_17, nL_18, nL_19, nL_20, nL_21, nL_22, nL_23, nL_24, nL_25, nL_26, nL_27, nL_28, nL_29, nL_30, nL_31, nL_32, nL_33, nL_34, nL_35, nL_36, nL_37, nL_38, nL_39, nL_40, nL_41, nL_42, nL_43, nL_44, nL_45, nL_46, nL_47, nL_48, nL_49, nL_50, nL_51, nL_52, nL_53, nL_54, nL_55, nL_56, nL_57, nL_58, nL_59, nL_60, nL_61, nL_62, nL_63, nL_64, nL_65, nL_66, nL_67, nL_68, nL_69, nL_70, nL_400, nL_402, nL_800, nL_2000]
      · rw [d] at d2
        simp (disch := omega) only [X8_hour, X8_strength, X8_lemons, X8_saucers, X8_coins, X8_storms, X8_frontSteeped, X8_guestServed, X8_guestStormed, k, e, p3, sumN, wmN, cdN, Nat.one_mul, d, d2, h2, Nat.add_zero, sb, nJ_of, nJ_lt, nJ_le, nJ_eq, nJ_clamp, nJ_add, nJ_sub, if_pos, if_neg, if_true, if_false, nL_0, nL_1, nL_2, nL_3, nL_4, nL_5, nL_6, nL_7, nL_8, nL_9, nL_10, nL_11, nL_12, nL_13, nL_14, nL_15, nL_16, nL_17, nL_18, nL_19, nL_20, nL_21, nL_22, nL_23, nL_24, nL_25, nL_26, nL_27, nL_28, nL_29, nL_30, nL_31, nL_32, nL_33, nL_34, nL_35, nL_36, nL_37, nL_38, nL_39, nL_40, nL_41, nL_42, nL_43, nL_44, nL_45, nL_46, nL_47, nL_48, nL_49, nL_50, nL_51, nL_52, nL_53, nL_54, nL_55, nL_56, nL_57, nL_58, nL_59, nL_60, nL_61, nL_62, nL_63, nL_64, nL_65, nL_66, nL_67, nL_68, nL_69, nL_70, nL_400, nL_402, nL_800, nL_2000]
  · show f_X8_blow_L6 n (ho, wa, sr, ch, lm, sa, co, sm, fs, gs, gt) F (nI (sumN (wmN N T fo) nf)) (nI (sumN (cdN N T fo) nf)) (nI nf) wa ch = _
    obtain ⟨l1, l2⟩ := wc_le (N := N) hp (i := nf) (by omega)
    generalize sumN (wmN N T fo) nf = W at l1 ⊢
    generalize sumN (cdN N T fo) nf = C at l2 ⊢
    have hm : min W C ≤ 90 := by omega
    obtain ⟨c1, c2, -, -, c5⟩ := cmp1 w (by omega)
    have eh := held40 (a := w + W) (b := C) (by omega) (by omega)
    unfold f_X8_blow_L6 f_X8_blow_R138 wS cS
    subst ew ec
    by_cases e : W + C = 0
    · have e1 : W = 0 := by omega
      have e2 : C = 0 := by omega
      subst e1 e2
      simp (disch := omega) only [p3, c1, c2, min_if, Nat.min_self, Nat.add_zero, sb, nJ_of, nJ_lt, nJ_le, nJ_eq, nJ_clamp, nJ_add, nJ_sub, if_pos, if_neg, if_true, if_false, nL_0, nL_1, nL_2, nL_3, nL_4, nL_5, nL_6, nL_7, nL_8, nL_9, nL_10, nL_11, nL_12, nL_13, nL_14, nL_15, nL_16, nL_17, nL_18, nL_19, nL_20, nL_21, nL_22, nL_23, nL_24, nL_25, nL_26, nL_27, nL_28, nL_29, nL_30, nL_31, nL_32, nL_33, nL_34, nL_35, nL_36, nL_37, nL_38, nL_39, nL_40, nL_41, nL_42, nL_43, nL_44, nL_45, nL_46, nL_47, nL_48, nL_49, nL_50, nL_51, nL_52, nL_53, nL_54, nL_55, nL_56, nL_57, nL_58, nL_59, nL_60, nL_61, nL_62, nL_63, nL_64, nL_65, nL_66, nL_67, nL_68, nL_69, nL_70, nL_400, nL_402, nL_800, nL_2000]
    · rw [if_neg e]
      have e' : ¬ nI (W + C) ≤ nI 0 := by rw [nJ_le (by omega) (by omega)]; omega
      simp (disch := omega) only [p3, nJ_add, nL_0, nL_30, nL_40, if_neg e', if_neg e, nJ_le, Nat.le_refl, if_true, eh, nJ_lt, min_if, sb, if_neg]
theorem k_weather (hp : RPl F G T nf ng fo fr hr gr) (ht : RPt nf ng fr hr gr (ho, wa, sr, ch, lm, sa, co, sm, fs, gs, gt) N h) (hn : 20 < n) {w c : Nat} (hw : w ≤ 40) (hc : c ≤ 30) (ew : N 1 = nI w) (ec : N 3 = nI c) : f_X14_weather n (th, ta, bs, ea, kd, nu, po, ln, tk, wr, er, et, dp, fn, gn, va, N, kp) T = some (upd (upd N 1 (nI (wS w (sumN (wmN N T fo) nf) (sumN (cdN N T fo) nf)))) 3 (nI (cS c (sumN (wmN N T fo) nf) (sumN (cdN N T fo) nf)))) := by
  have p1 := hp.1
  have p4 := hp.2.2.2.1
  unfold f_X14_weather
  refine iter_count _ (fun i => (nI (sumN (wmN N T fo) i), nI (sumN (cdN N T fo) i), nI (calN N i), nI i)) nf _ (fun i hi => ?_) ?_ (by omega)
  · show f_X14_weather_L9 n (th, ta, bs, ea, kd, nu, po, ln, tk, wr, er, et, dp, fn, gn, va, N, kp) T (nI (sumN (wmN N T fo) i)) (nI (sumN (cdN N T fo) i)) (nI (calN N i)) (nI i) N = _
    have hb := bitN_le N i
    have h2 := (hp_fo hp hi).2.1
    have h3 : (X2_warm F i = nI 0 ∨ X2_warm F i = nI 1) ∧ X13_warm T i = X2_warm F i := ⟨(hp.2.2.2.2.2.2.1 i hi).1, (hp.2.2.2.2.2.2.1 i hi).2.1⟩
    obtain ⟨l1, l2⟩ := wc_le (N := N) hp (i := i) (by omega)
    unfold f_X14_weather_L9 f_X14_weather_R68
    by_cases e : bitN N i = 0
    · simp (disch := omega) only [ht_bitN ht hi, e, p4, sumN, wmN, cdN, calN, Nat.zero_mul, ite_self, Nat.add_zero, sb, nJ_of, nJ_lt, nJ_le, nJ_eq, nJ_clamp, nJ_add, nJ_sub, if_pos, if_neg, if_true, if_false, nL_0, nL_1, nL_2, nL_3, nL_4, nL_5, nL_6, nL_7, nL_8, nL_9, nL_10, nL_11, nL_12, nL_13, nL_14, nL_15, nL_16, nL_17, nL_18, nL_19, nL_20, nL_21, nL_22, nL_23, nL_24, nL_25, nL_26, nL_27, nL_28, nL_29, nL_30, nL_31, nL_32, nL_33, nL_34, nL_35, nL_36, nL_37, nL_38, nL_39, nL_40, nL_41, nL_42, nL_43, nL_44, nL_45, nL_46, nL_47, nL_48, nL_49, nL_50, nL_51, nL_52, nL_53, nL_54, nL_55, nL_56, nL_57, nL_58, nL_59, nL_60, nL_61, nL_62, nL_63, nL_64, nL_65, nL_66, nL_67, nL_68, nL_69, nL_70, nL_400, nL_402, nL_800, nL_2000]
    · have e : bitN N i = 1 := by omega
      rcases h3 with ⟨d | d, d2⟩
      · rw [d] at d2
        simp (disch := omega) only [ht_bitN ht hi, e, p4, sumN, wmN, cdN, calN, Nat.one_mul, d2, h2, Nat.add_zero, sb, nJ_of, nJ_lt, nJ_le, nJ_eq, nJ_clamp, nJ_add, nJ_sub, if_pos, if_neg, if_true, if_false, nL_0, nL_1, nL_2, nL_3, nL_4, nL_5, nL_6, nL_7, nL_8, nL_9, nL_10, nL_11, nL_12, nL_13, nL_14, nL_15, nL_16, nL_17, nL_18, nL_19, nL_20, nL_21, nL_22, nL_23, nL_24, nL_25, nL_26, nL_27, nL_28, nL_29, nL_30, nL_31, nL_32, nL_33, nL_34, nL_35, nL_36, nL_37, nL_38, nL_39, nL_40, nL_41, nL_42, nL_43, nL_44, nL_45, nL_46, nL_47, nL_48, nL_49, nL_50, nL_51, nL_52, nL_53, nL_54, nL_55, nL_56, nL_57, nL_58, nL_59, nL_60, nL_61, nL_62, nL_63, nL_64, nL_65, nL_66, nL_67, nL_68, nL_69, nL_70, nL_400, nL_402, nL_800, nL_2000]
      · rw [d] at d2
        simp (disch := omega) only [ht_bitN ht hi, e, p4, sumN, wmN, cdN, calN, Nat.one_mul, d2, h2, Nat.add_zero, sb, nJ_of, nJ_lt, nJ_le, nJ_eq, nJ_clamp, nJ_add, nJ_sub, if_pos, if_neg, if_true, if_false, nL_0, nL_1, nL_2, nL_3, nL_4, nL_5, nL_6, nL_7, nL_8, nL_9, nL_10, nL_11, nL_12, nL_13, nL_14, nL_15, nL_16, nL_17, nL_18, nL_19, nL_20, nL_21, nL_22, nL_23, nL_24, nL_25, nL_26, nL_27, nL_28, nL_29, nL_30, nL_31, nL_32, nL_33, nL_34, nL_35, nL_36, nL_37, nL_38, nL_39, nL_40, nL_41, nL_42, nL_43, nL_44, nL_45, nL_46, nL_47, nL_48, nL_49, nL_50, nL_51, nL_52, nL_53, nL_54, nL_55, nL_56, nL_57, nL_58, nL_59, nL_60, nL_61, nL_62, nL_63, nL_64, nL_65, nL_66, nL_67, nL_68, nL_69, nL_70, nL_400, nL_402, nL_800, nL_2000]
  · show f_X14_weather_L9 n (th, ta, bs, ea, kd, nu, po, ln, tk, wr, er, et, dp, fn, gn, va, N, kp) T (nI (sumN (wmN N T fo) nf)) (nI (sumN (cdN N T fo) nf)) (nI (calN N nf)) (nI nf) N = _
    obtain ⟨l1, l2⟩ := wc_le (N := N) hp (i := nf) (by omega)
    rw [calN_eq (T := T) (fo := fo) (nf := nf) (fun f hf => (hp_fo hp hf).2.2.1) (Nat.le_refl _)]
    generalize sumN (wmN N T fo) nf = W at l1 ⊢
    generalize sumN (cdN N T fo) nf = C at l2 ⊢
    have hm : min W C ≤ 90 := by omega
    obtain ⟨-, -, c1, c2, c5⟩ := cmp1 w (by omega)
    have eh := held40 (a := w + W) (b := C) (by omega) (by omega)
    unfold f_X14_weather_L9 f_X14_weather_R152 f_X14_held wS cS
    by_cases e : W + C = 0
    · have e1 : W = 0 := by omega
      have e2 : C = 0 := by omega
      subst e1 e2
      simp (disch := omega) only [p4, c1, c2, min_if, ew, ec, upd_else, Nat.min_self, Nat.add_zero, sb, nJ_of, nJ_lt, nJ_le, nJ_eq, nJ_clamp, nJ_add, nJ_sub, if_pos, if_neg, if_true, if_false, nL_0, nL_1, nL_2, nL_3, nL_4, nL_5, nL_6, nL_7, nL_8, nL_9, nL_10, nL_11, nL_12, nL_13, nL_14, nL_15, nL_16, nL_17, nL_18, nL_19, nL_20, nL_21, nL_22, nL_23, nL_24, nL_25, nL_26, nL_27, nL_28, nL_29, nL_30, nL_31, nL_32, nL_33, nL_34, nL_35, nL_36, nL_37, nL_38, nL_39, nL_40, nL_41, nL_42, nL_43, nL_44, nL_45, nL_46, nL_47, nL_48, nL_49, nL_50, nL_51, nL_52, nL_53, nL_54, nL_55, nL_56, nL_57, nL_58, nL_59, nL_60, nL_61, nL_62, nL_63, nL_64, nL_65, nL_66, nL_67, nL_68, nL_69, nL_70, nL_400, nL_402, nL_800, nL_2000]
    · rw [if_neg e, if_neg e]
      simp (disch := omega) only [p4, nJ_add, nL_0, nL_1, nL_3, nL_30, nL_40, nL_0, nJ_eq, nJ_le, Nat.le_refl, if_true, eh, nJ_lt, min_if, sb, ew, ec, upd_else, nJ_clamp, if_neg]
theorem r_blow (p1 : nf ≤ 10) (ht : RPt nf ng fr hr gr (ho, wa, sr, ch, lm, sa, co, sm, fs, gs, gt) N h) {w c : Nat} (hw : w ≤ 40) (hc : c ≤ 30) : RPt nf ng fr hr gr (ho, nI w, sr, nI c, lm, sa, co, sm, fs, gs, gt) (upd (upd N 1 (nI w)) 3 (nI c)) h := by
  obtain ⟨r1, r2⟩ := r_row (N' := upd (upd N 1 (nI w)) 3 (nI c)) ht (fun j hj => by rw [upd_else _ _ (by omega), upd_else _ _ (by omega)]) p1
  obtain ⟨t1, t2, ⟨x3, a3, b3, c3⟩, ⟨x4, a4, b4, c4⟩, ⟨x5, a5, b5, c5⟩, ⟨x6, a6, b6, c6⟩, ⟨x7, a7, b7, c7⟩, t8, t9, t10, t11⟩ := ht
  exact ⟨t1, by simp (disch := omega) only [upd_else, t2, sb, nJ_of, nJ_lt, nJ_le, nJ_eq, nJ_clamp, nJ_add, nJ_sub, if_pos, if_neg, if_true, if_false, nL_0, nL_1, nL_2, nL_3, nL_4, nL_5, nL_6, nL_7, nL_8, nL_9, nL_10, nL_11, nL_12, nL_13, nL_14, nL_15, nL_16, nL_17, nL_18, nL_19, nL_20, nL_21, nL_22, nL_23, nL_24, nL_25, nL_26, nL_27, nL_28, nL_29, nL_30, nL_31, nL_32, nL_33, nL_34, nL_35, nL_36, nL_37, nL_38, nL_39, nL_40, nL_41, nL_42, nL_43, nL_44, nL_45, nL_46, nL_47, nL_48, nL_49, nL_50, nL_51, nL_52, nL_53, nL_54, nL_55, nL_56, nL_57, nL_58, nL_59, nL_60, nL_61, nL_62, nL_63, nL_64, nL_65, nL_66, nL_67, nL_68, nL_69, nL_70, nL_400, nL_402, nL_800, nL_2000], ⟨w, hw, rfl, by simp (disch := omega) only [upd_else, upd_same, sb, nJ_of, nJ_lt, nJ_le, nJ_eq, nJ_clamp, nJ_add, nJ_sub, if_pos, if_neg, if_true, if_false, nL_0, nL_1, nL_2, nL_3, nL_4, nL_5, nL_6, nL_7, nL_8, nL_9, nL_10, nL_11, nL_12, nL_13, nL_14, nL_15, nL_16, nL_17, nL_18, nL_19, nL_20, nL_21, nL_22, nL_23, nL_24, nL_25, nL_26, nL_27, nL_28, nL_29, nL_30, nL_31, nL_32, nL_33, nL_34, nL_35, nL_36, nL_37, nL_38, nL_39, nL_40, nL_41, nL_42, nL_43, nL_44, nL_45, nL_46, nL_47, nL_48, nL_49, nL_50, nL_51, nL_52, nL_53, nL_54, nL_55, nL_56, nL_57, nL_58, nL_59, nL_60, nL_61, nL_62, nL_63, nL_64, nL_65, nL_66, nL_67, nL_68, nL_69, nL_70, nL_400, nL_402, nL_800, nL_2000]⟩, ⟨x4, a4, b4, by simp (disch := omega) only [upd_else, c4, sb, nJ_of, nJ_lt, nJ_le, nJ_eq, nJ_clamp, nJ_add, nJ_sub, if_pos, if_neg, if_true, if_false, nL_0, nL_1, nL_2, nL_3, nL_4, nL_5, nL_6, nL_7, nL_8, nL_9, nL_10, nL_11, nL_12, nL_13, nL_14, nL_15, nL_16, nL_17, nL_18, nL_19, nL_20, nL_21, nL_22, nL_23, nL_24, nL_25, nL_26, nL_27, nL_28, nL_29, nL_30, nL_31, nL_32, nL_33, nL_34, nL_35, nL_36, nL_37, nL_38, nL_39, nL_40, nL_41, nL_42, nL_43, nL_44, nL_45, nL_46, nL_47, nL_48, nL_49, nL_50, nL_51, nL_52, nL_53, nL_54, nL_55, nL_56, nL_57, nL_58, nL_59, nL_60, nL_61, nL_62, nL_63, nL_64, nL_65, nL_66, nL_67, nL_68, nL_69, nL_70, nL_400, nL_402, nL_800, nL_2000]⟩, ⟨c, hc, rfl, upd_same _ _ _⟩, ⟨x6, a6, b6, by simp (disch := omega) only [upd_else, c6, sb, nJ_of, nJ_lt, nJ_le, nJ_eq, nJ_clamp, nJ_add, nJ_sub, if_pos, if_neg, if_true, if_false, nL_0, nL_1, nL_2, nL_3, nL_4, nL_5, nL_6, nL_7, nL_8, nL_9, nL_10, nL_11, nL_12, nL_13, nL_14, nL_15, nL_16, nL_17, nL_18, nL_19, nL_20, nL_21, nL_22, nL_23, nL_24, nL_25, nL_26, nL_27, nL_28, nL_29, nL_30, nL_31, nL_32, nL_33, nL_34, nL_35, nL_36, nL_37, nL_38, nL_39, nL_40, nL_41, nL_42, nL_43, nL_44, nL_45, nL_46, nL_47, nL_48, nL_49, nL_50, nL_51, nL_52, nL_53, nL_54, nL_55, nL_56, nL_57, nL_58, nL_59, nL_60, nL_61, nL_62, nL_63, nL_64, nL_65, nL_66, nL_67, nL_68, nL_69, nL_70, nL_400, nL_402, nL_800, nL_2000]⟩, ⟨x7, a7, b7, by simp (disch := omega) only [upd_else, c7, sb, nJ_of, nJ_lt, nJ_le, nJ_eq, nJ_clamp, nJ_add, nJ_sub, if_pos, if_neg, if_true, if_false, nL_0, nL_1, nL_2, nL_3, nL_4, nL_5, nL_6, nL_7, nL_8, nL_9, nL_10, nL_11, nL_12, nL_13, nL_14, nL_15, nL_16, nL_17, nL_18, nL_19, nL_20, nL_21, nL_22, nL_23, nL_24, nL_25, nL_26, nL_27, nL_28, nL_29, nL_30, nL_31, nL_32, nL_33, nL_34, nL_35, nL_36, nL_37, nL_38, nL_39, nL_40, nL_41, nL_42, nL_43, nL_44, nL_45, nL_46, nL_47, nL_48, nL_49, nL_50, nL_51, nL_52, nL_53, nL_54, nL_55, nL_56, nL_57, nL_58, nL_59, nL_60, nL_61, nL_62, nL_63, nL_64, nL_65, nL_66, nL_67, nL_68, nL_69, nL_70, nL_400, nL_402, nL_800, nL_2000]⟩, by simp (disch := omega) only [upd_else, t8, sb, nJ_of, nJ_lt, nJ_le, nJ_eq, nJ_clamp, nJ_add, nJ_sub, if_pos, if_neg, if_true, if_false, nL_0, nL_1, nL_2, nL_3, nL_4, nL_5, nL_6, nL_7, nL_8, nL_9, nL_10, nL_11, nL_12, nL_13, nL_14, nL_15, nL_16, nL_17, nL_18, nL_19, nL_20, nL_21, nL_22, nL_23, nL_24, nL_25, nL_26, nL_27, nL_28, nL_29, nL_30, nL_31, nL_32, nL_33, nL_34, nL_35, nL_36, nL_37, nL_38, nL_39, nL_40, nL_41, nL_42, nL_43, nL_44, nL_45, nL_46, nL_47, nL_48, nL_49, nL_50, nL_51, nL_52, nL_53, nL_54, nL_55, nL_56, nL_57, nL_58, nL_59, nL_60, nL_61, nL_62, nL_63, nL_64, nL_65, nL_66, nL_67, nL_68, nL_69, nL_70, nL_400, nL_402, nL_800, nL_2000], by simp (disch := omega) only [upd_else, t9, sb, nJ_of, nJ_lt, nJ_le, nJ_eq, nJ_clamp, nJ_add, nJ_sub, if_pos, if_neg, if_true, if_false, nL_0, nL_1, nL_2, nL_3, nL_4, nL_5, nL_6, nL_7, nL_8, nL_9, nL_10, nL_11, nL_12, nL_13, nL_14, nL_15, nL_16, nL_17, nL_18, nL_19, nL_20, nL_21, nL_22, nL_23, nL_24, nL_25, nL_26, nL_27, nL_28, nL_29, nL_30, nL_31, nL_32, nL_33, nL_34, nL_35, nL_36, nL_37, nL_38, nL_39, nL_40, nL_41, nL_42, nL_43, nL_44, nL_45, nL_46, nL_47, nL_48, nL_49, nL_50, nL_51, nL_52, nL_53, nL_54, nL_55, nL_56, nL_57, nL_58, nL_59, nL_60, nL_61, nL_62, nL_63, nL_64, nL_65, nL_66, nL_67, nL_68, nL_69, nL_70, nL_400, nL_402, nL_800, nL_2000], r1, r2⟩
end P6
section P7
variable {F : bX2} {G : bX4} {T : bX13} {nf ng : Nat} {fo fr hr gr : Nat → Nat} {N : Nat → Int32} {h n : Nat} {th bs ea tk wr er et dp : Int32} {ta kd nu po ln fn gn va kp : Nat → Int32}
variable {ho wa sr ch lm sa co sm : Int32} {fs gs gt : Nat → Int32}
/-- whom the storm finds -/
def stS (N : Nat → Int32) (T : bX13) (g : Nat) : Bool := decide (N (28 + g) = nI 1) && decide (X13_nerve T g < N 3)
def stC (N : Nat → Int32) (T : bX13) (gt : Nat → Int32) : Nat → Nat → Int32
  | 0 => gt
  | i + 1 => bif stS N T i then upd (stC N T gt i) i (nI 1) else stC N T gt i
def stM (N : Nat → Int32) (T : bX13) : Nat → Nat → Int32
  | 0 => N
  | i + 1 => bif stS N T i then upd (upd (stM N T i) (28 + i) (nI 0)) (48 + i) (nI 1) else stM N T i
theorem stM_t {i : Nat} (e : stS N T i = true) : stM N T (i + 1) = upd (upd (stM N T i) (28 + i) (nI 0)) (48 + i) (nI 1) := by rw [stM, e]; rfl
theorem stM_f {i : Nat} (e : stS N T i = false) : stM N T (i + 1) = stM N T i := by rw [stM, e]; rfl
theorem stC_t {i : Nat} (e : stS N T i = true) : stC N T gt (i + 1) = upd (stC N T gt i) i (nI 1) := by rw [stC, e]; rfl
theorem stC_f {i : Nat} (e : stS N T i = false) : stC N T gt (i + 1) = stC N T gt i := by rw [stC, e]; rfl
theorem stM_out {j : Nat} : ∀ {i : Nat}, i ≤ 10 → (j < 28 ∨ (28 + i ≤ j ∧ j < 48)) → stM N T i j = N j
  | 0, _, _ => rfl
  | i + 1, hi, h => by
    cases e : stS N T i with
    | true => rw [stM_t e, upd_else _ _ (by omega), upd_else _ _ (by omega), stM_out (by omega) (by omega)]
    | false => rw [stM_f e, stM_out (by omega) (by omega)]
theorem r_st (p2 : ng ≤ 10) (ht : RPt nf ng fr hr gr (ho, wa, sr, ch, lm, sa, co, sm, fs, gs, gt) N h) (p1 : nf ≤ 10) : ∀ {i : Nat}, i ≤ ng → RPt nf ng fr hr gr (ho, wa, sr, ch, lm, sa, co, sm, fs, gs, stC N T gt i) (stM N T i) h
  | 0, _ => ht
  | i + 1, hi => by
    have ih := r_st p2 ht p1 (i := i) (by omega)
    cases e : stS N T i with
    | false => rw [stM_f e, stC_f e]; exact ih
    | true =>
      rw [stM_t e, stC_t e]
      have hN : stM N T i (28 + i) = nI 1 := by
        rw [stM_out (by omega) (by omega)]
        unfold stS at e
        rw [Bool.and_eq_true, decide_eq_true_eq] at e
        exact e.1
      obtain ⟨t1, t2, ⟨x3, a3, b3, c3⟩, ⟨x4, a4, b4, c4⟩, ⟨x5, a5, b5, c5⟩, ⟨x6, a6, b6, c6⟩, ⟨x7, a7, b7, c7⟩, t8, t9, t10, t11⟩ := ih
      refine ⟨t1, by simp (disch := omega) only [upd_else, t2, sb, nJ_of, nJ_lt, nJ_le, nJ_eq, nJ_clamp, nJ_add, nJ_sub, if_pos, if_neg, if_true, if_false, nL_0, nL_1, nL_2, nL_3, nL_4, nL_5, nL_6, nL_7, nL_8, nL_9, nL_10, nL_11, nL_12, nL_13, nL_14, nL_15, nL_16, nL_17, nL_18, nL_19, nL_20, nL_21, nL_22, nL_23, nL_24, nL_25, nL_26, nL_27, nL_28, nL_29, nL_30, nL_31, nL_32, nL_33, nL_34, nL_35, nL_36, nL_37, nL_38, nL_39, nL_40, nL_41, nL_42, nL_43, nL_44, nL_45, nL_46, nL_47, nL_48, nL_49, nL_50, nL_51, nL_52, nL_53, nL_54, nL_55, nL_56, nL_57, nL_58, nL_59, nL_60, nL_61, nL_62, nL_63, nL_64, nL_65, nL_66, nL_67, nL_68, nL_69, nL_70, nL_400, nL_402, nL_800, nL_2000], ⟨x3, a3, b3, by simp (disch := omega) only [upd_else, c3, sb, nJ_of, nJ_lt, nJ_le, nJ_eq, nJ_clamp, nJ_add, nJ_sub, if_pos, if_neg, if_true, if_false, nL_0, nL_1, nL_2, nL_3, nL_4, nL_5, nL_6, nL_7, nL_8, nL_9, nL_10, nL_11, nL_12, nL_13, nL_14, nL_15, nL_16, nL_17, nL_18, nL_19, nL_20, nL_21, nL_22, nL_23, nL_24, nL_25, nL_26, nL_27, nL_28, nL_29, nL_30, nL_31, nL_32, nL_33, nL_34, nL_35, nL_36, nL_37, nL_38, nL_39, nL_40, nL_41, nL_42, nL_43, nL_44, nL_45, nL_46, nL_47, nL_48, nL_49, nL_50, nL_51, nL_52, nL_53, nL_54, nL_55, nL_56, nL_57, nL_58, nL_59, nL_60, nL_61, nL_62, nL_63, nL_64, nL_65, nL_66, nL_67, nL_68, nL_69, nL_70, nL_400, nL_402, nL_800, nL_2000]⟩, ⟨x4, a4, b4, by simp (disch := omega) only [upd_else, c4, sb, nJ_of, nJ_lt, nJ_le, nJ_eq, nJ_clamp, nJ_add, nJ_sub, if_pos, if_neg, if_true, if_false, nL_0, nL_1, nL_2, nL_3, nL_4, nL_5, nL_6, nL_7, nL_8, nL_9, nL_10, nL_11, nL_12, nL_13, nL_14, nL_15, nL_16, nL_17, nL_18, nL_19, nL_20, nL_21, nL_22, nL_23, nL_24, nL_25, nL_26, nL_27, nL_28, nL_29, nL_30, nL_31, nL_32, nL_33, nL_34, nL_35, nL_36, nL_37, nL_38, nL_39, nL_40, nL_41, nL_42, nL_43, nL_44, nL_45, nL_46, nL_47, nL_48, nL_49, nL_50, nL_51, nL_52, nL_53, nL_54, nL_55, nL_56, nL_57, nL_58, nL_59, nL_60, nL_61, nL_62, nL_63, nL_64, nL_65, nL_66, nL_67, nL_68, nL_69, nL_70, nL_400, nL_402, nL_800, nL_2000]⟩, ⟨x5, a5, b5, by simp (disch := omega) only [upd_else, c5, sb, nJ_of, nJ_lt, nJ_le, nJ_eq, nJ_clamp, nJ_add, nJ_sub, if_pos, if_neg, if_true, if_false, nL_0, nL_1, nL_2, nL_3, nL_4, nL_5, nL_6, nL_7, nL_8, nL_9, nL_10, nL_11, nL_12, nL_13, nL_14, nL_15, nL_16, nL_17, nL_18, nL_19, nL_20, nL_21, nL_22, nL_23, nL_24, nL_25, nL_26, nL_27, nL_28, nL_29, nL_30, nL_31, nL_32, nL_33, nL_34, nL_35, nL_36, nL_37, nL_38, nL_39, nL_40, nL_41, nL_42, nL_43, nL_44, nL_45, nL_46, nL_47, nL_48, nL_49, nL_50, nL_51, nL_52, nL_53, nL_54, nL_55, nL_56, nL_57, nL_58, nL_59, nL_60, nL_61, nL_62, nL_63, nL_64, nL_65, nL_66, nL_67, nL_68, nL_69, nL_70, nL_400, nL_402, nL_800, nL_2000]⟩, ⟨x6, a6, b6, by simp (disch := omega) only [upd_else, c6, sb, nJ_of, nJ_lt, nJ_le, nJ_eq, nJ_clamp, nJ_add, nJ_sub, if_pos, if_neg, if_true, if_false, nL_0, nL_1, nL_2, nL_3, nL_4, nL_5, nL_6, nL_7, nL_8, nL_9, nL_10, nL_11, nL_12, nL_13, nL_14, nL_15, nL_16, nL_17, nL_18, nL_19, nL_20, nL_21, nL_22, nL_23, nL_24, nL_25, nL_26, nL_27, nL_28, nL_29, nL_30, nL_31, nL_32, nL_33, nL_34, nL_35, nL_36, nL_37, nL_38, nL_39, nL_40, nL_41, nL_42, nL_43, nL_44, nL_45, nL_46, nL_47, nL_48, nL_49, nL_50, nL_51, nL_52, nL_53, nL_54, nL_55, nL_56, nL_57, nL_58, nL_59, nL_60, nL_61, nL_62, nL_63, nL_64, nL_65, nL_66, nL_67, nL_68, nL_69, nL_70, nL_400, nL_402, nL_800, nL_2000]⟩, ⟨x7, a7, b7, by simp (disch := omega) only [upd_else, c7, sb, nJ_of, nJ_lt, nJ_le, nJ_eq, nJ_clamp, nJ_add, nJ_sub, if_pos, if_neg, if_true, if_false, nL_0, nL_1, nL_2, nL_3, nL_4, nL_5, nL_6, nL_7, nL_8, nL_9, nL_10, nL_11, nL_12, nL_13, nL_14, nL_15, nL_16, nL_17, nL_18, nL_19, nL_20, nL_21, nL_22, nL_23, nL_24, nL_25, nL_26, nL_27, nL_28, nL_29, nL_30, nL_31, nL_32, nL_33, nL_34, nL_35, nL_36, nL_37, nL_38, nL_39, nL_40, nL_41, nL_42, nL_43, nL_44, nL_45, nL_46, nL_47, nL_48, nL_49, nL_50, nL_51, nL_52, nL_53, nL_54, nL_55, nL_56, nL_57, nL_58, nL_59, nL_60, nL_61, nL_62, nL_63, nL_64, nL_65, nL_66, nL_67, nL_68, nL_69, nL_70, nL_400, nL_402, nL_800, nL_2000]⟩, by simp (disch := omega) only [upd_else, t8, sb, nJ_of, nJ_lt, nJ_le, nJ_eq, nJ_clamp, nJ_add, nJ_sub, if_pos, if_neg, if_true, if_false, nL_0, nL_1, nL_2, nL_3, nL_4, nL_5, nL_6, nL_7, nL_8, nL_9, nL_10, nL_11, nL_12, nL_13, nL_14, nL_15, nL_16, nL_17, nL_18, nL_19, nL_20, nL_21, nL_22, nL_23, nL_24, nL_25, nL_26, nL_27, nL_28, nL_29, nL_30, nL_31, nL_32, nL_33, nL_34, nL_35, nL_36, nL_37, nL_38, nL_39, nL_40, nL_41, nL_42, nL_43, nL_44, nL_45, nL_46, nL_47, nL_48, nL_49, nL_50, nL_51, nL_52, nL_53, nL_54, nL_55, nL_56, nL_57, nL_58, nL_59, nL_60, nL_61, nL_62, nL_63, nL_64, nL_65, nL_66, nL_67, nL_68, nL_69, nL_70, nL_400, nL_402, nL_800, nL_2000], by simp (disch := omega) only [upd_else, t9, sb, nJ_of, nJ_lt, nJ_le, nJ_eq, nJ_clamp, nJ_add, nJ_sub, if_pos, if_neg, if_true, if_false, nL_0, nL_1, nL_2, nL_3, nL_4, nL_5, nL_6, nL_7, nL_8, nL_9, nL_10, nL_11, nL_12, nL_13, nL_14, nL_15, nL_16, nL_17, nL_18, nL_19, nL_20, nL_21, nL_22, nL_23, nL_24, nL_25, nL_26, nL_27, nL_28, nL_29, nL_30, nL_31, nL_32, nL_33, nL_34, nL_35, nL_36, nL_37, nL_38, nL_39, nL_40, nL_41, nL_42, nL_43, nL_44, nL_45, nL_46, nL_47, nL_48, nL_49, nL_50, nL_51, nL_52, nL_53, nL_54, nL_55, nL_56, nL_57, nL_58, nL_59, nL_60, nL_61, nL_62, nL_63, nL_64, nL_65, nL_66, nL_67, nL_68, nL_69, nL_70, nL_400, nL_402, nL_800, nL_2000], fun f hf => ?_, fun g' hg' => ?_⟩
      · obtain ⟨t, e1, e2, e3, e4, e5⟩ := t10 f hf
        refine ⟨t, e1, e2, ?_, e4, ?_⟩
        · rw [upd_else _ _ (by omega), upd_else _ _ (by omega)]
          exact e3
        · rw [upd_else _ _ (by omega), upd_else _ _ (by omega)]
          exact e5
      · obtain ⟨t, u, e1, e2, e3, e4, e5, e6, e7, e8⟩ := t11 g' hg'
        by_cases q : g' = i
        · subst q
          rw [hN] at e8
          have e9 : t = 0 ∧ u = 0 ∧ gr g' ≤ h ∧ h < gr g' + 8 := by
            by_cases c : t = 0 ∧ u = 0 ∧ gr g' ≤ h ∧ h < gr g' + 8
            · exact c
            · rw [if_neg c, nJ_eq (by omega) (by omega)] at e8
              omega
          exact ⟨t, 1, e1, by omega, e3, upd_same _ _ _, by simp (disch := omega) only [upd_else, e5, sb, nJ_of, nJ_lt, nJ_le, nJ_eq, nJ_clamp, nJ_add, nJ_sub, if_pos, if_neg, if_true, if_false, nL_0, nL_1, nL_2, nL_3, nL_4, nL_5, nL_6, nL_7, nL_8, nL_9, nL_10, nL_11, nL_12, nL_13, nL_14, nL_15, nL_16, nL_17, nL_18, nL_19, nL_20, nL_21, nL_22, nL_23, nL_24, nL_25, nL_26, nL_27, nL_28, nL_29, nL_30, nL_31, nL_32, nL_33, nL_34, nL_35, nL_36, nL_37, nL_38, nL_39, nL_40, nL_41, nL_42, nL_43, nL_44, nL_45, nL_46, nL_47, nL_48, nL_49, nL_50, nL_51, nL_52, nL_53, nL_54, nL_55, nL_56, nL_57, nL_58, nL_59, nL_60, nL_61, nL_62, nL_63, nL_64, nL_65, nL_66, nL_67, nL_68, nL_69, nL_70, nL_400, nL_402, nL_800, nL_2000], by simp (disch := omega) only [upd_same, sb, nJ_of, nJ_lt, nJ_le, nJ_eq, nJ_clamp, nJ_add, nJ_sub, if_pos, if_neg, if_true, if_false, nL_0, nL_1, nL_2, nL_3, nL_4, nL_5, nL_6, nL_7, nL_8, nL_9, nL_10, nL_11, nL_12, nL_13, nL_14, nL_15, nL_16, nL_17, nL_18, nL_19, nL_20, nL_21, nL_22, nL_23, nL_24, nL_25, nL_26, nL_27, nL_28, nL_29, nL_30, nL_31, nL_32, nL_33, nL_34, nL_35, nL_36, nL_37, nL_38, nL_39, nL_40, nL_41, nL_42, nL_43, nL_44, nL_45, nL_46, nL_47, nL_48, nL_49, nL_50, nL_51, nL_52, nL_53, nL_54, nL_55, nL_56, nL_57, nL_58, nL_59, nL_60, nL_61, nL_62, nL_63, nL_64, nL_65, nL_66, nL_67, nL_68, nL_69, nL_70, nL_400, nL_402, nL_800, nL_2000], fun _ => e9.2.2.1, by simp (disch := omega) only [upd_else, upd_same, sb, nJ_of, nJ_lt, nJ_le, nJ_eq, nJ_clamp, nJ_add, nJ_sub, if_pos, if_neg, if_true, if_false, nL_0, nL_1, nL_2, nL_3, nL_4, nL_5, nL_6, nL_7, nL_8, nL_9, nL_10, nL_11, nL_12, nL_13, nL_14, nL_15, nL_16, nL_17, nL_18, nL_19, nL_20, nL_21, nL_22, nL_23, nL_24, nL_25, nL_26, nL_27, nL_28, nL_29, nL_30, nL_31, nL_32, nL_33, nL_34, nL_35, nL_36, nL_37, nL_38, nL_39, nL_40, nL_41, nL_42, nL_43, nL_44, nL_45, nL_46, nL_47, nL_48, nL_49, nL_50, nL_51, nL_52, nL_53, nL_54, nL_55, nL_56, nL_57, nL_58, nL_59, nL_60, nL_61, nL_62, nL_63, nL_64, nL_65, nL_66, nL_67, nL_68, nL_69, nL_70, nL_400, nL_402, nL_800, nL_2000]⟩
        · refine ⟨t, u, e1, e2, e3, ?_, ?_, ?_, e7, ?_⟩
          · show upd (stC N T gt i) i (nI 1) g' = nI u
            rw [upd_else _ _ q]
            exact e4
          · rw [upd_else _ _ (by omega), upd_else _ _ (by omega)]
            exact e5
          · rw [upd_else _ _ (by omega), upd_else _ _ (by omega)]
            exact e6
          · rw [upd_else _ _ (by omega), upd_else _ _ (by omega)]
            exact e8
theorem hp_ne (hp : RPl F G T nf ng fo fr hr gr) {g : Nat} (hg : g < ng) : X13_nerve T g = X4_nerve G g := by
  obtain ⟨-, -, -, -, -, -, -, p8⟩ := hp
  exact (p8 g hg).2.2.2.2.2
theorem k_stormC (hp : RPl F G T nf ng fo fr hr gr) (ht : RPt nf ng fr hr gr (ho, wa, sr, ch, lm, sa, co, sm, fs, gs, gt) N h) (hh : h < 1000000) (hn : 20 < n) : f_X8_storm n (ho, wa, sr, ch, lm, sa, co, sm, fs, gs, gt) G = some (sr / 2, ch - 12, sm + 1, stC N T gt ng) := by
  have p1 := hp.1
  have p2 := hp.2.1
  have p5 := hp.2.2.2.2.1
  unfold f_X8_storm
  refine iter_count _ (fun i => (nI i, stC N T gt i)) ng _ (fun i hi => ?_) ?_ (by omega)
  · show f_X8_storm_L2 n (ho, wa, sr, ch, lm, sa, co, sm, fs, gs, gt) G (nI i) sr ch sm (stC N T gt i) = _
    have ih := r_st (T := T) p2 ht p1 (i := i) (by omega)
    have k := k_sits hp ih hh hi
    have hb := ht_bitg ht hi
    rw [stM_out (by omega) (by omega)] at k
    have hne := hp_ne hp hi
    have e3 : N 3 = ch := by
      obtain ⟨-, -, -, -, ⟨x5, a5, b5, c5⟩, -⟩ := ht
      exact c5.trans b5.symm
    obtain ⟨t, h1, h2⟩ := hb
    unfold f_X8_storm_L2
    rw [h2] at k
    by_cases c : t = 0
    · have e : stS N T i = false := by
        unfold stS
        rw [h2, c, decide_eq_false (by rw [nJ_eq (by omega) (by omega)]; omega)]
        rfl
      rw [stC_f e]
      simp (disch := omega) only [X8_hour, X8_warmth, X8_lemons, X8_saucers, X8_coins, X8_frontSteeped, X8_guestServed, k, c, p5, sb, nJ_of, nJ_lt, nJ_le, nJ_eq, nJ_clamp, nJ_add, nJ_sub, if_pos, if_neg, if_true, if_false, nL_0, nL_1, nL_2, nL_3, nL_4, nL_5, nL_6, nL_7, nL_8, nL_9, nL_10, nL_11, nL_12, nL_13, nL_14, nL_15, nL_16, nL_17, nL_18, nL_19, nL_20, nL_21, nL_22, nL_23, nL_24, nL_25, nL_26, nL_27, nL_28, nL_29, nL_30, nL_31, nL_32, nL_33, nL_34, nL_35, nL_36, nL_37, nL_38, nL_39, nL_40, nL_41, nL_42, nL_43, nL_44, nL_45, nL_46, nL_47, nL_48, nL_49, nL_50, nL_51, nL_52, nL_53, nL_54, nL_55, nL_56, nL_57, nL_58, nL_59, nL_60, nL_61, nL_62, nL_63, nL_64, nL_65, nL_66, nL_67, nL_68, nL_69, nL_70, nL_400, nL_402, nL_800, nL_2000]
    · have c1 : t = 1 := by omega
      by_cases d : X4_nerve G i < ch
      · have e : stS N T i = true := by
          unfold stS
          rw [h2, c1, decide_eq_true rfl, hne, e3, decide_eq_true d]
          rfl
        have d' : ¬ ch ≤ X4_nerve G i := by
          rw [Int32.le_iff_toInt_le]
          rw [Int32.lt_iff_toInt_lt] at d
          omega
        rw [stC_t e]
        simp (disch := omega) only [X8_hour, X8_warmth, X8_lemons, X8_saucers, X8_coins, X8_frontSteeped, X8_guestServed, k, c1, p5, if_neg d', sb, nJ_of, nJ_lt, nJ_le, nJ_eq, nJ_clamp, nJ_add, nJ_sub, if_pos, if_neg, if_true, if_false, nL_0, nL_1, nL_2, nL_3, nL_4, nL_5, nL_6, nL_7, nL_8, nL_9, nL_10, nL_11, nL_12, nL_13, nL_14, nL_15, nL_16, nL_17, nL_18, nL_19, nL_20, nL_21, nL_22, nL_23, nL_24, nL_25, nL_26, nL_27, nL_28, nL_29, nL_30, nL_31, nL_32, nL_33, nL_34, nL_35, nL_36, nL_37, nL_38, nL_39, nL_40, nL_41, nL_42, nL_43, nL_44, nL_45, nL_46, nL_47, nL_48, nL_49, nL_50, nL_51, nL_52, nL_53, nL_54, nL_55, nL_56, nL_57, nL_58, nL_59, nL_60, nL_61, nL_62, nL_63, nL_64, nL_65, nL_66, nL_67, nL_68, nL_69, nL_70, nL_400, nL_402, nL_800, nL_2000]
      · have e : stS N T i = false := by
          unfold stS
          rw [hne, e3, decide_eq_false d, Bool.and_false]
        have d' : ch ≤ X4_nerve G i := by
          rw [Int32.le_iff_toInt_le]
          rw [Int32.lt_iff_toInt_lt] at d
          omega
        rw [stC_f e]
        simp (disch := omega) only [X8_hour, X8_warmth, X8_lemons, X8_saucers, X8_coins, X8_frontSteeped, X8_guestServed, k, c1, p5, if_pos d', sb, nJ_of, nJ_lt, nJ_le, nJ_eq, nJ_clamp, nJ_add, nJ_sub, if_pos, if_neg, if_true, if_false, nL_0, nL_1, nL_2, nL_3, nL_4, nL_5, nL_6, nL_7, nL_8, nL_9, nL_10, nL_11, nL_12, nL_13, nL_14, nL_15, nL_16, nL_17, nL_18, nL_19, nL_20, nL_21, nL_22, nL_23, nL_24, nL_25, nL_26, nL_27, nL_28, nL_29, nL_30, nL_31, nL_32, nL_33, nL_34, nL_35, nL_36, nL_37, nL_38, nL_39, nL_40, nL_41, nL_42, nL_43, nL_44, nL_45, nL_46, nL_47, nL_48, nL_49, nL_50, nL_51, nL_52, nL_53, nL_54, nL_55, nL_56, nL_57, nL_58, nL_59, nL_60, nL_61, nL_62, nL_63, nL_64, nL_65, nL_66, nL_67, nL_68, nL_69, nL_70, nL_400, nL_402, nL_800, nL_2000]
  · show f_X8_storm_L2 n (ho, wa, sr, ch, lm, sa, co, sm, fs, gs, gt) G (nI ng) sr ch sm (stC N T gt ng) = _
    unfold f_X8_storm_L2
    simp (disch := omega) only [p5, sb, nJ_of, nJ_lt, nJ_le, nJ_eq, nJ_clamp, nJ_add, nJ_sub, if_pos, if_neg, if_true, if_false, nL_0, nL_1, nL_2, nL_3, nL_4, nL_5, nL_6, nL_7, nL_8, nL_9, nL_10, nL_11, nL_12, nL_13, nL_14, nL_15, nL_16, nL_17, nL_18, nL_19, nL_20, nL_21, nL_22, nL_23, nL_24, nL_25, nL_26, nL_27, nL_28, nL_29, nL_30, nL_31, nL_32, nL_33, nL_34, nL_35, nL_36, nL_37, nL_38, nL_39, nL_40, nL_41, nL_42, nL_43, nL_44, nL_45, nL_46, nL_47, nL_48, nL_49, nL_50, nL_51, nL_52, nL_53, nL_54, nL_55, nL_56, nL_57, nL_58, nL_59, nL_60, nL_61, nL_62, nL_63, nL_64, nL_65, nL_66, nL_67, nL_68, nL_69, nL_70, nL_400, nL_402, nL_800, nL_2000]
def stE (N : Nat → Int32) (M : Nat → Int32) : Nat → Int32 := upd (upd (upd M 2 (N 2 / nI 2)) 3 (N 3 - nI 12)) 6 (N 6 + nI 1)
theorem k_stormM (hp : RPl F G T nf ng fo fr hr gr) (ht : RPt nf ng fr hr gr (ho, wa, sr, ch, lm, sa, co, sm, fs, gs, gt) N h) (hn : 20 < n) : f_X14_storm n (th, ta, bs, ea, kd, nu, po, ln, tk, wr, er, et, dp, fn, gn, va, N, kp) T = some (if nI 12 ≤ N 3 then stE N (stM N T ng) else N) := by
  have p1 := hp.1
  have p2 := hp.2.1
  have p6 := hp.2.2.2.2.2.1
  unfold f_X14_storm
  by_cases c : nI 12 ≤ N 3
  · have key : iter (fun s : Int32 × (Nat → Int32) => f_X14_storm_L14 n (th, ta, bs, ea, kd, nu, po, ln, tk, wr, er, et, dp, fn, gn, va, N, kp) T s.1 s.2) n (nI 0, N) = some (stE N (stM N T ng)) := by
      refine iter_count _ (fun i => (nI i, stM N T i)) ng _ (fun i hi => ?_) ?_ (by omega)
      · show f_X14_storm_L14 n (th, ta, bs, ea, kd, nu, po, ln, tk, wr, er, et, dp, fn, gn, va, N, kp) T (nI i) (stM N T i) = _
        unfold f_X14_storm_L14
        have e28 := stM_out (N := N) (T := T) (i := i) (j := 28 + i) (by omega) (by omega)
        have e3 := stM_out (N := N) (T := T) (i := i) (j := 3) (by omega) (by omega)
        obtain ⟨t, h1, h2⟩ := ht_bitg ht hi
        rw [h2] at e28
        by_cases d0 : t = 0
        · have e : stS N T i = false := by
            unfold stS
            rw [h2, d0, decide_eq_false (by rw [nJ_eq (by omega) (by omega)]; omega)]
            rfl
          rw [stM_f e]
          simp (disch := omega) only [p6, e28, d0, sb, nJ_of, nJ_lt, nJ_le, nJ_eq, nJ_clamp, nJ_add, nJ_sub, if_pos, if_neg, if_true, if_false, nL_0, nL_1, nL_2, nL_3, nL_4, nL_5, nL_6, nL_7, nL_8, nL_9, nL_10, nL_11, nL_12, nL_13, nL_14, nL_15, nL_16, nL_17, nL_18, nL_19, nL_20, nL_21, nL_22, nL_23, nL_24, nL_25, nL_26, nL_27, nL_28, nL_29, nL_30, nL_31, nL_32, nL_33, nL_34, nL_35, nL_36, nL_37, nL_38, nL_39, nL_40, nL_41, nL_42, nL_43, nL_44, nL_45, nL_46, nL_47, nL_48, nL_49, nL_50, nL_51, nL_52, nL_53, nL_54, nL_55, nL_56, nL_57, nL_58, nL_59, nL_60, nL_61, nL_62, nL_63, nL_64, nL_65, nL_66, nL_67, nL_68, nL_69, nL_70, nL_400, nL_402, nL_800, nL_2000]
        · have c1 : t = 1 := by omega
          by_cases d : X13_nerve T i < N 3
          · have e : stS N T i = true := by
              unfold stS
              rw [h2, c1, decide_eq_true rfl, decide_eq_true d]
              rfl
            rw [stM_t e]
            simp (disch := omega) only [p6, e28, c1, e3, if_pos d, sb, nJ_of, nJ_lt, nJ_le, nJ_eq, nJ_clamp, nJ_add, nJ_sub, if_pos, if_neg, if_true, if_false, nL_0, nL_1, nL_2, nL_3, nL_4, nL_5, nL_6, nL_7, nL_8, nL_9, nL_10, nL_11, nL_12, nL_13, nL_14, nL_15, nL_16, nL_17, nL_18, nL_19, nL_20, nL_21, nL_22, nL_23, nL_24, nL_25, nL_26, nL_27, nL_28, nL_29, nL_30, nL_31, nL_32, nL_33, nL_34, nL_35, nL_36, nL_37, nL_38, nL_39, nL_40, nL_41, nL_42, nL_43, nL_44, nL_45, nL_46, nL_47, nL_48, nL_49, nL_50, nL_51, nL_52, nL_53, nL_54, nL_55, nL_56, nL_57, nL_58, nL_59, nL_60, nL_61, nL_62, nL_63, nL_64, nL_65, nL_66, nL_67, nL_68, nL_69, nL_70, nL_400, nL_402, nL_800, nL_2000]
          · have e : stS N T i = false := by
              unfold stS
              rw [decide_eq_false d, Bool.and_false]
            rw [stM_f e]
            simp (disch := omega) only [p6, e28, c1, e3, if_neg d, sb, nJ_of, nJ_lt, nJ_le, nJ_eq, nJ_clamp, nJ_add, nJ_sub, if_pos, if_neg, if_true, if_false, nL_0, nL_1, nL_2, nL_3, nL_4, nL_5, nL_6, nL_7, nL_8, nL_9, nL_10, nL_11, nL_12, nL_13, nL_14, nL_15, nL_16, nL_17, nL_18, nL_19, nL_20, nL_21, nL_22, nL_23, nL_24, nL_25, nL_26, nL_27, nL_28, nL_29, nL_30, nL_31, nL_32, nL_33, nL_34, nL_35, nL_36, nL_37, nL_38, nL_39, nL_40, nL_41, nL_42, nL_43, nL_44, nL_45, nL_46, nL_47, nL_48, nL_49, nL_50, nL_51, nL_52, nL_53, nL_54, nL_55, nL_56, nL_57, nL_58, nL_59, nL_60, nL_61, nL_62, nL_63, nL_64, nL_65, nL_66, nL_67, nL_68, nL_69, nL_70, nL_400, nL_402, nL_800, nL_2000]
      · show f_X14_storm_L14 n (th, ta, bs, ea, kd, nu, po, ln, tk, wr, er, et, dp, fn, gn, va, N, kp) T (nI ng) (stM N T ng) = _
        unfold f_X14_storm_L14 stE
        have e2 := stM_out (N := N) (T := T) (i := ng) (j := 2) (by omega) (by omega)
        have e3 := stM_out (N := N) (T := T) (i := ng) (j := 3) (by omega) (by omega)
        have e6 := stM_out (N := N) (T := T) (i := ng) (j := 6) (by omega) (by omega)
        simp (disch := omega) only [p6, upd_else, e2, e3, e6, sb, nJ_of, nJ_lt, nJ_le, nJ_eq, nJ_clamp, nJ_add, nJ_sub, if_pos, if_neg, if_true, if_false, nL_0, nL_1, nL_2, nL_3, nL_4, nL_5, nL_6, nL_7, nL_8, nL_9, nL_10, nL_11, nL_12, nL_13, nL_14, nL_15, nL_16, nL_17, nL_18, nL_19, nL_20, nL_21, nL_22, nL_23, nL_24, nL_25, nL_26, nL_27, nL_28, nL_29, nL_30, nL_31, nL_32, nL_33, nL_34, nL_35, nL_36, nL_37, nL_38, nL_39, nL_40, nL_41, nL_42, nL_43, nL_44, nL_45, nL_46, nL_47, nL_48, nL_49, nL_50, nL_51, nL_52, nL_53, nL_54, nL_55, nL_56, nL_57, nL_58, nL_59, nL_60, nL_61, nL_62, nL_63, nL_64, nL_65, nL_66, nL_67, nL_68, nL_69, nL_70, nL_400, nL_402, nL_800, nL_2000]
    simp (disch := omega) only [X14_now, if_pos c, sb, nJ_of, nJ_lt, nJ_le, nJ_eq, nJ_clamp, nJ_add, nJ_sub, if_pos, if_neg, if_true, if_false, nL_0, nL_1, nL_2, nL_3, nL_4, nL_5, nL_6, nL_7, nL_8, nL_9, nL_10, nL_11, nL_12, nL_13, nL_14, nL_15, nL_16, nL_17, nL_18, nL_19, nL_20, nL_21, nL_22, nL_23, nL_24, nL_25, nL_26, nL_27, nL_28, nL_29, nL_30, nL_31, nL_32, nL_33, nL_34, nL_35, nL_36, nL_37, nL_38, nL_39, nL_40, nL_41, nL_42, nL_43, nL_44, nL_45, nL_46, nL_47, nL_48, nL_49, nL_50, nL_51, nL_52, nL_53, nL_54, nL_55, nL_56, nL_57, nL_58, nL_59, nL_60, nL_61, nL_62, nL_63, nL_64, nL_65, nL_66, nL_67, nL_68, nL_69, nL_70, nL_400, nL_402, nL_800, nL_2000]
    exact key
  · simp (disch := omega) only [X14_now, if_neg c, sb, nJ_of, nJ_lt, nJ_le, nJ_eq, nJ_clamp, nJ_add, nJ_sub, if_pos, if_neg, if_true, if_false, nL_0, nL_1, nL_2, nL_3, nL_4, nL_5, nL_6, nL_7, nL_8, nL_9, nL_10, nL_11, nL_12, nL_13, nL_14, nL_15, nL_16, nL_17, nL_18, nL_19, nL_20, nL_21, nL_22, nL_23, nL_24, nL_25, nL_26, nL_27, nL_28, nL_29, nL_30, nL_31, nL_32, nL_33, nL_34, nL_35, nL_36, nL_37, nL_38, nL_39, nL_40, nL_41, nL_42, nL_43, nL_44, nL_45, nL_46, nL_47, nL_48, nL_49, nL_50, nL_51, nL_52, nL_53, nL_54, nL_55, nL_56, nL_57, nL_58, nL_59, nL_60, nL_61, nL_62, nL_63, nL_64, nL_65, nL_66, nL_67, nL_68, nL_69, nL_70, nL_400, nL_402, nL_800, nL_2000]
theorem r_storm (p1 : nf ≤ 10) (p2 : ng ≤ 10) (ht : RPt nf ng fr hr gr (ho, wa, sr, ch, lm, sa, co, sm, fs, gs, gt) N h) (hc : nI 12 ≤ N 3) : RPt nf ng fr hr gr (ho, wa, sr / 2, ch - 12, lm, sa, co, sm + 1, fs, gs, stC N T gt ng) (stE N (stM N T ng)) h := by
  have r0 := r_st (T := T) p2 ht p1 (Nat.le_refl _)
  obtain ⟨r1, r2⟩ := r_row (N' := stE N (stM N T ng)) r0 (fun j hj => by unfold stE; rw [upd_else _ _ (by omega), upd_else _ _ (by omega), upd_else _ _ (by omega)]) p1
  obtain ⟨-, -, -, ⟨y4, i4, j4, l4⟩, ⟨y5, i5, j5, l5⟩, -, -, u8, -⟩ := ht
  obtain ⟨t1, t2, ⟨x3, a3, b3, c3⟩, -, -, ⟨x6, a6, b6, c6⟩, ⟨x7, a7, b7, c7⟩, t8, t9, t10, t11⟩ := r0
  have j4 : sr = nI y4 := j4
  have j5 : ch = nI y5 := j5
  have u8 : N 6 = sm := u8
  rw [l5, nJ_le (by omega) (by omega)] at hc
  unfold stE at r1 r2 ⊢
  refine ⟨t1, by simp (disch := omega) only [upd_else, t2, sb, nJ_of, nJ_lt, nJ_le, nJ_eq, nJ_clamp, nJ_add, nJ_sub, if_pos, if_neg, if_true, if_false, nL_0, nL_1, nL_2, nL_3, nL_4, nL_5, nL_6, nL_7, nL_8, nL_9, nL_10, nL_11, nL_12, nL_13, nL_14, nL_15, nL_16, nL_17, nL_18, nL_19, nL_20, nL_21, nL_22, nL_23, nL_24, nL_25, nL_26, nL_27, nL_28, nL_29, nL_30, nL_31, nL_32, nL_33, nL_34, nL_35, nL_36, nL_37, nL_38, nL_39, nL_40, nL_41, nL_42, nL_43, nL_44, nL_45, nL_46, nL_47, nL_48, nL_49, nL_50, nL_51, nL_52, nL_53, nL_54, nL_55, nL_56, nL_57, nL_58, nL_59, nL_60, nL_61, nL_62, nL_63, nL_64, nL_65, nL_66, nL_67, nL_68, nL_69, nL_70, nL_400, nL_402, nL_800, nL_2000], ⟨x3, a3, b3, by simp (disch := omega) only [upd_else, c3, sb, nJ_of, nJ_lt, nJ_le, nJ_eq, nJ_clamp, nJ_add, nJ_sub, if_pos, if_neg, if_true, if_false, nL_0, nL_1, nL_2, nL_3, nL_4, nL_5, nL_6, nL_7, nL_8, nL_9, nL_10, nL_11, nL_12, nL_13, nL_14, nL_15, nL_16, nL_17, nL_18, nL_19, nL_20, nL_21, nL_22, nL_23, nL_24, nL_25, nL_26, nL_27, nL_28, nL_29, nL_30, nL_31, nL_32, nL_33, nL_34, nL_35, nL_36, nL_37, nL_38, nL_39, nL_40, nL_41, nL_42, nL_43, nL_44, nL_45, nL_46, nL_47, nL_48, nL_49, nL_50, nL_51, nL_52, nL_53, nL_54, nL_55, nL_56, nL_57, nL_58, nL_59, nL_60, nL_61, nL_62, nL_63, nL_64, nL_65, nL_66, nL_67, nL_68, nL_69, nL_70, nL_400, nL_402, nL_800, nL_2000]⟩, ⟨y4 / 2, by omega, ?_, ?_⟩, ⟨y5 - 12, by omega, ?_, ?_⟩, ⟨x6, a6, b6, by simp (disch := omega) only [upd_else, c6, sb, nJ_of, nJ_lt, nJ_le, nJ_eq, nJ_clamp, nJ_add, nJ_sub, if_pos, if_neg, if_true, if_false, nL_0, nL_1, nL_2, nL_3, nL_4, nL_5, nL_6, nL_7, nL_8, nL_9, nL_10, nL_11, nL_12, nL_13, nL_14, nL_15, nL_16, nL_17, nL_18, nL_19, nL_20, nL_21, nL_22, nL_23, nL_24, nL_25, nL_26, nL_27, nL_28, nL_29, nL_30, nL_31, nL_32, nL_33, nL_34, nL_35, nL_36, nL_37, nL_38, nL_39, nL_40, nL_41, nL_42, nL_43, nL_44, nL_45, nL_46, nL_47, nL_48, nL_49, nL_50, nL_51, nL_52, nL_53, nL_54, nL_55, nL_56, nL_57, nL_58, nL_59, nL_60, nL_61, nL_62, nL_63, nL_64, nL_65, nL_66, nL_67, nL_68, nL_69, nL_70, nL_400, nL_402, nL_800, nL_2000]⟩, ⟨x7, a7, b7, by simp (disch := omega) only [upd_else, c7, sb, nJ_of, nJ_lt, nJ_le, nJ_eq, nJ_clamp, nJ_add, nJ_sub, if_pos, if_neg, if_true, if_false, nL_0, nL_1, nL_2, nL_3, nL_4, nL_5, nL_6, nL_7, nL_8, nL_9, nL_10, nL_11, nL_12, nL_13, nL_14, nL_15, nL_16, nL_17, nL_18, nL_19, nL_20, nL_21, nL_22, nL_23, nL_24, nL_25, nL_26, nL_27, nL_28, nL_29, nL_30, nL_31, nL_32, nL_33, nL_34, nL_35, nL_36, nL_37, nL_38, nL_39, nL_40, nL_41, nL_42, nL_43, nL_44, nL_45, nL_46, nL_47, nL_48, nL_49, nL_50, nL_51, nL_52, nL_53, nL_54, nL_55, nL_56, nL_57, nL_58, nL_59, nL_60, nL_61, nL_62, nL_63, nL_64, nL_65, nL_66, nL_67, nL_68, nL_69, nL_70, nL_400, nL_402, nL_800, nL_2000]⟩, ?_, by simp (disch := omega) only [upd_else, t9, sb, nJ_of, nJ_lt, nJ_le, nJ_eq, nJ_clamp, nJ_add, nJ_sub, if_pos, if_neg, if_true, if_false, nL_0, nL_1, nL_2, nL_3, nL_4, nL_5, nL_6, nL_7, nL_8, nL_9, nL_10, nL_11, nL_12, nL_13, nL_14, nL_15, nL_16, nL_17, nL_18, nL_19, nL_20, nL_21, nL_22, nL_23, nL_24, nL_25, nL_26, nL_27, nL_28, nL_29, nL_30, nL_31, nL_32, nL_33, nL_34, nL_35, nL_36, nL_37, nL_38, nL_39, nL_40, nL_41, nL_42, nL_43, nL_44, nL_45, nL_46, nL_47, nL_48, nL_49, nL_50, nL_51, nL_52, nL_53, nL_54, nL_55, nL_56, nL_57, nL_58, nL_59, nL_60, nL_61, nL_62, nL_63, nL_64, nL_65, nL_66, nL_67, nL_68, nL_69, nL_70, nL_400, nL_402, nL_800, nL_2000], r1, r2⟩
  · show sr / 2 = nI (y4 / 2)
    rw [j4, nL_2, nJ_div (by omega) (by omega) (by omega)]
  · rw [upd_else _ _ (by decide), upd_else _ _ (by decide), upd_same, l4, nJ_div (by omega) (by omega) (by omega)]
  · show ch - 12 = nI (y5 - 12)
    rw [j5, nL_12, nJ_sub hc]
  · rw [upd_else _ _ (by decide), upd_same, l5, nJ_sub hc]
  · rw [upd_same, u8]
    rfl
end P7
