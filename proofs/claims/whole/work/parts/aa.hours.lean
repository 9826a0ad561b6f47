/-! hours that go by, and what would be -/
abbrev pkT : Type := Int32 × Int32 × Int32 × Int32 × Int32 × Int32 × Int32 × Int32 × (Nat → Int32) × (Nat → Int32) × (Nat → Int32) × (Nat → Int32) × Int32
def pk (P : bX8) (R : bX9) : pkT := (P.1, P.2.1, P.2.2.1, P.2.2.2.1, P.2.2.2.2.1, P.2.2.2.2.2.1, P.2.2.2.2.2.2.1, P.2.2.2.2.2.2.2.1, P.2.2.2.2.2.2.2.2.1, P.2.2.2.2.2.2.2.2.2.1, P.2.2.2.2.2.2.2.2.2.2, R.1, R.2)
abbrev sqT : Type := bX8 × bX9 × (Nat → Int32) × (Nat → Int32)
theorem RPt_congr {nf ng : Nat} {fr hr gr : Nat → Nat} {P P' : bX8} {N N' : Nat → Int32} {h : Nat} (p1 : nf ≤ 10) (p2 : ng ≤ 10) (ht : RPt nf ng fr hr gr P N h) (hN : ∀ j, j < 58 → N' j = N j) (e1 : X8_hour P' = X8_hour P) (e2 : X8_warmth P' = X8_warmth P) (e3 : X8_strength P' = X8_strength P) (e4 : X8_charge P' = X8_charge P) (e5 : X8_lemons P' = X8_lemons P) (e6 : X8_saucers P' = X8_saucers P) (e7 : X8_coins P' = X8_coins P) (e8 : X8_storms P' = X8_storms P) (f1 : ∀ f, f < nf → X8_frontSteeped P' f = X8_frontSteeped P f) (f2 : ∀ g, g < ng → X8_guestServed P' g = X8_guestServed P g ∧ X8_guestStormed P' g = X8_guestStormed P g) : RPt nf ng fr hr gr P' N' h := by
  obtain ⟨t1, t2, t3, t4, t5, t6, t7, t8, t9, t10, t11⟩ := ht
  refine ⟨e1.trans t1, (hN _ (by omega)).trans t2, ?_, ?_, ?_, ?_, ?_, ?_, ?_, fun f hf => ?_, fun g hg => ?_⟩
  · rw [e2, hN _ (by omega)]; exact t3
  · rw [e3, hN _ (by omega)]; exact t4
  · rw [e4, hN _ (by omega)]; exact t5
  · rw [e5, hN _ (by omega)]; exact t6
  · rw [e6, hN _ (by omega)]; exact t7
  · rw [e8, hN _ (by omega)]; exact t8
  · rw [e7, hN _ (by omega)]; exact t9
  · rw [f1 f hf, hN _ (by omega), hN _ (by omega)]; exact t10 f hf
  · rw [(f2 g hg).1, (f2 g hg).2, hN _ (by omega), hN _ (by omega), hN _ (by omega)]; exact t11 g hg
theorem first_ex (p : Nat → Bool) : ∀ m : Nat, ∃ j, j ≤ m ∧ (∀ i, i < j → p i = false) ∧ (j < m → p j = true)
  | 0 => ⟨0, Nat.le_refl _, fun i hi => by omega, fun h => by omega⟩
  | m + 1 => by
    obtain ⟨j, h1, h2, h3⟩ := first_ex p m
    by_cases q : j < m
    · exact ⟨j, by omega, h2, fun _ => h3 q⟩
    · have e : j = m := by omega
      cases z : p m with
      | true => exact ⟨j, by omega, h2, fun _ => by rw [e]; exact z⟩
      | false =>
        refine ⟨m + 1, Nat.le_refl _, fun i hi => ?_, fun h => by omega⟩
        rcases Nat.lt_or_ge i m with y | y
        · exact h2 i (by omega)
        · have e2 : i = m := by omega
          rw [e2]
          exact z
def cpB (f g : Nat → Int32) (i : Nat) : Nat → Int32 := fun j => if j < i then vp_nar .boolean (g j) else f j
theorem cpB_s (f g : Nat → Int32) (i : Nat) : upd (cpB f g i) i (vp_nar .boolean (g i)) = cpB f g (i + 1) := by
  funext j
  unfold cpB
  by_cases c : j = i
  · rw [c, upd_same, if_pos (by omega)]
  · rw [upd_else _ _ c]
    by_cases d : j < i
    · rw [if_pos d, if_pos (by omega)]
    · rw [if_neg d, if_neg (by omega)]
theorem cpB_0 (f g : Nat → Int32) : cpB f g 0 = f := by
  funext j
  exact if_neg (by omega)
section P72
variable {n q : Nat} {th bs ea tk wr er et dp : Int32} {ta kd nu po ln fn gn va kp : Nat → Int32}
variable {N : Nat → Int32} {bh : bX12} {tp : bX10} {X : bX11} {P Tr : bX8} {R TR : bX9} {F dF : bX2} {G dG : bX4} {O dO : bX6} {T Fr : bX13} {ao : Nat → Int64} {nf ng no h : Nat} {fo fr hr gr : Nat → Nat}
/-- the trial's pot -/
def tpot (Tr P : bX8) : bX8 := (X8_hour P, X8_warmth P, X8_strength P, X8_charge P, X8_lemons P, X8_saucers P, X8_coins P, X8_storms P, cpB (X8_frontSteeped Tr) (X8_frontSteeped P) 10, cpB (X8_guestServed Tr) (X8_guestServed P) 10, cpB (X8_guestStormed Tr) (X8_guestStormed P) 10)
theorem k_copyFrom (hn : 2100 < n) : f_X8_copyFrom n Tr P = some (tpot Tr P) := by
  unfold f_X8_copyFrom
  have hh := iter_count (fun q : Int32 × (Nat → Int32) => f_X8_copyFrom_L74 n Tr P q.1 (X8_hour P) (X8_warmth P) (X8_strength P) (X8_charge P) (X8_lemons P) (X8_saucers P) (X8_coins P) (X8_storms P) q.2 (X8_guestServed Tr) (X8_guestStormed Tr)) (fun i => (nI i, cpB (X8_frontSteeped Tr) (X8_frontSteeped P) i)) 10 (tpot Tr P) (fun i hi => ?_) ?_ (n := n) (by omega)
  · rw [cpB_0] at hh
    exact hh
  · show f_X8_copyFrom_L74 n Tr P (nI i) (X8_hour P) (X8_warmth P) (X8_strength P) (X8_charge P) (X8_lemons P) (X8_saucers P) (X8_coins P) (X8_storms P) (cpB (X8_frontSteeped Tr) (X8_frontSteeped P) i) (X8_guestServed Tr) (X8_guestStormed Tr) = some (.inl (nI (i + 1), cpB (X8_frontSteeped Tr) (X8_frontSteeped P) (i + 1)))
    unfold f_X8_copyFrom_L74
    simp (disch := omega) only [cpB_s, ↓reduceIte, ↓if_pos, ↓if_neg, Nat.reduceEqDiff, Nat.reduceLeDiff, Nat.reduceLT, and_true, true_and, and_false, false_and, true_or, or_true, false_or, or_false, eq_self, sb, nJ_of, nJ_lt, nJ_le, nJ_eq, nJ_clamp, nJ_add, nJ_sub, if_pos, if_neg, if_true, if_false, nL_0, nL_1, nL_2, nL_3, nL_4, nL_5, nL_6, nL_7, nL_8, nL_9, nL_10, nL_11, nL_12, nL_13, nL_14, nL_15, nL_16, nL_17, nL_18, nL_19, nL_20, nL_21, nL_22, nL_23, nL_24, nL_25, nL_26, nL_27, nL_28, nL_29, nL_30, nL_31, nL_32, nL_33, nL_34, nL_35, nL_36, nL_37, nL_38, nL_39, nL_40, nL_41, nL_42, nL_43, nL_44, nL_45, nL_46, nL_47, nL_48, nL_49, nL_50, nL_51, nL_52, nL_53, nL_54, nL_55, nL_56, nL_57, nL_58, nL_59, nL_60, nL_61, nL_62, nL_63, nL_64, nL_65, nL_66, nL_67, nL_68, nL_69, nL_70, nL_400, nL_402, nL_800, nL_2000]
  · have hin := iter_count (fun q : Int32 × (Nat → Int32) × (Nat → Int32) => f_X8_copyFrom_L100 n Tr P q.1 (X8_hour P) (X8_warmth P) (X8_strength P) (X8_charge P) (X8_lemons P) (X8_saucers P) (X8_coins P) (X8_storms P) (cpB (X8_frontSteeped Tr) (X8_frontSteeped P) 10) q.2.1 q.2.2) (fun i => (nI i, cpB (X8_guestServed Tr) (X8_guestServed P) i, cpB (X8_guestStormed Tr) (X8_guestStormed P) i)) 10 (tpot Tr P) (fun i hi => by
        show f_X8_copyFrom_L100 n Tr P (nI i) (X8_hour P) (X8_warmth P) (X8_strength P) (X8_charge P) (X8_lemons P) (X8_saucers P) (X8_coins P) (X8_storms P) (cpB (X8_frontSteeped Tr) (X8_frontSteeped P) 10) (cpB (X8_guestServed Tr) (X8_guestServed P) i) (cpB (X8_guestStormed Tr) (X8_guestStormed P) i) = some (.inl (nI (i + 1), cpB (X8_guestServed Tr) (X8_guestServed P) (i + 1), cpB (X8_guestStormed Tr) (X8_guestStormed P) (i + 1)))
        unfold f_X8_copyFrom_L100
        simp (disch := omega) only [cpB_s, ↓reduceIte, ↓if_pos, ↓if_neg, Nat.reduceEqDiff, Nat.reduceLeDiff, Nat.reduceLT, and_true, true_and, and_false, false_and, true_or, or_true, false_or, or_false, eq_self, sb, nJ_of, nJ_lt, nJ_le, nJ_eq, nJ_clamp, nJ_add, nJ_sub, if_pos, if_neg, if_true, if_false, nL_0, nL_1, nL_2, nL_3, nL_4, nL_5, nL_6, nL_7, nL_8, nL_9, nL_10, nL_11, nL_12, nL_13, nL_14, nL_15, nL_16, nL_17, nL_18, nL_19, nL_20, nL_21, nL_22, nL_23, nL_24, nL_25, nL_26, nL_27, nL_28, nL_29, nL_30, nL_31, nL_32, nL_33, nL_34, nL_35, nL_36, nL_37, nL_38, nL_39, nL_40, nL_41, nL_42, nL_43, nL_44, nL_45, nL_46, nL_47, nL_48, nL_49, nL_50, nL_51, nL_52, nL_53, nL_54, nL_55, nL_56, nL_57, nL_58, nL_59, nL_60, nL_61, nL_62, nL_63, nL_64, nL_65, nL_66, nL_67, nL_68, nL_69, nL_70, nL_400, nL_402, nL_800, nL_2000]) (by
        show f_X8_copyFrom_L100 n Tr P (nI 10) (X8_hour P) (X8_warmth P) (X8_strength P) (X8_charge P) (X8_lemons P) (X8_saucers P) (X8_coins P) (X8_storms P) (cpB (X8_frontSteeped Tr) (X8_frontSteeped P) 10) (cpB (X8_guestServed Tr) (X8_guestServed P) 10) (cpB (X8_guestStormed Tr) (X8_guestStormed P) 10) = _
        unfold f_X8_copyFrom_L100
        rw [if_pos (show (10 : Int32) ≤ nI 10 by decide)]
        rfl) (n := n) (by omega)
    rw [cpB_0, cpB_0] at hin
    show f_X8_copyFrom_L74 n Tr P (nI 10) (X8_hour P) (X8_warmth P) (X8_strength P) (X8_charge P) (X8_lemons P) (X8_saucers P) (X8_coins P) (X8_storms P) (cpB (X8_frontSteeped Tr) (X8_frontSteeped P) 10) (X8_guestServed Tr) (X8_guestStormed Tr) = _
    unfold f_X8_copyFrom_L74
    rw [if_pos (show (10 : Int32) ≤ nI 10 by decide)]
    exact bd hin _
theorem r_tpot (p1 : nf ≤ 10) (p2 : ng ≤ 10) (ht : RPt nf ng fr hr gr P N h) : RPt nf ng fr hr gr (tpot Tr P) N h := by
  refine RPt_congr p1 p2 ht (fun j _ => rfl) rfl rfl rfl rfl rfl rfl rfl rfl (fun f hf => ?_) (fun g hg => ?_)
  · obtain ⟨t, b1, b2, -⟩ := ht.2.2.2.2.2.2.2.2.2.1 f hf
    show cpB _ _ 10 f = _
    unfold cpB
    rw [if_pos (by omega), b2, vpn_b b1]
  · obtain ⟨t, u, b1, b2, b3, b4, -⟩ := ht.2.2.2.2.2.2.2.2.2.2 g hg
    refine ⟨?_, ?_⟩
    · show cpB _ _ 10 g = _
      unfold cpB
      rw [if_pos (by omega), b3, vpn_b b1]
    · show cpB _ _ 10 g = _
      unfold cpB
      rw [if_pos (by omega), b4, vpn_b b2]
theorem k_hourG (hn : 2100 < n) (hp : RPl F G T nf ng fo fr hr gr) (hO : RO O T nf ng no) (ht : RPt nf ng fr hr gr P N h) (hh : h < 1000000) : ∃ (P2 : bX8) (R2 : bX9) (va2 N2 : Nat → Int32), f_X8_passHour n P R F G O = some (pk P2 R2) ∧ f_X14_hourOn n (th, ta, bs, ea, kd, nu, po, ln, tk, wr, er, et, dp, fn, gn, va, N, kp) T = some (va2, N2) ∧ RPt nf ng fr hr gr P2 N2 (h + 1) := by
  obtain ⟨ho, wa, sr, ch, lm, sa, co, sm, fs, gs, gt⟩ := P
  obtain ⟨stk, hgt⟩ := R
  obtain ⟨ho2, wa2, sr2, ch2, lm2, sa2, co2, sm2, fs2, gs2, gt2, N2, stk2, ht2, va2, e1, e2, e3⟩ := k_hour (n := n) (th := th) (ta := ta) (bs := bs) (ea := ea) (kd := kd) (nu := nu) (po := po) (ln := ln) (tk := tk) (wr := wr) (er := er) (et := et) (dp := dp) (fn := fn) (gn := gn) (va := va) (kp := kp) hp hO ht hh (by omega) stk hgt
  exact ⟨(ho2, wa2, sr2, ch2, lm2, sa2, co2, sm2, fs2, gs2, gt2), (stk2, ht2), va2, N2, e1, e2, e3⟩
/-- the hours that follow -/
theorem hr_seq (hn : 2100 < n) (hp : RPl F G T nf ng fo fr hr gr) (hO : RO O T nf ng no) (ht : RPt nf ng fr hr gr P N h) (hh : h < 900000) : ∀ m : Nat, m < 1000 → ∃ sq : Nat → sqT, sq 0 = (P, R, va, N) ∧ (∀ i, i ≤ m → RPt nf ng fr hr gr (sq i).1 (sq i).2.2.2 (h + i)) ∧ ∀ i, i < m → f_X8_passHour n (sq i).1 (sq i).2.1 F G O = some (pk (sq (i + 1)).1 (sq (i + 1)).2.1) ∧ f_X14_hourOn n (th, ta, bs, ea, kd, nu, po, ln, tk, wr, er, et, dp, fn, gn, (sq i).2.2.1, (sq i).2.2.2, kp) T = some ((sq (i + 1)).2.2.1, (sq (i + 1)).2.2.2)
  | 0, _ => ⟨fun _ => (P, R, va, N), rfl, fun i hi => by
      have e : i = 0 := by omega
      rw [e]
      exact ht, fun i hi => by omega⟩
  | m + 1, hm => by
    obtain ⟨sq, s0, s1, s2⟩ := hr_seq hn hp hO ht hh m (by omega)
    obtain ⟨P2, R2, va2, N2, e1, e2, e3⟩ := k_hourG (R := (sq m).2.1) (va := (sq m).2.2.1) (th := th) (ta := ta) (bs := bs) (ea := ea) (kd := kd) (nu := nu) (po := po) (ln := ln) (tk := tk) (wr := wr) (er := er) (et := et) (dp := dp) (fn := fn) (gn := gn) (kp := kp) hn hp hO (s1 m (Nat.le_refl _)) (by omega)
    have a1 : ∀ i, i ≤ m → (if i ≤ m then sq i else (P2, R2, va2, N2)) = sq i := fun i hi => if_pos hi
    have a2 : (if m + 1 ≤ m then sq (m + 1) else (P2, R2, va2, N2)) = (P2, R2, va2, N2) := if_neg (by omega)
    refine ⟨fun i => if i ≤ m then sq i else (P2, R2, va2, N2), ?_, fun i hi => ?_, fun i hi => ?_⟩
    · show (if 0 ≤ m then sq 0 else _) = _
      rw [a1 0 (by omega)]
      exact s0
    · show RPt nf ng fr hr gr (if i ≤ m then sq i else (P2, R2, va2, N2)).1 (if i ≤ m then sq i else (P2, R2, va2, N2)).2.2.2 (h + i)
      rcases Nat.lt_or_ge m i with y | y
      · have e : i = m + 1 := by omega
        rw [e, a2]
        exact e3
      · rw [a1 i y]
        exact s1 i y
    · show f_X8_passHour n (if i ≤ m then sq i else (P2, R2, va2, N2)).1 (if i ≤ m then sq i else (P2, R2, va2, N2)).2.1 F G O = some (pk (if i + 1 ≤ m then sq (i + 1) else (P2, R2, va2, N2)).1 (if i + 1 ≤ m then sq (i + 1) else (P2, R2, va2, N2)).2.1) ∧ f_X14_hourOn n (th, ta, bs, ea, kd, nu, po, ln, tk, wr, er, et, dp, fn, gn, (if i ≤ m then sq i else (P2, R2, va2, N2)).2.2.1, (if i ≤ m then sq i else (P2, R2, va2, N2)).2.2.2, kp) T = some ((if i + 1 ≤ m then sq (i + 1) else (P2, R2, va2, N2)).2.2.1, (if i + 1 ≤ m then sq (i + 1) else (P2, R2, va2, N2)).2.2.2)
      rw [a1 i (by omega)]
      rcases Nat.lt_or_ge i m with y | y
      · rw [a1 (i + 1) (by omega)]
        exact s2 i y
      · have e : i = m := by omega
        subst e
        rw [a2]
        exact ⟨e1, e2⟩
end P72
