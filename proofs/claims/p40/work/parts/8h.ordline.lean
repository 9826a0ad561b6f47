/-! THE GRAMMAR READS AN ORDER'S LINE -/
def ohd (o : Od) : Nat := if o.1 ≤ 1 then 2 else 1
def otl (o : Od) : Nat := match o.2.2 with
  | none => 0
  | some t => nlen 4 t + 1
/-- the steps of an order's test, the order's first token at c -/
def ostp (o : Od) (c : Nat) : List (Nat × Nat) := match o.2.2 with
  | none => []
  | some t => stp 4 t (c + ohd o + 1)
theorem wtk_len (o : Od) : (wtk o).length = otl o + 1 := by
  unfold wtk otl
  cases h : o.2.2 with
  | none => rfl
  | some t =>
    show (_ :: (ntk 4 t [] ++ [_])).length = _
    rw [List.length_cons, List.length_append]
    rfl
theorem otk_len (o : Od) : (otk o).length = ohd o + otl o + 1 := by
  have h := wtk_len o
  unfold otk ohd
  by_cases h0 : o.1 = 0
  · rw [if_pos h0, if_pos (by omega), List.length_cons, List.length_cons, h]; omega
  rw [if_neg h0]
  by_cases h1 : o.1 = 1
  · rw [if_pos h1, if_pos (by omega), List.length_cons, List.length_cons, h]; omega
  rw [if_neg h1, if_neg (show ¬ o.1 ≤ 1 by omega)]
  by_cases h2 : o.1 = 2
  · rw [if_pos h2, List.length_cons, h]; omega
  · rw [if_neg h2, List.length_cons, h]; omega
section
variable {n : Nat} {K : Nat → Nat} {sT : Nat → Int32} {vT : Nat → Int64} {cnt c c0 k i p nf ng : Nat} {er et : Int32} {dd : Nat → Nat} {tg fs es : Nat → Int32} {sk : Nat → Nat} {sv : Nat → Int32} {b1 : bX6} {o : Od}
theorem ord_r80 (hn : 1 < n) (hnf : nf ≤ 10) (hng : ng ≤ 10) (ho : OdOk nf ng o) (hT : Tks K (c + ohd o) (wtk o)) (hc : c + ohd o + otl o < cnt) (h4 : cnt ≤ 401) (hi : i < 16) (hp : p + (ostp o c).length ≤ 400) : f_X3_order_R80 n (K, sT, vT, nI cnt, nI c0, er, et) b1 (nI (c + ohd o)) dd tg fs es sk sv (nI (i + 1)) (nI p) = some (nI 1, nI (c + ohd o + otl o), dd, tg, fs, upd es i (nI (p + (ostp o c).length)), wK sk p (ostp o c), wV sv p (ostp o c), nI (i + 1), nI (p + (ostp o c).length)) := by
  unfold wtk at hT
  unfold ostp at hp ⊢
  unfold otl at hc ⊢
  rcases ho.2 with h | ⟨t, h, ht⟩
  · rw [h] at hT hc hp ⊢
    have e := (Tks_h hT).1
    rw [kw_kd 36 (by decide)] at e
    exact ord_n hc h4 (by omega) (by omega) hi
  · rw [h] at hT hc hp ⊢
    have hc : c + ohd o + (nlen 4 t + 1) < cnt := hc
    obtain ⟨e, hT⟩ := Tks_h hT
    rw [kw_kd 15 (by decide)] at e
    obtain ⟨hT1, hT2⟩ := Tks_a hT
    have e2 := (Tks_h hT2).1
    rw [kw_kd 36 (by decide)] at e2
    have e2 : K (c + ohd o + 1 + nlen 4 t) = 36 := e2
    obtain ⟨hg, hb⟩ := T1_gr ht
    have r2 : Rds n 98 2 0 K cnt (c + ohd o + 1) (nlen 4 t) (stp 4 t (c + ohd o + 1)) := bg_read hn hnf hng 4 t [] 98 0 (c + ohd o + 1) cnt K hg hb hT1 (by omega) h4 (by decide) (by decide) 36 e2 (by decide) (by decide)
    have r0 := lift0 (by omega) (lift1 (by omega) r2 (by omega) h4 (by omega) (by omega)) (by omega) h4 (by omega) (by omega)
    have := ord_t (c0 := c0) (b1 := b1) (i := i) (p := p) (er := er) (et := et) (dd := dd) (tg := tg) (fs := fs) (es := es) (sk := sk) (sv := sv) (sT := sT) (vT := vT) (by omega) h4 e r0 hp hi
    rw [show c + ohd o + 1 + nlen 4 t = c + ohd o + (nlen 4 t + 1) by omega] at this
    exact this
theorem line_o (hn : 1 < n) (hnf : nf ≤ 10) (hng : ng ≤ 10) (ho : OdOk nf ng o) (hT : Tks K c (otk o)) (hc : c + ohd o + otl o < cnt) (h4 : cnt ≤ 401) (hi : i < 16) (hp : p + (ostp o c).length ≤ 400) : f_X3_line n (K, sT, vT, nI cnt, nI c, er, et) (dd, tg, fs, es, sk, sv, nI i, nI p) = some (nI 1, nI (c + ohd o + otl o), va_up dd i (dK o.1), upd tg i (nI (c + 1)), upd fs i (nI p), upd (upd es i (nI p)) i (nI (p + (ostp o c).length)), wK sk p (ostp o c), wV sv p (ostp o c), nI (i + 1), nI (p + (ostp o c).length)) := by
  have key : ∀ k, K c = k → (k = 11 ∨ k = 12 ∨ k = 13 ∨ k = 14) → f_X3_line n (K, sT, vT, nI cnt, nI c, er, et) (dd, tg, fs, es, sk, sv, nI i, nI p) = (f_X3_order n (K, sT, vT, nI cnt, nI c, er, et) (dd, tg, fs, es, sk, sv, nI i, nI p)).bind (fun u5 => if vp_nar .boolean u5.1 = u5.1 then some (u5.1, u5.2.1, u5.2.2.1, u5.2.2.2.1, u5.2.2.2.2.1, u5.2.2.2.2.2.1, u5.2.2.2.2.2.2.1, u5.2.2.2.2.2.2.2.1, u5.2.2.2.2.2.2.2.2.1, u5.2.2.2.2.2.2.2.2.2) else none) := by
    intro k e hk
    unfold f_X3_line
    simp (disch := omega) only [X11_kinds, X11_starts, X11_values, X11_count, X11_cursor, X11_error, X11_errorToken, take_no (show c < cnt by omega) h4 (show (0 : Nat) < 52 by decide) (show K c < 52 by omega) (show K c ≠ 0 by omega), take_no (show c < cnt by omega) h4 (show (7 : Nat) < 52 by decide) (show K c < 52 by omega) (show K c ≠ 7 by omega), sb, nJ_of, nJ_lt, nJ_le, nJ_eq, nJ_clamp, nJ_add, nJ_sub, if_pos, if_neg, if_true, if_false, nL_0, nL_1, nL_2, nL_3, nL_4, nL_5, nL_6, nL_7, nL_8, nL_9, nL_10, nL_11, nL_12, nL_13, nL_14, nL_15, nL_16, nL_17, nL_18, nL_19, nL_20, nL_21, nL_22, nL_23, nL_24, nL_25, nL_26, nL_27, nL_28, nL_29, nL_30, nL_31, nL_32, nL_33, nL_34, nL_35, nL_36, nL_37, nL_38, nL_39, nL_40, nL_41, nL_42, nL_43, nL_44, nL_45, nL_46, nL_47, nL_48, nL_49, nL_50, nL_51, nL_52, nL_53, nL_54, nL_55, nL_56, nL_57, nL_58, nL_59, nL_60, nL_61, nL_62, nL_63, nL_64, nL_65, nL_66, nL_67, nL_68, nL_69, nL_70, nL_400, nL_402, nL_800, nL_2000]
  have fin : ∀ k k' b1, K c = k → (k = 11 ∨ k = 12 ∨ k = 13 ∨ k = 14) → Tks K (c + ohd o) (wtk o) → k' = dK o.1 → f_X3_order n (K, sT, vT, nI cnt, nI c, er, et) (dd, tg, fs, es, sk, sv, nI i, nI p) = f_X3_order_R80 n (K, sT, vT, nI cnt, nI c, er, et) b1 (nI (c + ohd o)) (va_up dd i k') (upd tg i (nI (c + 1))) (upd fs i (nI p)) (upd es i (nI p)) sk sv (nI (i + 1)) (nI p) → f_X3_line n (K, sT, vT, nI cnt, nI c, er, et) (dd, tg, fs, es, sk, sv, nI i, nI p) = some (nI 1, nI (c + ohd o + otl o), va_up dd i (dK o.1), upd tg i (nI (c + 1)), upd fs i (nI p), upd (upd es i (nI p)) i (nI (p + (ostp o c).length)), wK sk p (ostp o c), wV sv p (ostp o c), nI (i + 1), nI (p + (ostp o c).length)) := by
    intro k k' b1 e hk hW hk' h
    subst hk'
    rw [key k e hk, h, ord_r80 hn hnf hng ho hW hc h4 hi hp, sb]
    show (if vp_nar .boolean (nI 1) = nI 1 then _ else none) = _
    rw [if_pos vpN1]
  unfold otk at hT
  unfold ohd at hc fin ⊢
  rcases ho.1 with ⟨h0, hw⟩ | ⟨h1, hw⟩ | ⟨h2 | h2, hw⟩
  · rw [if_pos (show o.1 ≤ 1 by omega)] at hc fin ⊢
    rw [if_pos h0] at hT
    obtain ⟨e, hT⟩ := Tks_h hT
    obtain ⟨e1, hT⟩ := Tks_h hT
    rw [kw_kd 11 (by decide)] at e
    rw [(nm_f 102 (Or.inl rfl) _ (by omega)).1] at e1
    exact fin 11 11 _ e (by omega) hT (by unfold dK; rw [if_pos h0]) (ordh_11 (by omega) h4 e e1 hi)
  · rw [if_pos (show o.1 ≤ 1 by omega)] at hc fin ⊢
    rw [if_neg (show ¬ o.1 = 0 by omega), if_pos h1] at hT
    obtain ⟨e, hT⟩ := Tks_h hT
    obtain ⟨e1, hT⟩ := Tks_h hT
    rw [kw_kd 14 (by decide)] at e
    rw [(nm_f 103 (Or.inr rfl) _ (by omega)).1] at e1
    exact fin 14 14 _ e (by omega) hT (by unfold dK; rw [if_neg (by omega), if_pos h1]) (ordh_14 (by omega) h4 e e1 hi)
  · rw [if_neg (show ¬ o.1 ≤ 1 by omega)] at hc fin ⊢
    rw [if_neg (show ¬ o.1 = 0 by omega), if_neg (show ¬ o.1 = 1 by omega), if_pos h2] at hT
    obtain ⟨e, hT⟩ := Tks_h hT
    rw [kw_kd 12 (by decide)] at e
    exact fin 12 12 _ e (by omega) hT (by unfold dK; rw [if_neg (by omega), if_neg (by omega), if_pos h2]) (ordh_12 (by omega) h4 e hi)
  · rw [if_neg (show ¬ o.1 ≤ 1 by omega)] at hc fin ⊢
    rw [if_neg (show ¬ o.1 = 0 by omega), if_neg (show ¬ o.1 = 1 by omega), if_neg (show ¬ o.1 = 2 by omega)] at hT
    obtain ⟨e, hT⟩ := Tks_h hT
    rw [kw_kd 13 (by decide)] at e
    exact fin 13 13 _ e (by omega) hT (by unfold dK; rw [if_neg (by omega), if_neg (by omega), if_neg (by omega)]) (ordh_13 (by omega) h4 e hi)
end
