/-! THE GRAMMAR READS A PLAN -/
theorem iter_many {S R : Type} {body : S → Option (S ⊕ R)} (st : Nat → S) (N : Nat) : ∀ M, (∀ i, i < M → body (st i) = some (.inl (st (i + 1)))) → iter body (M + N) (st 0) = iter body N (st M) := by
  intro M
  induction M generalizing N with
  | zero => intro _; rw [Nat.zero_add]
  | succ M ih =>
    intro h
    rw [show M + 1 + N = M + (N + 1) by omega, ih (N + 1) (fun i hi => h i (by omega)), iter_inl (h M (by omega))]
theorem stp_lt : ∀ (h : Nat) (t : Nd h) (c : Nat), (stp h t c).length < 2 ^ h := by
  intro h
  induction h with
  | zero => intro t; exact t.elim
  | succ h ih =>
    intro t c
    have h0 : 0 < 2 ^ h := Nat.two_pow_pos h
    have h1 : 2 ^ (h + 1) = 2 ^ h + 2 ^ h := by rw [Nat.pow_succ]; omega
    have e : ∀ (o : Option (Nd h)) (d : Nat), (oL (fun x => stp h x d) o).length < 2 ^ h := by
      intro o d
      cases o with
      | none => exact h0
      | some x => exact ih x d
    rw [stp_s]
    by_cases q1 : t.1 ≤ 1
    · rw [if_pos q1]; show 1 < _; omega
    rw [if_neg q1]
    by_cases q2 : t.1 = 2
    · rw [if_pos q2]; show 1 < _; omega
    rw [if_neg q2]
    by_cases q3 : t.1 = 15 ∨ t.1 = 16 ∨ t.1 = 17
    · rw [if_pos q3]; show 1 < _; omega
    rw [if_neg q3]
    generalize (if t.1 = 4 ∨ t.1 = 5 then c + 2 else if 10 ≤ t.1 ∧ t.1 < 15 then c else c + 1) = d
    show (oL (fun x => stp h x d) t.2.2.1 ++ (oL (fun x => stp h x (d + (oL (fun y => [nlen h y]) t.2.2.1).sum + 1)) t.2.2.2 ++ [(ndK t.1 t.2.1, 0)])).length < _
    rw [List.length_append, List.length_append]
    have e1 := e t.2.2.1 d
    have e2 := e t.2.2.2 (d + (oL (fun y => [nlen h y]) t.2.2.1).sum + 1)
    show _ + (_ + 1) < _
    omega
theorem ostp_lt (o : Od) (c : Nat) : (ostp o c).length < 16 := by
  unfold ostp
  cases h : o.2.2 with
  | none => show 0 < 16; omega
  | some t => exact stp_lt 4 t _
/-- the orders read: deed, name, first and last step -/
def oend : List Od → Nat → Nat → Nat
  | [], _, p => p
  | o :: r, c, p => oend r (c + (otk o).length) (p + (ostp o c).length)
def OL (dd : Nat → Nat) (tg fs es : Nat → Int32) (sk : Nat → Nat) (sv : Nat → Int32) : List Od → Nat → Nat → Nat → Prop
  | [], _, _, _ => True
  | o :: r, c, i, p => (dd i = dK o.1 ∧ tg i = nI (c + 1) ∧ fs i = nI p ∧ es i = nI (p + (ostp o c).length)) ∧ (∀ j s, (ostp o c)[j]? = some s → sk (p + j) = s.1 ∧ sv (p + j) = nI s.2) ∧ OL dd tg fs es sk sv r (c + (otk o).length) (i + 1) (p + (ostp o c).length)
abbrev rdB (n : Nat) (bt : bX11) (b1 : bX6) := fun s : Int32 × Int32 × Int32 × (Nat → Nat) × (Nat → Int32) × (Nat → Int32) × (Nat → Int32) × (Nat → Nat) × (Nat → Int32) × Int32 × Int32 => f_X3_read_L4 n bt b1 s.1 s.2.1 s.2.2.1 (X11_error bt) (X11_errorToken bt) s.2.2.2.1 s.2.2.2.2.1 s.2.2.2.2.2.1 s.2.2.2.2.2.2.1 s.2.2.2.2.2.2.2.1 s.2.2.2.2.2.2.2.2.1 s.2.2.2.2.2.2.2.2.2.1 s.2.2.2.2.2.2.2.2.2.2
section
variable {n : Nat} {K : Nat → Nat} {sT : Nat → Int32} {vT : Nat → Int64} {cnt c c' c0 k i p nf ng v : Nat} {er et : Int32} {dd dd' : Nat → Nat} {tg fs es tg' fs' es' : Nat → Int32} {sk sk' : Nat → Nat} {sv sv' : Nat → Int32} {b1 : bX6} {ct st ct' st' : Int32}
theorem rd_line (hc : c < cnt) (h4 : cnt ≤ 401) (hk : K c < 36) (hv : v < 400) (hl : f_X3_line n (K, sT, vT, nI cnt, nI c, er, et) (dd, tg, fs, es, sk, sv, ct, st) = some (nI 1, nI c', dd', tg', fs', es', sk', sv', ct', st')) (hc' : c' < cnt) (hk' : K c' = 36) : f_X3_read_L4 n (K, sT, vT, nI cnt, nI c0, er, et) b1 (nI 1) (nI v) (nI c) er et dd tg fs es sk sv ct st = some (Sum.inl (nI 1, nI (v + 1), nI (c' + 1), dd', tg', fs', es', sk', sv', ct', st')) := by
  unfold f_X3_read_L4
  simp (disch := omega) only [X11_kinds, X11_starts, X11_values, X11_count, X11_cursor, X11_error, X11_errorToken, next_ok hc h4, hl, take_yes hc' h4 (show (36 : Nat) < 52 by decide) hk', show (400 ≤ v) = False from eq_false (by omega), show (K c < 52) = True from eq_true (by omega), show (K c = 49) = False from eq_false (by omega), sb, nJ_of, nJ_lt, nJ_le, nJ_eq, nJ_clamp, nJ_add, nJ_sub, if_pos, if_neg, if_true, if_false, nL_0, nL_1, nL_2, nL_3, nL_4, nL_5, nL_6, nL_7, nL_8, nL_9, nL_10, nL_11, nL_12, nL_13, nL_14, nL_15, nL_16, nL_17, nL_18, nL_19, nL_20, nL_21, nL_22, nL_23, nL_24, nL_25, nL_26, nL_27, nL_28, nL_29, nL_30, nL_31, nL_32, nL_33, nL_34, nL_35, nL_36, nL_37, nL_38, nL_39, nL_40, nL_41, nL_42, nL_43, nL_44, nL_45, nL_46, nL_47, nL_48, nL_49, nL_50, nL_51, nL_52, nL_53, nL_54, nL_55, nL_56, nL_57, nL_58, nL_59, nL_60, nL_61, nL_62, nL_63, nL_64, nL_65, nL_66, nL_67, nL_68, nL_69, nL_70, nL_400, nL_402, nL_800, nL_2000]
theorem rd_end (hc : c < cnt) (h4 : cnt ≤ 401) (hk : K c = 49) (hv : v < 400) : f_X3_read_L4 n (K, sT, vT, nI cnt, nI c0, er, et) b1 (nI 1) (nI v) (nI c) er et dd tg fs es sk sv ct st = some (Sum.inr (nI c, er, et, dd, tg, fs, es, sk, sv, ct, st)) := by
  unfold f_X3_read_L4 f_X3_read_R55 f_X3_read_R75 f_X11_failUnless
  simp (disch := omega) only [X11_kinds, X11_starts, X11_values, X11_count, X11_cursor, X11_error, X11_errorToken, next_ok hc h4, hk, show (400 ≤ v) = False from eq_false (by omega), sb, nJ_of, nJ_lt, nJ_le, nJ_eq, nJ_clamp, nJ_add, nJ_sub, if_pos, if_neg, if_true, if_false, nL_0, nL_1, nL_2, nL_3, nL_4, nL_5, nL_6, nL_7, nL_8, nL_9, nL_10, nL_11, nL_12, nL_13, nL_14, nL_15, nL_16, nL_17, nL_18, nL_19, nL_20, nL_21, nL_22, nL_23, nL_24, nL_25, nL_26, nL_27, nL_28, nL_29, nL_30, nL_31, nL_32, nL_33, nL_34, nL_35, nL_36, nL_37, nL_38, nL_39, nL_40, nL_41, nL_42, nL_43, nL_44, nL_45, nL_46, nL_47, nL_48, nL_49, nL_50, nL_51, nL_52, nL_53, nL_54, nL_55, nL_56, nL_57, nL_58, nL_59, nL_60, nL_61, nL_62, nL_63, nL_64, nL_65, nL_66, nL_67, nL_68, nL_69, nL_70, nL_400, nL_402, nL_800, nL_2000]
end
theorem Tks_get {K : Nat → Nat} {c j : Nat} {ts : List Tk} {t : Tk} (h : Tks K c ts) (e : ts[j]? = some t) {k : Nat} (hk : kdL t.1 = k) : K (c + j) = k := (h j t e).trans hk
theorem line_fT {n : Nat} {K : Nat → Nat} {sT : Nat → Int32} {vT : Nat → Int64} {cnt c j : Nat} {er et : Int32} {dd : Nat → Nat} {tg fs es : Nat → Int32} {sk : Nat → Nat} {sv : Nat → Int32} {ct st : Int32} {x : Nat × Nat × Nat × Nat} (hj : j < 10) (hx : FrOk x) (hT : Tks K c (ftk j x)) (hc : c + 10 < cnt) (h4 : cnt ≤ 401) : f_X3_line n (K, sT, vT, nI cnt, nI c, er, et) (dd, tg, fs, es, sk, sv, ct, st) = some (nI 1, nI (c + 10), dd, tg, fs, es, sk, sv, ct, st) ∧ K c = 0 ∧ K (c + 10) = 36 := by
  obtain ⟨x0, x1, x2, x3, x4, x5⟩ := hx
  have e0 := Tks_get (j := 0) hT rfl (kw_kd 0 (by decide))
  refine ⟨line_f (w := if x.1 = 0 then 3 else 2) (by split <;> omega) e0 (Tks_get (j := 1) hT rfl (nm_f 102 (Or.inl rfl) j hj).1) (Tks_get (j := 2) hT rfl (kw_kd 1 (by decide))) (Tks_get (j := 3) hT rfl (kw_kd _ (by split <;> omega))) (Tks_get (j := 4) hT rfl (kw_kd 6 (by decide))) (Tks_get (j := 5) hT rfl (num_tok (nx := 32) (by omega) (by decide)).2) (Tks_get (j := 6) hT rfl (kw_kd 4 (by decide))) (Tks_get (j := 7) hT rfl (num_tok (nx := 32) (by omega) (by decide)).2) (Tks_get (j := 8) hT rfl (kw_kd 5 (by decide))) (Tks_get (j := 9) hT rfl (num_tok (nx := 32) (by omega) (by decide)).2) (by omega) h4, e0, Tks_get (j := 10) hT rfl (kw_kd 36 (by decide))⟩
theorem line_gT {n : Nat} {K : Nat → Nat} {sT : Nat → Int32} {vT : Nat → Int64} {cnt c j : Nat} {er et : Int32} {dd : Nat → Nat} {tg fs es : Nat → Int32} {sk : Nat → Nat} {sv : Nat → Int32} {ct st : Int32} {x : Nat × Nat × Nat × Nat} (hj : j < 10) (hx : GuOk x) (hT : Tks K c (gtk j x)) (hc : c + 10 < cnt) (h4 : cnt ≤ 401) : f_X3_line n (K, sT, vT, nI cnt, nI c, er, et) (dd, tg, fs, es, sk, sv, ct, st) = some (nI 1, nI (c + 10), dd, tg, fs, es, sk, sv, ct, st) ∧ K c = 7 ∧ K (c + 10) = 36 := by
  obtain ⟨x0, x1, x2, x3, x4⟩ := hx
  have e0 := Tks_get (j := 0) hT rfl (kw_kd 7 (by decide))
  refine ⟨line_g e0 (Tks_get (j := 1) hT rfl (nm_f 103 (Or.inr rfl) j hj).1) (Tks_get (j := 2) hT rfl (kw_kd 4 (by decide))) (Tks_get (j := 3) hT rfl (num_tok (nx := 32) (by omega) (by decide)).2) (Tks_get (j := 4) hT rfl (kw_kd 8 (by decide))) (Tks_get (j := 5) hT rfl (num_tok (nx := 32) (by omega) (by decide)).2) (Tks_get (j := 6) hT rfl (kw_kd 9 (by decide))) (Tks_get (j := 7) hT rfl (num_tok (nx := 32) (by omega) (by decide)).2) (Tks_get (j := 8) hT rfl (kw_kd 10 (by decide))) (Tks_get (j := 9) hT rfl (num_tok (nx := 32) (by omega) (by decide)).2) (by omega) h4, e0, Tks_get (j := 10) hT rfl (kw_kd 36 (by decide))⟩
/-- a part of a list of tokens -/
theorem Tks_f {K : Nat → Nat} (fr : Nat → Nat × Nat × Nat × Nat) : ∀ i c, Tks K c (ftks fr i) → ∀ j, j < i → Tks K (c + 11 * j) (ftk j (fr j)) := by
  intro i
  induction i with
  | zero => intro c _ j hj; omega
  | succ i ih =>
    intro c h j hj
    obtain ⟨h1, h2⟩ := Tks_a (show Tks K c (ftks fr i ++ ftk i (fr i)) from h)
    by_cases q : j < i
    · exact ih c h1 j q
    · have : j = i := by omega
      subst this
      rw [ftks_cnt] at h2
      exact h2
theorem Tks_g {K : Nat → Nat} (gu : Nat → Nat × Nat × Nat × Nat) : ∀ i c, Tks K c (gtks gu i) → ∀ j, j < i → Tks K (c + 11 * j) (gtk j (gu j)) := by
  intro i
  induction i with
  | zero => intro c _ j hj; omega
  | succ i ih =>
    intro c h j hj
    obtain ⟨h1, h2⟩ := Tks_a (show Tks K c (gtks gu i ++ gtk i (gu i)) from h)
    by_cases q : j < i
    · exact ih c h1 j q
    · have : j = i := by omega
      subst this
      rw [gtks_cnt] at h2
      exact h2
theorem otk_hd {K : Nat → Nat} {c nf ng : Nat} {o : Od} (hnf : nf ≤ 10) (hng : ng ≤ 10) (ho : OdOk nf ng o) (hT : Tks K c (otk o)) : (K c = 11 ∨ K c = 12 ∨ K c = 13 ∨ K c = 14) ∧ K (c + ohd o + otl o) = 36 := by
  constructor
  · unfold otk at hT
    by_cases h0 : o.1 = 0
    · rw [if_pos h0] at hT
      exact Or.inl ((Tks_h hT).1.trans (kw_kd 11 (by decide)))
    rw [if_neg h0] at hT
    by_cases h1 : o.1 = 1
    · rw [if_pos h1] at hT
      exact Or.inr (Or.inr (Or.inr ((Tks_h hT).1.trans (kw_kd 14 (by decide)))))
    rw [if_neg h1] at hT
    by_cases h2 : o.1 = 2
    · rw [if_pos h2] at hT
      exact Or.inr (Or.inl ((Tks_h hT).1.trans (kw_kd 12 (by decide))))
    · rw [if_neg h2] at hT
      exact Or.inr (Or.inr (Or.inl ((Tks_h hT).1.trans (kw_kd 13 (by decide)))))
  · have hw : Tks K (c + ohd o) (wtk o) := by
      unfold otk at hT
      unfold ohd
      by_cases h0 : o.1 = 0
      · rw [if_pos h0] at hT
        rw [if_pos (by omega)]
        exact (Tks_h (Tks_h hT).2).2
      rw [if_neg h0] at hT
      by_cases h1 : o.1 = 1
      · rw [if_pos h1] at hT
        rw [if_pos (by omega)]
        exact (Tks_h (Tks_h hT).2).2
      rw [if_neg h1] at hT
      rw [if_neg (by omega)]
      by_cases h2 : o.1 = 2
      · rw [if_pos h2] at hT
        exact (Tks_h hT).2
      · rw [if_neg h2] at hT
        exact (Tks_h hT).2
    unfold wtk at hw
    unfold otl
    cases h : o.2.2 with
    | none =>
      rw [h] at hw
      exact (Tks_h hw).1.trans (kw_kd 36 (by decide))
    | some t =>
      rw [h] at hw
      have h2 := (Tks_h (Tks_a (Tks_h hw).2).2).1.trans (kw_kd 36 (by decide))
      show K (c + ohd o + ((ntk 4 t []).length + 1)) = 36
      rw [show c + ohd o + ((ntk 4 t []).length + 1) = c + ohd o + 1 + (ntk 4 t []).length by omega]
      exact h2
theorem read_os {n : Nat} {K : Nat → Nat} {sT : Nat → Int32} {vT : Nat → Int64} {cnt c0 nf ng : Nat} {er et : Int32} {b1 : bX6} (hn : 1 < n) (hnf : nf ≤ 10) (hng : ng ≤ 10) (h4 : cnt ≤ 401) : ∀ (os : List Od) (c i p v N : Nat) (dd : Nat → Nat) (tg fs es : Nat → Int32) (sk : Nat → Nat) (sv : Nat → Int32), (∀ o ∈ os, OdOk nf ng o) → Tks K c (otks os) → K (c + (otks os).length) = 49 → c + (otks os).length < cnt → i + os.length ≤ 16 → p + 16 * os.length ≤ 400 → v + os.length < 400 → os.length < N → ∃ dd' tg' fs' es' sk' sv', iter (rdB n (K, sT, vT, nI cnt, nI c0, er, et) b1) N (nI 1, nI v, nI c, dd, tg, fs, es, sk, sv, nI i, nI p) = some (nI (c + (otks os).length), er, et, dd', tg', fs', es', sk', sv', nI (i + os.length), nI (oend os c p)) ∧ (∀ j, j < i → dd' j = dd j ∧ tg' j = tg j ∧ fs' j = fs j ∧ es' j = es j) ∧ (∀ j, j < p → sk' j = sk j ∧ sv' j = sv j) ∧ OL dd' tg' fs' es' sk' sv' os c i p ∧ oend os c p ≤ p + 16 * os.length := by
  intro os
  induction os with
  | nil =>
    intro c i p v N dd tg fs es sk sv _ _ hE hc _ _ hv hN
    obtain ⟨N, rfl⟩ : ∃ M, N = M + 1 := ⟨N - 1, by have : 0 < N := hN; omega⟩
    exact ⟨dd, tg, fs, es, sk, sv, iter_inr (rd_end hc h4 hE (by have : v + 0 < 400 := hv; omega)), fun _ _ => ⟨rfl, rfl, rfl, rfl⟩, fun _ _ => ⟨rfl, rfl⟩, trivial, Nat.le_refl _⟩
  | cons o r ih =>
    intro c i p v N dd tg fs es sk sv hO hT hE hc hi hp hv hN
    have hol : (otks (o :: r)).length = (ohd o + otl o + 1) + (otks r).length := by
      show (otk o ++ otks r).length = _
      rw [List.length_append, otk_len]
    rw [hol] at hE hc ⊢
    rw [List.length_cons] at hi hp hv hN ⊢
    obtain ⟨N, rfl⟩ : ∃ M, N = M + 1 := ⟨N - 1, by omega⟩
    obtain ⟨hT1, hT2⟩ := Tks_a (show Tks K c (otk o ++ otks r) from hT)
    rw [otk_len] at hT2
    have ho := hO o List.mem_cons_self
    obtain ⟨k1, k2⟩ := otk_hd hnf hng ho hT1
    have hl := ostp_lt o c
    have hL := line_o (n := n) (sT := sT) (vT := vT) (er := er) (et := et) (dd := dd) (tg := tg) (fs := fs) (es := es) (sk := sk) (sv := sv) (i := i) (p := p) hn hnf hng ho hT1 (by omega) h4 (by omega) (by omega)
    have hB := rd_line (c0 := c0) (b1 := b1) (v := v) (by omega) h4 (by omega) (by omega) hL (by omega) k2
    rw [show c + ohd o + otl o + 1 = c + (ohd o + otl o + 1) by omega] at hB
    obtain ⟨dd', tg', fs', es', sk', sv', e, f1, f2, f3, f4⟩ := ih (c + (ohd o + otl o + 1)) (i + 1) (p + (ostp o c).length) (v + 1) N (va_up dd i (dK o.1)) (upd tg i (nI (c + 1))) (upd fs i (nI p)) (upd (upd es i (nI p)) i (nI (p + (ostp o c).length))) (wK sk p (ostp o c)) (wV sv p (ostp o c)) (fun q hq => hO q (List.mem_cons_of_mem _ hq)) hT2 (by rw [show c + (ohd o + otl o + 1) + (otks r).length = c + (ohd o + otl o + 1 + (otks r).length) by omega]; exact hE) (by omega) (by omega) (by omega) (by omega) (by omega)
    refine ⟨dd', tg', fs', es', sk', sv', ?_, ?_, ?_, ?_, ?_⟩
    · refine (iter_inl hB).trans ?_
      show iter (rdB n (K, sT, vT, nI cnt, nI c0, er, et) b1) N _ = some (nI (c + (ohd o + otl o + 1 + (otks r).length)), er, et, dd', tg', fs', es', sk', sv', nI (i + (r.length + 1)), nI (oend r (c + (otk o).length) (p + (ostp o c).length)))
      rw [show c + (ohd o + otl o + 1 + (otks r).length) = c + (ohd o + otl o + 1) + (otks r).length by omega, show i + (r.length + 1) = i + 1 + r.length by omega, otk_len]
      exact e
    · intro j hj
      obtain ⟨a1, a2, a3, a4⟩ := f1 j (by omega)
      rw [a1, a2, a3, a4]
      unfold va_up
      rw [if_neg (by omega), upd_else _ _ (by omega), upd_else _ _ (by omega), upd_else _ _ (by omega), upd_else _ _ (by omega)]
      exact ⟨rfl, rfl, rfl, rfl⟩
    · intro j hj
      obtain ⟨a1, a2⟩ := f2 j (by omega)
      rw [a1, a2, wK_lo _ _ _ _ hj, wV_lo _ _ _ _ hj]
      exact ⟨rfl, rfl⟩
    · refine ⟨?_, ?_, ?_⟩
      · obtain ⟨a1, a2, a3, a4⟩ := f1 i (by omega)
        rw [a1, a2, a3, a4]
        unfold va_up
        rw [if_pos rfl, upd_same, upd_same, upd_same]
        exact ⟨rfl, rfl, rfl, rfl⟩
      · intro j s hj
        have hjl := (List.getElem?_eq_some_iff.mp hj).1
        obtain ⟨a1, a2⟩ := f2 (p + j) (by omega)
        rw [a1, a2, wK_at _ _ _ _ _ hj, wV_at _ _ _ _ _ hj]
        exact ⟨rfl, rfl⟩
      · rw [otk_len]
        exact f3
    · show oend r (c + (otk o).length) (p + (ostp o c).length) ≤ _
      rw [otk_len]
      omega
theorem read_plan {P : Pl} (hP : PlOk P) {n : Nat} (hn : 500 < n) {K : Nat → Nat} {sT : Nat → Int32} {vT : Nat → Int64} {dd : Nat → Nat} {tg fs es : Nat → Int32} {sk : Nat → Nat} {sv : Nat → Int32} (hT : Tks K 0 (ptk P)) (hE : K (ptk P).length = 49) : ∃ dd' tg' fs' es' sk' sv', f_X3_read n (K, sT, vT, nI ((ptk P).length + 1), nI 0, nI 0, nI 0) (dd, tg, fs, es, sk, sv, nI 0, nI 0) = some (nI (ptk P).length, nI 0, nI 0, dd', tg', fs', es', sk', sv', nI P.os.length, nI (oend P.os (11 * P.nf + 11 * P.ng) 0)) ∧ OL dd' tg' fs' es' sk' sv' P.os (11 * P.nf + 11 * P.ng) 0 0 ∧ oend P.os (11 * P.nf + 11 * P.ng) 0 ≤ 64 := by
  have h305 := ptk_cnt hP
  obtain ⟨p1, p2, p3, p4, p5, p6⟩ := hP
  have hlen : (ptk P).length = 11 * P.nf + (11 * P.ng + (otks P.os).length) := by
    unfold ptk
    rw [List.length_append, List.length_append, ftks_cnt, gtks_cnt]
  obtain ⟨hT1, hT2⟩ := Tks_a (show Tks K 0 (ftks P.fr P.nf ++ (gtks P.gu P.ng ++ otks P.os)) from hT)
  rw [ftks_cnt] at hT2
  obtain ⟨hT2, hT3⟩ := Tks_a hT2
  rw [gtks_cnt] at hT3
  rw [hlen] at hE h305 ⊢
  generalize hcn : 11 * P.nf + (11 * P.ng + (otks P.os).length) + 1 = cnt
  obtain ⟨N, rfl⟩ : ∃ M, n = P.nf + (P.ng + M) := ⟨n - P.nf - P.ng, by omega⟩
  generalize hn' : P.nf + (P.ng + N) = n' at hn ⊢
  have e1 := iter_many (body := rdB n' (K, sT, vT, nI cnt, nI 0, nI 0, nI 0) (dd, tg, fs, es, sk, sv, nI 0, nI 0)) (fun i => (nI 1, nI i, nI (11 * i), dd, tg, fs, es, sk, sv, nI 0, nI 0)) (P.ng + N) P.nf (fun i hi => by
    have hF := Tks_f P.fr P.nf 0 hT1 i hi
    rw [Nat.zero_add] at hF
    obtain ⟨a1, a2, a3⟩ := line_fT (n := n') (sT := sT) (vT := vT) (cnt := cnt) (er := nI 0) (et := nI 0) (dd := dd) (tg := tg) (fs := fs) (es := es) (sk := sk) (sv := sv) (ct := nI 0) (st := nI 0) (by omega) (p3 i hi) hF (by omega) (by omega)
    have hB := rd_line (c0 := 0) (b1 := (dd, tg, fs, es, sk, sv, nI 0, nI 0)) (v := i) (c := 11 * i) (c' := 11 * i + 10) (by omega) (by omega) (by omega) (by omega) a1 (by omega) a3
    rw [show 11 * i + 10 + 1 = 11 * (i + 1) by omega] at hB
    exact hB)
  have e2 := iter_many (body := rdB n' (K, sT, vT, nI cnt, nI 0, nI 0, nI 0) (dd, tg, fs, es, sk, sv, nI 0, nI 0)) (fun i => (nI 1, nI (P.nf + i), nI (11 * P.nf + 11 * i), dd, tg, fs, es, sk, sv, nI 0, nI 0)) N P.ng (fun i hi => by
    have hF := Tks_g P.gu P.ng _ hT2 i hi
    rw [Nat.zero_add] at hF
    obtain ⟨a1, a2, a3⟩ := line_gT (n := n') (sT := sT) (vT := vT) (cnt := cnt) (er := nI 0) (et := nI 0) (dd := dd) (tg := tg) (fs := fs) (es := es) (sk := sk) (sv := sv) (ct := nI 0) (st := nI 0) (by omega) (p4 i hi) hF (by omega) (by omega)
    have hB := rd_line (c0 := 0) (b1 := (dd, tg, fs, es, sk, sv, nI 0, nI 0)) (v := P.nf + i) (c := 11 * P.nf + 11 * i) (c' := 11 * P.nf + 11 * i + 10) (by omega) (by omega) (by omega) (by omega) a1 (by omega) a3
    rw [show 11 * P.nf + 11 * i + 10 + 1 = 11 * P.nf + 11 * (i + 1) by omega] at hB
    exact hB)
  obtain ⟨dd', tg', fs', es', sk', sv', e3, -, -, e4, e5⟩ := read_os (n := n') (sT := sT) (vT := vT) (cnt := cnt) (c0 := 0) (er := nI 0) (et := nI 0) (b1 := (dd, tg, fs, es, sk, sv, nI 0, nI 0)) (by omega) (show P.nf ≤ 10 by omega) (show P.ng ≤ 10 by omega) (by omega) P.os (11 * P.nf + 11 * P.ng) 0 0 (P.nf + P.ng) N dd tg fs es sk sv p6 (by rw [Nat.zero_add] at hT3; exact hT3) (by rw [show 11 * P.nf + 11 * P.ng + (otks P.os).length = 11 * P.nf + (11 * P.ng + (otks P.os).length) by omega]; exact hE) (by omega) (by omega) (by omega) (by omega) (by omega)
  refine ⟨dd', tg', fs', es', sk', sv', ?_, e4, by omega⟩
  have e0 : f_X3_read n' (K, sT, vT, nI cnt, nI 0, nI 0, nI 0) (dd, tg, fs, es, sk, sv, nI 0, nI 0) = iter (rdB n' (K, sT, vT, nI cnt, nI 0, nI 0, nI 0) (dd, tg, fs, es, sk, sv, nI 0, nI 0)) n' (nI 1, nI 0, nI 0, dd, tg, fs, es, sk, sv, nI 0, nI 0) := rfl
  rw [e0, ← hn', hn'] 
  have e1 : iter (rdB n' (K, sT, vT, nI cnt, nI 0, nI 0, nI 0) (dd, tg, fs, es, sk, sv, nI 0, nI 0)) (P.nf + (P.ng + N)) (nI 1, nI 0, nI 0, dd, tg, fs, es, sk, sv, nI 0, nI 0) = _ := e1
  rw [hn'] at e1
  rw [e1]
  refine e2.trans (e3.trans ?_)
  rw [Nat.zero_add, show 11 * P.nf + 11 * P.ng + (otks P.os).length = 11 * P.nf + (11 * P.ng + (otks P.os).length) by omega]
