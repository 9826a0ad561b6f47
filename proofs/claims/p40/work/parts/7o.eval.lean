/-! A TEST holds in the code when it holds by hand -/
theorem S0_ev {nf ng h : Nat} {t : Nd (h + 1)} (H : S0 nf h t) : EvOk nf ng (h + 1) t := by
  obtain ⟨⟨h1, h2⟩ | ⟨h1, h2⟩ | ⟨h1, h2⟩, hl⟩ := H
  · exact Or.inl ⟨Or.inl h1, hl⟩
  · exact Or.inl ⟨Or.inr ⟨h1, h2⟩, hl⟩
  · exact Or.inr (Or.inl ⟨h1, h2, hl⟩)
theorem S1_ev {nf ng h : Nat} {t : Nd (h + 2)} (H : S1 nf h t) : EvOk nf ng (h + 2) t := by
  rcases H with H | ⟨h1, ha, hn⟩ | ⟨h1, h2, ha, hb⟩
  · exact S0_ev H
  · exact Or.inr (Or.inr (Or.inl ⟨h1, one_mono ha (fun x hx => S0_ev hx), hn⟩))
  · exact Or.inr (Or.inr (Or.inr (Or.inr (Or.inr (Or.inr (Or.inl ⟨⟨h1, by omega⟩, one_mono ha (fun x hx => S0_ev hx), one_mono hb (fun x hx => S0_ev hx)⟩))))))
theorem T0_ev {nf ng h : Nat} {t : Nd (h + 3)} (H : T0 nf ng h t) : EvOk nf ng (h + 3) t ∧ big (h + 3) t := by
  rcases H with ⟨h1, h2, hl⟩ | ⟨h1, h2, hl⟩ | ⟨h1, h2, ha, hb⟩
  · exact ⟨Or.inr (Or.inr (Or.inr (Or.inl ⟨h1, h2, hl⟩))), by show 10 ≤ t.1; omega⟩
  · exact ⟨Or.inr (Or.inr (Or.inr (Or.inr (Or.inl ⟨h1, h2, hl⟩)))), by show 10 ≤ t.1; omega⟩
  · exact ⟨Or.inr (Or.inr (Or.inr (Or.inr (Or.inr (Or.inr (Or.inl ⟨⟨by omega, h2⟩, one_mono ha (fun x hx => S1_ev hx), one_mono hb (fun x hx => S0_ev hx)⟩)))))), h1⟩
theorem T1_ev {nf ng h : Nat} {t : Nd (h + 4)} (H : T1 nf ng h t) : EvOk nf ng (h + 4) t ∧ big (h + 4) t := by
  rcases H with H | ⟨h1, ha, hn⟩ | ⟨h1, ha, hb⟩
  · exact T0_ev H
  · exact ⟨Or.inr (Or.inr (Or.inr (Or.inr (Or.inr (Or.inl ⟨h1, one_mono ha (fun x hx => T0_ev hx), hn⟩))))), by show 10 ≤ t.1; omega⟩
  · exact ⟨Or.inr (Or.inr (Or.inr (Or.inr (Or.inr (Or.inr (Or.inr ⟨h1, one_mono ha (fun x hx => T0_ev hx), one_mono hb (fun x hx => T0_ev hx)⟩)))))), by show 10 ≤ t.1; omega⟩
theorem both_bool {s : Nat} (h1 : 10 ≤ s) (h2 : s < 15) {x y v : Int32} (h : f_X16_both (nI s) x y = some v) : v = 0 ∨ v = 1 := by
  have hs : s = 10 ∨ s = 11 ∨ s = 12 ∨ s = 13 ∨ s = 14 := by omega
  rcases hs with rfl | rfl | rfl | rfl | rfl
  · have e : f_X16_both (nI 10) x y = if y ≤ x then some 0 else some 1 := by simp (disch := omega) only [f_X16_both, ↓reduceIte, ↓if_pos, ↓if_neg, Nat.reduceEqDiff, Nat.reduceLeDiff, Nat.reduceLT, and_true, true_and, and_false, false_and, true_or, or_true, false_or, or_false, eq_self, sb, nJ_of, nJ_lt, nJ_le, nJ_eq, nJ_clamp, nJ_add, nJ_sub, if_pos, if_neg, if_true, if_false, nL_0, nL_1, nL_2, nL_3, nL_4, nL_5, nL_6, nL_7, nL_8, nL_9, nL_10, nL_11, nL_12, nL_13, nL_14, nL_15, nL_16, nL_17, nL_18, nL_19, nL_20, nL_21, nL_22, nL_23, nL_24, nL_25, nL_26, nL_27, nL_28, nL_30, nL_38, nL_40, nL_48, nL_58, nL_60]
    rw [e] at h
    split at h <;> cases h <;> simp
  · have e : f_X16_both (nI 11) x y = if x ≤ y then some 0 else some 1 := by simp (disch := omega) only [f_X16_both, ↓reduceIte, ↓if_pos, ↓if_neg, Nat.reduceEqDiff, Nat.reduceLeDiff, Nat.reduceLT, and_true, true_and, and_false, false_and, true_or, or_true, false_or, or_false, eq_self, sb, nJ_of, nJ_lt, nJ_le, nJ_eq, nJ_clamp, nJ_add, nJ_sub, if_pos, if_neg, if_true, if_false, nL_0, nL_1, nL_2, nL_3, nL_4, nL_5, nL_6, nL_7, nL_8, nL_9, nL_10, nL_11, nL_12, nL_13, nL_14, nL_15, nL_16, nL_17, nL_18, nL_19, nL_20, nL_21, nL_22, nL_23, nL_24, nL_25, nL_26, nL_27, nL_28, nL_30, nL_38, nL_40, nL_48, nL_58, nL_60]
    rw [e] at h
    split at h <;> cases h <;> simp
  · have e : f_X16_both (nI 12) x y = if x = y then some 1 else some 0 := by simp (disch := omega) only [f_X16_both, ↓reduceIte, ↓if_pos, ↓if_neg, Nat.reduceEqDiff, Nat.reduceLeDiff, Nat.reduceLT, and_true, true_and, and_false, false_and, true_or, or_true, false_or, or_false, eq_self, sb, nJ_of, nJ_lt, nJ_le, nJ_eq, nJ_clamp, nJ_add, nJ_sub, if_pos, if_neg, if_true, if_false, nL_0, nL_1, nL_2, nL_3, nL_4, nL_5, nL_6, nL_7, nL_8, nL_9, nL_10, nL_11, nL_12, nL_13, nL_14, nL_15, nL_16, nL_17, nL_18, nL_19, nL_20, nL_21, nL_22, nL_23, nL_24, nL_25, nL_26, nL_27, nL_28, nL_30, nL_38, nL_40, nL_48, nL_58, nL_60]
    rw [e] at h
    split at h <;> cases h <;> simp
  · have e : f_X16_both (nI 13) x y = if y < x then some 0 else some 1 := by simp (disch := omega) only [f_X16_both, ↓reduceIte, ↓if_pos, ↓if_neg, Nat.reduceEqDiff, Nat.reduceLeDiff, Nat.reduceLT, and_true, true_and, and_false, false_and, true_or, or_true, false_or, or_false, eq_self, sb, nJ_of, nJ_lt, nJ_le, nJ_eq, nJ_clamp, nJ_add, nJ_sub, if_pos, if_neg, if_true, if_false, nL_0, nL_1, nL_2, nL_3, nL_4, nL_5, nL_6, nL_7, nL_8, nL_9, nL_10, nL_11, nL_12, nL_13, nL_14, nL_15, nL_16, nL_17, nL_18, nL_19, nL_20, nL_21, nL_22, nL_23, nL_24, nL_25, nL_26, nL_27, nL_28, nL_30, nL_38, nL_40, nL_48, nL_58, nL_60]
    rw [e] at h
    split at h <;> cases h <;> simp
  · have e : f_X16_both (nI 14) x y = if x < y then some 0 else some 1 := by simp (disch := omega) only [f_X16_both, ↓reduceIte, ↓if_pos, ↓if_neg, Nat.reduceEqDiff, Nat.reduceLeDiff, Nat.reduceLT, and_true, true_and, and_false, false_and, true_or, or_true, false_or, or_false, eq_self, sb, nJ_of, nJ_lt, nJ_le, nJ_eq, nJ_clamp, nJ_add, nJ_sub, if_pos, if_neg, if_true, if_false, nL_0, nL_1, nL_2, nL_3, nL_4, nL_5, nL_6, nL_7, nL_8, nL_9, nL_10, nL_11, nL_12, nL_13, nL_14, nL_15, nL_16, nL_17, nL_18, nL_19, nL_20, nL_21, nL_22, nL_23, nL_24, nL_25, nL_26, nL_27, nL_28, nL_30, nL_38, nL_40, nL_48, nL_58, nL_60]
    rw [e] at h
    split at h <;> cases h <;> simp
theorem and_bool {x y v : Int32} (hx : x = 0 ∨ x = 1) (hy : y = 0 ∨ y = 1) (h : f_X16_both (nI 19) x y = some v) : v = 0 ∨ v = 1 := by
  rcases hx with rfl | rfl <;> rcases hy with rfl | rfl <;> (have := Option.some.inj (h.symm.trans (by rfl)); revert this; decide +revert)
theorem or_bool {x y v : Int32} (hx : x = 0 ∨ x = 1) (hy : y = 0 ∨ y = 1) (h : f_X16_both (nI 20) x y = some v) : v = 0 ∨ v = 1 := by
  rcases hx with rfl | rfl <;> rcases hy with rfl | rfl <;> (have := Option.some.inj (h.symm.trans (by rfl)); revert this; decide +revert)
theorem ite_some (c : Prop) [Decidable c] (x y : Int32) : (if c then some x else some y) = some (if c then x else y) := by
  split <;> rfl
theorem ite_like (c : Prop) [Decidable c] : (if nI (if c then 1 else 0) = 0 then some (0 : Int32) else some 1) = some (if c then 1 else 0) := by
  by_cases h : c
  · rw [if_pos h, if_pos h, if_neg (by decide)]
  · rw [if_neg h, if_neg h, if_pos (by decide)]
theorem sf_word_v {n : Nat} (_ : n < 7) {x1 x2 x3 x4 x5 x6 x7 : Int32} : some (if nI n = 0 then x1 else if nI n = 1 then x2 else if nI n = 2 then x3 else if nI n = 3 then x4 else if nI n = 4 then x5 else if nI n = 5 then x6 else x7) = (if nI n = 0 then some x1 else if nI n = 1 then some x2 else if nI n = 2 then some x3 else if nI n = 3 then some x4 else if nI n = 4 then some x5 else if nI n = 5 then some x6 else some x7) := by
  repeat' split
  all_goals rfl
theorem wrd_sm : ∀ {n : Nat}, n < 7 → ¬ smap (16 + n) = 1 ∧ (smap (16 + n) = 3 ∨ smap (16 + n) = 4 ∨ smap (16 + n) = 5 ∨ smap (16 + n) = 7 ∨ smap (16 + n) = 8 ∨ smap (16 + n) = 9 ∨ smap (16 + n) = 10 ∨ smap (16 + n) = 11 ∨ smap (16 + n) = 12 ∨ smap (16 + n) = 13 ∨ smap (16 + n) = 14) := by
  have h : ∀ n : Nat, n < 7 → ¬ smap (16 + n) = 1 ∧ (smap (16 + n) = 3 ∨ smap (16 + n) = 4 ∨ smap (16 + n) = 5 ∨ smap (16 + n) = 7 ∨ smap (16 + n) = 8 ∨ smap (16 + n) = 9 ∨ smap (16 + n) = 10 ∨ smap (16 + n) = 11 ∨ smap (16 + n) = 12 ∨ smap (16 + n) = 13 ∨ smap (16 + n) = 14) := by decide
  exact fun {n} => h n
theorem pfx_pos {nf ng : Nat} : ∀ {h : Nat} {t : Nd h}, EvOk nf ng h t → 0 < (pfx h t).length := by
  intro h
  cases h with
  | zero => intro t H; exact H.elim
  | succ h => intro t _; rw [pfx_s, List.length_append]; exact Nat.succ_pos _
theorem val_two (h : Nat) (t : Nd (h + 1)) (b : bY18) (hs : (4 ≤ t.1 ∧ t.1 < 15) ∨ t.1 = 19 ∨ t.1 = 20) : f_X16_value (h + 1) t b = (t.2.2.1).bind fun c28 => (f_X16_value h c28 b).bind fun u27 => (t.2.2.2).bind fun c30 => (f_X16_value h c30 b).bind fun u29 => (f_X16_both (nI t.1) u27 u29).bind fun u31 => some u31 := by
  have e : ∀ k : Nat, k < 100 → ¬ t.1 = k → ¬ nI t.1 = nI k := fun k hk hn z => hn ((nI_eq (by omega) (by omega)).mp z)
  rw [val_s, if_neg (show ¬ nI t.1 = 0 from e 0 (by decide) (by omega)), if_neg (show ¬ nI t.1 = 1 from e 1 (by decide) (by omega)), if_neg (show ¬ nI t.1 = 2 from e 2 (by decide) (by omega)), if_neg (show ¬ nI t.1 = 3 from e 3 (by decide) (by omega)), if_neg (show ¬ nI t.1 = 15 from e 15 (by decide) (by omega)), if_neg (show ¬ nI t.1 = 16 from e 16 (by decide) (by omega)), if_neg (show ¬ nI t.1 = 17 from e 17 (by decide) (by omega)), if_neg (show ¬ nI t.1 = 18 from e 18 (by decide) (by omega))]
section EVAL
variable {P : Pl} {S : Sp} {b : bX8} {c2 : bX2} {c4 : bX4} {c6 : bX6} {b9 : bX9} {n o E : Nat}
theorem ev_step (ho : o < 16) (hE : X6_endSteps c6 o = nI E) (hE4 : E ≤ 400) {q H H' : Nat} {w w' : Nat → Int32} (hq : q < E) (hs : f_X9_step (X6_stepKinds c6 q) (X6_stepValues c6 q) (w, nI H) b c2 c4 = some (w', nI H')) : f_X9_holds_L13 n (nI o) b9 c6 b c2 c4 (nI o) (nI q) w (nI H) = some (.inl (nI (q + 1), w', nI H')) := by
  unfold f_X9_holds_L13
  rw [if_neg (vp_in_nI ho (by decide)), nI_clamp (by omega), hE, if_neg (nI_ge hq (by omega)), if_neg (vp_in_nI (show q < 400 by omega) (by decide)), if_neg (vp_in_nI (show q < 400 by omega) (by decide)), nI_clamp (by omega), hs, sb, nI_1]
abbrev evB (n o : Nat) (b9 : bX9) (c6 : bX6) (b : bX8) (c2 : bX2) (c4 : bX4) : Int32 × (Nat → Int32) × Int32 → Option ((Int32 × (Nat → Int32) × Int32) ⊕ (Int32 × (Nat → Int32) × Int32)) := fun s => f_X9_holds_L13 n (nI o) b9 c6 b c2 c4 (nI o) s.1 s.2.1 s.2.2
theorem ev_leaf (ho : o < 16) (hE : X6_endSteps c6 o = nI E) (hE4 : E ≤ 400) {p H m k v0 : Nat} {w : Nat → Int32} {v : Int32} (hp : p < E) (hs : f_X9_step (X6_stepKinds c6 p) (X6_stepValues c6 p) (w, nI H) b c2 c4 = some (upd w H v, nI (H + 1))) : ∃ w', iter (evB n o b9 c6 b c2 c4) (m + [(k, v0)].length) (nI p, w, nI H) = iter (evB n o b9 c6 b c2 c4) m (nI (p + [(k, v0)].length), w', nI (H + 1)) ∧ w' H = v ∧ ∀ j, j < H → w' j = w j :=
  ⟨_, iter_inl (ev_step ho hE hE4 hp hs), pk_us, fun j hj => pk_un (by omega)⟩
theorem Stq_1 {p k x : Nat} (h : Stq c6 p [(k, x)]) : X6_stepKinds c6 p = k ∧ (k = 48 ∨ k = 6 ∨ k = 23 ∨ k = 24 ∨ k = 25 → X6_stepValues c6 p = nI x) := h 0 (k, x) rfl
theorem ev_ok (hP : PlOk P) (hS : SpB S) (hI : SpI P S) (hh : S.hour < 2 ^ 30) (hbr : RPt S b) (h2 : RFr P c2) (h4 : RGu P c4) (ho : o < 16) (hE : X6_endSteps c6 o = nI E) (hE4 : E ≤ 400) : ∀ (h : Nat) (t : Nd h), EvOk P.nf P.ng h t → ∃ v, f_X16_value h t (hb P S) = some v ∧ (big h t → v = 0 ∨ v = 1) ∧ ∀ (p : Nat) (w : Nat → Int32) (H m : Nat), Stq c6 p (pfx h t) → p + (pfx h t).length ≤ E → H + (pfx h t).length < 400 → ∃ w', iter (evB n o b9 c6 b c2 c4) (m + (pfx h t).length) (nI p, w, nI H) = iter (evB n o b9 c6 b c2 c4) m (nI (p + (pfx h t).length), w', nI (H + 1)) ∧ w' H = v ∧ ∀ j, j < H → w' j = w j := by
  have hf8 := hP.1
  have hg7 := hP.2.1
  intro h
  induction h with
  | zero => intro t H; exact H.elim
  | succ h ih =>
    intro t H
    rcases H with ⟨h1 | ⟨h1, hn⟩, hl0⟩ | ⟨h1, hn, hl0⟩ | ⟨h1, ⟨x, hx, hxo⟩, hb0⟩ | ⟨h1, hn, hl0⟩ | ⟨h1 | h1, hn, hl0⟩ | ⟨h1, ⟨x, hx, hxo, hxb⟩, hb0⟩ | ⟨h1, ⟨x, hx, hxo⟩, y, hy, hyo⟩ | ⟨h1, ⟨x, hx, hxo, hxb⟩, y, hy, hyo, hyb⟩
    ·
      refine ⟨nI t.2.1, ?_, (fun z => absurd z (by show ¬ 10 ≤ t.1; omega)), fun p w H m hq hp hl => ?_⟩
      · rw [val_s, if_pos (by rw [h1]; rfl)]
      · have hpf : pfx (h + 1) t = [(48, t.2.1)] := by
          rw [pfx_s, hl0]
          show ([] ++ []) ++ [(ndK t.1 t.2.1, t.2.1)] = _
          rw [h1]
          rfl
        rw [hpf] at hq hp hl ⊢
        obtain ⟨k1, k2⟩ := Stq_1 hq
        refine ev_leaf ho hE hE4 (by simp only [List.length_singleton] at hp; omega) ?_
        simp only [List.length_singleton] at hl
        rw [k1, k2 (by decide)]
        exact st_num (by omega)
    ·
      refine ⟨(if nI t.2.1 = 0 then nI S.hour else if nI t.2.1 = 1 then nI S.warmth else if nI t.2.1 = 2 then nI S.strength else if nI t.2.1 = 3 then nI S.charge else if nI t.2.1 = 4 then nI S.lemons else if nI t.2.1 = 5 then nI S.saucers else nI S.storms), ?_, (fun z => absurd z (by show ¬ 10 ≤ t.1; omega)), fun p w H m hq hp hl => ?_⟩
      · rw [val_s, if_neg (by rw [h1]; decide), if_pos (by rw [h1]; rfl)]
        exact (sf_word_v hn).symm
      · have hpf : pfx (h + 1) t = [(16 + t.2.1, t.2.1)] := by
          rw [pfx_s, hl0]
          show ([] ++ []) ++ [(ndK t.1 t.2.1, t.2.1)] = _
          rw [h1]
          rfl
        rw [hpf] at hq hp hl ⊢
        obtain ⟨k1, -⟩ := Stq_1 hq
        refine ev_leaf ho hE hE4 (by simp only [List.length_singleton] at hp; omega) ?_
        simp only [List.length_singleton] at hl
        rw [k1]
        exact st_for (by omega) (by omega) (wrd_sm hn).1 (wrd_sm hn).2 (sf_word hbr hn _)
    ·
      refine ⟨nI (P.fr t.2.1).2.1, ?_, (fun z => absurd z (by show ¬ 10 ≤ t.1; omega)), fun p w H m hq hp hl => ?_⟩
      · rw [val_s, if_neg (by rw [h1]; decide), if_neg (by rw [h1]; decide), if_pos (by rw [h1]; rfl), if_neg (vp_in_nI (show t.2.1 < Y18_nf (hb P S) from hn) (by show P.nf < _; omega)), nI_clamp (by omega)]; rfl
      · have hpf : pfx (h + 1) t = [(6, t.2.1)] := by
          rw [pfx_s, hl0]
          show ([] ++ []) ++ [(ndK t.1 t.2.1, t.2.1)] = _
          rw [h1]
          rfl
        rw [hpf] at hq hp hl ⊢
        obtain ⟨k1, k2⟩ := Stq_1 hq
        refine ev_leaf ho hE hE4 (by simp only [List.length_singleton] at hp; omega) ?_
        simp only [List.length_singleton] at hl
        rw [k1, k2 (by decide)]
        exact st_for (by omega) (by decide) (by decide) (by decide) (sf_force hP h2 hn)
    · obtain ⟨v, hv, -, hr⟩ := ih x hxo
      refine ⟨-v, ?_, (fun z => absurd z (by show ¬ 10 ≤ t.1; omega)), fun p w H m hq hp hl => ?_⟩
      · rw [val_s, if_neg (by rw [h1]; decide), if_neg (by rw [h1]; decide), if_neg (by rw [h1]; decide), if_pos (by rw [h1]; rfl), hx, sb, hv, sb, Int32.zero_sub]
      · have hpf : pfx (h + 1) t = pfx h x ++ [(51, t.2.1)] := by
          rw [pfx_s, hx, hb0, h1]
          show (pfx h x ++ []) ++ _ = _
          rw [List.append_nil]
          rfl
        rw [hpf] at hq hp hl ⊢
        rw [List.length_append, List.length_singleton] at hp hl ⊢
        obtain ⟨w1, e1, e2, e3⟩ := hr p w H (m + 1) (Stq_l hq) (by omega) (by omega)
        obtain ⟨k1, -⟩ := Stq_1 (Stq_r hq)
        refine ⟨upd w1 H (-v), ?_, pk_us, fun j hj => by rw [pk_un (by omega)]; exact e3 j hj⟩
        rw [show m + ((pfx h x).length + 1) = m + 1 + (pfx h x).length by omega, e1]
        refine iter_inl (ev_step ho hE hE4 (by omega) ?_)
        rw [k1, ← e2]
        exact st_turn (by omega)
    ·
      refine ⟨if nI (S.fp t.2.1) = 1 then 1 else 0, ?_, (fun _ => by split <;> simp), fun p w H m hq hp hl => ?_⟩
      · rw [val_s, if_neg (by rw [h1]; decide), if_neg (by rw [h1]; decide), if_neg (by rw [h1]; decide), if_neg (by rw [h1]; decide), if_pos (by rw [h1]; rfl), if_neg (vp_in_nI (show t.2.1 < Y18_nf (hb P S) from hn) (by show P.nf < _; omega)), nI_clamp (by omega)]; exact (ite_some _ _ _)
      · have hpf : pfx (h + 1) t = [(24, t.2.1)] := by
          rw [pfx_s, hl0]
          show ([] ++ []) ++ [(ndK t.1 t.2.1, t.2.1)] = _
          rw [h1]
          rfl
        rw [hpf] at hq hp hl ⊢
        obtain ⟨k1, k2⟩ := Stq_1 hq
        refine ev_leaf ho hE hE4 (by simp only [List.length_singleton] at hp; omega) ?_
        simp only [List.length_singleton] at hl
        rw [k1, k2 (by decide)]
        exact st_for (by omega) (by decide) (by decide) (by decide) (sf_over hP hS hI hh hbr h2 (by omega))
    ·
      refine ⟨if nI (S.gp t.2.1) = 1 then 1 else 0, ?_, (fun _ => by split <;> simp), fun p w H m hq hp hl => ?_⟩
      · rw [val_s, if_neg (by rw [h1]; decide), if_neg (by rw [h1]; decide), if_neg (by rw [h1]; decide), if_neg (by rw [h1]; decide), if_neg (by rw [h1]; decide), if_pos (by rw [h1]; rfl), if_neg (vp_in_nI (show t.2.1 < Y18_ng (hb P S) from hn) (by show P.ng < _; omega)), nI_clamp (by omega)]; exact (ite_some _ _ _)
      · have hpf : pfx (h + 1) t = [(23, t.2.1)] := by
          rw [pfx_s, hl0]
          show ([] ++ []) ++ [(ndK t.1 t.2.1, t.2.1)] = _
          rw [h1]
          rfl
        rw [hpf] at hq hp hl ⊢
        obtain ⟨k1, k2⟩ := Stq_1 hq
        refine ev_leaf ho hE hE4 (by simp only [List.length_singleton] at hp; omega) ?_
        simp only [List.length_singleton] at hl
        rw [k1, k2 (by decide)]
        exact st_for (by omega) (by decide) (by decide) (by decide) (sf_seat hP hS hI hh hbr h4 (by omega))
    ·
      refine ⟨if likeS P S t.2.1 S.strength then 1 else 0, ?_, (fun _ => by split <;> simp), fun p w H m hq hp hl => ?_⟩
      · rw [val_s, if_neg (by rw [h1]; decide), if_neg (by rw [h1]; decide), if_neg (by rw [h1]; decide), if_neg (by rw [h1]; decide), if_neg (by rw [h1]; decide), if_neg (by rw [h1]; decide), if_pos (by rw [h1]; rfl), if_neg (vp_in_nI (show t.2.1 < Y18_ng (hb P S) from hn) (by show P.ng < _; omega)), nI_clamp (by omega), show f_X18_likes t.2.1 (Y18_strength (hb P S)) (hb P S) = _ from likes_ok hP hS hn (x := S.strength) (by have := hS.2.1; omega), sb]; exact ite_like _
      · have hpf : pfx (h + 1) t = [(25, t.2.1)] := by
          rw [pfx_s, hl0]
          show ([] ++ []) ++ [(ndK t.1 t.2.1, t.2.1)] = _
          rw [h1]
          rfl
        rw [hpf] at hq hp hl ⊢
        obtain ⟨k1, k2⟩ := Stq_1 hq
        refine ev_leaf ho hE hE4 (by simp only [List.length_singleton] at hp; omega) ?_
        simp only [List.length_singleton] at hl
        rw [k1, k2 (by decide)]
        exact st_for (by omega) (by decide) (by decide) (by decide) (sf_cont hP hS hI hh hbr h4 (by omega))
    · obtain ⟨v, hv, hvb, hr⟩ := ih x hxo
      refine ⟨1 - v, ?_, fun _ => ?_, fun p w H m hq hp hl => ?_⟩
      · rw [val_s, if_neg (by rw [h1]; decide), if_neg (by rw [h1]; decide), if_neg (by rw [h1]; decide), if_neg (by rw [h1]; decide), if_neg (by rw [h1]; decide), if_neg (by rw [h1]; decide), if_neg (by rw [h1]; decide), if_pos (by rw [h1]; rfl), hx, sb, hv, sb]
      · rcases hvb hxb with rfl | rfl
        · exact Or.inr (by decide)
        · exact Or.inl (by decide)
      · have hpf : pfx (h + 1) t = pfx h x ++ [(27, t.2.1)] := by
          rw [pfx_s, hx, hb0, h1]
          show (pfx h x ++ []) ++ _ = _
          rw [List.append_nil]
          rfl
        rw [hpf] at hq hp hl ⊢
        rw [List.length_append, List.length_singleton] at hp hl ⊢
        obtain ⟨w1, e1, e2, e3⟩ := hr p w H (m + 1) (Stq_l hq) (by omega) (by omega)
        obtain ⟨k1, -⟩ := Stq_1 (Stq_r hq)
        refine ⟨upd w1 H (1 - v), ?_, pk_us, fun j hj => by rw [pk_un (by omega)]; exact e3 j hj⟩
        rw [show m + ((pfx h x).length + 1) = m + 1 + (pfx h x).length by omega, e1]
        refine iter_inl (ev_step ho hE hE4 (by omega) ?_)
        rw [k1, ← e2]
        exact st_not (by omega) (by show w1 H = 0 ∨ w1 H = 1; rw [e2]; exact hvb hxb)
    · obtain ⟨v, hv, -, hr⟩ := ih x hxo
      obtain ⟨u, hu, -, hr2⟩ := ih y hyo
      obtain ⟨z, hz⟩ := both_tot (nI t.1) v u
      have hjn : f_X9_join (ndK t.1 t.2.1) v u = some z := by
        rw [← both_sg t.1 h1.1 h1.2]
        exact hz
      refine ⟨z, ?_, (fun q => both_bool q h1.2 hz), fun p w H m hq hp hl => ?_⟩
      · rw [val_two h t _ (by omega), hx, sb, hv, sb, hy, sb, hu, sb, hz]
        rfl
      · have hpf : pfx (h + 1) t = (pfx h x ++ pfx h y) ++ [(ndK t.1 t.2.1, t.2.1)] := by
          rw [pfx_s, hx, hy]
          rfl
        rw [hpf] at hq hp hl ⊢
        rw [List.length_append, List.length_append, List.length_singleton] at hp hl ⊢
        obtain ⟨w1, e1, e2, e3⟩ := hr p w H (m + 1 + (pfx h y).length) (Stq_l (Stq_l hq)) (by omega) (by omega)
        obtain ⟨w2, g1, g2, g3⟩ := hr2 (p + (pfx h x).length) w1 (H + 1) (m + 1) (Stq_r (Stq_l hq)) (by omega) (by omega)
        obtain ⟨k1, -⟩ := Stq_1 (Stq_r hq)
        rw [List.length_append] at k1
        refine ⟨upd w2 H z, ?_, pk_us, fun j hj => by rw [pk_un (by omega), g3 j (by omega)]; exact e3 j hj⟩
        rw [show m + ((pfx h x).length + (pfx h y).length + 1) = m + 1 + (pfx h y).length + (pfx h x).length by omega, e1, g1]
        have ev : f_X9_step (X6_stepKinds c6 (p + (pfx h x).length + (pfx h y).length)) (X6_stepValues c6 (p + (pfx h x).length + (pfx h y).length)) (w2, nI (H + 1 + 1)) b c2 c4 = some (upd w2 H z, nI (H + 1)) := by
          rw [Nat.add_assoc p, k1]
          refine st_two (ndK_two (by omega) _) (by have := pfx_pos hyo; omega) ?_
          rw [g2, g3 H (Nat.lt_succ_self H), e2]
          exact hjn
        rw [iter_inl (ev_step ho hE hE4 (by omega) ev)]
        rw [show p + (pfx h x).length + (pfx h y).length + 1 = p + ((pfx h x).length + (pfx h y).length + 1) by omega]
    · obtain ⟨v, hv, hvb, hr⟩ := ih x hxo
      obtain ⟨u, hu, hub, hr2⟩ := ih y hyo
      obtain ⟨z, hz⟩ := both_tot (nI t.1) v u
      have hjn : f_X9_join (ndK t.1 t.2.1) v u = some z := by
        rcases h1 with h1 | h1
        · rw [h1] at hz ⊢
          rw [← both_and (hvb hxb) (hub hyb)]
          exact hz
        · rw [h1] at hz ⊢
          rw [← both_or (hvb hxb) (hub hyb)]
          exact hz
      refine ⟨z, ?_, (fun _ => by
        rcases h1 with h1 | h1
        · rw [h1] at hz
          exact and_bool (hvb hxb) (hub hyb) hz
        · rw [h1] at hz
          exact or_bool (hvb hxb) (hub hyb) hz), fun p w H m hq hp hl => ?_⟩
      · rw [val_two h t _ (by omega), hx, sb, hv, sb, hy, sb, hu, sb, hz]
        rfl
      · have hpf : pfx (h + 1) t = (pfx h x ++ pfx h y) ++ [(ndK t.1 t.2.1, t.2.1)] := by
          rw [pfx_s, hx, hy]
          rfl
        rw [hpf] at hq hp hl ⊢
        rw [List.length_append, List.length_append, List.length_singleton] at hp hl ⊢
        obtain ⟨w1, e1, e2, e3⟩ := hr p w H (m + 1 + (pfx h y).length) (Stq_l (Stq_l hq)) (by omega) (by omega)
        obtain ⟨w2, g1, g2, g3⟩ := hr2 (p + (pfx h x).length) w1 (H + 1) (m + 1) (Stq_r (Stq_l hq)) (by omega) (by omega)
        obtain ⟨k1, -⟩ := Stq_1 (Stq_r hq)
        rw [List.length_append] at k1
        refine ⟨upd w2 H z, ?_, pk_us, fun j hj => by rw [pk_un (by omega), g3 j (by omega)]; exact e3 j hj⟩
        rw [show m + ((pfx h x).length + (pfx h y).length + 1) = m + 1 + (pfx h y).length + (pfx h x).length by omega, e1, g1]
        have ev : f_X9_step (X6_stepKinds c6 (p + (pfx h x).length + (pfx h y).length)) (X6_stepValues c6 (p + (pfx h x).length + (pfx h y).length)) (w2, nI (H + 1 + 1)) b c2 c4 = some (upd w2 H z, nI (H + 1)) := by
          rw [Nat.add_assoc p, k1]
          refine st_two (ndK_two (by omega) _) (by have := pfx_pos hyo; omega) ?_
          rw [g2, g3 H (Nat.lt_succ_self H), e2]
          exact hjn
        rw [iter_inl (ev_step ho hE hE4 (by omega) ev)]
        rw [show p + (pfx h x).length + (pfx h y).length + 1 = p + ((pfx h x).length + (pfx h y).length + 1) by omega]
end EVAL
