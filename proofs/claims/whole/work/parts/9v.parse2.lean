/-! a plan, both readers, to its end -/
section P57
variable {n : Nat} {K : Nat → Nat} {sT : Nat → Int32} {vT : Nat → Int64} {t : Nat} {cu eB cu0 : Int32} {B1 : bX2} {B2 : bX4} {O0 : bX6}
variable {th0 bs ea tk0 wr0 er0 et0 dp0 : Int32} {ta kd0 nu0 po0 ln0 fn0 gn0 va N kp kd nu po ln : Nat → Int32} {To Fr : bX13}
/-- the whole plan is read, or both are wrong at the same token -/
def PSE (n : Nat) (K : Nat → Nat) (sT : Nat → Int32) (vT : Nat → Int64) (t : Nat) (cu eB : Int32) (B1 : bX2) (B2 : bX4) (Z : teT → Option teR) (rC : Option rdR) (rM : Option teR) : Prop :=
  (∃ (c' : Nat) (q : q8) (r : r23), c' ≤ t ∧ rC = some (nI c', nI 1, nI c', q) ∧ ∀ z, Z (nI c', nI 1, nI 1, nI c', r) = some z → rM = some z) ∨
  (∃ (s' no' m' g' : Nat) (a' b' : Nat → Nat) (fn' gn' : Nat → Int32) (er' et' : Int32) (O' : bX6) (T' : bX13), K t = 49 ∧ rC = some (nI t, nI 0, nI 0, O') ∧ (∀ z, Z (nI t, nI 0, er', et', nI 0, fn', gn', T') = some z → rM = some z) ∧ IV n K sT vT t cu eB B1 B2 a' b' t s' no' m' g' fn' gn' er' et' O' T' ∧ ST O' T' s' no' m' g')
theorem parse_all (hn : 1000 < n) (hK : TKO K kd t) (hS : SAM n ta kd nu po ln K vT t) (hnu : ∀ j, j < t → K j = 48 → (vT j).toInt32 = nu j) : ∀ (L c i s no m g : Nat) (a b : Nat → Nat) (fn gn : Nat → Int32) (er et : Int32) (O : bX6) (T : bX13), t - c ≤ L → 2 * i ≤ c → IV n K sT vT t cu eB B1 B2 a b c s no m g fn gn er et O T → ST O T s no m g → ∀ nC nM, L + 3 ≤ nC → L + 3 ≤ nM →
    PSE n K sT vT t cu eB B1 B2 (teZ n (th0, ta, bs, ea, kd0, nu0, po0, ln0, tk0, wr0, er0, et0, dp0, fn0, gn0, va, N, kp) To Fr (kd, nu, po, ln)) (iter (rdB n (K, sT, vT, nI (t + 1), cu0, nI 0, nI 0) O0) nC (nI 1, nI i, nI c, O)) (iter (teB n (th0, ta, bs, ea, kd0, nu0, po0, ln0, tk0, wr0, er0, et0, dp0, fn0, gn0, va, N, kp) To Fr (kd, nu, po, ln)) nM (nI c, nI 0, er, et, nI 0, fn, gn, T)) := by
  intro L
  induction L with
  | zero =>
    intro c i s no m g a b fn gn er et O T hL hi hI hT nC nM hC hM
    have h0 := hK.1
    have hc := hI.1
    have e : c = t := by omega
    obtain ⟨nC, rfl⟩ : ∃ q, nC = q + 1 + 1 := ⟨nC - 2, by omega⟩
    obtain ⟨nM, rfl⟩ : ∃ q, nM = q + 1 + 1 := ⟨nM - 2, by omega⟩
    by_cases h49 : K c = 49
    · subst e
      refine Or.inr ⟨s, no, m, g, a, b, fn, gn, er, et, O, T, h49, iter_inr (rd_end hK (by omega) hc h49), fun z hz => iter_inr (te_end hK hc h49 hz), hI, hT⟩
    · rcases parse_step (cu0 := cu0) (O0 := O0) (th0 := th0) (bs := bs) (ea := ea) (tk0 := tk0) (wr0 := wr0) (er0 := er0) (et0 := et0) (dp0 := dp0) (kd0 := kd0) (nu0 := nu0) (po0 := po0) (ln0 := ln0) (fn0 := fn0) (gn0 := gn0) (va := va) (N := N) (kp := kp) (To := To) (Fr := Fr) hn hK hS hnu (i := i) (by omega) h49 hI hT with ⟨c', q, r, h1, h2, h3⟩ | ⟨c', s', no', m', g', a', b', fn', gn', er', et', O', T', h1, h2, h3, h4, h5⟩
      · rw [iter_inl h2, iter_inl h3]
        obtain ⟨q1, q2, q3, q4, q5, q6, q7, q8⟩ := q
        exact Or.inl ⟨c', _, r, h1, iter_inr (rd_stop hK (by omega) h1 rfl), fun z hz => iter_inr (te_stop rfl hz)⟩
      · have := h4.1
        omega
  | succ L ih =>
    intro c i s no m g a b fn gn er et O T hL hi hI hT nC nM hC hM
    have h0 := hK.1
    have hc := hI.1
    obtain ⟨nC, rfl⟩ : ∃ q, nC = q + 1 + 1 := ⟨nC - 2, by omega⟩
    obtain ⟨nM, rfl⟩ : ∃ q, nM = q + 1 + 1 := ⟨nM - 2, by omega⟩
    by_cases h49 : K c = 49
    · have e : c = t := by
        rcases Nat.lt_or_ge c t with q | q
        · have := hK.2.2.1 c q
          omega
        · omega
      subst e
      refine Or.inr ⟨s, no, m, g, a, b, fn, gn, er, et, O, T, h49, iter_inr (rd_end hK (by omega) hc h49), fun z hz => iter_inr (te_end hK hc h49 hz), hI, hT⟩
    · rcases parse_step (cu0 := cu0) (O0 := O0) (th0 := th0) (bs := bs) (ea := ea) (tk0 := tk0) (wr0 := wr0) (er0 := er0) (et0 := et0) (dp0 := dp0) (kd0 := kd0) (nu0 := nu0) (po0 := po0) (ln0 := ln0) (fn0 := fn0) (gn0 := gn0) (va := va) (N := N) (kp := kp) (To := To) (Fr := Fr) hn hK hS hnu (i := i) (by omega) h49 hI hT with ⟨c', q, r, h1, h2, h3⟩ | ⟨c', s', no', m', g', a', b', fn', gn', er', et', O', T', h1, h2, h3, h4, h5⟩
      · rw [iter_inl h2, iter_inl h3]
        obtain ⟨q1, q2, q3, q4, q5, q6, q7, q8⟩ := q
        exact Or.inl ⟨c', _, r, h1, iter_inr (rd_stop hK (by omega) h1 rfl), fun z hz => iter_inr (te_stop rfl hz)⟩
      · rw [iter_inl h2, iter_inl h3]
        exact ih c' (i + 1) s' no' m' g' a' b' fn' gn' er' et' O' T' (by omega) (by omega) h4 h5 (nC + 1) (nM + 1) (by omega) (by omega)
end P57
