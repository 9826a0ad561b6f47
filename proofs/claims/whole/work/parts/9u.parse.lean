/-! a plan, both readers -/
def ST (O : bX6) (T : bX13) (s no m g : Nat) : Prop := X6_count O = nI no ∧ X6_steps O = nI s ∧ X13_fronts T = nI m ∧ X13_guests T = nI g ∧ X13_orders T = nI no ∧ X13_nodes T = nI s
section P56
variable {n : Nat} {K : Nat → Nat} {sT : Nat → Int32} {vT : Nat → Int64} {t : Nat} {cu eB cu0 : Int32} {B1 : bX2} {B2 : bX4} {O0 : bX6}
variable {th0 bs ea tk0 wr0 er0 et0 dp0 : Int32} {ta kd0 nu0 po0 ln0 fn0 gn0 va N kp kd nu po ln : Nat → Int32} {To Fr : bX13}
/-- one line more, or wrong at the same token -/
def PSO (n : Nat) (K : Nat → Nat) (sT : Nat → Int32) (vT : Nat → Int64) (t : Nat) (cu eB : Int32) (B1 : bX2) (B2 : bX4) (c i : Nat) (rC : Option (rdT ⊕ rdR)) (rM : Option (teT ⊕ teR)) : Prop :=
  (∃ (c' : Nat) (q : q8) (r : r23), c' ≤ t ∧ rC = some (.inl (nI 0, nI (i + 1), nI c', q)) ∧ rM = some (.inl (nI c', nI 1, nI 1, nI c', r))) ∨
  (∃ (c' s' no' m' g' : Nat) (a' b' : Nat → Nat) (fn' gn' : Nat → Int32) (er' et' : Int32) (O' : bX6) (T' : bX13), c + 2 ≤ c' ∧ rC = some (.inl (nI 1, nI (i + 1), nI c', O')) ∧ rM = some (.inl (nI c', nI 0, er', et', nI 0, fn', gn', T')) ∧ IV n K sT vT t cu eB B1 B2 a' b' c' s' no' m' g' fn' gn' er' et' O' T' ∧ ST O' T' s' no' m' g')
set_option maxHeartbeats 4000000 in
theorem parse_step (hn : 1000 < n) (hK : TKO K kd t) (hS : SAM n ta kd nu po ln K vT t) (hnu : ∀ j, j < t → K j = 48 → (vT j).toInt32 = nu j) {c i s no m g : Nat} {a b : Nat → Nat} {fn gn : Nat → Int32} {er et : Int32} {O : bX6} {T : bX13} (hi : i < 400) (h49 : K c ≠ 49) (hI : IV n K sT vT t cu eB B1 B2 a b c s no m g fn gn er et O T) (hT : ST O T s no m g) :
    PSO n K sT vT t cu eB B1 B2 c i (rdB n (K, sT, vT, nI (t + 1), cu0, nI 0, nI 0) O0 (nI 1, nI i, nI c, O)) (teB n (th0, ta, bs, ea, kd0, nu0, po0, ln0, tk0, wr0, er0, et0, dp0, fn0, gn0, va, N, kp) To Fr (kd, nu, po, ln) (nI c, nI 0, er, et, nI 0, fn, gn, T)) := by
  obtain ⟨oA, oB, oC, oD, sk, sv, on, os⟩ := O
  obtain ⟨pf, pw, pc, px, py, pg, ps, pl, ph, pn, pO, pd, pW, pF, pT, pt, nd, so, le, ri⟩ := T
  obtain ⟨y1, y2, y3, y4, y5, y6⟩ := hT
  replace y1 : on = nI no := y1
  replace y2 : os = nI s := y2
  replace y3 : pf = nI m := y3
  replace y4 : pg = nI g := y4
  replace y5 : pO = nI no := y5
  replace y6 : nd = nI s := y6
  subst y1 y2 y3 y4 y5 y6
  have hI' := hI
  obtain ⟨i1, i2, i3, i4, i5, i6, i7, -⟩ := hI'
  have hW := KNW_of hS (by omega) i4 i5 i6 i7
  have h0 := hK.1
  have hbad : LWR t c (f_X3_line n (K, sT, vT, nI (t + 1), nI c, nI 0, nI 0) (oA, oB, oC, oD, sk, sv, nI no, nI s)) (f_X14_line n (nI 0, ta, bs, ea, kd, nu, po, ln, nI c, nI 0, er, et, nI 0, fn, gn, va, N, kp) (nI m, pw, pc, px, py, nI g, ps, pl, ph, pn, nI no, pd, pW, pF, pT, pt, nI s, so, le, ri)) → PSO n K sT vT t cu eB B1 B2 c i (rdB n (K, sT, vT, nI (t + 1), cu0, nI 0, nI 0) O0 (nI 1, nI i, nI c, oA, oB, oC, oD, sk, sv, nI no, nI s)) (teB n (th0, ta, bs, ea, kd0, nu0, po0, ln0, tk0, wr0, er0, et0, dp0, fn0, gn0, va, N, kp) To Fr (kd, nu, po, ln) (nI c, nI 0, er, et, nI 0, fn, gn, nI m, pw, pc, px, py, nI g, ps, pl, ph, pn, nI no, pd, pW, pF, pT, pt, nI s, so, le, ri)) := by
    intro hh
    obtain ⟨c', q, r, h1, h2, h3, h4⟩ := hh
    exact Or.inl ⟨c', q, r, h4, rd_bad hK hi i1 h49 h1, te_bad hK i1 h49 h2⟩
  have hgood : ∀ {c' : Nat} {y : q8} {Ea Eb : Int32} {r : r23}, c < c' → c' ≤ t → f_X3_line n (K, sT, vT, nI (t + 1), nI c, nI 0, nI 0) (oA, oB, oC, oD, sk, sv, nI no, nI s) = some (nI 1, nI c', y) → f_X14_line n (nI 0, ta, bs, ea, kd, nu, po, ln, nI c, nI 0, er, et, nI 0, fn, gn, va, N, kp) (nI m, pw, pc, px, py, nI g, ps, pl, ph, pn, nI no, pd, pW, pF, pT, pt, nI s, so, le, ri) = some (nI c', nI 0, Ea, Eb, r) → (K c' = 36 → ∃ (s' no' m' g' : Nat) (a' b' : Nat → Nat) (fn' gn' : Nat → Int32) (T' : bX13), r = (nI 0, fn', gn', T') ∧ IV n K sT vT t cu eB B1 B2 a' b' (c' + 1) s' no' m' g' fn' gn' Ea Eb y T' ∧ ST y T' s' no' m' g') → PSO n K sT vT t cu eB B1 B2 c i (rdB n (K, sT, vT, nI (t + 1), cu0, nI 0, nI 0) O0 (nI 1, nI i, nI c, oA, oB, oC, oD, sk, sv, nI no, nI s)) (teB n (th0, ta, bs, ea, kd0, nu0, po0, ln0, tk0, wr0, er0, et0, dp0, fn0, gn0, va, N, kp) To Fr (kd, nu, po, ln) (nI c, nI 0, er, et, nI 0, fn, gn, nI m, pw, pc, px, py, nI g, ps, pl, ph, pn, nI no, pd, pW, pF, pT, pt, nI s, so, le, ri)) := by
    intro c' y Ea Eb r hc1 hc2 h1 h2 h3
    have r1 := rd_ok (cu0 := cu0) (O0 := O0) hK hi i1 h49 hc2 h1
    have r2 := te_ok (th0 := th0) (kd0 := kd0) (nu0 := nu0) (po0 := po0) (ln0 := ln0) (tk0 := tk0) (wr0 := wr0) (er0 := er0) (et0 := et0) (dp0 := dp0) (fn0 := fn0) (gn0 := gn0) (To := To) (Fr := Fr) hK i1 h49 hc2 h2
    by_cases h36 : K c' = 36
    · rw [if_pos h36] at r1 r2
      obtain ⟨s', no', m', g', a', b', fn', gn', T', e, hI2, hT2⟩ := h3 h36
      subst e
      exact Or.inr ⟨c' + 1, s', no', m', g', a', b', fn', gn', Ea, Eb, y, T', by omega, r1, r2, hI2, hT2⟩
    · rw [if_neg h36] at r1 r2
      exact Or.inl ⟨c', y, r, hc2, r1, r2⟩
  by_cases k0 : K c = 0
  · rcases ln_front (e1 := nI 0) (e2 := nI 0) (sT := sT) (th := nI 0) (bs := bs) (ea := ea) (va := va) (N := N) (kp := kp) (er := er) (et := et) (dp := nI 0) (gn := gn) (oA := oA) (oB := oB) (oC := oC) (oD := oD) (sk := sk) (sv := sv) (s := s) (no := no) (pg := nI g) (pO := nI no) (nd := nI s) (pw := pw) (pc := pc) (px := px) (py := py) (ps := ps) (pl := pl) (ph := ph) (pn := pn) (pd := pd) (pW := pW) (pF := pF) (pT := pT) (pt := pt) (so := so) (le := le) (ri := ri) hK hS (by omega) i4 i6 i1 k0 with h | ⟨g9, ⟨h0', h1, h2, h3, h4, h5, h6, h7, h8⟩, hL, hM⟩
    · exact hbad h
    · refine hgood (by omega) g9 hL hM (fun h36 => ?_)
      obtain ⟨a', hI2⟩ := iv_front hK hn hnu g9 k0 h0' h1 h2 h3 h4 h5 h6 h7 h8 h36 hI
      exact ⟨s, no, min 10 (m + 1), g, a', b, _, gn, _, rfl, hI2, rfl, rfl, rfl, rfl, rfl, rfl⟩
  by_cases k7 : K c = 7
  · rcases ln_guest (e1 := nI 0) (e2 := nI 0) (sT := sT) (th := nI 0) (bs := bs) (ea := ea) (va := va) (N := N) (kp := kp) (er := er) (et := et) (dp := nI 0) (fn := fn) (oA := oA) (oB := oB) (oC := oC) (oD := oD) (sk := sk) (sv := sv) (s := s) (no := no) (pf := nI m) (pO := nI no) (nd := nI s) (pw := pw) (pc := pc) (px := px) (py := py) (ps := ps) (pl := pl) (ph := ph) (pn := pn) (pd := pd) (pW := pW) (pF := pF) (pT := pT) (pt := pt) (so := so) (le := le) (ri := ri) hK hS (by omega) i5 i7 i1 k7 with h | ⟨g9, ⟨h0', h1, h2, h3, h4, h5, h6, h7, h8⟩, hL, hM⟩
    · exact hbad h
    · refine hgood (by omega) g9 hL hM (fun h36 => ?_)
      obtain ⟨b', hI2⟩ := iv_guest hK hn hnu g9 k7 h0' h1 h2 h3 h4 h5 h6 h7 h8 h36 hI
      exact ⟨s, no, m, min 10 (g + 1), a, b', fn, _, _, rfl, hI2, rfl, rfl, rfl, rfl, rfl, rfl⟩
  by_cases k11 : K c = 11
  · rcases ln_11 (e1 := nI 0) (e2 := nI 0) (sT := sT) (th := nI 0) (bs := bs) (ea := ea) (va := va) (N := N) (kp := kp) (er := er) (et := et) (oA := oA) (oB := oB) (oC := oC) (oD := oD) (sk := sk) (sv := sv) (pw := pw) (pc := pc) (px := px) (py := py) (ps := ps) (pl := pl) (ph := ph) (pn := pn) (pd := pd) (pW := pW) (pF := pF) (pT := pT) (pt := pt) (so := so) (le := le) (ri := ri) hn hK hW i1 i2 i3 k11 with h | ⟨c', s', sk', sv', so', le', ri', x, h47, hL, hM, w1, w2, w3, w4, w5, w6⟩
    · exact hbad h
    · refine hgood w1 w2 hL hM (fun h36 => ?_)
      exact ⟨s', adn no, m, g, a, b, fn, gn, _, rfl, iv_order (k := 11) hK hn hnu (by omega) k11 (fun _ => h47) hI w1 w2 h36 w3 w4 w5 w6 (ol_toks hK i1 i3 (by omega) hL w2) (fun q hq => upd_else _ _ hq) (fun _ => upd_same _ _ _) (fun q => by omega), rfl, rfl, rfl, rfl, adn_16 i3, rfl⟩
  by_cases k14 : K c = 14
  · rcases ln_14 (e1 := nI 0) (e2 := nI 0) (sT := sT) (th := nI 0) (bs := bs) (ea := ea) (va := va) (N := N) (kp := kp) (er := er) (et := et) (oA := oA) (oB := oB) (oC := oC) (oD := oD) (sk := sk) (sv := sv) (pw := pw) (pc := pc) (px := px) (py := py) (ps := ps) (pl := pl) (ph := ph) (pn := pn) (pd := pd) (pW := pW) (pF := pF) (pT := pT) (pt := pt) (so := so) (le := le) (ri := ri) hn hK hW i1 i2 i3 k14 with h | ⟨c', s', sk', sv', so', le', ri', x, h47, hL, hM, w1, w2, w3, w4, w5, w6⟩
    · exact hbad h
    · refine hgood w1 w2 hL hM (fun h36 => ?_)
      exact ⟨s', adn no, m, g, a, b, fn, gn, _, rfl, iv_order (k := 14) hK hn hnu (by omega) k14 (fun _ => h47) hI w1 w2 h36 w3 w4 w5 w6 (ol_toks hK i1 i3 (by omega) hL w2) (fun q hq => upd_else _ _ hq) (fun q => by omega) (fun _ => upd_same _ _ _), rfl, rfl, rfl, rfl, adn_16 i3, rfl⟩
  by_cases k12 : K c = 12
  · rcases ln_12 (e1 := nI 0) (e2 := nI 0) (sT := sT) (th := nI 0) (bs := bs) (ea := ea) (va := va) (N := N) (kp := kp) (er := er) (et := et) (oA := oA) (oB := oB) (oC := oC) (oD := oD) (sk := sk) (sv := sv) (pw := pw) (pc := pc) (px := px) (py := py) (ps := ps) (pl := pl) (ph := ph) (pn := pn) (pd := pd) (pW := pW) (pF := pF) (pT := pT) (pt := pt) (so := so) (le := le) (ri := ri) hn hK hW i1 i2 i3 k12 with h | ⟨c', s', sk', sv', so', le', ri', x, hL, hM, w1, w2, w3, w4, w5, w6⟩
    · exact hbad h
    · refine hgood w1 w2 hL hM (fun h36 => ?_)
      exact ⟨s', adn no, m, g, a, b, fn, gn, _, rfl, iv_order (k := 12) hK hn hnu (by omega) k12 (fun q => by omega) hI w1 w2 h36 w3 w4 w5 w6 (ol_toks hK i1 i3 (by omega) hL w2) (fun q hq => rfl) (fun q => by omega) (fun q => by omega), rfl, rfl, rfl, rfl, adn_16 i3, rfl⟩
  by_cases k13 : K c = 13
  · rcases ln_13 (e1 := nI 0) (e2 := nI 0) (sT := sT) (th := nI 0) (bs := bs) (ea := ea) (va := va) (N := N) (kp := kp) (er := er) (et := et) (oA := oA) (oB := oB) (oC := oC) (oD := oD) (sk := sk) (sv := sv) (pw := pw) (pc := pc) (px := px) (py := py) (ps := ps) (pl := pl) (ph := ph) (pn := pn) (pd := pd) (pW := pW) (pF := pF) (pT := pT) (pt := pt) (so := so) (le := le) (ri := ri) hn hK hW i1 i2 i3 k13 with h | ⟨c', s', sk', sv', so', le', ri', x, hL, hM, w1, w2, w3, w4, w5, w6⟩
    · exact hbad h
    · refine hgood w1 w2 hL hM (fun h36 => ?_)
      exact ⟨s', adn no, m, g, a, b, fn, gn, _, rfl, iv_order (k := 13) hK hn hnu (by omega) k13 (fun q => by omega) hI w1 w2 h36 w3 w4 w5 w6 (ol_toks hK i1 i3 (by omega) hL w2) (fun q hq => rfl) (fun q => by omega) (fun q => by omega), rfl, rfl, rfl, rfl, adn_16 i3, rfl⟩
  exact hbad (ln_no hK i1 ⟨k0, k7, k11, k12, k13, k14⟩)
end P56
