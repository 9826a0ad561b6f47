/-! a line, both readers -/
/-- which of m names the token j is, by the class's values -/
def kfn (vT : Nat → Int64) (a : Nat → Nat) (m j : Nat) : Int32 := fI (fnd (fun k => decide (vT (a k) = vT j)) m)
theorem kfn_or {vT : Nat → Int64} {a : Nat → Nat} {m j : Nat} : kfn vT a m j = -nI 1 ∨ ∃ i, i < m ∧ kfn vT a m j = nI i := by
  unfold kfn
  cases h : fnd (fun k => decide (vT (a k) = vT j)) m with
  | none => exact Or.inl rfl
  | some k => exact Or.inr ⟨k, (fnd_some h).1, rfl⟩
/-- wrong at the same token -/
def LWR (t c : Nat) (C : Option (Int32 × Int32 × q8)) (M : Option (Int32 × Int32 × Int32 × Int32 × r23)) : Prop := ∃ (c' : Nat) (q : q8) (r : r23), C = some (nI 0, nI c', q) ∧ M = some (nI c', nI 1, nI 1, nI c', r) ∧ c ≤ c' ∧ c' ≤ t
section P47
variable {N : Nat → Int32} {n : Nat} {th bs ea tk wr er et dp : Int32} {ta kd nu po ln fn gn va kp : Nat → Int32} {pf pg pO nd : Int32} {pw pc px py ps pl ph pn pd pW pF pT pt so le ri : Nat → Int32} {K : Nat → Nat} {sT : Nat → Int32} {vT : Nat → Int64} {t : Nat} {e1 e2 : Int32} {oA : Nat → Nat} {oB oC oD : Nat → Int32} {oE : Int32}
variable {sk : Nat → Nat} {sv : Nat → Int32} {s c no m g : Nat} {a b : Nat → Nat}
theorem KNW_of (hS : SAM n ta kd nu po ln K vT t) (hn : 20 < n) (hm : m ≤ 10) (hg : g ≤ 10) (ha : ∀ k, k < m → fn k = nI (a k) ∧ a k < t ∧ K (a k) = 47) (hb : ∀ k, k < g → gn k = nI (b k) ∧ b k < t ∧ K (b k) = 47) : KNW n (nI m) (nI g) ta kd nu po ln fn gn K (kfn vT a m) (kfn vT b g) t := by
  intro th bs ea wr er et dp va N kp j hj hk
  refine ⟨k_known hS hn hm ha hj hk, k_known hS hn hg hb hj hk, ?_, ?_⟩
  · rcases kfn_or (vT := vT) (a := a) (m := m) (j := j) with h | ⟨i, h1, h2⟩
    · exact Or.inl h
    · exact Or.inr ⟨i, by omega, h2⟩
  · rcases kfn_or (vT := vT) (a := b) (m := g) (j := j) with h | ⟨i, h1, h2⟩
    · exact Or.inl h
    · exact Or.inr ⟨i, by omega, h2⟩
theorem ln_front (hK : TKO K kd t) (hS : SAM n ta kd nu po ln K vT t) (hn : 20 < n) (hm : m ≤ 10) (ha : ∀ k, k < m → fn k = nI (a k) ∧ a k < t ∧ K (a k) = 47) (hc : c ≤ t) (h : K c = 0) : LWR t c (f_X3_line n (K, sT, vT, nI (t + 1), nI (c), e1, e2) (oA, oB, oC, oD, sk, sv, nI no, nI s)) (f_X14_line n (th, ta, bs, ea, kd, nu, po, ln, (nI c), (nI 0), er, et, dp, fn, gn, va, N, kp) ((nI m), pw, pc, px, py, pg, ps, pl, ph, pn, pO, pd, pW, pF, pT, pt, nd, so, le, ri)) ∨ (c + 1 + 9 ≤ t ∧ (K (c + 1) = 47 ∧ K (c + 1 + 1) = 1 ∧ (K (c + 1 + 2) = 2 ∨ K (c + 1 + 2) = 3) ∧ K (c + 1 + 3) = 6 ∧ K (c + 1 + 4) = 48 ∧ K (c + 1 + 5) = 4 ∧ K (c + 1 + 6) = 48 ∧ K (c + 1 + 7) = 5 ∧ K (c + 1 + 8) = 48) ∧ f_X3_line n (K, sT, vT, nI (t + 1), nI (c), e1, e2) (oA, oB, oC, oD, sk, sv, nI no, nI s) = some (nI 1, nI (c + 1 + 9), oA, oB, oC, oD, sk, sv, nI no, nI s) ∧ f_X14_line n (th, ta, bs, ea, kd, nu, po, ln, (nI c), (nI 0), er, et, dp, fn, gn, va, N, kp) ((nI m), pw, pc, px, py, pg, ps, pl, ph, pn, pO, pd, pW, pF, pT, pt, nd, so, le, ri) = some (nI (c + 1 + 9), nI 0, (rgE (c + 1 + 8) (nu (c + 1 + 8)) (nI 1) (nI 12) (rgE (c + 1 + 6) (nu (c + 1 + 6)) (nI 0) (nI 60) (rgE (c + 1 + 4) (nu (c + 1 + 4)) (nI 1) (nI 9) (nwE (c + 1) m (fnd (fun k => decide (vT (a k) = vT (c + 1))) m) (er, et))))).1, (rgE (c + 1 + 8) (nu (c + 1 + 8)) (nI 1) (nI 12) (rgE (c + 1 + 6) (nu (c + 1 + 6)) (nI 0) (nI 60) (rgE (c + 1 + 4) (nu (c + 1 + 4)) (nI 1) (nI 9) (nwE (c + 1) m (fnd (fun k => decide (vT (a k) = vT (c + 1))) m) (er, et))))).2, dp, (if m = 10 then fn else upd fn m (nI (c + 1))), gn, nI (min 10 (m + 1)), upd pw m (if K (c + 1 + 2) = 2 then nI 1 else nI 0), upd pc m (nu (c + 1 + 4)), upd px m (nu (c + 1 + 6)), upd py m (nu (c + 1 + 8)), pg, ps, pl, ph, pn, pO, pd, pW, pF, pT, pt, nd, so, le, ri)) := by
  have hz := hK.1
  have g0 : c + 1 ≤ t := lt_of_K hK hc (by omega)
  by_cases h0 : K (c + 1) = 47
  case neg =>
    obtain ⟨r, hr⟩ := ml_w0 (fn := fn) (gn := gn) (er := er) (et := et) (dp := dp) (n := n) (N := N) (th := th) (ta := ta) (bs := bs) (ea := ea) (nu := nu) (po := po) (ln := ln) (va := va) (kp := kp) (pO := pO) (nd := nd) (pf := nI m) (pw := pw) (pc := pc) (px := px) (py := py) (pg := pg) (ps := ps) (pl := pl) (ph := ph) (pn := pn) (pd := pd) (pW := pW) (pF := pF) (pT := pT) (pt := pt) (so := so) (le := le) (ri := ri) hK hc h (ml_front_0 hK hS hn hm ha g0  h0)
    exact Or.inl ⟨c + 1, _, r, cl_front_0 hK rfl h g0  h0, hr, by omega, by omega⟩
  have g1 : c + 1 + 1 ≤ t := lt_of_K (c := c + 1) hK g0 (by omega)
  by_cases h1 : K (c + 1 + 1) = 1
  case neg =>
    obtain ⟨r, hr⟩ := ml_w0 (fn := fn) (gn := gn) (er := er) (et := et) (dp := dp) (n := n) (N := N) (th := th) (ta := ta) (bs := bs) (ea := ea) (nu := nu) (po := po) (ln := ln) (va := va) (kp := kp) (pO := pO) (nd := nd) (pf := nI m) (pw := pw) (pc := pc) (px := px) (py := py) (pg := pg) (ps := ps) (pl := pl) (ph := ph) (pn := pn) (pd := pd) (pW := pW) (pF := pF) (pT := pT) (pt := pt) (so := so) (le := le) (ri := ri) hK hc h (ml_front_1 hK hS hn hm ha g1 h0 h1)
    exact Or.inl ⟨c + 1 + 1, _, r, cl_front_1 hK rfl h g1 h0 h1, hr, by omega, by omega⟩
  have g2 : c + 1 + 2 ≤ t := lt_of_K (c := c + 1 + 1) hK g1 (by omega)
  by_cases h2 : (K (c + 1 + 2) = 2 ∨ K (c + 1 + 2) = 3)
  case neg =>
    obtain ⟨r, hr⟩ := ml_w0 (fn := fn) (gn := gn) (er := er) (et := et) (dp := dp) (n := n) (N := N) (th := th) (ta := ta) (bs := bs) (ea := ea) (nu := nu) (po := po) (ln := ln) (va := va) (kp := kp) (pO := pO) (nd := nd) (pf := nI m) (pw := pw) (pc := pc) (px := px) (py := py) (pg := pg) (ps := ps) (pl := pl) (ph := ph) (pn := pn) (pd := pd) (pW := pW) (pF := pF) (pT := pT) (pt := pt) (so := so) (le := le) (ri := ri) hK hc h (ml_front_2 hK hS hn hm ha g2 h0 h1 ⟨fun q => h2 (Or.inl q), fun q => h2 (Or.inr q)⟩)
    exact Or.inl ⟨c + 1 + 2, _, r, cl_front_2 hK rfl h g2 h0 h1 ⟨fun q => h2 (Or.inl q), fun q => h2 (Or.inr q)⟩, hr, by omega, by omega⟩
  have g3 : c + 1 + 3 ≤ t := lt_of_K (c := c + 1 + 2) hK g2 (by omega)
  by_cases h3 : K (c + 1 + 3) = 6
  case neg =>
    obtain ⟨r, hr⟩ := ml_w0 (fn := fn) (gn := gn) (er := er) (et := et) (dp := dp) (n := n) (N := N) (th := th) (ta := ta) (bs := bs) (ea := ea) (nu := nu) (po := po) (ln := ln) (va := va) (kp := kp) (pO := pO) (nd := nd) (pf := nI m) (pw := pw) (pc := pc) (px := px) (py := py) (pg := pg) (ps := ps) (pl := pl) (ph := ph) (pn := pn) (pd := pd) (pW := pW) (pF := pF) (pT := pT) (pt := pt) (so := so) (le := le) (ri := ri) hK hc h (ml_front_3 hK hS hn hm ha g3 h0 h1 h2 h3)
    exact Or.inl ⟨c + 1 + 3, _, r, cl_front_3 hK rfl h g3 h0 h1 h2 h3, hr, by omega, by omega⟩
  have g4 : c + 1 + 4 ≤ t := lt_of_K (c := c + 1 + 3) hK g3 (by omega)
  by_cases h4 : K (c + 1 + 4) = 48
  case neg =>
    obtain ⟨r, hr⟩ := ml_w0 (fn := fn) (gn := gn) (er := er) (et := et) (dp := dp) (n := n) (N := N) (th := th) (ta := ta) (bs := bs) (ea := ea) (nu := nu) (po := po) (ln := ln) (va := va) (kp := kp) (pO := pO) (nd := nd) (pf := nI m) (pw := pw) (pc := pc) (px := px) (py := py) (pg := pg) (ps := ps) (pl := pl) (ph := ph) (pn := pn) (pd := pd) (pW := pW) (pF := pF) (pT := pT) (pt := pt) (so := so) (le := le) (ri := ri) hK hc h (ml_front_4 hK hS hn hm ha g4 h0 h1 h2 h3 h4)
    exact Or.inl ⟨c + 1 + 4, _, r, cl_front_4 hK rfl h g4 h0 h1 h2 h3 h4, hr, by omega, by omega⟩
  have g5 : c + 1 + 5 ≤ t := lt_of_K (c := c + 1 + 4) hK g4 (by omega)
  by_cases h5 : K (c + 1 + 5) = 4
  case neg =>
    obtain ⟨r, hr⟩ := ml_w0 (fn := fn) (gn := gn) (er := er) (et := et) (dp := dp) (n := n) (N := N) (th := th) (ta := ta) (bs := bs) (ea := ea) (nu := nu) (po := po) (ln := ln) (va := va) (kp := kp) (pO := pO) (nd := nd) (pf := nI m) (pw := pw) (pc := pc) (px := px) (py := py) (pg := pg) (ps := ps) (pl := pl) (ph := ph) (pn := pn) (pd := pd) (pW := pW) (pF := pF) (pT := pT) (pt := pt) (so := so) (le := le) (ri := ri) hK hc h (ml_front_5 hK hS hn hm ha g5 h0 h1 h2 h3 h4 h5)
    exact Or.inl ⟨c + 1 + 5, _, r, cl_front_5 hK rfl h g5 h0 h1 h2 h3 h4 h5, hr, by omega, by omega⟩
  have g6 : c + 1 + 6 ≤ t := lt_of_K (c := c + 1 + 5) hK g5 (by omega)
  by_cases h6 : K (c + 1 + 6) = 48
  case neg =>
    obtain ⟨r, hr⟩ := ml_w0 (fn := fn) (gn := gn) (er := er) (et := et) (dp := dp) (n := n) (N := N) (th := th) (ta := ta) (bs := bs) (ea := ea) (nu := nu) (po := po) (ln := ln) (va := va) (kp := kp) (pO := pO) (nd := nd) (pf := nI m) (pw := pw) (pc := pc) (px := px) (py := py) (pg := pg) (ps := ps) (pl := pl) (ph := ph) (pn := pn) (pd := pd) (pW := pW) (pF := pF) (pT := pT) (pt := pt) (so := so) (le := le) (ri := ri) hK hc h (ml_front_6 hK hS hn hm ha g6 h0 h1 h2 h3 h4 h5 h6)
    exact Or.inl ⟨c + 1 + 6, _, r, cl_front_6 hK rfl h g6 h0 h1 h2 h3 h4 h5 h6, hr, by omega, by omega⟩
  have g7 : c + 1 + 7 ≤ t := lt_of_K (c := c + 1 + 6) hK g6 (by omega)
  by_cases h7 : K (c + 1 + 7) = 5
  case neg =>
    obtain ⟨r, hr⟩ := ml_w0 (fn := fn) (gn := gn) (er := er) (et := et) (dp := dp) (n := n) (N := N) (th := th) (ta := ta) (bs := bs) (ea := ea) (nu := nu) (po := po) (ln := ln) (va := va) (kp := kp) (pO := pO) (nd := nd) (pf := nI m) (pw := pw) (pc := pc) (px := px) (py := py) (pg := pg) (ps := ps) (pl := pl) (ph := ph) (pn := pn) (pd := pd) (pW := pW) (pF := pF) (pT := pT) (pt := pt) (so := so) (le := le) (ri := ri) hK hc h (ml_front_7 hK hS hn hm ha g7 h0 h1 h2 h3 h4 h5 h6 h7)
    exact Or.inl ⟨c + 1 + 7, _, r, cl_front_7 hK rfl h g7 h0 h1 h2 h3 h4 h5 h6 h7, hr, by omega, by omega⟩
  have g8 : c + 1 + 8 ≤ t := lt_of_K (c := c + 1 + 7) hK g7 (by omega)
  by_cases h8 : K (c + 1 + 8) = 48
  case neg =>
    obtain ⟨r, hr⟩ := ml_w0 (fn := fn) (gn := gn) (er := er) (et := et) (dp := dp) (n := n) (N := N) (th := th) (ta := ta) (bs := bs) (ea := ea) (nu := nu) (po := po) (ln := ln) (va := va) (kp := kp) (pO := pO) (nd := nd) (pf := nI m) (pw := pw) (pc := pc) (px := px) (py := py) (pg := pg) (ps := ps) (pl := pl) (ph := ph) (pn := pn) (pd := pd) (pW := pW) (pF := pF) (pT := pT) (pt := pt) (so := so) (le := le) (ri := ri) hK hc h (ml_front_8 hK hS hn hm ha g8 h0 h1 h2 h3 h4 h5 h6 h7 h8)
    exact Or.inl ⟨c + 1 + 8, _, r, cl_front_8 hK rfl h g8 h0 h1 h2 h3 h4 h5 h6 h7 h8, hr, by omega, by omega⟩
  have g9 : c + 1 + 9 ≤ t := lt_of_K (c := c + 1 + 8) hK g8 (by omega)
  have hM := ml_front_ok (er := er) (et := et) (dp := dp) (fn := fn) (gn := gn) (N := N) (th := th) (bs := bs) (ea := ea) (va := va) (kp := kp) (pO := pO) (nd := nd) (pw := pw) (pc := pc) (px := px) (py := py) (pg := pg) (ps := ps) (pl := pl) (ph := ph) (pn := pn) (pd := pd) (pW := pW) (pF := pF) (pT := pT) (pt := pt) (so := so) (le := le) (ri := ri) hK hS hn hm ha g8 h0 h1 h2 h3 h4 h5 h6 h7 h8
  refine Or.inr ⟨g9, ⟨h0, h1, h2, h3, h4, h5, h6, h7, h8⟩, cl_front_ok hK rfl h g8 h0 h1 h2 h3 h4 h5 h6 h7 h8, ?_⟩
  rw [ml_0 hK hc h, hM, sb]
theorem ln_guest (hK : TKO K kd t) (hS : SAM n ta kd nu po ln K vT t) (hn : 20 < n) (hm : g ≤ 10) (ha : ∀ k, k < g → gn k = nI (b k) ∧ b k < t ∧ K (b k) = 47) (hc : c ≤ t) (h : K c = 7) : LWR t c (f_X3_line n (K, sT, vT, nI (t + 1), nI (c), e1, e2) (oA, oB, oC, oD, sk, sv, nI no, nI s)) (f_X14_line n (th, ta, bs, ea, kd, nu, po, ln, (nI c), (nI 0), er, et, dp, fn, gn, va, N, kp) (pf, pw, pc, px, py, (nI g), ps, pl, ph, pn, pO, pd, pW, pF, pT, pt, nd, so, le, ri)) ∨ (c + 1 + 9 ≤ t ∧ (K (c + 1) = 47 ∧ K (c + 1 + 1) = 4 ∧ K (c + 1 + 2) = 48 ∧ K (c + 1 + 3) = 8 ∧ K (c + 1 + 4) = 48 ∧ K (c + 1 + 5) = 9 ∧ K (c + 1 + 6) = 48 ∧ K (c + 1 + 7) = 10 ∧ K (c + 1 + 8) = 48) ∧ f_X3_line n (K, sT, vT, nI (t + 1), nI (c), e1, e2) (oA, oB, oC, oD, sk, sv, nI no, nI s) = some (nI 1, nI (c + 1 + 9), oA, oB, oC, oD, sk, sv, nI no, nI s) ∧ f_X14_line n (th, ta, bs, ea, kd, nu, po, ln, (nI c), (nI 0), er, et, dp, fn, gn, va, N, kp) (pf, pw, pc, px, py, (nI g), ps, pl, ph, pn, pO, pd, pW, pF, pT, pt, nd, so, le, ri) = some (nI (c + 1 + 9), nI 0, (rgE (c + 1 + 8) (nu (c + 1 + 8)) (nI 0) (nI 20) (rgE (c + 1 + 6) (nu (c + 1 + 6)) (nu (c + 1 + 4)) (nI 30) (rgE (c + 1 + 4) (nu (c + 1 + 4)) (nI 0) (nI 30) (rgE (c + 1 + 2) (nu (c + 1 + 2)) (nI 0) (nI 60) (nwE (c + 1) g (fnd (fun k => decide (vT (b k) = vT (c + 1))) g) (er, et)))))).1, (rgE (c + 1 + 8) (nu (c + 1 + 8)) (nI 0) (nI 20) (rgE (c + 1 + 6) (nu (c + 1 + 6)) (nu (c + 1 + 4)) (nI 30) (rgE (c + 1 + 4) (nu (c + 1 + 4)) (nI 0) (nI 30) (rgE (c + 1 + 2) (nu (c + 1 + 2)) (nI 0) (nI 60) (nwE (c + 1) g (fnd (fun k => decide (vT (b k) = vT (c + 1))) g) (er, et)))))).2, dp, fn, (if g = 10 then gn else upd gn g (nI (c + 1))), pf, pw, pc, px, py, nI (min 10 (g + 1)), upd ps g (nu (c + 1 + 2)), upd pl g (nu (c + 1 + 4)), upd ph g (nu (c + 1 + 6)), upd pn g (nu (c + 1 + 8)), pO, pd, pW, pF, pT, pt, nd, so, le, ri)) := by
  have hz := hK.1
  have g0 : c + 1 ≤ t := lt_of_K hK hc (by omega)
  by_cases h0 : K (c + 1) = 47
  case neg =>
    obtain ⟨r, hr⟩ := ml_w7 (fn := fn) (gn := gn) (er := er) (et := et) (dp := dp) (n := n) (N := N) (th := th) (ta := ta) (bs := bs) (ea := ea) (nu := nu) (po := po) (ln := ln) (va := va) (kp := kp) (pO := pO) (nd := nd) (pg := nI g) (pf := pf) (pw := pw) (pc := pc) (px := px) (py := py) (ps := ps) (pl := pl) (ph := ph) (pn := pn) (pd := pd) (pW := pW) (pF := pF) (pT := pT) (pt := pt) (so := so) (le := le) (ri := ri) hK hc h (ml_guest_0 hK hS hn hm ha g0  h0)
    exact Or.inl ⟨c + 1, _, r, cl_guest_0 hK rfl h g0  h0, hr, by omega, by omega⟩
  have g1 : c + 1 + 1 ≤ t := lt_of_K (c := c + 1) hK g0 (by omega)
  by_cases h1 : K (c + 1 + 1) = 4
  case neg =>
    obtain ⟨r, hr⟩ := ml_w7 (fn := fn) (gn := gn) (er := er) (et := et) (dp := dp) (n := n) (N := N) (th := th) (ta := ta) (bs := bs) (ea := ea) (nu := nu) (po := po) (ln := ln) (va := va) (kp := kp) (pO := pO) (nd := nd) (pg := nI g) (pf := pf) (pw := pw) (pc := pc) (px := px) (py := py) (ps := ps) (pl := pl) (ph := ph) (pn := pn) (pd := pd) (pW := pW) (pF := pF) (pT := pT) (pt := pt) (so := so) (le := le) (ri := ri) hK hc h (ml_guest_1 hK hS hn hm ha g1 h0 h1)
    exact Or.inl ⟨c + 1 + 1, _, r, cl_guest_1 hK rfl h g1 h0 h1, hr, by omega, by omega⟩
  have g2 : c + 1 + 2 ≤ t := lt_of_K (c := c + 1 + 1) hK g1 (by omega)
  by_cases h2 : K (c + 1 + 2) = 48
  case neg =>
    obtain ⟨r, hr⟩ := ml_w7 (fn := fn) (gn := gn) (er := er) (et := et) (dp := dp) (n := n) (N := N) (th := th) (ta := ta) (bs := bs) (ea := ea) (nu := nu) (po := po) (ln := ln) (va := va) (kp := kp) (pO := pO) (nd := nd) (pg := nI g) (pf := pf) (pw := pw) (pc := pc) (px := px) (py := py) (ps := ps) (pl := pl) (ph := ph) (pn := pn) (pd := pd) (pW := pW) (pF := pF) (pT := pT) (pt := pt) (so := so) (le := le) (ri := ri) hK hc h (ml_guest_2 hK hS hn hm ha g2 h0 h1 h2)
    exact Or.inl ⟨c + 1 + 2, _, r, cl_guest_2 hK rfl h g2 h0 h1 h2, hr, by omega, by omega⟩
  have g3 : c + 1 + 3 ≤ t := lt_of_K (c := c + 1 + 2) hK g2 (by omega)
  by_cases h3 : K (c + 1 + 3) = 8
  case neg =>
    obtain ⟨r, hr⟩ := ml_w7 (fn := fn) (gn := gn) (er := er) (et := et) (dp := dp) (n := n) (N := N) (th := th) (ta := ta) (bs := bs) (ea := ea) (nu := nu) (po := po) (ln := ln) (va := va) (kp := kp) (pO := pO) (nd := nd) (pg := nI g) (pf := pf) (pw := pw) (pc := pc) (px := px) (py := py) (ps := ps) (pl := pl) (ph := ph) (pn := pn) (pd := pd) (pW := pW) (pF := pF) (pT := pT) (pt := pt) (so := so) (le := le) (ri := ri) hK hc h (ml_guest_3 hK hS hn hm ha g3 h0 h1 h2 h3)
    exact Or.inl ⟨c + 1 + 3, _, r, cl_guest_3 hK rfl h g3 h0 h1 h2 h3, hr, by omega, by omega⟩
  have g4 : c + 1 + 4 ≤ t := lt_of_K (c := c + 1 + 3) hK g3 (by omega)
  by_cases h4 : K (c + 1 + 4) = 48
  case neg =>
    obtain ⟨r, hr⟩ := ml_w7 (fn := fn) (gn := gn) (er := er) (et := et) (dp := dp) (n := n) (N := N) (th := th) (ta := ta) (bs := bs) (ea := ea) (nu := nu) (po := po) (ln := ln) (va := va) (kp := kp) (pO := pO) (nd := nd) (pg := nI g) (pf := pf) (pw := pw) (pc := pc) (px := px) (py := py) (ps := ps) (pl := pl) (ph := ph) (pn := pn) (pd := pd) (pW := pW) (pF := pF) (pT := pT) (pt := pt) (so := so) (le := le) (ri := ri) hK hc h (ml_guest_4 hK hS hn hm ha g4 h0 h1 h2 h3 h4)
    exact Or.inl ⟨c + 1 + 4, _, r, cl_guest_4 hK rfl h g4 h0 h1 h2 h3 h4, hr, by omega, by omega⟩
  have g5 : c + 1 + 5 ≤ t := lt_of_K (c := c + 1 + 4) hK g4 (by omega)
  by_cases h5 : K (c + 1 + 5) = 9
  case neg =>
    obtain ⟨r, hr⟩ := ml_w7 (fn := fn) (gn := gn) (er := er) (et := et) (dp := dp) (n := n) (N := N) (th := th) (ta := ta) (bs := bs) (ea := ea) (nu := nu) (po := po) (ln := ln) (va := va) (kp := kp) (pO := pO) (nd := nd) (pg := nI g) (pf := pf) (pw := pw) (pc := pc) (px := px) (py := py) (ps := ps) (pl := pl) (ph := ph) (pn := pn) (pd := pd) (pW := pW) (pF := pF) (pT := pT) (pt := pt) (so := so) (le := le) (ri := ri) hK hc h (ml_guest_5 hK hS hn hm ha g5 h0 h1 h2 h3 h4 h5)
    exact Or.inl ⟨c + 1 + 5, _, r, cl_guest_5 hK rfl h g5 h0 h1 h2 h3 h4 h5, hr, by omega, by omega⟩
  have g6 : c + 1 + 6 ≤ t := lt_of_K (c := c + 1 + 5) hK g5 (by omega)
  by_cases h6 : K (c + 1 + 6) = 48
  case neg =>
    obtain ⟨r, hr⟩ := ml_w7 (fn := fn) (gn := gn) (er := er) (et := et) (dp := dp) (n := n) (N := N) (th := th) (ta := ta) (bs := bs) (ea := ea) (nu := nu) (po := po) (ln := ln) (va := va) (kp := kp) (pO := pO) (nd := nd) (pg := nI g) (pf := pf) (pw := pw) (pc := pc) (px := px) (py := py) (ps := ps) (pl := pl) (ph := ph) (pn := pn) (pd := pd) (pW := pW) (pF := pF) (pT := pT) (pt := pt) (so := so) (le := le) (ri := ri) hK hc h (ml_guest_6 hK hS hn hm ha g6 h0 h1 h2 h3 h4 h5 h6)
    exact Or.inl ⟨c + 1 + 6, _, r, cl_guest_6 hK rfl h g6 h0 h1 h2 h3 h4 h5 h6, hr, by omega, by omega⟩
  have g7 : c + 1 + 7 ≤ t := lt_of_K (c := c + 1 + 6) hK g6 (by omega)
  by_cases h7 : K (c + 1 + 7) = 10
  case neg =>
    obtain ⟨r, hr⟩ := ml_w7 (fn := fn) (gn := gn) (er := er) (et := et) (dp := dp) (n := n) (N := N) (th := th) (ta := ta) (bs := bs) (ea := ea) (nu := nu) (po := po) (ln := ln) (va := va) (kp := kp) (pO := pO) (nd := nd) (pg := nI g) (pf := pf) (pw := pw) (pc := pc) (px := px) (py := py) (ps := ps) (pl := pl) (ph := ph) (pn := pn) (pd := pd) (pW := pW) (pF := pF) (pT := pT) (pt := pt) (so := so) (le := le) (ri := ri) hK hc h (ml_guest_7 hK hS hn hm ha g7 h0 h1 h2 h3 h4 h5 h6 h7)
    exact Or.inl ⟨c + 1 + 7, _, r, cl_guest_7 hK rfl h g7 h0 h1 h2 h3 h4 h5 h6 h7, hr, by omega, by omega⟩
  have g8 : c + 1 + 8 ≤ t := lt_of_K (c := c + 1 + 7) hK g7 (by omega)
  by_cases h8 : K (c + 1 + 8) = 48
  case neg =>
    obtain ⟨r, hr⟩ := ml_w7 (fn := fn) (gn := gn) (er := er) (et := et) (dp := dp) (n := n) (N := N) (th := th) (ta := ta) (bs := bs) (ea := ea) (nu := nu) (po := po) (ln := ln) (va := va) (kp := kp) (pO := pO) (nd := nd) (pg := nI g) (pf := pf) (pw := pw) (pc := pc) (px := px) (py := py) (ps := ps) (pl := pl) (ph := ph) (pn := pn) (pd := pd) (pW := pW) (pF := pF) (pT := pT) (pt := pt) (so := so) (le := le) (ri := ri) hK hc h (ml_guest_8 hK hS hn hm ha g8 h0 h1 h2 h3 h4 h5 h6 h7 h8)
    exact Or.inl ⟨c + 1 + 8, _, r, cl_guest_8 hK rfl h g8 h0 h1 h2 h3 h4 h5 h6 h7 h8, hr, by omega, by omega⟩
  have g9 : c + 1 + 9 ≤ t := lt_of_K (c := c + 1 + 8) hK g8 (by omega)
  have hM := ml_guest_ok (er := er) (et := et) (dp := dp) (fn := fn) (gn := gn) (N := N) (th := th) (bs := bs) (ea := ea) (va := va) (kp := kp) (pO := pO) (nd := nd) (pf := pf) (pw := pw) (pc := pc) (px := px) (py := py) (ps := ps) (pl := pl) (ph := ph) (pn := pn) (pd := pd) (pW := pW) (pF := pF) (pT := pT) (pt := pt) (so := so) (le := le) (ri := ri) hK hS hn hm ha g8 h0 h1 h2 h3 h4 h5 h6 h7 h8
  refine Or.inr ⟨g9, ⟨h0, h1, h2, h3, h4, h5, h6, h7, h8⟩, cl_guest_ok hK rfl h g8 h0 h1 h2 h3 h4 h5 h6 h7 h8, ?_⟩
  rw [ml_7 hK hc h, hM, sb]
set_option maxHeartbeats 1000000 in
theorem ln_11 {kF kG : Nat → Int32} (hn : 1000 < n) (hK : TKO K kd t) (hW : KNW n pf pg ta kd nu po ln fn gn K kF kG t) (hc : c ≤ t) (hs : s ≤ c) (hno : no ≤ 16) (h : K c = 11) : LWR t c (f_X3_line n (K, sT, vT, nI (t + 1), nI (c), e1, e2) (oA, oB, oC, oD, sk, sv, nI no, nI s)) (f_X14_line n (th, ta, bs, ea, kd, nu, po, ln, (nI c), (nI 0), er, et, (nI 0), fn, gn, va, N, kp) (pf, pw, pc, px, py, pg, ps, pl, ph, pn, (nI no), pd, pW, pF, pT, pt, (nI s), so, le, ri)) ∨ (∃ (c' s' : Nat) (sk' : Nat → Nat) (sv' so' le' ri' : Nat → Int32) (x : Int32), K (c + 1) = 47 ∧ f_X3_line n (K, sT, vT, nI (t + 1), nI (c), e1, e2) (oA, oB, oC, oD, sk, sv, nI no, nI s) = some (nI 1, nI c', adA oA no 11, adB oB no (nI (c + 1)), adB oC no (nI s), upd (adB oD no (nI s)) (adn no - 1) (nI s'), sk', sv', nI (adn no), nI s') ∧ f_X14_line n (th, ta, bs, ea, kd, nu, po, ln, (nI c), (nI 0), er, et, (nI 0), fn, gn, va, N, kp) (pf, pw, pc, px, py, pg, ps, pl, ph, pn, (nI no), pd, pW, pF, pT, pt, (nI s), so, le, ri) = some (nI c', nI 0, (mkR K kF kG c (c' - c) (e4 no c (er, et))).1, (mkR K kF kG c (c' - c) (e4 no c (er, et))).2, nI 0, fn, gn, pf, pw, pc, px, py, pg, ps, pl, ph, pn, (if no + 1 < 16 then nI (no + 1) else nI 16), upd pd no (nI 11), upd pW no (lFx (kF (c + 1))), upd pF no (nI s), upd pT no (nI s'), upd pt no x, nI s', so', le', ri') ∧ c < c' ∧ c' ≤ t ∧ s ≤ s' ∧ s' + c ≤ s + c' ∧ (∀ i, i < s → sk' i = sk i ∧ sv' i = sv i ∧ so' i = so i ∧ le' i = le i ∧ ri' i = ri i) ∧ ((s' = s ∧ x = -nI 1) ∨ (s < s' ∧ x = nI (s' - 1) ∧ Ex (lpI K nu kF c' sk' sv' so' le') (lpB K kF kG c' sk' sv' so' le') sk' so' le' ri' 1 s s'))) := by
  have h0 := hK.1
  have hlt : c < t := lt_of_K hK hc (by omega)
  have hM := ml_o (n := n) (N := N) (er := er) (et := et) (dp := nI 0) (th := th) (ta := ta) (bs := bs) (ea := ea) (nu := nu) (po := po) (ln := ln) (fn := fn) (gn := gn) (va := va) (kp := kp) (pO := nI no) (nd := nI s) (pf := pf) (pw := pw) (pc := pc) (px := px) (py := py) (pg := pg) (ps := ps) (pl := pl) (ph := ph) (pn := pn) (pd := pd) (pW := pW) (pF := pF) (pT := pT) (pt := pt) (so := so) (le := le) (ri := ri) (k := 11) (by omega) hK hc h
  by_cases h47 : K (c + 1) = 47
  case neg =>
    obtain ⟨r, hr⟩ := o_wr (N := N) (n := n) (x0 := nI 11) (c := c + 1) (s := s) (er := nI 1) (et := nI (c + 1)) (pd := upd pd no (nI 11)) (pW := upd pW no (nI 0)) (pO := nI no) (th := th) (ta := ta) (bs := bs) (ea := ea) (kd := kd) (nu := nu) (po := po) (ln := ln) (fn := fn) (gn := gn) (va := va) (kp := kp) (pf := pf) (pw := pw) (pc := pc) (px := px) (py := py) (pg := pg) (ps := ps) (pl := pl) (ph := ph) (pn := pn) (pF := pF) (pT := pT) (pt := pt) (so := so) (le := le) (ri := ri) (T0 := nI c) (W0 := nI 0) (E0 := er) (F0 := et) (D0 := nI 0) (P0 := nI no) (P1 := pd) (P2 := pW) (P3 := pF) (P4 := pT) (P5 := pt) (P6 := nI s) (P7 := so) (P8 := le) (P9 := ri) hno
    have hO := mo_11 (er := er) (et := et) (pd := pd) (pW := pW) (pF := pF) (pT := pT) (pt := pt) (so := so) (le := le) (ri := ri) (th := th) (bs := bs) (ea := ea) (va := va) (kp := kp) (N := N) (s := s) (pw := pw) (pc := pc) (px := px) (py := py) (ps := ps) (pl := pl) (ph := ph) (pn := pn) hn hK hW hc hno h
    rw [if_neg h47, hr] at hO
    have hC := co_11 (sT := sT) (vT := vT) (e1 := e1) (e2 := e2) (n := n) (oA := oA) (oB := oB) (oC := oC) (oD := oD) (sk := sk) (sv := sv) (s := s) hK hc hno h
    rw [if_neg h47] at hC
    refine Or.inl ⟨c + 1, _, ?r, cl_ord (b := 0) hK hc (by omega) (by omega) hC, ?M, by omega, by omega⟩
    case M =>
      rw [hM, hO, sb]
  rcases ol_11 (er := er) (et := et) (pd := pd) (pW := pW) (pF := pF) (pT := pT) (pt := pt) (so := so) (le := le) (ri := ri) (th := th) (bs := bs) (ea := ea) (va := va) (kp := kp) (N := N) (sT := sT) (vT := vT) (e1 := e1) (e2 := e2) (oA := oA) (oB := oB) (oC := oC) (oD := oD) (sk := sk) (sv := sv) (pw := pw) (pc := pc) (px := px) (py := py) (ps := ps) (pl := pl) (ph := ph) (pn := pn) hn hK hW hc hs hno h h47 with ⟨c', s', sk', sv', so', le', ri', x, z1, z2, z⟩ | ⟨c', q, r, z1, z2, z3, z4⟩
  · refine Or.inr ⟨c', s', sk', sv', so', le', ri', x, h47, cl_ord (b := 1) hK hc (by omega) (by omega) z1, ?_, z⟩
    rw [hM, z2, sb]
  · refine Or.inl ⟨c', q, ?r2, cl_ord (b := 0) hK hc (by omega) (by omega) z1, ?M2, z3, z4⟩
    case M2 =>
      rw [hM, z2, sb]
set_option maxHeartbeats 1000000 in
theorem ln_12 {kF kG : Nat → Int32} (hn : 1000 < n) (hK : TKO K kd t) (hW : KNW n pf pg ta kd nu po ln fn gn K kF kG t) (hc : c ≤ t) (hs : s ≤ c) (hno : no ≤ 16) (h : K c = 12) : LWR t c (f_X3_line n (K, sT, vT, nI (t + 1), nI (c), e1, e2) (oA, oB, oC, oD, sk, sv, nI no, nI s)) (f_X14_line n (th, ta, bs, ea, kd, nu, po, ln, (nI c), (nI 0), er, et, (nI 0), fn, gn, va, N, kp) (pf, pw, pc, px, py, pg, ps, pl, ph, pn, (nI no), pd, pW, pF, pT, pt, (nI s), so, le, ri)) ∨ (∃ (c' s' : Nat) (sk' : Nat → Nat) (sv' so' le' ri' : Nat → Int32) (x : Int32), f_X3_line n (K, sT, vT, nI (t + 1), nI (c), e1, e2) (oA, oB, oC, oD, sk, sv, nI no, nI s) = some (nI 1, nI c', adA oA no 12, adB oB no (nI (c + 1)), adB oC no (nI s), upd (adB oD no (nI s)) (adn no - 1) (nI s'), sk', sv', nI (adn no), nI s') ∧ f_X14_line n (th, ta, bs, ea, kd, nu, po, ln, (nI c), (nI 0), er, et, (nI 0), fn, gn, va, N, kp) (pf, pw, pc, px, py, pg, ps, pl, ph, pn, (nI no), pd, pW, pF, pT, pt, (nI s), so, le, ri) = some (nI c', nI 0, (mkR K kF kG c (c' - c) (e4 no c (er, et))).1, (mkR K kF kG c (c' - c) (e4 no c (er, et))).2, nI 0, fn, gn, pf, pw, pc, px, py, pg, ps, pl, ph, pn, (if no + 1 < 16 then nI (no + 1) else nI 16), upd pd no (nI 12), pW, upd pF no (nI s), upd pT no (nI s'), upd pt no x, nI s', so', le', ri') ∧ c < c' ∧ c' ≤ t ∧ s ≤ s' ∧ s' + c ≤ s + c' ∧ (∀ i, i < s → sk' i = sk i ∧ sv' i = sv i ∧ so' i = so i ∧ le' i = le i ∧ ri' i = ri i) ∧ ((s' = s ∧ x = -nI 1) ∨ (s < s' ∧ x = nI (s' - 1) ∧ Ex (lpI K nu kF c' sk' sv' so' le') (lpB K kF kG c' sk' sv' so' le') sk' so' le' ri' 1 s s'))) := by
  have h0 := hK.1
  have hlt : c < t := lt_of_K hK hc (by omega)
  have hM := ml_o (n := n) (N := N) (er := er) (et := et) (dp := nI 0) (th := th) (ta := ta) (bs := bs) (ea := ea) (nu := nu) (po := po) (ln := ln) (fn := fn) (gn := gn) (va := va) (kp := kp) (pO := nI no) (nd := nI s) (pf := pf) (pw := pw) (pc := pc) (px := px) (py := py) (pg := pg) (ps := ps) (pl := pl) (ph := ph) (pn := pn) (pd := pd) (pW := pW) (pF := pF) (pT := pT) (pt := pt) (so := so) (le := le) (ri := ri) (k := 12) (by omega) hK hc h
  rcases ol_12 (er := er) (et := et) (pd := pd) (pW := pW) (pF := pF) (pT := pT) (pt := pt) (so := so) (le := le) (ri := ri) (th := th) (bs := bs) (ea := ea) (va := va) (kp := kp) (N := N) (sT := sT) (vT := vT) (e1 := e1) (e2 := e2) (oA := oA) (oB := oB) (oC := oC) (oD := oD) (sk := sk) (sv := sv) (pw := pw) (pc := pc) (px := px) (py := py) (ps := ps) (pl := pl) (ph := ph) (pn := pn) hn hK hW hc hs hno h with ⟨c', s', sk', sv', so', le', ri', x, z1, z2, z⟩ | ⟨c', q, r, z1, z2, z3, z4⟩
  · refine Or.inr ⟨c', s', sk', sv', so', le', ri', x, cl_ord (b := 1) hK hc (by omega) (by omega) z1, ?_, z⟩
    rw [hM, z2, sb]
  · refine Or.inl ⟨c', q, ?r2, cl_ord (b := 0) hK hc (by omega) (by omega) z1, ?M2, z3, z4⟩
    case M2 =>
      rw [hM, z2, sb]
set_option maxHeartbeats 1000000 in
theorem ln_13 {kF kG : Nat → Int32} (hn : 1000 < n) (hK : TKO K kd t) (hW : KNW n pf pg ta kd nu po ln fn gn K kF kG t) (hc : c ≤ t) (hs : s ≤ c) (hno : no ≤ 16) (h : K c = 13) : LWR t c (f_X3_line n (K, sT, vT, nI (t + 1), nI (c), e1, e2) (oA, oB, oC, oD, sk, sv, nI no, nI s)) (f_X14_line n (th, ta, bs, ea, kd, nu, po, ln, (nI c), (nI 0), er, et, (nI 0), fn, gn, va, N, kp) (pf, pw, pc, px, py, pg, ps, pl, ph, pn, (nI no), pd, pW, pF, pT, pt, (nI s), so, le, ri)) ∨ (∃ (c' s' : Nat) (sk' : Nat → Nat) (sv' so' le' ri' : Nat → Int32) (x : Int32), f_X3_line n (K, sT, vT, nI (t + 1), nI (c), e1, e2) (oA, oB, oC, oD, sk, sv, nI no, nI s) = some (nI 1, nI c', adA oA no 13, adB oB no (nI (c + 1)), adB oC no (nI s), upd (adB oD no (nI s)) (adn no - 1) (nI s'), sk', sv', nI (adn no), nI s') ∧ f_X14_line n (th, ta, bs, ea, kd, nu, po, ln, (nI c), (nI 0), er, et, (nI 0), fn, gn, va, N, kp) (pf, pw, pc, px, py, pg, ps, pl, ph, pn, (nI no), pd, pW, pF, pT, pt, (nI s), so, le, ri) = some (nI c', nI 0, (mkR K kF kG c (c' - c) (e4 no c (er, et))).1, (mkR K kF kG c (c' - c) (e4 no c (er, et))).2, nI 0, fn, gn, pf, pw, pc, px, py, pg, ps, pl, ph, pn, (if no + 1 < 16 then nI (no + 1) else nI 16), upd pd no (nI 13), pW, upd pF no (nI s), upd pT no (nI s'), upd pt no x, nI s', so', le', ri') ∧ c < c' ∧ c' ≤ t ∧ s ≤ s' ∧ s' + c ≤ s + c' ∧ (∀ i, i < s → sk' i = sk i ∧ sv' i = sv i ∧ so' i = so i ∧ le' i = le i ∧ ri' i = ri i) ∧ ((s' = s ∧ x = -nI 1) ∨ (s < s' ∧ x = nI (s' - 1) ∧ Ex (lpI K nu kF c' sk' sv' so' le') (lpB K kF kG c' sk' sv' so' le') sk' so' le' ri' 1 s s'))) := by
  have h0 := hK.1
  have hlt : c < t := lt_of_K hK hc (by omega)
  have hM := ml_o (n := n) (N := N) (er := er) (et := et) (dp := nI 0) (th := th) (ta := ta) (bs := bs) (ea := ea) (nu := nu) (po := po) (ln := ln) (fn := fn) (gn := gn) (va := va) (kp := kp) (pO := nI no) (nd := nI s) (pf := pf) (pw := pw) (pc := pc) (px := px) (py := py) (pg := pg) (ps := ps) (pl := pl) (ph := ph) (pn := pn) (pd := pd) (pW := pW) (pF := pF) (pT := pT) (pt := pt) (so := so) (le := le) (ri := ri) (k := 13) (by omega) hK hc h
  rcases ol_13 (er := er) (et := et) (pd := pd) (pW := pW) (pF := pF) (pT := pT) (pt := pt) (so := so) (le := le) (ri := ri) (th := th) (bs := bs) (ea := ea) (va := va) (kp := kp) (N := N) (sT := sT) (vT := vT) (e1 := e1) (e2 := e2) (oA := oA) (oB := oB) (oC := oC) (oD := oD) (sk := sk) (sv := sv) (pw := pw) (pc := pc) (px := px) (py := py) (ps := ps) (pl := pl) (ph := ph) (pn := pn) hn hK hW hc hs hno h with ⟨c', s', sk', sv', so', le', ri', x, z1, z2, z⟩ | ⟨c', q, r, z1, z2, z3, z4⟩
  · refine Or.inr ⟨c', s', sk', sv', so', le', ri', x, cl_ord (b := 1) hK hc (by omega) (by omega) z1, ?_, z⟩
    rw [hM, z2, sb]
  · refine Or.inl ⟨c', q, ?r2, cl_ord (b := 0) hK hc (by omega) (by omega) z1, ?M2, z3, z4⟩
    case M2 =>
      rw [hM, z2, sb]
set_option maxHeartbeats 1000000 in
theorem ln_14 {kF kG : Nat → Int32} (hn : 1000 < n) (hK : TKO K kd t) (hW : KNW n pf pg ta kd nu po ln fn gn K kF kG t) (hc : c ≤ t) (hs : s ≤ c) (hno : no ≤ 16) (h : K c = 14) : LWR t c (f_X3_line n (K, sT, vT, nI (t + 1), nI (c), e1, e2) (oA, oB, oC, oD, sk, sv, nI no, nI s)) (f_X14_line n (th, ta, bs, ea, kd, nu, po, ln, (nI c), (nI 0), er, et, (nI 0), fn, gn, va, N, kp) (pf, pw, pc, px, py, pg, ps, pl, ph, pn, (nI no), pd, pW, pF, pT, pt, (nI s), so, le, ri)) ∨ (∃ (c' s' : Nat) (sk' : Nat → Nat) (sv' so' le' ri' : Nat → Int32) (x : Int32), K (c + 1) = 47 ∧ f_X3_line n (K, sT, vT, nI (t + 1), nI (c), e1, e2) (oA, oB, oC, oD, sk, sv, nI no, nI s) = some (nI 1, nI c', adA oA no 14, adB oB no (nI (c + 1)), adB oC no (nI s), upd (adB oD no (nI s)) (adn no - 1) (nI s'), sk', sv', nI (adn no), nI s') ∧ f_X14_line n (th, ta, bs, ea, kd, nu, po, ln, (nI c), (nI 0), er, et, (nI 0), fn, gn, va, N, kp) (pf, pw, pc, px, py, pg, ps, pl, ph, pn, (nI no), pd, pW, pF, pT, pt, (nI s), so, le, ri) = some (nI c', nI 0, (mkR K kF kG c (c' - c) (e4 no c (er, et))).1, (mkR K kF kG c (c' - c) (e4 no c (er, et))).2, nI 0, fn, gn, pf, pw, pc, px, py, pg, ps, pl, ph, pn, (if no + 1 < 16 then nI (no + 1) else nI 16), upd pd no (nI 14), upd pW no (lFx (kG (c + 1))), upd pF no (nI s), upd pT no (nI s'), upd pt no x, nI s', so', le', ri') ∧ c < c' ∧ c' ≤ t ∧ s ≤ s' ∧ s' + c ≤ s + c' ∧ (∀ i, i < s → sk' i = sk i ∧ sv' i = sv i ∧ so' i = so i ∧ le' i = le i ∧ ri' i = ri i) ∧ ((s' = s ∧ x = -nI 1) ∨ (s < s' ∧ x = nI (s' - 1) ∧ Ex (lpI K nu kF c' sk' sv' so' le') (lpB K kF kG c' sk' sv' so' le') sk' so' le' ri' 1 s s'))) := by
  have h0 := hK.1
  have hlt : c < t := lt_of_K hK hc (by omega)
  have hM := ml_o (n := n) (N := N) (er := er) (et := et) (dp := nI 0) (th := th) (ta := ta) (bs := bs) (ea := ea) (nu := nu) (po := po) (ln := ln) (fn := fn) (gn := gn) (va := va) (kp := kp) (pO := nI no) (nd := nI s) (pf := pf) (pw := pw) (pc := pc) (px := px) (py := py) (pg := pg) (ps := ps) (pl := pl) (ph := ph) (pn := pn) (pd := pd) (pW := pW) (pF := pF) (pT := pT) (pt := pt) (so := so) (le := le) (ri := ri) (k := 14) (by omega) hK hc h
  by_cases h47 : K (c + 1) = 47
  case neg =>
    obtain ⟨r, hr⟩ := o_wr (N := N) (n := n) (x0 := nI 14) (c := c + 1) (s := s) (er := nI 1) (et := nI (c + 1)) (pd := upd pd no (nI 14)) (pW := upd pW no (nI 0)) (pO := nI no) (th := th) (ta := ta) (bs := bs) (ea := ea) (kd := kd) (nu := nu) (po := po) (ln := ln) (fn := fn) (gn := gn) (va := va) (kp := kp) (pf := pf) (pw := pw) (pc := pc) (px := px) (py := py) (pg := pg) (ps := ps) (pl := pl) (ph := ph) (pn := pn) (pF := pF) (pT := pT) (pt := pt) (so := so) (le := le) (ri := ri) (T0 := nI c) (W0 := nI 0) (E0 := er) (F0 := et) (D0 := nI 0) (P0 := nI no) (P1 := pd) (P2 := pW) (P3 := pF) (P4 := pT) (P5 := pt) (P6 := nI s) (P7 := so) (P8 := le) (P9 := ri) hno
    have hO := mo_14 (er := er) (et := et) (pd := pd) (pW := pW) (pF := pF) (pT := pT) (pt := pt) (so := so) (le := le) (ri := ri) (th := th) (bs := bs) (ea := ea) (va := va) (kp := kp) (N := N) (s := s) (pw := pw) (pc := pc) (px := px) (py := py) (ps := ps) (pl := pl) (ph := ph) (pn := pn) hn hK hW hc hno h
    rw [if_neg h47, hr] at hO
    have hC := co_14 (sT := sT) (vT := vT) (e1 := e1) (e2 := e2) (n := n) (oA := oA) (oB := oB) (oC := oC) (oD := oD) (sk := sk) (sv := sv) (s := s) hK hc hno h
    rw [if_neg h47] at hC
    refine Or.inl ⟨c + 1, _, ?r, cl_ord (b := 0) hK hc (by omega) (by omega) hC, ?M, by omega, by omega⟩
    case M =>
      rw [hM, hO, sb]
  rcases ol_14 (er := er) (et := et) (pd := pd) (pW := pW) (pF := pF) (pT := pT) (pt := pt) (so := so) (le := le) (ri := ri) (th := th) (bs := bs) (ea := ea) (va := va) (kp := kp) (N := N) (sT := sT) (vT := vT) (e1 := e1) (e2 := e2) (oA := oA) (oB := oB) (oC := oC) (oD := oD) (sk := sk) (sv := sv) (pw := pw) (pc := pc) (px := px) (py := py) (ps := ps) (pl := pl) (ph := ph) (pn := pn) hn hK hW hc hs hno h h47 with ⟨c', s', sk', sv', so', le', ri', x, z1, z2, z⟩ | ⟨c', q, r, z1, z2, z3, z4⟩
  · refine Or.inr ⟨c', s', sk', sv', so', le', ri', x, h47, cl_ord (b := 1) hK hc (by omega) (by omega) z1, ?_, z⟩
    rw [hM, z2, sb]
  · refine Or.inl ⟨c', q, ?r2, cl_ord (b := 0) hK hc (by omega) (by omega) z1, ?M2, z3, z4⟩
    case M2 =>
      rw [hM, z2, sb]
theorem ln_no (hK : TKO K kd t) (hc : c ≤ t) (h : K c ≠ 0 ∧ K c ≠ 7 ∧ K c ≠ 11 ∧ K c ≠ 12 ∧ K c ≠ 13 ∧ K c ≠ 14) : LWR t c (f_X3_line n (K, sT, vT, nI (t + 1), nI (c), e1, e2) (oA, oB, oC, oD, sk, sv, nI no, nI s)) (f_X14_line n (th, ta, bs, ea, kd, nu, po, ln, (nI c), (nI 0), er, et, dp, fn, gn, va, N, kp) (pf, pw, pc, px, py, pg, ps, pl, ph, pn, pO, pd, pW, pF, pT, pt, nd, so, le, ri)) :=
  ⟨c, _, _, cl_ord (b := 0) hK hc ⟨h.1, h.2.1⟩ (by omega) (co_no hK hc ⟨h.2.2.1, h.2.2.2.2.2, h.2.2.2.1, h.2.2.2.2.1⟩), ml_no hK hc h, Nat.le_refl _, hc⟩
end P47
