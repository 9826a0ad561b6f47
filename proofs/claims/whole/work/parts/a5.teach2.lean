/-! teach answers alike -/
section P67
variable {n : Nat} {bT : Nat → Int32} {th bs ea tk wr er et dp : Int32} {ta kd nu po ln fn gn va kp : Nat → Int32}
variable {N : Nat → Int32} {len : Nat} {Y : Nat → Nat} {bh : bX12} {X0 : bX11} {P : bX8} {dF : bX2} {dG : bX4} {dO : bX6} {To Fr : bX13}
def cT (T : bX13) : bX13 := (nI 0, X13_warm T, X13_force T, X13_comes T, X13_stays T, nI 0, X13_sits T, X13_low T, X13_high T, X13_nerve T, nI 0, X13_does T, X13_whom T, X13_from T, X13_to T, X13_test T, nI 0, X13_sort T, X13_left T, X13_right T)
theorem ck_fin {K : Nat → Nat} {sT : Nat → Int32} {vT V : Nat → Int64} {t : Nat} {cu e eB x y z : Int32} {B1 F : bX2} {B2 G : bX4} : ckB n (K, sT, vT, nI (t + 1), cu, e, eB) B1 B2 (ckS x (nI (t + 1)) V y z F G) = some (.inr (ckE V y z F G)) := by
  rw [ckB_eq]
  unfold f_X1_check_L4
  rw [if_pos (show X11_count (K, sT, vT, nI (t + 1), cu, e, eB) ≤ nI (t + 1) from Int32.le_refl _)]
  rfl
/-- what class and model come to -/
def TB (P : bX8) (N : Nat → Int32) (To : bX13) (u : tcT) (w : teR) : Prop := u.1 = w.1 ∧ w.2.1 = nI 0 ∧ w.2.2.1 = nI 0 ∧ u.2.2.2.1 = nI 0 ∧ u.2.2.1 = w.2.2.2.1 ∧
  ((u.2.1 = false ∧ tcP u = P ∧ teN w = N ∧ teTo w = To) ∨ (u.2.1 = true ∧ ∃ (nf ng no : Nat) (fo fr hr gr : Nat → Nat), RPl (tcF u) (tcG u) (teTo w) nf ng fo fr hr gr ∧ RO (tcO u) (teTo w) nf ng no ∧ RPt nf ng fr hr gr (tcP u) (teN w) 0))
theorem teach_both (h : TPE Y len bT ta) (hn : 2100 < n) : ∃ (u : tcT) (w : teR), f_X12_teach n bh (bT, nI len) X0 P dF dG dO = some u ∧ f_X14_teach n (th, ta, nI len, ea, kd, nu, po, ln, tk, wr, er, et, dp, fn, gn, va, N, kp) To Fr = some w ∧ TB P N To u w := by
  obtain ⟨t, K, sT, vT, kd', nu', po', ln', hC, hM, hT1, hT2, hT3, hT4, hT5⟩ := read_both (bh := X0) (N := N) (th := nI 0) (tk := nI 0) (wr := nI 0) (er := nI 0) (et := et) (dp := nI 0) (ea := ea) (kd := kd) (nu := nu) (po := po) (ln := ln) (fn := fn) (gn := gn) (va := va) (kp := kp) h hn
  have hK : TKO K kd' t := by
    refine ⟨hT1, fun j hj => ?_, fun j hj => (hT2 j hj).1, by omega⟩
    rcases Nat.lt_or_ge j t with q | q
    · have := hT2 j q
      exact ⟨by have := this.1; omega, this.2.1⟩
    · have e : j = t := by omega
      rw [e]
      exact ⟨by omega, hT4⟩
  have hS : SAM n ta kd' nu' po' ln' K vT t := by
    intro th bs ea tk wr er et dp fn gn va N kp i j hi hj ki kj
    exact same_name h hn (by omega) (by omega) ((hT2 i hi).2.2.2.2 ki) ((hT2 j hj).2.2.2.2 kj)
  have hnu : ∀ j, j < t → K j = 48 → (vT j).toInt32 = nu' j := fun j hj hk => (hT2 j hj).2.2.2.1 hk
  have hI : IV n K sT vT t (nI t) (nI 0) (cF dF) (cG dG) (fun _ => 0) (fun _ => 0) 0 0 0 0 0 fn gn (nI 0) et (cO dO) (cT Fr) := ⟨Nat.zero_le _, Nat.le_refl _, by omega, by omega, by omega, fun k hk => by omega, fun k hk => by omega, Or.inl ⟨rfl, vT, nI 0, cF dF, cG dG, ck_eq n _ _ _, ⟨by omega, by omega, rfl, rfl, fun k hk => by omega, fun k hk => by omega⟩, fun j _ => rfl, fun j _ => rfl, fun j hj => by omega, fun k hk => by omega, fun k hk => by omega, fun k hk => by omega⟩⟩
  have hP := parse_all (cu0 := nI 0) (O0 := cO dO) (th0 := th) (bs := nI len) (ea := ea) (tk0 := tk) (wr0 := wr) (er0 := er) (et0 := et) (dp0 := dp) (kd0 := kd) (nu0 := nu) (po0 := po) (ln0 := ln) (fn0 := fn) (gn0 := gn) (va := va) (N := N) (kp := kp) (To := To) (Fr := Fr) (show 1000 < n by omega) hK hS hnu t 0 0 0 0 0 0 (fun _ => 0) (fun _ => 0) fn gn (nI 0) et (cO dO) (cT Fr) (by omega) (by omega) hI ⟨rfl, rfl, rfl, rfl, rfl, rfl⟩ n n (by omega) (by omega)
  have e1 : f_X3_read n (K, sT, vT, nI (t + 1), nI 0, nI 0, nI 0) (cO dO) = iter (rdB n (K, sT, vT, nI (t + 1), nI 0, nI 0, nI 0) (cO dO)) n (nI 1, nI 0, nI 0, cO dO) := rd_eq n _ _
  have e2 : f_X14_teach n (th, ta, nI len, ea, kd, nu, po, ln, tk, wr, er, et, dp, fn, gn, va, N, kp) To Fr = iter (teB n (th, ta, nI len, ea, kd, nu, po, ln, tk, wr, er, et, dp, fn, gn, va, N, kp) To Fr (kd', nu', po', ln')) n (nI 0, nI 0, nI 0, et, nI 0, fn, gn, cT Fr) := by
    rw [te_eq, bd (show f_X13_begin Fr = some (0, 0, 0, 0) from rfl)]
    exact bd hM _
  rcases hP with ⟨c', q, r, p1, p2, p3⟩ | ⟨s', no', m', g', a', b', fn', gn', er', et', O', T', p1, p2, p3, p4, p5⟩
  · obtain ⟨u, u1, u2, u3, u4, u5, u6⟩ := tc_bad (bh := bh) (P := P) (dF := dF) (dG := dG) (dO := dO) hT1 p1 hC (e1.trans p2)
    obtain ⟨w, w1, w2, w3, w4, w5, w6, w7⟩ := tz_err (n := n) (th := th) (ta := ta) (bs := nI len) (ea := ea) (kd := kd) (nu := nu) (po := po) (ln := ln) (tk := tk) (wr := wr) (er := er) (et := et) (dp := dp) (fn := fn) (gn := gn) (va := va) (N := N) (kp := kp) (To := To) (Fr := Fr) (kd2 := kd') (nu2 := nu') (po2 := po') (ln2 := ln') (j := c') (s := (nI c', nI 1, nI 1, nI c', r)) (by omega) (show (nI 1 : Int32) ≠ nI 0 by decide) rfl
    have hsp : sT c' = po' c' := by
      rcases Nat.lt_or_ge c' t with z | z
      · exact (hT2 c' z).2.2.1
      · have e : c' = t := by omega
        rw [e]
        exact hT5
    exact ⟨u, w, u1, e2.trans (p3 w w1), u2.trans w2.symm, w3, w4, u5, (u4.trans hsp).trans w5.symm, Or.inl ⟨u3, u6, w6, w7⟩⟩
  · obtain ⟨i1, i2, i3, i4, i5, -, -, hE⟩ := p4
    rcases hE with ⟨q0, V, x2, F, G, z1, z2, z3, z4, z5, z6, z7, z8⟩ | ⟨q0, ⟨V, F, G, z1⟩, j, j1, j2⟩
    · subst q0
      have z9 := ck_pl hT1 (Nat.le_refl t) (show 1000 < n by omega) (by omega) z1
      have hck : f_X1_check n (K, sT, vT, nI (t + 1), nI t, nI 0, nI 0) (cF dF) (cG dG) = some (ckE V (nI 0) x2 F G) := by
        unfold CKA at z9
        rw [z9, show n - (t + 1) = (n - (t + 2)) + 1 by omega]
        exact iter_inr ck_fin
      obtain ⟨oA, oB, oC, oD, sk, sv, on, os⟩ := O'
      obtain ⟨y1, y2, y3, y4, y5, y6⟩ := p5
      replace y1 : on = nI no' := y1
      replace y2 : os = nI s' := y2
      subst y1 y2
      obtain ⟨u, u1, u2, u3, u4, u5, u6, u7, u8, u9⟩ := tc_ok (bh := bh) (P := P) (dF := dF) (dG := dG) (dO := dO) hn hT1 i3 (show s' ≤ 400 by omega) hC (e1.trans p2) hck
      obtain ⟨w, M, w1, hz, w2, w3, w4, w5, w6, w7⟩ := tz_ok (n := n) (th := th) (ta := ta) (bs := nI len) (ea := ea) (kd := kd) (nu := nu) (po := po) (ln := ln) (tk := tk) (wr := wr) (er := er) (et := et') (dp := dp) (fn := fn) (gn := gn) (va := va) (N := N) (kp := kp) (To := To) (Fr := Fr) (kd2 := kd') (nu2 := nu') (po2 := po') (ln2 := ln') (fn2 := fn') (gn2 := gn') (x := nI t) hn i4 i5 y3 y4
      have hpl := pl_of To i4 i5 z2.2.2.1 y3 z2.2.2.2.1 y4 z6 z7
      have hro := or_of (K := K) (sT := sT) (cu := nI t) (e1 := nI 0) (e2 := x2) To hT1 i3 (show s' ≤ 400 by omega) y5 z8
      have hr := r_anew (fs := clrN (X8_frontSteeped P) 10) (gs := clrN (X8_guestServed P) 10) (gt := clrN (X8_guestStormed P) 10) hpl hz (fun f hf => if_pos (by omega)) (fun g hg => ⟨if_pos (by omega), if_pos (by omega)⟩)
      have hpl2 : RPl (tcF u) (tcG u) (teTo w) m' g' (fun f => (X2_force F f).toNatClampNeg) (fun f => (X2_from F f).toNatClampNeg) (fun f => (X2_hours F f).toNatClampNeg) (fun f => (X4_from G f).toNatClampNeg) := by
        rw [u7, u8, w7]
        exact hpl
      have hro2 : RO (tcO u) (teTo w) m' g' no' := by
        rw [u9, w7]
        exact hro
      have hr2 : RPt m' g' (fun f => (X2_from F f).toNatClampNeg) (fun f => (X2_hours F f).toNatClampNeg) (fun f => (X4_from G f).toNatClampNeg) (tcP u) (teN w) 0 := by
        rw [u6, w6]
        exact hr
      exact ⟨u, w, u1, e2.trans (p3 w w1), u2.trans w2.symm, w3, w4, u5, u4.trans w5.symm, Or.inr ⟨u3, m', g', no', _, _, _, _, hpl2, hro2, hr2⟩⟩
    · obtain ⟨u, u1, u2, u3, u4, u5, u6⟩ := tc_err (e2 := nI 0) (bh := bh) (P := P) (dF := dF) (dG := dG) (dO := dO) hT1 j1 q0 j2 hC (e1.trans p2) z1
      obtain ⟨w, w1, w2, w3, w4, w5, w6, w7⟩ := tz_err (n := n) (th := th) (ta := ta) (bs := nI len) (ea := ea) (kd := kd) (nu := nu) (po := po) (ln := ln) (tk := tk) (wr := wr) (er := er) (et := et) (dp := dp) (fn := fn) (gn := gn) (va := va) (N := N) (kp := kp) (To := To) (Fr := Fr) (kd2 := kd') (nu2 := nu') (po2 := po') (ln2 := ln') (j := j) (s := (nI t, nI 0, er', et', nI 0, fn', gn', T')) (by omega) q0 j2
      have hsp : sT j = po' j := by
        rcases Nat.lt_or_ge j t with z | z
        · exact (hT2 j z).2.2.1
        · have e : j = t := by omega
          rw [e]
          exact hT5
      exact ⟨u, w, u1, e2.trans (p3 w w1), u2.trans w2.symm, w3, w4, u5, (u4.trans hsp).trans w5.symm, Or.inl ⟨u3, u6, w6, w7⟩⟩
end P67
