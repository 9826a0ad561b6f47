/-! hours pass, alike -/
section P14
variable {F : bX2} {G : bX4} {O : bX6} {T : bX13} {nf ng no : Nat} {fo fr hr gr : Nat → Nat} {N : Nat → Int32} {h n : Nat} {th bs ea tk wr er et dp : Int32} {ta kd nu po ln fn gn va kp : Nat → Int32}
variable {ho wa sr ch lm sa co sm : Int32} {fs gs gt : Nat → Int32}
theorem k_orders (hp : RPl F G T nf ng fo fr hr gr) (ho' : RO O T nf ng no) (ht : RPt nf ng fr hr gr (ho, wa, sr, ch, lm, sa, co, sm, fs, gs, gt) N h) (hh : h < 1000000) (hn : 500 < n) (P0 : bX8) (R0 : bX9) (stk : Nat → Int32) (hgt : Int32) (N0 va0 : Nat → Int32) : ∀ i : Nat, i ≤ no → ∃ (sr' ch' lm' sa' co' : Int32) (fs' gs' N' stk' : Nat → Int32) (ht' : Int32) (va' : Nat → Int32),
    (∀ n0, iter (fun s : Int32 × Int32 × Int32 × Int32 × Int32 × Int32 × (Nat → Int32) × (Nat → Int32) × (Nat → Int32) × Int32 => f_X8_passHour_L2 n P0 R0 F G O s.1 ho wa s.2.1 s.2.2.1 s.2.2.2.1 s.2.2.2.2.1 s.2.2.2.2.2.1 sm s.2.2.2.2.2.2.1 s.2.2.2.2.2.2.2.1 gt s.2.2.2.2.2.2.2.2.1 s.2.2.2.2.2.2.2.2.2) (n0 + i) (nI 0, sr, ch, lm, sa, co, fs, gs, stk, hgt) = iter (fun s : Int32 × Int32 × Int32 × Int32 × Int32 × Int32 × (Nat → Int32) × (Nat → Int32) × (Nat → Int32) × Int32 => f_X8_passHour_L2 n P0 R0 F G O s.1 ho wa s.2.1 s.2.2.1 s.2.2.2.1 s.2.2.2.2.1 s.2.2.2.2.2.1 sm s.2.2.2.2.2.2.1 s.2.2.2.2.2.2.2.1 gt s.2.2.2.2.2.2.2.2.1 s.2.2.2.2.2.2.2.2.2) n0 (nI i, sr', ch', lm', sa', co', fs', gs', stk', ht')) ∧
    (∀ n0, iter (fun s : Int32 × (Nat → Int32) × (Nat → Int32) => f_X14_hourOn_L2 n (th, ta, bs, ea, kd, nu, po, ln, tk, wr, er, et, dp, fn, gn, va0, N0, kp) T s.1 s.2.1 s.2.2) (n0 + i) (nI 0, va, N) = iter (fun s : Int32 × (Nat → Int32) × (Nat → Int32) => f_X14_hourOn_L2 n (th, ta, bs, ea, kd, nu, po, ln, tk, wr, er, et, dp, fn, gn, va0, N0, kp) T s.1 s.2.1 s.2.2) n0 (nI i, va', N')) ∧
    RPt nf ng fr hr gr (ho, wa, sr', ch', lm', sa', co', sm, fs', gs', gt) N' h
  | 0, _ => ⟨sr, ch, lm, sa, co, fs, gs, N, stk, hgt, va, fun _ => rfl, fun _ => rfl, ht⟩
  | i + 1, hi => by
    obtain ⟨sr', ch', lm', sa', co', fs', gs', N', stk', ht', va', e1, e2, e3⟩ := k_orders hp ho' ht hh hn P0 R0 stk hgt N0 va0 i (by omega)
    obtain ⟨sr2, ch2, lm2, sa2, co2, fs2, gs2, N2, stk2, ht2, va2, f1, f2, f3⟩ := k_order (n := n) (th := th) (ta := ta) (bs := bs) (ea := ea) (kd := kd) (nu := nu) (po := po) (ln := ln) (tk := tk) (wr := wr) (er := er) (et := et) (dp := dp) (fn := fn) (gn := gn) (va := va') (kp := kp) hp ho' e3 hh hn (k := i) (by omega) P0 R0 stk' ht' N0 va0
    refine ⟨sr2, ch2, lm2, sa2, co2, fs2, gs2, N2, stk2, ht2, va2, fun n0 => ?_, fun n0 => ?_, f3⟩
    · have e : n0 + (i + 1) = n0 + 1 + i := by omega
      rw [e, e1 (n0 + 1)]
      exact iter_inl f1
    · have e : n0 + (i + 1) = n0 + 1 + i := by omega
      rw [e, e2 (n0 + 1)]
      exact iter_inl f2
/-- the wind, the storm and the clock, behind the orders -/
theorem k_end (hp : RPl F G T nf ng fo fr hr gr) (ho' : RO O T nf ng no) (ht : RPt nf ng fr hr gr (ho, wa, sr, ch, lm, sa, co, sm, fs, gs, gt) N h) (hh : h < 1000000) (hn : 500 < n) (P0 : bX8) (R0 : bX9) (stk : Nat → Int32) (hgt : Int32) (N0 va0 : Nat → Int32) : ∃ (ho' wa' sr' ch' sm' : Int32) (gt' N' : Nat → Int32), f_X8_passHour_L2 n P0 R0 F G O (nI no) ho wa sr ch lm sa co sm fs gs gt stk hgt = some (.inr (ho', wa', sr', ch', lm, sa, co, sm', fs, gs, gt', stk, hgt)) ∧ f_X14_hourOn_L2 n (th, ta, bs, ea, kd, nu, po, ln, tk, wr, er, et, dp, fn, gn, va0, N0, kp) T (nI no) va N = some (.inr (va, N')) ∧ RPt nf ng fr hr gr (ho', wa', sr', ch', lm, sa, co, sm', fs, gs, gt') N' (h + 1) := by
  have p1 := hp.1
  have p2 := hp.2.1
  have p4 := hp.2.2.2.1
  have p6 := hp.2.2.2.2.2.1
  obtain ⟨o1, o2, o3, -⟩ := ho'
  obtain ⟨-, -, ⟨w, w1, w2, w3⟩, -, ⟨c, c1, c2, c3⟩, -⟩ := id ht
  obtain ⟨l1, l2⟩ := wc_le (N := N) hp (i := nf) (by omega)
  have kb := k_blow hp ht hh (n := n) (by omega) w1 c1 w2 c2
  have kw := k_weather (th := th) (ta := ta) (bs := bs) (ea := ea) (kd := kd) (nu := nu) (po := po) (ln := ln) (tk := tk) (wr := wr) (er := er) (et := et) (dp := dp) (fn := fn) (gn := gn) (va := va) (kp := kp) hp ht (n := n) (by omega) w1 c1 w3 c3
  have hw' : wS w (sumN (wmN N T fo) nf) (sumN (cdN N T fo) nf) ≤ 40 := by
    unfold wS
    split
    · exact (cmp1 w (by omega)).2.2.2.2
    · exact Nat.min_le_left _ _
  have hc' : cS c (sumN (wmN N T fo) nf) (sumN (cdN N T fo) nf) ≤ 30 := Nat.min_le_left _ _
  have rb := r_blow p1 ht hw' hc'
  generalize wS w (sumN (wmN N T fo) nf) (sumN (cdN N T fo) nf) = w' at *
  generalize cS c (sumN (wmN N T fo) nf) (sumN (cdN N T fo) nf) = c' at *
  generalize upd (upd N 1 (nI w')) 3 (nI c') = M at *
  have ksC := k_stormC hp rb hh (n := n) (by omega)
  have ksM := k_stormM (th := th) (ta := ta) (bs := bs) (ea := ea) (kd := kd) (nu := nu) (po := po) (ln := ln) (tk := tk) (wr := wr) (er := er) (et := et) (dp := dp) (fn := fn) (gn := gn) (va := va) (kp := kp) hp rb (n := n) (by omega)
  have eM : M 3 = nI c' := by
    obtain ⟨-, -, -, -, ⟨y, -, y2, y3⟩, -⟩ := rb
    exact y3.trans y2.symm
  by_cases d : 12 ≤ c'
  · have hd : nI 12 ≤ M 3 := by rw [eM, nJ_le (by omega) (by omega)]; exact d
    have rs := r_storm (T := T) p1 p2 rb hd
    rw [if_pos hd] at ksM
    have rt := r_tick hp rs hh
    generalize stE M (stM M T ng) = M2 at *
    refine ⟨_, _, _, _, _, _, _, ?_, ?_, rt⟩
    · unfold f_X8_passHour_L2 f_X8_passHour_R86
      simp (disch := omega) only [o2, nJ_le, Nat.le_refl, if_true, sb, kb, nL_12, nJ_lt, if_neg, ksC]
    · have kg := k_gone (N := N0) (th := th) (ta := ta) (bs := bs) (ea := ea) (kd := kd) (nu := nu) (po := po) (ln := ln) (tk := tk) (wr := wr) (er := er) (et := et) (dp := dp) (fn := fn) (gn := gn) (kp := kp) p1 p2 p4 p6 (n := n) (by omega) (upd M2 0 (M2 0 + 1)) va va0
      unfold f_X14_hourOn_L2
      simp (disch := omega) only [o3, nJ_le, Nat.le_refl, if_true, sb, X14_thrown, X14_tape, X14_bytes, X14_errorAt, X14_kind, X14_number, X14_position, X14_length, X14_token, X14_isWrong, X14_error, X14_errorToken, X14_deep, X14_frontName, X14_guestName, X14_kept, kw, ksM, if_neg, nJ_clamp, nL_0, nJ_lt, kg]
  · have hd : ¬ nI 12 ≤ M 3 := by rw [eM, nJ_le (by omega) (by omega)]; exact d
    rw [if_neg hd] at ksM
    have rt := r_tick hp rb hh
    refine ⟨_, _, _, _, _, _, _, ?_, ?_, rt⟩
    · unfold f_X8_passHour_L2 f_X8_passHour_R86
      simp (disch := omega) only [o2, nJ_le, Nat.le_refl, if_true, sb, kb, nL_12, nJ_lt, if_pos]
    · have kg := k_gone (N := N0) (th := th) (ta := ta) (bs := bs) (ea := ea) (kd := kd) (nu := nu) (po := po) (ln := ln) (tk := tk) (wr := wr) (er := er) (et := et) (dp := dp) (fn := fn) (gn := gn) (kp := kp) p1 p2 p4 p6 (n := n) (by omega) (upd M 0 (M 0 + 1)) va va0
      unfold f_X14_hourOn_L2
      simp (disch := omega) only [o3, nJ_le, Nat.le_refl, if_true, sb, X14_thrown, X14_tape, X14_bytes, X14_errorAt, X14_kind, X14_number, X14_position, X14_length, X14_token, X14_isWrong, X14_error, X14_errorToken, X14_deep, X14_frontName, X14_guestName, X14_kept, kw, ksM, if_neg, nJ_clamp, nL_0, nJ_lt, kg]
theorem k_hour (hp : RPl F G T nf ng fo fr hr gr) (ho' : RO O T nf ng no) (ht : RPt nf ng fr hr gr (ho, wa, sr, ch, lm, sa, co, sm, fs, gs, gt) N h) (hh : h < 1000000) (hn : 600 < n) (stk : Nat → Int32) (hgt : Int32) : ∃ (ho2 wa2 sr2 ch2 lm2 sa2 co2 sm2 : Int32) (fs2 gs2 gt2 N2 stk2 : Nat → Int32) (ht2 : Int32) (va2 : Nat → Int32), f_X8_passHour n (ho, wa, sr, ch, lm, sa, co, sm, fs, gs, gt) (stk, hgt) F G O = some (ho2, wa2, sr2, ch2, lm2, sa2, co2, sm2, fs2, gs2, gt2, stk2, ht2) ∧ f_X14_hourOn n (th, ta, bs, ea, kd, nu, po, ln, tk, wr, er, et, dp, fn, gn, va, N, kp) T = some (va2, N2) ∧ RPt nf ng fr hr gr (ho2, wa2, sr2, ch2, lm2, sa2, co2, sm2, fs2, gs2, gt2) N2 (h + 1) := by
  have hno := ho'.1
  obtain ⟨sr', ch', lm', sa', co', fs', gs', N', stk', ht', va', e1, e2, e3⟩ := k_orders (n := n) (th := th) (ta := ta) (bs := bs) (ea := ea) (kd := kd) (nu := nu) (po := po) (ln := ln) (tk := tk) (wr := wr) (er := er) (et := et) (dp := dp) (fn := fn) (gn := gn) (va := va) (kp := kp) hp ho' ht hh (by omega) (ho, wa, sr, ch, lm, sa, co, sm, fs, gs, gt) (stk, hgt) stk hgt N va no (Nat.le_refl _)
  obtain ⟨ho2, wa2, sr2, ch2, sm2, gt2, N2, f1, f2, f3⟩ := k_end (n := n) (th := th) (ta := ta) (bs := bs) (ea := ea) (kd := kd) (nu := nu) (po := po) (ln := ln) (tk := tk) (wr := wr) (er := er) (et := et) (dp := dp) (fn := fn) (gn := gn) (va := va') (kp := kp) hp ho' e3 hh (by omega) (ho, wa, sr, ch, lm, sa, co, sm, fs, gs, gt) (stk, hgt) stk' ht' N va
  have en : n = (n - no - 1) + 1 + no := by omega
  refine ⟨ho2, wa2, sr2, ch2, lm', sa', co', sm2, fs', gs', gt2, N2, stk', ht', va', ?_, ?_, f3⟩
  · unfold f_X8_passHour
    have a := e1 (n - no - 1 + 1)
    rw [← en] at a
    exact a.trans (iter_inr f1)
  · unfold f_X14_hourOn
    have a := e2 (n - no - 1 + 1)
    rw [← en] at a
    exact a.trans (iter_inr f2)
end P14
