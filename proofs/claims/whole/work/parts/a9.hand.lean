/-! the calls by hand, and those on the tape -/
section P71
variable {n q : Nat} {th bs ea tk wr er et dp : Int32} {ta kd nu po ln fn gn va kp : Nat → Int32}
variable {N : Nat → Int32} {bh : bX12} {tp : bX10} {X : bX11} {Tr : bX8} {R TR : bX9} {F dF : bX2} {G dG : bX4} {O dO : bX6} {T Fr : bX13} {ao : Nat → Int64}
variable {ho wa sr ch lm sa co sm : Int32} {fs gs gt : Nat → Int32}
theorem add_subx (a b : Int32) : a + b - a = b := by rw [Int32.add_comm, Int32.add_sub_cancel]
theorem rl_1056 (hn : 2100 < n) (hq : q ≤ 600) (x : Int32) (hR : REL q bh tp (ho, wa, sr, ch, lm, sa, co, sm, fs, gs, gt) F G O (th, ta, bs, ea, kd, nu, po, ln, tk, wr, er, et, dp, fn, gn, va, N, kp) T) : ∃ σ, f_law_1056 n x bh tp X (ho, wa, sr, ch, lm, sa, co, sm, fs, gs, gt) R F G O Tr TR dF dG dO (th, ta, bs, ea, kd, nu, po, ln, tk, wr, er, et, dp, fn, gn, va, N, kp) T Fr ao = some σ ∧ LRel (q + 1) σ := by
  have hR' := hR
  obtain ⟨-, he, hh, nf, ng, no, fo, fr, hr, gr, h1, hp, hO, ht⟩ := hR'
  have h2 : hh < 1000000 := by omega
  have h3 : hh ≤ 30 * (q + 1) := by omega
  replace ht : RPt nf ng fr hr gr (ho, wa, sr, ch, lm, sa, co, sm, fs, gs, gt) N hh := ht
  have hp' := hp
  have ht' := ht
  obtain ⟨p1, p2, p3, p4, p5, p6, p7, p8⟩ := hp'
  obtain ⟨t1, t2, ⟨w3, v3, t3, u3⟩, ⟨w4, v4, t4, u4⟩, ⟨w5, v5, t5, u5⟩, ⟨w6, v6, t6, u6⟩, ⟨w7, v7, t7, u7⟩, t8, t9, t10, t11⟩ := ht'
  rcases fr_in (bh := bh) (P := (ho, wa, sr, ch, lm, sa, co, sm, fs, gs, gt)) (x := x) (N := N) (th := th) (ta := ta) (bs := bs) (ea := ea) (kd := kd) (nu := nu) (po := po) (ln := ln) (tk := tk) (wr := wr) (er := er) (et := et) (dp := dp) (fn := fn) (gn := gn) (va := va) (kp := kp) p1 p3 p4 with ⟨f, hf, e, c1, m1⟩ | ⟨c1, m1⟩
  case inr =>
    have hC : f_X12_steep x bh (ho, wa, sr, ch, lm, sa, co, sm, fs, gs, gt) F = some (.inr ("java/lang/IndexOutOfBoundsException", sr, fs)) := by
      unfold f_X12_steep
      rw [bd c1]
      rfl
    have hM : f_X14_steep x (th, ta, bs, ea, kd, nu, po, ln, tk, wr, er, et, dp, fn, gn, va, N, kp) T = some (0, 1, N) := by
      unfold f_X14_steep
      rw [bd m1]
      rfl
    have hL : f_L_steep x bh (ho, wa, sr, ch, lm, sa, co, sm, fs, gs, gt) F 1 ao = some (1, sr, fs, ao) := by
      unfold f_L_steep
      rw [bd hC]
      show (if ("java/lang/IndexOutOfBoundsException" : String) = "java/lang/IndexOutOfBoundsException" then some ((1 : Int32), sr, fs, ao) else if ("java/lang/IndexOutOfBoundsException" : String) = "java/lang/IllegalStateException" then some ((2 : Int32), sr, fs, ao) else none) = _
      rw [if_pos rfl]
    unfold f_law_1056
    rw [bd hL, bd hM]
    exact ⟨_, lw_t, REL_M hR rfl rfl rfl rfl⟩
  subst e
  have kc := k_steep hp ht h2 hf
  have kn := k_can (th := (0 : Int32)) (N := N) (ta := ta) (bs := bs) (ea := ea) (kd := kd) (nu := nu) (po := po) (ln := ln) (tk := tk) (wr := wr) (er := er) (et := et) (dp := dp) (fn := fn) (gn := gn) (va := va) (kp := kp) ht p1 hf
  by_cases z : N (8 + f) = nI 1
  · rw [if_pos z] at kc
    rw [z] at kn
    have ks := k_steepIt (T := T) (th := (0 : Int32)) (N := N) (ta := ta) (bs := bs) (ea := ea) (kd := kd) (nu := nu) (po := po) (ln := ln) (tk := tk) (wr := wr) (er := er) (et := et) (dp := dp) (fn := fn) (gn := gn) (va := va) (kp := kp) p1 hf
    have hC : f_X12_steep (nI f) bh (ho, wa, sr, ch, lm, sa, co, sm, fs, gs, gt) F = some (.inl (strN N T f, strN N T f, upd fs f (nI 1))) := by
      unfold f_X12_steep
      rw [bd c1]
      refine (bd kc _).trans ?_
      rfl
    have hM : f_X14_steep (nI f) (th, ta, bs, ea, kd, nu, po, ln, tk, wr, er, et, dp, fn, gn, va, N, kp) T = some (strN N T f, 0, upd (upd (upd N 2 (strN N T f)) (8 + f) (nI 0)) (18 + f) (nI 1)) := by
      unfold f_X14_steep
      rw [bd m1, if_neg (show ¬ ((1 : Int32) = 0) by decide)]
      refine (bd kn _).trans ?_
      rw [if_neg (show ¬ (nI 1 = (0 : Int32)) by decide)]
      refine (bd ks _).trans ?_
      rw [if_neg (by decide)]
      have e2 : (upd (upd (upd N 2 (strN N T f)) (8 + f) (nI 0)) (18 + f) (nI 1)) 2 = strN N T f := by rw [upd_else _ _ (by omega), upd_else _ _ (by omega), upd_same]
      show some ((upd (upd (upd N 2 (strN N T f)) (8 + f) (nI 0)) (18 + f) (nI 1)) 2, _, _) = _
      rw [e2]
    have hL : f_L_steep (nI f) bh (ho, wa, sr, ch, lm, sa, co, sm, fs, gs, gt) F 1 ao = some (0, strN N T f, upd fs f (nI 1), vp_updL ao (0 : Int32).toNatClampNeg (Int32.toInt64 (strN N T f))) := by
      unfold f_L_steep
      rw [bd hC]
      rfl
    unfold f_law_1056
    rw [bd hL, bd hM]
    exact ⟨_, lw_ok (ao := ao) (v := strN N T f), REL_P hR rfl rfl rfl h3 hp hO (r_steep hp ht hf z)⟩
  · rw [if_neg z] at kc
    have z0 : N (8 + f) = nI 0 := by
      obtain ⟨t, b1, b2⟩ := ht_bit ht hf
      rw [b2] at z ⊢
      have : t = 0 := by
        rcases (show t = 0 ∨ t = 1 by omega) with y | y
        · exact y
        · rw [y] at z
          exact absurd rfl z
      rw [this]
    rw [z0] at kn
    have hC : f_X12_steep (nI f) bh (ho, wa, sr, ch, lm, sa, co, sm, fs, gs, gt) F = some (.inr ("java/lang/IllegalStateException", sr, fs)) := by
      unfold f_X12_steep
      rw [bd c1]
      refine (bd kc _).trans ?_
      rfl
    have hM : f_X14_steep (nI f) (th, ta, bs, ea, kd, nu, po, ln, tk, wr, er, et, dp, fn, gn, va, N, kp) T = some (0, 2, N) := by
      unfold f_X14_steep
      rw [bd m1, if_neg (show ¬ ((1 : Int32) = 0) by decide)]
      refine (bd kn _).trans ?_
      rfl
    have hL : f_L_steep (nI f) bh (ho, wa, sr, ch, lm, sa, co, sm, fs, gs, gt) F 1 ao = some (2, sr, fs, ao) := by
      unfold f_L_steep
      rw [bd hC]
      show (if ("java/lang/IllegalStateException" : String) = "java/lang/IndexOutOfBoundsException" then some ((1 : Int32), sr, fs, ao) else if ("java/lang/IllegalStateException" : String) = "java/lang/IllegalStateException" then some ((2 : Int32), sr, fs, ao) else none) = _
      rw [if_neg (by decide), if_pos rfl]
    unfold f_law_1056
    rw [bd hL, bd hM]
    exact ⟨_, lw_t2, REL_M hR rfl rfl rfl rfl⟩
theorem rl_1200 (hn : 2100 < n) (hq : q ≤ 600) (x : Int32) (hR : REL q bh tp (ho, wa, sr, ch, lm, sa, co, sm, fs, gs, gt) F G O (th, ta, bs, ea, kd, nu, po, ln, tk, wr, er, et, dp, fn, gn, va, N, kp) T) : ∃ σ, f_law_1200 n x bh tp X (ho, wa, sr, ch, lm, sa, co, sm, fs, gs, gt) R F G O Tr TR dF dG dO (th, ta, bs, ea, kd, nu, po, ln, tk, wr, er, et, dp, fn, gn, va, N, kp) T Fr ao = some σ ∧ LRel (q + 1) σ := by
  have hR' := hR
  obtain ⟨-, he, hh, nf, ng, no, fo, fr, hr, gr, h1, hp, hO, ht⟩ := hR'
  have h2 : hh < 1000000 := by omega
  have h3 : hh ≤ 30 * (q + 1) := by omega
  replace ht : RPt nf ng fr hr gr (ho, wa, sr, ch, lm, sa, co, sm, fs, gs, gt) N hh := ht
  have hp' := hp
  have ht' := ht
  obtain ⟨p1, p2, p3, p4, p5, p6, p7, p8⟩ := hp'
  obtain ⟨t1, t2, ⟨w3, v3, t3, u3⟩, ⟨w4, v4, t4, u4⟩, ⟨w5, v5, t5, u5⟩, ⟨w6, v6, t6, u6⟩, ⟨w7, v7, t7, u7⟩, t8, t9, t10, t11⟩ := ht'
  rcases gu_in (bh := bh) (P := (ho, wa, sr, ch, lm, sa, co, sm, fs, gs, gt)) (x := x) (N := N) (th := th) (ta := ta) (bs := bs) (ea := ea) (kd := kd) (nu := nu) (po := po) (ln := ln) (tk := tk) (wr := wr) (er := er) (et := et) (dp := dp) (fn := fn) (gn := gn) (va := va) (kp := kp) p2 p5 p6 with ⟨f, hf, e, c1, m1⟩ | ⟨c1, m1⟩
  case inr =>
    have hC : f_X12_serve x bh (ho, wa, sr, ch, lm, sa, co, sm, fs, gs, gt) G = some (.inr ("java/lang/IndexOutOfBoundsException", sr, co, gs)) := by
      unfold f_X12_serve
      rw [bd c1]
      rfl
    have hM : f_X14_serve x (th, ta, bs, ea, kd, nu, po, ln, tk, wr, er, et, dp, fn, gn, va, N, kp) T = some (0, 1, N) := by
      unfold f_X14_serve
      rw [bd m1]
      rfl
    have hL : f_L_serve x bh (ho, wa, sr, ch, lm, sa, co, sm, fs, gs, gt) G 1 ao = some (1, sr, co, gs, ao) := by
      unfold f_L_serve
      rw [bd hC]
      show (if ("java/lang/IndexOutOfBoundsException" : String) = "java/lang/IndexOutOfBoundsException" then some ((1 : Int32), sr, co, gs, ao) else if ("java/lang/IndexOutOfBoundsException" : String) = "java/lang/IllegalStateException" then some ((2 : Int32), sr, co, gs, ao) else none) = _
      rw [if_pos rfl]
    unfold f_law_1200
    rw [bd hL, bd hM]
    exact ⟨_, lw_t, REL_M hR rfl rfl rfl rfl⟩
  subst e
  have kc := k_serve hp ht h2 hf
  have kn := k_likesM (th := (0 : Int32)) (N := N) (ta := ta) (bs := bs) (ea := ea) (kd := kd) (nu := nu) (po := po) (ln := ln) (tk := tk) (wr := wr) (er := er) (et := et) (dp := dp) (fn := fn) (gn := gn) (va := va) (kp := kp) hp hf (ht_bitg ht hf) ⟨w3, v3, u3⟩
  by_cases z : lkN N T (N 2) f = 0
  · rw [if_pos z] at kc
    rw [z] at kn
    have hC : f_X12_serve (nI f) bh (ho, wa, sr, ch, lm, sa, co, sm, fs, gs, gt) G = some (.inr ("java/lang/IllegalStateException", sr, co, gs)) := by
      unfold f_X12_serve
      rw [bd c1]
      refine (bd kc _).trans ?_
      rfl
    have hM : f_X14_serve (nI f) (th, ta, bs, ea, kd, nu, po, ln, tk, wr, er, et, dp, fn, gn, va, N, kp) T = some (0, 2, N) := by
      unfold f_X14_serve
      rw [bd m1, if_neg (show ¬ ((1 : Int32) = 0) by decide)]
      refine (bd kn _).trans ?_
      rfl
    have hL : f_L_serve (nI f) bh (ho, wa, sr, ch, lm, sa, co, sm, fs, gs, gt) G 1 ao = some (2, sr, co, gs, ao) := by
      unfold f_L_serve
      rw [bd hC]
      show (if ("java/lang/IllegalStateException" : String) = "java/lang/IndexOutOfBoundsException" then some ((1 : Int32), sr, co, gs, ao) else if ("java/lang/IllegalStateException" : String) = "java/lang/IllegalStateException" then some ((2 : Int32), sr, co, gs, ao) else none) = _
      rw [if_neg (by decide), if_pos rfl]
    unfold f_law_1200
    rw [bd hL, bd hM]
    exact ⟨_, lw_t2, REL_M hR rfl rfl rfl rfl⟩
  · rw [if_neg z] at kc
    have z1 : lkN N T (N 2) f = 1 := by
      have := lkN_le (N := N) (T := T) (N 2) f
      omega
    rw [z1] at kn
    have hst : N (28 + f) = nI 1 := by
      unfold lkN at z1
      by_cases y : N (28 + f) = nI 1 ∧ ¬ N 1 < nI 15 ∧ ¬ N 2 < X13_low T f ∧ ¬ X13_high T f < N 2
      · exact y.1
      · rw [if_neg y] at z1
        omega
    have hs2 : N 2 = sr := u4.trans t4.symm
    have ks := k_serveIt (th := (0 : Int32)) (N := N) (ta := ta) (bs := bs) (ea := ea) (kd := kd) (nu := nu) (po := po) (ln := ln) (tk := tk) (wr := wr) (er := er) (et := et) (dp := dp) (fn := fn) (gn := gn) (va := va) (kp := kp) p2 hf
    have hC : f_X12_serve (nI f) bh (ho, wa, sr, ch, lm, sa, co, sm, fs, gs, gt) G = some (.inl (sr, (if 0 < sr - 3 then sr - 3 else 0), co + sr, upd gs f (nI 1))) := by
      unfold f_X12_serve
      rw [bd c1]
      refine (bd kc _).trans ?_
      rw [if_neg (show ¬ (nI 1 = (0 : Int32)) by decide)]
      show some (Sum.inl (co + sr - co, _, _, _)) = _
      rw [add_subx]
    have hM : f_X14_serve (nI f) (th, ta, bs, ea, kd, nu, po, ln, tk, wr, er, et, dp, fn, gn, va, N, kp) T = some (sr, 0, (upd (upd (upd (upd N 7 (N 7 + N 2)) (28 + f) (nI 0)) (38 + f) (nI 1)) 2 (if 0 < N 2 - 3 then N 2 - 3 else 0))) := by
      unfold f_X14_serve
      rw [bd m1, if_neg (show ¬ ((1 : Int32) = 0) by decide)]
      refine (bd kn _).trans ?_
      rw [if_neg (show ¬ (nI 1 = (0 : Int32)) by decide)]
      refine (bd ks _).trans ?_
      show some (N 2, (0 : Int32), (upd (upd (upd (upd N 7 (N 7 + N 2)) (28 + f) (nI 0)) (38 + f) (nI 1)) 2 (if 0 < N 2 - 3 then N 2 - 3 else 0))) = _
      rw [hs2]
    have hL : f_L_serve (nI f) bh (ho, wa, sr, ch, lm, sa, co, sm, fs, gs, gt) G 1 ao = some (0, (if 0 < sr - 3 then sr - 3 else 0), co + sr, upd gs f (nI 1), vp_updL ao (0 : Int32).toNatClampNeg (Int32.toInt64 sr)) := by
      unfold f_L_serve
      rw [bd hC]
      rfl
    unfold f_law_1200
    rw [bd hL, bd hM]
    exact ⟨_, lw_ok (ao := ao) (v := sr), REL_P hR rfl rfl rfl h3 hp hO (r_serve p1 p2 ht hf hst)⟩
theorem rl_1112 (hn : 2100 < n) (hq : q ≤ 600) (hR : REL q bh tp (ho, wa, sr, ch, lm, sa, co, sm, fs, gs, gt) F G O (th, ta, bs, ea, kd, nu, po, ln, tk, wr, er, et, dp, fn, gn, va, N, kp) T) : ∃ σ, f_law_1112 n bh tp X (ho, wa, sr, ch, lm, sa, co, sm, fs, gs, gt) R F G O Tr TR dF dG dO (th, ta, bs, ea, kd, nu, po, ln, tk, wr, er, et, dp, fn, gn, va, N, kp) T Fr ao = some σ ∧ LRel (q + 1) σ := by
  have hR' := hR
  obtain ⟨-, he, hh, nf, ng, no, fo, fr, hr, gr, h1, hp, hO, ht⟩ := hR'
  have h2 : hh < 1000000 := by omega
  have h3 : hh ≤ 30 * (q + 1) := by omega
  replace ht : RPt nf ng fr hr gr (ho, wa, sr, ch, lm, sa, co, sm, fs, gs, gt) N hh := ht
  have hp' := hp
  have ht' := ht
  obtain ⟨p1, p2, p3, p4, p5, p6, p7, p8⟩ := hp'
  obtain ⟨t1, t2, ⟨w3, v3, t3, u3⟩, ⟨w4, v4, t4, u4⟩, ⟨w5, v5, t5, u5⟩, ⟨w6, v6, t6, u6⟩, ⟨w7, v7, t7, u7⟩, t8, t9, t10, t11⟩ := ht'
  have kc := k_lemon ht
  have ks := k_squeeze (N := N) (th := th) (ta := ta) (bs := bs) (ea := ea) (kd := kd) (nu := nu) (po := po) (ln := ln) (tk := tk) (wr := wr) (er := er) (et := et) (dp := dp) (fn := fn) (gn := gn) (va := va) (kp := kp)
  by_cases z : N 4 = nI 0
  · rw [if_pos z] at kc
    have hC : f_X12_lemon bh (ho, wa, sr, ch, lm, sa, co, sm, fs, gs, gt) = some (.inr ("java/lang/IllegalStateException", ch, lm)) := by
      unfold f_X12_lemon
      rw [bd kc]
      rfl
    have hM : f_X14_lemon (th, ta, bs, ea, kd, nu, po, ln, tk, wr, er, et, dp, fn, gn, va, N, kp) = some (0, 1, N) := by
      unfold f_X14_lemon
      rw [if_neg (by decide)]
      exact (if_pos (show N 4 = 0 from z)).trans rfl
    have hL : f_L_lemon bh (ho, wa, sr, ch, lm, sa, co, sm, fs, gs, gt) 1 ao = some (1, ch, lm, ao) := by
      unfold f_L_lemon
      rw [bd hC]
      exact (if_pos rfl : (if ("java/lang/IllegalStateException" : String) = "java/lang/IllegalStateException" then some ((1 : Int32), ch, lm, ao) else none) = some (1, ch, lm, ao))
    unfold f_law_1112
    rw [bd hL, bd hM]
    exact ⟨_, lw_t, REL_M hR rfl rfl rfl rfl⟩
  · rw [if_neg z] at kc
    have hch : N 3 = ch := u5.trans t5.symm
    have hC : f_X12_lemon bh (ho, wa, sr, ch, lm, sa, co, sm, fs, gs, gt) = some (.inl ((if ch + 6 < 30 then ch + 6 else 30), (if ch + 6 < 30 then ch + 6 else 30), lm - 1)) := by
      unfold f_X12_lemon
      rw [bd kc]
      rfl
    have hM : f_X14_lemon (th, ta, bs, ea, kd, nu, po, ln, tk, wr, er, et, dp, fn, gn, va, N, kp) = some ((if ch + 6 < 30 then ch + 6 else 30), 0, upd (upd N 3 (if N 3 + 6 < 30 then N 3 + 6 else 30)) 4 (N 4 - 1)) := by
      unfold f_X14_lemon
      rw [if_neg (by decide)]
      refine (if_neg (show ¬ (N 4 = 0) from z)).trans ?_
      refine (bd ks _).trans ?_
      rw [if_neg (by decide)]
      have e2 : (upd (upd N 3 (if N 3 + 6 < 30 then N 3 + 6 else 30)) 4 (N 4 - 1)) 3 = (if ch + 6 < 30 then ch + 6 else 30) := by rw [upd_else _ _ (by omega), upd_same, hch]
      show some ((upd (upd N 3 (if N 3 + 6 < 30 then N 3 + 6 else 30)) 4 (N 4 - 1)) 3, (0 : Int32), upd (upd N 3 (if N 3 + 6 < 30 then N 3 + 6 else 30)) 4 (N 4 - 1)) = _
      rw [e2]
    have hL : f_L_lemon bh (ho, wa, sr, ch, lm, sa, co, sm, fs, gs, gt) 1 ao = some (0, (if ch + 6 < 30 then ch + 6 else 30), lm - 1, vp_updL ao (0 : Int32).toNatClampNeg (Int32.toInt64 (if ch + 6 < 30 then ch + 6 else 30))) := by
      unfold f_L_lemon
      rw [bd hC]
      rfl
    unfold f_law_1112
    rw [bd hL, bd hM]
    exact ⟨_, lw_ok (ao := ao) (v := (if ch + 6 < 30 then ch + 6 else 30)), REL_P hR rfl rfl rfl h3 hp hO (r_lemon p1 ht z)⟩
theorem rl_1156 (hn : 2100 < n) (hq : q ≤ 600) (hR : REL q bh tp (ho, wa, sr, ch, lm, sa, co, sm, fs, gs, gt) F G O (th, ta, bs, ea, kd, nu, po, ln, tk, wr, er, et, dp, fn, gn, va, N, kp) T) : ∃ σ, f_law_1156 n bh tp X (ho, wa, sr, ch, lm, sa, co, sm, fs, gs, gt) R F G O Tr TR dF dG dO (th, ta, bs, ea, kd, nu, po, ln, tk, wr, er, et, dp, fn, gn, va, N, kp) T Fr ao = some σ ∧ LRel (q + 1) σ := by
  have hR' := hR
  obtain ⟨-, he, hh, nf, ng, no, fo, fr, hr, gr, h1, hp, hO, ht⟩ := hR'
  have h2 : hh < 1000000 := by omega
  have h3 : hh ≤ 30 * (q + 1) := by omega
  replace ht : RPt nf ng fr hr gr (ho, wa, sr, ch, lm, sa, co, sm, fs, gs, gt) N hh := ht
  have hp' := hp
  have ht' := ht
  obtain ⟨p1, p2, p3, p4, p5, p6, p7, p8⟩ := hp'
  obtain ⟨t1, t2, ⟨w3, v3, t3, u3⟩, ⟨w4, v4, t4, u4⟩, ⟨w5, v5, t5, u5⟩, ⟨w6, v6, t6, u6⟩, ⟨w7, v7, t7, u7⟩, t8, t9, t10, t11⟩ := ht'
  have kc := k_saucer ht
  have ks := k_calm (N := N) (th := th) (ta := ta) (bs := bs) (ea := ea) (kd := kd) (nu := nu) (po := po) (ln := ln) (tk := tk) (wr := wr) (er := er) (et := et) (dp := dp) (fn := fn) (gn := gn) (va := va) (kp := kp)
  by_cases z : N 5 = nI 0
  · rw [if_pos z] at kc
    have hC : f_X12_saucer bh (ho, wa, sr, ch, lm, sa, co, sm, fs, gs, gt) = some (.inr ("java/lang/IllegalStateException", ch, sa)) := by
      unfold f_X12_saucer
      rw [bd kc]
      rfl
    have hM : f_X14_saucer (th, ta, bs, ea, kd, nu, po, ln, tk, wr, er, et, dp, fn, gn, va, N, kp) = some (0, 1, N) := by
      unfold f_X14_saucer
      rw [if_neg (by decide)]
      exact (if_pos (show N 5 = 0 from z)).trans rfl
    have hL : f_L_saucer bh (ho, wa, sr, ch, lm, sa, co, sm, fs, gs, gt) 1 ao = some (1, ch, sa, ao) := by
      unfold f_L_saucer
      rw [bd hC]
      exact (if_pos rfl : (if ("java/lang/IllegalStateException" : String) = "java/lang/IllegalStateException" then some ((1 : Int32), ch, sa, ao) else none) = some (1, ch, sa, ao))
    unfold f_law_1156
    rw [bd hL, bd hM]
    exact ⟨_, lw_t, REL_M hR rfl rfl rfl rfl⟩
  · rw [if_neg z] at kc
    have hch : N 3 = ch := u5.trans t5.symm
    have hC : f_X12_saucer bh (ho, wa, sr, ch, lm, sa, co, sm, fs, gs, gt) = some (.inl ((if 0 < ch - 5 then ch - 5 else 0), (if 0 < ch - 5 then ch - 5 else 0), sa - 1)) := by
      unfold f_X12_saucer
      rw [bd kc]
      rfl
    have hM : f_X14_saucer (th, ta, bs, ea, kd, nu, po, ln, tk, wr, er, et, dp, fn, gn, va, N, kp) = some ((if 0 < ch - 5 then ch - 5 else 0), 0, upd (upd N 3 (if 0 < N 3 - 5 then N 3 - 5 else 0)) 5 (N 5 - 1)) := by
      unfold f_X14_saucer
      rw [if_neg (by decide)]
      refine (if_neg (show ¬ (N 5 = 0) from z)).trans ?_
      refine (bd ks _).trans ?_
      rw [if_neg (by decide)]
      have e2 : (upd (upd N 3 (if 0 < N 3 - 5 then N 3 - 5 else 0)) 5 (N 5 - 1)) 3 = (if 0 < ch - 5 then ch - 5 else 0) := by rw [upd_else _ _ (by omega), upd_same, hch]
      show some ((upd (upd N 3 (if 0 < N 3 - 5 then N 3 - 5 else 0)) 5 (N 5 - 1)) 3, (0 : Int32), upd (upd N 3 (if 0 < N 3 - 5 then N 3 - 5 else 0)) 5 (N 5 - 1)) = _
      rw [e2]
    have hL : f_L_saucer bh (ho, wa, sr, ch, lm, sa, co, sm, fs, gs, gt) 1 ao = some (0, (if 0 < ch - 5 then ch - 5 else 0), sa - 1, vp_updL ao (0 : Int32).toNatClampNeg (Int32.toInt64 (if 0 < ch - 5 then ch - 5 else 0))) := by
      unfold f_L_saucer
      rw [bd hC]
      rfl
    unfold f_law_1156
    rw [bd hL, bd hM]
    exact ⟨_, lw_ok (ao := ao) (v := (if 0 < ch - 5 then ch - 5 else 0)), REL_P hR rfl rfl rfl h3 hp hO (r_saucer p1 ht z)⟩
theorem rl_1256 (hn : 2100 < n) (hq : q ≤ 600) (x : Int32) (hR : REL q bh tp (ho, wa, sr, ch, lm, sa, co, sm, fs, gs, gt) F G O (th, ta, bs, ea, kd, nu, po, ln, tk, wr, er, et, dp, fn, gn, va, N, kp) T) : ∃ σ, f_law_1256 n x bh tp X (ho, wa, sr, ch, lm, sa, co, sm, fs, gs, gt) R F G O Tr TR dF dG dO (th, ta, bs, ea, kd, nu, po, ln, tk, wr, er, et, dp, fn, gn, va, N, kp) T Fr ao = some σ ∧ LRel (q + 1) σ := by
  have hR' := hR
  obtain ⟨-, he, hh, nf, ng, no, fo, fr, hr, gr, h1, hp, hO, ht⟩ := hR'
  have h2 : hh < 1000000 := by omega
  have h3 : hh ≤ 30 * (q + 1) := by omega
  replace ht : RPt nf ng fr hr gr (ho, wa, sr, ch, lm, sa, co, sm, fs, gs, gt) N hh := ht
  have hp' := hp
  have ht' := ht
  obtain ⟨p1, p2, p3, p4, p5, p6, p7, p8⟩ := hp'
  obtain ⟨t1, t2, ⟨w3, v3, t3, u3⟩, ⟨w4, v4, t4, u4⟩, ⟨w5, v5, t5, u5⟩, ⟨w6, v6, t6, u6⟩, ⟨w7, v7, t7, u7⟩, t8, t9, t10, t11⟩ := ht'
  have hi := k_isIn3 x (nI 0) (nI 40)
  by_cases z : x < nI 0 ∨ nI 40 < x
  · rw [if_pos z] at hi
    have hC : f_X12_heat x bh (ho, wa, sr, ch, lm, sa, co, sm, fs, gs, gt) = some (.inr ("java/lang/IllegalArgumentException", wa)) := by
      unfold f_X12_heat
      by_cases y : x < 0
      · rw [if_pos y]
      · rw [if_neg y, if_neg (show ¬ x ≤ (40 : Int32) by
          rcases z with z | z
          · exact absurd z y
          · exact Int32.not_le.2 z)]
    have hM : f_X14_heat x (th, ta, bs, ea, kd, nu, po, ln, tk, wr, er, et, dp, fn, gn, va, N, kp) = some (0, 1, N) := by
      unfold f_X14_heat
      refine (bd hi _).trans ?_
      rfl
    have hL : f_L_heat x bh (ho, wa, sr, ch, lm, sa, co, sm, fs, gs, gt) 1 ao = some (1, wa, ao) := by
      unfold f_L_heat
      rw [bd hC]
      exact (if_pos rfl : (if ("java/lang/IllegalArgumentException" : String) = "java/lang/IllegalArgumentException" then some ((1 : Int32), wa, ao) else none) = some (1, wa, ao))
    unfold f_law_1256
    rw [bd hL, bd hM]
    exact ⟨_, lw_t, REL_M hR rfl rfl rfl rfl⟩
  · rw [if_neg z] at hi
    obtain ⟨e, e0, e1⟩ := nI_rng (x := x) (lo := 0) (hi := 40) (by omega) (by omega) (fun y => z (Or.inl y)) (fun y => z (Or.inr y))
    have hw : N 1 = wa := u3.trans t3.symm
    have hC : f_X12_heat x bh (ho, wa, sr, ch, lm, sa, co, sm, fs, gs, gt) = some (.inl (wa, x)) := by
      unfold f_X12_heat
      rw [if_neg (show ¬ x < 0 from fun y => z (Or.inl y)), if_pos (show x ≤ (40 : Int32) from Int32.not_lt.1 (fun y => z (Or.inr y)))]
    have hM : f_X14_heat x (th, ta, bs, ea, kd, nu, po, ln, tk, wr, er, et, dp, fn, gn, va, N, kp) = some (wa, 0, upd N 1 x) := by
      unfold f_X14_heat
      refine (bd hi _).trans ?_
      rw [if_neg (show ¬ (nI 1 = (0 : Int32)) by decide), if_neg (by decide), if_neg (by decide)]
      show some (N 1, (0 : Int32), upd N 1 x) = _
      rw [hw]
    have hL : f_L_heat x bh (ho, wa, sr, ch, lm, sa, co, sm, fs, gs, gt) 1 ao = some (0, x, vp_updL ao (0 : Int32).toNatClampNeg (Int32.toInt64 wa)) := by
      unfold f_L_heat
      rw [bd hC]
      rfl
    have hr := r_heat p1 ht (w := x.toNatClampNeg) e1
    rw [← e] at hr
    unfold f_law_1256
    rw [bd hL, bd hM]
    exact ⟨_, lw_ok (ao := ao) (v := wa), REL_P hR rfl rfl rfl h3 hp hO hr⟩
theorem REL_tp {q : Nat} {bh bh' : bX12} {tp' : bX10} {P : bX8} {M M' : bX14} {l : Nat} (h : REL q bh tp P F G O M T) (e1 : TPR (X10_bytes tp') (X14_tape M') l) (e2 : X10_length tp' = nI l) (e3 : X14_bytes M' = nI l) (e4 : bh' = X14_errorAt M') (e5 : X14_now M' = X14_now M) : REL (q + 1) bh' tp' P F G O M' T := by
  obtain ⟨-, -, hh, nf, ng, no, fo, fr, hr, gr, h1, hp, hO, ht⟩ := h
  refine ⟨⟨l, e1, e2, e3⟩, e4, hh, nf, ng, no, fo, fr, hr, gr, by omega, hp, hO, ?_⟩
  rw [e5]
  exact ht
theorem rl_308 (hn : 2100 < n) (hq : q ≤ 600) (x : Int32) {P : bX8} (hR : REL q bh tp P F G O (th, ta, bs, ea, kd, nu, po, ln, tk, wr, er, et, dp, fn, gn, va, N, kp) T) : ∃ σ, f_law_308 n x bh tp X P R F G O Tr TR dF dG dO (th, ta, bs, ea, kd, nu, po, ln, tk, wr, er, et, dp, fn, gn, va, N, kp) T Fr ao = some σ ∧ LRel (q + 1) σ := by
  obtain ⟨bT, tl⟩ := tp
  have hR' := hR
  obtain ⟨⟨len, a1, a2, a3⟩, he, -⟩ := hR'
  replace a2 : tl = nI len := a2
  replace a3 : bs = nI len := a3
  subst a2 a3
  have h0 := a1.1
  have hi := k_isIn3 x (nI 0) (nI len)
  by_cases z : x < nI 0 ∨ nI len < x
  · rw [if_pos z] at hi
    have hC : f_X12_trim x bh (bT, nI len) = some (.inr ("java/lang/IllegalArgumentException", nI len)) := by
      unfold f_X12_trim
      by_cases y : x < 0
      · rw [if_pos y]
      · rw [if_neg y, if_neg (show ¬ x ≤ nI len by
          rcases z with z | z
          · exact absurd z y
          · exact Int32.not_le.2 z)]
    have hM : f_X14_trim x (th, ta, nI len, ea, kd, nu, po, ln, tk, wr, er, et, dp, fn, gn, va, N, kp) = some (0, 1, nI len) := by
      unfold f_X14_trim
      refine (bd hi _).trans ?_
      rfl
    have hL : f_L_trim x bh (bT, nI len) 1 ao = some (1, nI len, ao) := by
      unfold f_L_trim
      rw [bd hC]
      exact (if_pos rfl : (if ("java/lang/IllegalArgumentException" : String) = "java/lang/IllegalArgumentException" then some ((1 : Int32), nI len, ao) else none) = some (1, nI len, ao))
    unfold f_law_308
    rw [bd hL, bd hM]
    exact ⟨_, lw_t, REL_M hR rfl rfl rfl rfl⟩
  · rw [if_neg z] at hi
    obtain ⟨e, el⟩ := nI_self (x := x) (fun y => z (Or.inl y))
    have e1 : x.toNatClampNeg ≤ len := by
      rcases Nat.lt_or_ge len x.toNatClampNeg with y | y
      · exfalso
        apply z
        right
        rw [e, nJ_lt (by omega) (by omega)]
        exact y
      · exact y
    have hC : f_X12_trim x bh (bT, nI len) = some (.inl (x, x)) := by
      unfold f_X12_trim
      rw [if_neg (show ¬ x < 0 from fun y => z (Or.inl y)), if_pos (show x ≤ nI len from Int32.not_lt.1 (fun y => z (Or.inr y)))]
    have hM : f_X14_trim x (th, ta, nI len, ea, kd, nu, po, ln, tk, wr, er, et, dp, fn, gn, va, N, kp) = some (x, 0, x) := by
      unfold f_X14_trim
      refine (bd hi _).trans ?_
      rfl
    have hL : f_L_trim x bh (bT, nI len) 1 ao = some (0, x, vp_updL ao (0 : Int32).toNatClampNeg (Int32.toInt64 x)) := by
      unfold f_L_trim
      rw [bd hC]
      rfl
    unfold f_law_308
    rw [bd hL, bd hM]
    exact ⟨_, lw_ok (ao := ao) (v := x), REL_tp hR (TPR_cut a1 e1) e e he rfl⟩
theorem rl_204 (hn : 2100 < n) (hq : q ≤ 600) (x0 x1 x2 x3 x4 : Int32) {P : bX8} (hR : REL q bh tp P F G O (th, ta, bs, ea, kd, nu, po, ln, tk, wr, er, et, dp, fn, gn, va, N, kp) T) : ∃ σ, f_law_204 n x0 x1 x2 x3 x4 bh tp X P R F G O Tr TR dF dG dO (th, ta, bs, ea, kd, nu, po, ln, tk, wr, er, et, dp, fn, gn, va, N, kp) T Fr ao = some σ ∧ LRel (q + 1) σ := by
  obtain ⟨bT, tl⟩ := tp
  have hR' := hR
  obtain ⟨⟨len, a1, a2, a3⟩, he, -⟩ := hR'
  replace a2 : tl = nI len := a2
  replace a3 : bs = nI len := a3
  subst a2 a3
  have h0 := a1.1
  have hC := c_feed (bT := bT) (bh := bh) hn h0 x0 x1 x2 x3 x4
  have hM := m_feed (N := N) (th := th) (ta := ta) (ea := ea) (kd := kd) (nu := nu) (po := po) (ln := ln) (tk := tk) (wr := wr) (er := er) (et := et) (dp := dp) (fn := fn) (gn := gn) (va := va) (kp := kp) hn h0 x0 x1 x2 x3 x4
  by_cases z : len + 20 ≤ 2000
  · rw [if_pos z] at hC hM
    have hL : f_L_feed n x0 x1 x2 x3 x4 bh (bT, nI len) 1 ao = some (0, ap20 cB bT len x0 x1 x2 x3 x4, nI (len + 20), vp_updL ao (0 : Int32).toNatClampNeg (Int32.toInt64 (nI (len + 20)))) := by
      unfold f_L_feed
      rw [bd hC]
      rfl
    unfold f_law_204
    rw [bd hL, bd hM]
    exact ⟨_, lw_ok (ao := ao) (v := nI (len + 20)), REL_tp hR (TPR_20 a1 z x0 x1 x2 x3 x4) rfl rfl he rfl⟩
  · rw [if_neg z] at hC hM
    have hL : f_L_feed n x0 x1 x2 x3 x4 bh (bT, nI len) 1 ao = some (1, bT, nI len, ao) := by
      unfold f_L_feed
      rw [bd hC]
      exact (if_pos rfl : (if ("java/lang/IllegalStateException" : String) = "java/lang/IllegalStateException" then some ((1 : Int32), bT, nI len, ao) else none) = some (1, bT, nI len, ao))
    unfold f_law_204
    rw [bd hL, bd hM]
    exact ⟨_, lw_t, REL_M hR rfl rfl rfl rfl⟩
theorem rl_364 (hn : 2100 < n) (hq : q ≤ 600) {P : bX8} (hR : REL q bh tp P F G O (th, ta, bs, ea, kd, nu, po, ln, tk, wr, er, et, dp, fn, gn, va, N, kp) T) : ∃ σ, f_law_364 n bh tp X P R F G O Tr TR dF dG dO (th, ta, bs, ea, kd, nu, po, ln, tk, wr, er, et, dp, fn, gn, va, N, kp) T Fr ao = some σ ∧ LRel (q + 1) σ := by
  obtain ⟨bT, tl⟩ := tp
  have hR' := hR
  obtain ⟨⟨len, a1, a2, a3⟩, he, hh, nf, ng, no, fo, fr, hr, gr, h1, hp, hO, ht⟩ := hR'
  replace a2 : tl = nI len := a2
  replace a3 : bs = nI len := a3
  subst a2 a3
  obtain ⟨Y, hY⟩ := TPE_of a1
  obtain ⟨u, w, hC, hM, b1, b2, b3, b4, b5, hB⟩ := teach_both (N := N) (bh := bh) (X0 := X) (P := P) (dF := dF) (dG := dG) (dO := dO) (To := T) (Fr := Fr) (th := th) (ea := ea) (kd := kd) (nu := nu) (po := po) (ln := ln) (tk := tk) (wr := wr) (er := er) (et := et) (dp := dp) (fn := fn) (gn := gn) (va := va) (kp := kp) hY hn
  have hT0 : TPR bT ta 0 := TPR_cut a1 (Nat.zero_le _)
  unfold f_law_364
  rw [bd hC]
  rcases hB with ⟨c1, c2, c3, c4⟩ | ⟨c1, nf', ng', no', fo', fr', hr', gr', c2, c3, c4⟩
  · rw [if_neg (show ¬ (u.2.1 = true) by rw [c1]; decide)]
    refine ⟨_, (bd hM _).trans (if_pos b1), ?_⟩
    refine ⟨⟨0, hT0, b4, b3⟩, b5, hh, nf, ng, no, fo, fr, hr, gr, by omega, ?_, ?_, ?_⟩
    · show RPl F G (teTo w) nf ng fo fr hr gr
      rw [c4]
      exact hp
    · show RO O (teTo w) nf ng no
      rw [c4]
      exact hO
    · show RPt nf ng fr hr gr (tcP u) (teN w) hh
      rw [c2, c3]
      exact ht
  · rw [if_pos c1]
    refine ⟨_, (bd hM _).trans (if_pos b1), ?_⟩
    exact ⟨⟨0, hT0, b4, b3⟩, b5, 0, nf', ng', no', fo', fr', hr', gr', by omega, c2, c3, c4⟩
end P71
