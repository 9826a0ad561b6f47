/-! the calls about one front, one guest -/
theorem lw_t {α : Type} {a : Option α} {x : α} : ((some (1 : Int32)).bind fun u3 => if u3 = (1 : Int32) then if (1 : Int32) = 0 then a else some x else none) = some x := rfl
theorem lw_t2 {α : Type} {a : Option α} {x : α} : ((some (2 : Int32)).bind fun u3 => if u3 = (2 : Int32) then if (2 : Int32) = 0 then a else some x else none) = some x := rfl
theorem lgc (a : Int64) : lg_cmp a a = 0 := (cmp_eq a a).mpr rfl
theorem lw_ok {α : Type} {a : Option α} {x : α} {ao : Nat → Int64} {v : Int32} : ((some (0 : Int32)).bind fun u3 => if u3 = (0 : Int32) then if (0 : Int32) = 0 then if (0 : Int32) < 0 ∨ 1 ≤ (0 : Int32).toNatClampNeg then none else if (lg_cmp ((vp_updL ao (0 : Int32).toNatClampNeg (Int32.toInt64 v)) (0 : Int32).toNatClampNeg) (Int32.toInt64 v)) = 0 then some x else none else a else none) = some x := by
  rw [sb, if_pos rfl, if_pos rfl, if_neg (by decide), vp_same, if_pos (lgc _)]
theorem lw_b0 {α : Type} {a : Option α} {x : α} {ao : Nat → Int64} {y : Option α} : ((some (0 : Int32)).bind fun u3 => if u3 = (0 : Int32) then if (0 : Int32) = 0 then if (0 : Int32) < 0 ∨ 1 ≤ (0 : Int32).toNatClampNeg then none else if (0 : Int32) = 0 then if (lg_cmp ((vp_updL ao (0 : Int32).toNatClampNeg 0) (0 : Int32).toNatClampNeg) 0) = 0 then some x else none else y else a else none) = some x := by
  rw [sb, if_pos rfl, if_pos rfl, if_neg (by decide), if_pos rfl, vp_same, if_pos (lgc _)]
theorem lw_b1 {α : Type} {a : Option α} {x : α} {ao : Nat → Int64} {y : Option α} : ((some (0 : Int32)).bind fun u3 => if u3 = (0 : Int32) then if (0 : Int32) = 0 then if (0 : Int32) < 0 ∨ 1 ≤ (0 : Int32).toNatClampNeg then none else if (1 : Int32) = 0 then y else if (lg_cmp ((vp_updL ao (0 : Int32).toNatClampNeg 1) (0 : Int32).toNatClampNeg) 1) = 0 then some x else none else a else none) = some x := by
  rw [sb, if_pos rfl, if_pos rfl, if_neg (by decide), if_neg (by decide), vp_same, if_pos (lgc _)]
theorem x_rng {x : Int32} {m : Nat} (hm : m ≤ 10) : (∃ f, f < m ∧ x = nI f) ∨ (x < nI 0 ∨ nI m ≤ x) := by
  by_cases h0 : x < nI 0
  · exact Or.inr (Or.inl h0)
  · obtain ⟨e, hlt⟩ := nI_self h0
    by_cases h1 : x.toNatClampNeg < m
    · exact Or.inl ⟨_, h1, e⟩
    · refine Or.inr (Or.inr ?_)
      rw [e, nJ_le (by omega) (by omega)]
      omega
theorem x_in {m f : Nat} (hm : m ≤ 10) (hf : f < m) : ¬ (nI f < nI 0 ∨ nI m - nI 1 < nI f) := by
  rw [nJ_sub (by omega), nJ_lt (by omega) (by omega), nJ_lt (by omega) (by omega)]
  omega
theorem x_out {x : Int32} {m : Nat} (hm : m ≤ 10) (h : x < nI 0 ∨ nI m ≤ x) : x < nI 0 ∨ nI m - nI 1 < x := by
  rcases h with h | h
  · exact Or.inl h
  · refine Or.inr ?_
    rw [Int32.lt_iff_toInt_lt, nJ_subI (by omega) (by omega)]
    rw [Int32.le_iff_toInt_le] at h
    have e : (nI m : Int32).toInt = (m : Int) := Int32.toInt_ofNat_of_lt (by omega)
    omega
section P70
variable {n q : Nat} {th bs ea tk wr er et dp : Int32} {ta kd nu po ln fn gn va kp : Nat → Int32}
variable {N : Nat → Int32} {bh : bX12} {tp : bX10} {X : bX11} {P Tr : bX8} {R TR : bX9} {F dF : bX2} {G dG : bX4} {O dO : bX6} {T Fr : bX13} {ao : Nat → Int64} {nf ng : Nat} {x : Int32}
theorem fr_in (hm : nf ≤ 10) (p3 : X2_count F = nI nf) (p4 : X13_fronts T = nI nf) : (∃ f, f < nf ∧ x = nI f ∧ f_X12_requireFront x bh P F = some (.inl ()) ∧ f_X14_isFront x (th, ta, bs, ea, kd, nu, po, ln, tk, wr, er, et, dp, fn, gn, va, N, kp) T = some (1, 0)) ∨ (f_X12_requireFront x bh P F = some (.inr ("java/lang/IndexOutOfBoundsException", ())) ∧ f_X14_isFront x (th, ta, bs, ea, kd, nu, po, ln, tk, wr, er, et, dp, fn, gn, va, N, kp) T = some (0, 1)) := by
  have hi := k_isIn3 x (nI 0) (nI nf - nI 1)
  rcases x_rng (x := x) hm with ⟨f, hf, e⟩ | h
  · left
    subst e
    refine ⟨f, hf, rfl, ?_, ?_⟩
    · unfold f_X12_requireFront
      rw [bd (k_fhas p3 hm hf)]
      rfl
    · rw [if_neg (x_in hm hf)] at hi
      unfold f_X14_isFront
      rw [p4]
      refine (bd hi _).trans ?_
      rfl
  · right
    refine ⟨?_, ?_⟩
    · have hh : f_X2_has x F = some 0 := by
        unfold f_X2_has
        rcases h with h | h
        · rw [if_pos (show x < 0 from h)]
        · by_cases q : x < 0
          · rw [if_pos q]
          · rw [if_neg q, p3, if_pos h]
      unfold f_X12_requireFront
      rw [bd hh]
      rfl
    · rw [if_pos (x_out hm h)] at hi
      unfold f_X14_isFront
      rw [p4]
      refine (bd hi _).trans ?_
      rfl
theorem gu_in (hm : ng ≤ 10) (p5 : X4_count G = nI ng) (p6 : X13_guests T = nI ng) : (∃ f, f < ng ∧ x = nI f ∧ f_X12_requireGuest x bh P G = some (.inl ()) ∧ f_X14_isGuest x (th, ta, bs, ea, kd, nu, po, ln, tk, wr, er, et, dp, fn, gn, va, N, kp) T = some (1, 0)) ∨ (f_X12_requireGuest x bh P G = some (.inr ("java/lang/IndexOutOfBoundsException", ())) ∧ f_X14_isGuest x (th, ta, bs, ea, kd, nu, po, ln, tk, wr, er, et, dp, fn, gn, va, N, kp) T = some (0, 1)) := by
  have hi := k_isIn3 x (nI 0) (nI ng - nI 1)
  rcases x_rng (x := x) hm with ⟨f, hf, e⟩ | h
  · left
    subst e
    refine ⟨f, hf, rfl, ?_, ?_⟩
    · unfold f_X12_requireGuest
      rw [bd (k_ghas p5 hm hf)]
      rfl
    · rw [if_neg (x_in hm hf)] at hi
      unfold f_X14_isGuest
      rw [p6]
      refine (bd hi _).trans ?_
      rfl
  · right
    refine ⟨?_, ?_⟩
    · have hh : f_X4_has x G = some 0 := by
        unfold f_X4_has
        rcases h with h | h
        · rw [if_pos (show x < 0 from h)]
        · by_cases q : x < 0
          · rw [if_pos q]
          · rw [if_neg q, p5, if_pos h]
      unfold f_X12_requireGuest
      rw [bd hh]
      rfl
    · rw [if_pos (x_out hm h)] at hi
      unfold f_X14_isGuest
      rw [p6]
      refine (bd hi _).trans ?_
      rfl
theorem rl_559 (hn : 2100 < n) (hq : q ≤ 600) (x : Int32) (hR : REL q bh tp P F G O (th, ta, bs, ea, kd, nu, po, ln, tk, wr, er, et, dp, fn, gn, va, N, kp) T) : ∃ σ, f_law_559 n x bh tp X P R F G O Tr TR dF dG dO (th, ta, bs, ea, kd, nu, po, ln, tk, wr, er, et, dp, fn, gn, va, N, kp) T Fr ao = some σ ∧ LRel (q + 1) σ := by
  have hR' := hR
  obtain ⟨-, he, hh, nf, ng, no, fo, fr, hr, gr, h1, hp, ho, ht⟩ := hR'
  have h2 : hh < 1000000 := by omega
  replace ht : RPt nf ng fr hr gr P N hh := ht
  have hp' := hp
  have ht' := ht
  obtain ⟨p1, p2, p3, p4, p5, p6, p7, p8⟩ := hp'
  obtain ⟨t1, t2, ⟨w3, -, t3, u3⟩, ⟨w4, -, t4, u4⟩, ⟨w5, -, t5, u5⟩, ⟨w6, -, t6, u6⟩, ⟨w7, -, t7, u7⟩, t8, t9, t10, t11⟩ := ht'
  rcases fr_in (bh := bh) (P := P) (x := x) (N := N) (th := th) (ta := ta) (bs := bs) (ea := ea) (kd := kd) (nu := nu) (po := po) (ln := ln) (tk := tk) (wr := wr) (er := er) (et := et) (dp := dp) (fn := fn) (gn := gn) (va := va) (kp := kp) p1 p3 p4 with ⟨f, hf, e, c1, m1⟩ | ⟨c1, m1⟩
  case inr =>
    have hC : f_X12_isWarm x bh P F = some (.inr ("java/lang/IndexOutOfBoundsException", ())) := by
      unfold f_X12_isWarm
      rw [bd c1]
      rfl
    have hM : f_X14_isWarm x (th, ta, bs, ea, kd, nu, po, ln, tk, wr, er, et, dp, fn, gn, va, N, kp) T = some (0, 1) := by
      unfold f_X14_isWarm
      rw [bd m1]
      rfl
    have hL : f_L_isWarm x bh P F 1 ao = some (1, ao) := by
      unfold f_L_isWarm
      rw [bd hC]
      exact (if_pos rfl : (if ("java/lang/IndexOutOfBoundsException" : String) = "java/lang/IndexOutOfBoundsException" then some ((1 : Int32), ao) else none) = some (1, ao))
    unfold f_law_559
    rw [bd hL, bd hM]
    exact ⟨_, lw_t, REL_M hR rfl rfl rfl rfl⟩
  subst e
  have ci : ¬ ((nI f) < 0 ∨ 10 ≤ (nI f).toNatClampNeg) := by rw [nJ_clamp (by omega), nL_0, nJ_lt (by omega) (by omega)]; omega
  obtain ⟨b, hb, hb4⟩ : ∃ b : Nat, b ≤ 1 ∧ X2_warm F f = nI b := by
    rcases (p7 f hf).1 with z | z
    · exact ⟨0, by omega, z⟩
    · exact ⟨1, by omega, z⟩
  have hb3 : X13_warm T f = nI b := (p7 f hf).2.1.trans hb4
  have hC : f_X12_isWarm (nI f) bh P F = some (.inl (nI b)) := by
    unfold f_X12_isWarm
    rw [bd c1]
    show (if (nI f) < 0 ∨ 10 ≤ (nI f).toNatClampNeg then none else if vp_nar .boolean ((X2_warm F) (nI f).toNatClampNeg) = (X2_warm F) (nI f).toNatClampNeg then some (Sum.inl ((X2_warm F) (nI f).toNatClampNeg)) else none) = _
    rw [if_neg ci, nJ_clamp (by omega), hb4, if_pos (vpn_b hb)]
  have hM : f_X14_isWarm (nI f) (th, ta, bs, ea, kd, nu, po, ln, tk, wr, er, et, dp, fn, gn, va, N, kp) T = some (nI b, 0) := by
    unfold f_X14_isWarm
    rw [bd m1, if_neg (show ¬ ((1 : Int32) = 0) by decide), if_neg (show ¬ ((nI f) < 0 ∨ 11 ≤ (nI f).toNatClampNeg) by rw [nJ_clamp (by omega), nL_0, nJ_lt (by omega) (by omega)]; omega), nJ_clamp (by omega), hb3]
    have hb2 : b = 0 ∨ b = 1 := by omega
    rcases hb2 with e | e <;> subst e <;> rfl
  have key : ∀ b : Nat, b ≤ 1 → f_X12_isWarm (nI f) bh P F = some (.inl (nI b)) → f_X14_isWarm (nI f) (th, ta, bs, ea, kd, nu, po, ln, tk, wr, er, et, dp, fn, gn, va, N, kp) T = some (nI b, 0) → ∃ σ, f_law_559 n (nI f) bh tp X P R F G O Tr TR dF dG dO (th, ta, bs, ea, kd, nu, po, ln, tk, wr, er, et, dp, fn, gn, va, N, kp) T Fr ao = some σ ∧ LRel (q + 1) σ := by
    intro b hb hC hM
    have hb2 : b = 0 ∨ b = 1 := by omega
    rcases hb2 with e | e
    · subst e
      have hL : f_L_isWarm (nI f) bh P F 1 ao = some (0, vp_updL ao (0 : Int32).toNatClampNeg 0) := by
        unfold f_L_isWarm
        rw [bd hC]
        rfl
      unfold f_law_559
      rw [bd hL, bd hM]
      exact ⟨_, lw_b0 (ao := ao), REL_M hR rfl rfl rfl rfl⟩
    · subst e
      have hL : f_L_isWarm (nI f) bh P F 1 ao = some (0, vp_updL ao (0 : Int32).toNatClampNeg 1) := by
        unfold f_L_isWarm
        rw [bd hC]
        rfl
      unfold f_law_559
      rw [bd hL, bd hM]
      exact ⟨_, lw_b1 (ao := ao), REL_M hR rfl rfl rfl rfl⟩
  exact key b hb hC hM
theorem rl_622 (hn : 2100 < n) (hq : q ≤ 600) (x : Int32) (hR : REL q bh tp P F G O (th, ta, bs, ea, kd, nu, po, ln, tk, wr, er, et, dp, fn, gn, va, N, kp) T) : ∃ σ, f_law_622 n x bh tp X P R F G O Tr TR dF dG dO (th, ta, bs, ea, kd, nu, po, ln, tk, wr, er, et, dp, fn, gn, va, N, kp) T Fr ao = some σ ∧ LRel (q + 1) σ := by
  have hR' := hR
  obtain ⟨-, he, hh, nf, ng, no, fo, fr, hr, gr, h1, hp, ho, ht⟩ := hR'
  have h2 : hh < 1000000 := by omega
  replace ht : RPt nf ng fr hr gr P N hh := ht
  have hp' := hp
  have ht' := ht
  obtain ⟨p1, p2, p3, p4, p5, p6, p7, p8⟩ := hp'
  obtain ⟨t1, t2, ⟨w3, -, t3, u3⟩, ⟨w4, -, t4, u4⟩, ⟨w5, -, t5, u5⟩, ⟨w6, -, t6, u6⟩, ⟨w7, -, t7, u7⟩, t8, t9, t10, t11⟩ := ht'
  rcases fr_in (bh := bh) (P := P) (x := x) (N := N) (th := th) (ta := ta) (bs := bs) (ea := ea) (kd := kd) (nu := nu) (po := po) (ln := ln) (tk := tk) (wr := wr) (er := er) (et := et) (dp := dp) (fn := fn) (gn := gn) (va := va) (kp := kp) p1 p3 p4 with ⟨f, hf, e, c1, m1⟩ | ⟨c1, m1⟩
  case inr =>
    have hC : f_X12_forceOf x bh P F = some (.inr ("java/lang/IndexOutOfBoundsException", ())) := by
      unfold f_X12_forceOf
      rw [bd c1]
      rfl
    have hM : f_X14_forceOf x (th, ta, bs, ea, kd, nu, po, ln, tk, wr, er, et, dp, fn, gn, va, N, kp) T = some (0, 1) := by
      unfold f_X14_forceOf
      rw [bd m1]
      rfl
    have hL : f_L_forceOf x bh P F 1 ao = some (1, ao) := by
      unfold f_L_forceOf
      rw [bd hC]
      exact (if_pos rfl : (if ("java/lang/IndexOutOfBoundsException" : String) = "java/lang/IndexOutOfBoundsException" then some ((1 : Int32), ao) else none) = some (1, ao))
    unfold f_law_622
    rw [bd hL, bd hM]
    exact ⟨_, lw_t, REL_M hR rfl rfl rfl rfl⟩
  subst e
  have ci : ¬ ((nI f) < 0 ∨ 10 ≤ (nI f).toNatClampNeg) := by rw [nJ_clamp (by omega), nL_0, nJ_lt (by omega) (by omega)]; omega
  have hC : f_X12_forceOf (nI f) bh P F = some (.inl (X2_force F f)) := by
    unfold f_X12_forceOf
    rw [bd c1]
    show (if (nI f) < 0 ∨ 10 ≤ (nI f).toNatClampNeg then none else some (Sum.inl ((X2_force F) (nI f).toNatClampNeg))) = _
    rw [if_neg ci, nJ_clamp (by omega)]
  have hM : f_X14_forceOf (nI f) (th, ta, bs, ea, kd, nu, po, ln, tk, wr, er, et, dp, fn, gn, va, N, kp) T = some (X2_force F f, 0) := by
    unfold f_X14_forceOf
    rw [bd m1, if_neg (show ¬ ((1 : Int32) = 0) by decide), if_neg (show ¬ ((nI f) < 0 ∨ 11 ≤ (nI f).toNatClampNeg) by rw [nJ_clamp (by omega), nL_0, nJ_lt (by omega) (by omega)]; omega), nJ_clamp (by omega), (p7 f hf).2.2.2.1, (p7 f hf).2.2.1]
  have hL : f_L_forceOf (nI f) bh P F 1 ao = some (0, vp_updL ao (0 : Int32).toNatClampNeg (Int32.toInt64 (X2_force F f))) := by
    unfold f_L_forceOf
    rw [bd hC]
    rfl
  unfold f_law_622
  rw [bd hL, bd hM]
  exact ⟨_, lw_ok (ao := ao) (v := X2_force F f), REL_M hR rfl rfl rfl rfl⟩
theorem rl_678 (hn : 2100 < n) (hq : q ≤ 600) (x : Int32) (hR : REL q bh tp P F G O (th, ta, bs, ea, kd, nu, po, ln, tk, wr, er, et, dp, fn, gn, va, N, kp) T) : ∃ σ, f_law_678 n x bh tp X P R F G O Tr TR dF dG dO (th, ta, bs, ea, kd, nu, po, ln, tk, wr, er, et, dp, fn, gn, va, N, kp) T Fr ao = some σ ∧ LRel (q + 1) σ := by
  have hR' := hR
  obtain ⟨-, he, hh, nf, ng, no, fo, fr, hr, gr, h1, hp, ho, ht⟩ := hR'
  have h2 : hh < 1000000 := by omega
  replace ht : RPt nf ng fr hr gr P N hh := ht
  have hp' := hp
  have ht' := ht
  obtain ⟨p1, p2, p3, p4, p5, p6, p7, p8⟩ := hp'
  obtain ⟨t1, t2, ⟨w3, -, t3, u3⟩, ⟨w4, -, t4, u4⟩, ⟨w5, -, t5, u5⟩, ⟨w6, -, t6, u6⟩, ⟨w7, -, t7, u7⟩, t8, t9, t10, t11⟩ := ht'
  rcases fr_in (bh := bh) (P := P) (x := x) (N := N) (th := th) (ta := ta) (bs := bs) (ea := ea) (kd := kd) (nu := nu) (po := po) (ln := ln) (tk := tk) (wr := wr) (er := er) (et := et) (dp := dp) (fn := fn) (gn := gn) (va := va) (kp := kp) p1 p3 p4 with ⟨f, hf, e, c1, m1⟩ | ⟨c1, m1⟩
  case inr =>
    have hC : f_X12_isOver x bh P F = some (.inr ("java/lang/IndexOutOfBoundsException", ())) := by
      unfold f_X12_isOver
      rw [bd c1]
      rfl
    have hM : f_X14_isOver x (th, ta, bs, ea, kd, nu, po, ln, tk, wr, er, et, dp, fn, gn, va, N, kp) T = some (0, 1) := by
      unfold f_X14_isOver
      rw [bd m1]
      rfl
    have hL : f_L_isOver x bh P F 1 ao = some (1, ao) := by
      unfold f_L_isOver
      rw [bd hC]
      exact (if_pos rfl : (if ("java/lang/IndexOutOfBoundsException" : String) = "java/lang/IndexOutOfBoundsException" then some ((1 : Int32), ao) else none) = some (1, ao))
    unfold f_law_678
    rw [bd hL, bd hM]
    exact ⟨_, lw_t, REL_M hR rfl rfl rfl rfl⟩
  subst e
  have ci : ¬ ((nI f) < 0 ∨ 10 ≤ (nI f).toNatClampNeg) := by rw [nJ_clamp (by omega), nL_0, nJ_lt (by omega) (by omega)]; omega
  have mi : ¬ ((8 + nI f) < 0 ∨ 58 ≤ (8 + nI f).toNatClampNeg) := by rw [nL_8, nJ_add, nJ_clamp (by omega), nL_0, nJ_lt (by omega) (by omega)]; omega
  have me : ((8 : Int32) + nI f).toNatClampNeg = 8 + f := by rw [nL_8, nJ_add, nJ_clamp (by omega)]
  obtain ⟨b, hb, hb3⟩ := ht_bit ht hf
  have kk := k_over hp ht h2 hf
  rw [hb3] at kk
  have hC : f_X12_isOver (nI f) bh P F = some (.inl (nI b)) := by
    unfold f_X12_isOver
    rw [bd c1]
    show ((f_X8_hangsOver (nI f) P F).bind fun u2 => if vp_nar .boolean u2 = u2 then some (Sum.inl u2) else none) = _
    rw [bd kk]
    exact if_pos (vpn_b hb)
  have hM : f_X14_isOver (nI f) (th, ta, bs, ea, kd, nu, po, ln, tk, wr, er, et, dp, fn, gn, va, N, kp) T = some (nI b, 0) := by
    unfold f_X14_isOver
    rw [bd m1, if_neg (show ¬ ((1 : Int32) = 0) by decide), if_neg mi, me]
    show (if N (8 + f) = 1 then some (1, 0) else some (0, 0)) = _
    rw [hb3]
    have hb2 : b = 0 ∨ b = 1 := by omega
    rcases hb2 with e | e <;> subst e <;> rfl

  have key : ∀ b : Nat, b ≤ 1 → f_X12_isOver (nI f) bh P F = some (.inl (nI b)) → f_X14_isOver (nI f) (th, ta, bs, ea, kd, nu, po, ln, tk, wr, er, et, dp, fn, gn, va, N, kp) T = some (nI b, 0) → ∃ σ, f_law_678 n (nI f) bh tp X P R F G O Tr TR dF dG dO (th, ta, bs, ea, kd, nu, po, ln, tk, wr, er, et, dp, fn, gn, va, N, kp) T Fr ao = some σ ∧ LRel (q + 1) σ := by
    intro b hb hC hM
    have hb2 : b = 0 ∨ b = 1 := by omega
    rcases hb2 with e | e
    · subst e
      have hL : f_L_isOver (nI f) bh P F 1 ao = some (0, vp_updL ao (0 : Int32).toNatClampNeg 0) := by
        unfold f_L_isOver
        rw [bd hC]
        rfl
      unfold f_law_678
      rw [bd hL, bd hM]
      exact ⟨_, lw_b0 (ao := ao), REL_M hR rfl rfl rfl rfl⟩
    · subst e
      have hL : f_L_isOver (nI f) bh P F 1 ao = some (0, vp_updL ao (0 : Int32).toNatClampNeg 1) := by
        unfold f_L_isOver
        rw [bd hC]
        rfl
      unfold f_law_678
      rw [bd hL, bd hM]
      exact ⟨_, lw_b1 (ao := ao), REL_M hR rfl rfl rfl rfl⟩
  exact key b hb hC hM
theorem rl_741 (hn : 2100 < n) (hq : q ≤ 600) (x : Int32) (hR : REL q bh tp P F G O (th, ta, bs, ea, kd, nu, po, ln, tk, wr, er, et, dp, fn, gn, va, N, kp) T) : ∃ σ, f_law_741 n x bh tp X P R F G O Tr TR dF dG dO (th, ta, bs, ea, kd, nu, po, ln, tk, wr, er, et, dp, fn, gn, va, N, kp) T Fr ao = some σ ∧ LRel (q + 1) σ := by
  have hR' := hR
  obtain ⟨-, he, hh, nf, ng, no, fo, fr, hr, gr, h1, hp, ho, ht⟩ := hR'
  have h2 : hh < 1000000 := by omega
  replace ht : RPt nf ng fr hr gr P N hh := ht
  have hp' := hp
  have ht' := ht
  obtain ⟨p1, p2, p3, p4, p5, p6, p7, p8⟩ := hp'
  obtain ⟨t1, t2, ⟨w3, -, t3, u3⟩, ⟨w4, -, t4, u4⟩, ⟨w5, -, t5, u5⟩, ⟨w6, -, t6, u6⟩, ⟨w7, -, t7, u7⟩, t8, t9, t10, t11⟩ := ht'
  rcases fr_in (bh := bh) (P := P) (x := x) (N := N) (th := th) (ta := ta) (bs := bs) (ea := ea) (kd := kd) (nu := nu) (po := po) (ln := ln) (tk := tk) (wr := wr) (er := er) (et := et) (dp := dp) (fn := fn) (gn := gn) (va := va) (kp := kp) p1 p3 p4 with ⟨f, hf, e, c1, m1⟩ | ⟨c1, m1⟩
  case inr =>
    have hC : f_X12_isSteeped x bh P F = some (.inr ("java/lang/IndexOutOfBoundsException", ())) := by
      unfold f_X12_isSteeped
      rw [bd c1]
      rfl
    have hM : f_X14_isSteeped x (th, ta, bs, ea, kd, nu, po, ln, tk, wr, er, et, dp, fn, gn, va, N, kp) T = some (0, 1) := by
      unfold f_X14_isSteeped
      rw [bd m1]
      rfl
    have hL : f_L_isSteeped x bh P F 1 ao = some (1, ao) := by
      unfold f_L_isSteeped
      rw [bd hC]
      exact (if_pos rfl : (if ("java/lang/IndexOutOfBoundsException" : String) = "java/lang/IndexOutOfBoundsException" then some ((1 : Int32), ao) else none) = some (1, ao))
    unfold f_law_741
    rw [bd hL, bd hM]
    exact ⟨_, lw_t, REL_M hR rfl rfl rfl rfl⟩
  subst e
  have ci : ¬ ((nI f) < 0 ∨ 10 ≤ (nI f).toNatClampNeg) := by rw [nJ_clamp (by omega), nL_0, nJ_lt (by omega) (by omega)]; omega
  have mi : ¬ ((18 + nI f) < 0 ∨ 58 ≤ (18 + nI f).toNatClampNeg) := by rw [nL_18, nJ_add, nJ_clamp (by omega), nL_0, nJ_lt (by omega) (by omega)]; omega
  have me : ((18 : Int32) + nI f).toNatClampNeg = 18 + f := by rw [nL_18, nJ_add, nJ_clamp (by omega)]
  obtain ⟨b, hb, hb4, hb3, -⟩ := t10 f hf
  have hC : f_X12_isSteeped (nI f) bh P F = some (.inl (nI b)) := by
    unfold f_X12_isSteeped
    rw [bd c1]
    show (if (nI f) < 0 ∨ 10 ≤ (nI f).toNatClampNeg then none else if vp_nar .boolean ((X8_frontSteeped P) (nI f).toNatClampNeg) = (X8_frontSteeped P) (nI f).toNatClampNeg then some (Sum.inl ((X8_frontSteeped P) (nI f).toNatClampNeg)) else none) = _
    rw [if_neg ci, nJ_clamp (by omega), hb4, if_pos (vpn_b hb)]
  have hM : f_X14_isSteeped (nI f) (th, ta, bs, ea, kd, nu, po, ln, tk, wr, er, et, dp, fn, gn, va, N, kp) T = some (nI b, 0) := by
    unfold f_X14_isSteeped
    rw [bd m1, if_neg (show ¬ ((1 : Int32) = 0) by decide), if_neg mi, me]
    show (if N (18 + f) = 1 then some (1, 0) else some (0, 0)) = _
    rw [hb3]
    have hb2 : b = 0 ∨ b = 1 := by omega
    rcases hb2 with e | e <;> subst e <;> rfl

  have key : ∀ b : Nat, b ≤ 1 → f_X12_isSteeped (nI f) bh P F = some (.inl (nI b)) → f_X14_isSteeped (nI f) (th, ta, bs, ea, kd, nu, po, ln, tk, wr, er, et, dp, fn, gn, va, N, kp) T = some (nI b, 0) → ∃ σ, f_law_741 n (nI f) bh tp X P R F G O Tr TR dF dG dO (th, ta, bs, ea, kd, nu, po, ln, tk, wr, er, et, dp, fn, gn, va, N, kp) T Fr ao = some σ ∧ LRel (q + 1) σ := by
    intro b hb hC hM
    have hb2 : b = 0 ∨ b = 1 := by omega
    rcases hb2 with e | e
    · subst e
      have hL : f_L_isSteeped (nI f) bh P F 1 ao = some (0, vp_updL ao (0 : Int32).toNatClampNeg 0) := by
        unfold f_L_isSteeped
        rw [bd hC]
        rfl
      unfold f_law_741
      rw [bd hL, bd hM]
      exact ⟨_, lw_b0 (ao := ao), REL_M hR rfl rfl rfl rfl⟩
    · subst e
      have hL : f_L_isSteeped (nI f) bh P F 1 ao = some (0, vp_updL ao (0 : Int32).toNatClampNeg 1) := by
        unfold f_L_isSteeped
        rw [bd hC]
        rfl
      unfold f_law_741
      rw [bd hL, bd hM]
      exact ⟨_, lw_b1 (ao := ao), REL_M hR rfl rfl rfl rfl⟩
  exact key b hb hC hM
theorem rl_804 (hn : 2100 < n) (hq : q ≤ 600) (x : Int32) (hR : REL q bh tp P F G O (th, ta, bs, ea, kd, nu, po, ln, tk, wr, er, et, dp, fn, gn, va, N, kp) T) : ∃ σ, f_law_804 n x bh tp X P R F G O Tr TR dF dG dO (th, ta, bs, ea, kd, nu, po, ln, tk, wr, er, et, dp, fn, gn, va, N, kp) T Fr ao = some σ ∧ LRel (q + 1) σ := by
  have hR' := hR
  obtain ⟨-, he, hh, nf, ng, no, fo, fr, hr, gr, h1, hp, ho, ht⟩ := hR'
  have h2 : hh < 1000000 := by omega
  replace ht : RPt nf ng fr hr gr P N hh := ht
  have hp' := hp
  have ht' := ht
  obtain ⟨p1, p2, p3, p4, p5, p6, p7, p8⟩ := hp'
  obtain ⟨t1, t2, ⟨w3, -, t3, u3⟩, ⟨w4, -, t4, u4⟩, ⟨w5, -, t5, u5⟩, ⟨w6, -, t6, u6⟩, ⟨w7, -, t7, u7⟩, t8, t9, t10, t11⟩ := ht'
  rcases gu_in (bh := bh) (P := P) (x := x) (N := N) (th := th) (ta := ta) (bs := bs) (ea := ea) (kd := kd) (nu := nu) (po := po) (ln := ln) (tk := tk) (wr := wr) (er := er) (et := et) (dp := dp) (fn := fn) (gn := gn) (va := va) (kp := kp) p2 p5 p6 with ⟨f, hf, e, c1, m1⟩ | ⟨c1, m1⟩
  case inr =>
    have hC : f_X12_isSeated x bh P G = some (.inr ("java/lang/IndexOutOfBoundsException", ())) := by
      unfold f_X12_isSeated
      rw [bd c1]
      rfl
    have hM : f_X14_isSeated x (th, ta, bs, ea, kd, nu, po, ln, tk, wr, er, et, dp, fn, gn, va, N, kp) T = some (0, 1) := by
      unfold f_X14_isSeated
      rw [bd m1]
      rfl
    have hL : f_L_isSeated x bh P G 1 ao = some (1, ao) := by
      unfold f_L_isSeated
      rw [bd hC]
      exact (if_pos rfl : (if ("java/lang/IndexOutOfBoundsException" : String) = "java/lang/IndexOutOfBoundsException" then some ((1 : Int32), ao) else none) = some (1, ao))
    unfold f_law_804
    rw [bd hL, bd hM]
    exact ⟨_, lw_t, REL_M hR rfl rfl rfl rfl⟩
  subst e
  have ci : ¬ ((nI f) < 0 ∨ 10 ≤ (nI f).toNatClampNeg) := by rw [nJ_clamp (by omega), nL_0, nJ_lt (by omega) (by omega)]; omega
  have mi : ¬ ((28 + nI f) < 0 ∨ 58 ≤ (28 + nI f).toNatClampNeg) := by rw [nL_28, nJ_add, nJ_clamp (by omega), nL_0, nJ_lt (by omega) (by omega)]; omega
  have me : ((28 : Int32) + nI f).toNatClampNeg = 28 + f := by rw [nL_28, nJ_add, nJ_clamp (by omega)]
  obtain ⟨b, hb, hb3⟩ := ht_bitg ht hf
  have kk := k_sits hp ht h2 hf
  rw [hb3] at kk
  have hC : f_X12_isSeated (nI f) bh P G = some (.inl (nI b)) := by
    unfold f_X12_isSeated
    rw [bd c1]
    show ((f_X8_sits (nI f) P G).bind fun u2 => if vp_nar .boolean u2 = u2 then some (Sum.inl u2) else none) = _
    rw [bd kk]
    exact if_pos (vpn_b hb)
  have hM : f_X14_isSeated (nI f) (th, ta, bs, ea, kd, nu, po, ln, tk, wr, er, et, dp, fn, gn, va, N, kp) T = some (nI b, 0) := by
    unfold f_X14_isSeated
    rw [bd m1, if_neg (show ¬ ((1 : Int32) = 0) by decide), if_neg mi, me]
    show (if N (28 + f) = 1 then some (1, 0) else some (0, 0)) = _
    rw [hb3]
    have hb2 : b = 0 ∨ b = 1 := by omega
    rcases hb2 with e | e <;> subst e <;> rfl

  have key : ∀ b : Nat, b ≤ 1 → f_X12_isSeated (nI f) bh P G = some (.inl (nI b)) → f_X14_isSeated (nI f) (th, ta, bs, ea, kd, nu, po, ln, tk, wr, er, et, dp, fn, gn, va, N, kp) T = some (nI b, 0) → ∃ σ, f_law_804 n (nI f) bh tp X P R F G O Tr TR dF dG dO (th, ta, bs, ea, kd, nu, po, ln, tk, wr, er, et, dp, fn, gn, va, N, kp) T Fr ao = some σ ∧ LRel (q + 1) σ := by
    intro b hb hC hM
    have hb2 : b = 0 ∨ b = 1 := by omega
    rcases hb2 with e | e
    · subst e
      have hL : f_L_isSeated (nI f) bh P G 1 ao = some (0, vp_updL ao (0 : Int32).toNatClampNeg 0) := by
        unfold f_L_isSeated
        rw [bd hC]
        rfl
      unfold f_law_804
      rw [bd hL, bd hM]
      exact ⟨_, lw_b0 (ao := ao), REL_M hR rfl rfl rfl rfl⟩
    · subst e
      have hL : f_L_isSeated (nI f) bh P G 1 ao = some (0, vp_updL ao (0 : Int32).toNatClampNeg 1) := by
        unfold f_L_isSeated
        rw [bd hC]
        rfl
      unfold f_law_804
      rw [bd hL, bd hM]
      exact ⟨_, lw_b1 (ao := ao), REL_M hR rfl rfl rfl rfl⟩
  exact key b hb hC hM
theorem rl_867 (hn : 2100 < n) (hq : q ≤ 600) (x : Int32) (hR : REL q bh tp P F G O (th, ta, bs, ea, kd, nu, po, ln, tk, wr, er, et, dp, fn, gn, va, N, kp) T) : ∃ σ, f_law_867 n x bh tp X P R F G O Tr TR dF dG dO (th, ta, bs, ea, kd, nu, po, ln, tk, wr, er, et, dp, fn, gn, va, N, kp) T Fr ao = some σ ∧ LRel (q + 1) σ := by
  have hR' := hR
  obtain ⟨-, he, hh, nf, ng, no, fo, fr, hr, gr, h1, hp, ho, ht⟩ := hR'
  have h2 : hh < 1000000 := by omega
  replace ht : RPt nf ng fr hr gr P N hh := ht
  have hp' := hp
  have ht' := ht
  obtain ⟨p1, p2, p3, p4, p5, p6, p7, p8⟩ := hp'
  obtain ⟨t1, t2, ⟨w3, -, t3, u3⟩, ⟨w4, -, t4, u4⟩, ⟨w5, -, t5, u5⟩, ⟨w6, -, t6, u6⟩, ⟨w7, -, t7, u7⟩, t8, t9, t10, t11⟩ := ht'
  rcases gu_in (bh := bh) (P := P) (x := x) (N := N) (th := th) (ta := ta) (bs := bs) (ea := ea) (kd := kd) (nu := nu) (po := po) (ln := ln) (tk := tk) (wr := wr) (er := er) (et := et) (dp := dp) (fn := fn) (gn := gn) (va := va) (kp := kp) p2 p5 p6 with ⟨f, hf, e, c1, m1⟩ | ⟨c1, m1⟩
  case inr =>
    have hC : f_X12_isContent x bh P G = some (.inr ("java/lang/IndexOutOfBoundsException", ())) := by
      unfold f_X12_isContent
      rw [bd c1]
      rfl
    have hM : f_X14_isContent x (th, ta, bs, ea, kd, nu, po, ln, tk, wr, er, et, dp, fn, gn, va, N, kp) T = some (0, 1) := by
      unfold f_X14_isContent
      rw [bd m1]
      rfl
    have hL : f_L_isContent x bh P G 1 ao = some (1, ao) := by
      unfold f_L_isContent
      rw [bd hC]
      exact (if_pos rfl : (if ("java/lang/IndexOutOfBoundsException" : String) = "java/lang/IndexOutOfBoundsException" then some ((1 : Int32), ao) else none) = some (1, ao))
    unfold f_law_867
    rw [bd hL, bd hM]
    exact ⟨_, lw_t, REL_M hR rfl rfl rfl rfl⟩
  subst e
  have hb : lkN N T (N 2) f ≤ 1 := lkN_le _ _
  have kk := k_likes hp ht h2 hf (X8_strength P)
  rw [show X8_strength P = N 2 from t4.trans u4.symm] at kk
  obtain ⟨w, hw1, hw2⟩ := ht_warm ht
  have km := k_likesM (th := (0 : Int32)) (N := N) (ta := ta) (bs := bs) (ea := ea) (kd := kd) (nu := nu) (po := po) (ln := ln) (tk := tk) (wr := wr) (er := er) (et := et) (dp := dp) (fn := fn) (gn := gn) (va := va) (kp := kp) hp hf (ht_bitg ht hf) ⟨w, hw1, hw2⟩
  generalize lkN N T (N 2) f = b at hb kk km
  have hC : f_X12_isContent (nI f) bh P G = some (.inl (nI b)) := by
    unfold f_X12_isContent
    rw [bd c1]
    show ((f_X8_wouldLike (nI f) (X8_strength P) P G).bind fun u2 => if vp_nar .boolean u2 = u2 then some (Sum.inl u2) else none) = _
    rw [bd (show f_X8_wouldLike (nI f) (X8_strength P) P G = some (nI b) by rw [show X8_strength P = N 2 from t4.trans u4.symm]; exact kk)]
    exact if_pos (vpn_b hb)
  have hM : f_X14_isContent (nI f) (th, ta, bs, ea, kd, nu, po, ln, tk, wr, er, et, dp, fn, gn, va, N, kp) T = some (nI b, 0) := by
    unfold f_X14_isContent
    rw [bd m1, if_neg (show ¬ ((1 : Int32) = 0) by decide)]
    refine (bd km _).trans ?_
    have hb2 : b = 0 ∨ b = 1 := by omega
    rcases hb2 with e | e <;> subst e <;> rfl
  have key : ∀ b : Nat, b ≤ 1 → f_X12_isContent (nI f) bh P G = some (.inl (nI b)) → f_X14_isContent (nI f) (th, ta, bs, ea, kd, nu, po, ln, tk, wr, er, et, dp, fn, gn, va, N, kp) T = some (nI b, 0) → ∃ σ, f_law_867 n (nI f) bh tp X P R F G O Tr TR dF dG dO (th, ta, bs, ea, kd, nu, po, ln, tk, wr, er, et, dp, fn, gn, va, N, kp) T Fr ao = some σ ∧ LRel (q + 1) σ := by
    intro b hb hC hM
    have hb2 : b = 0 ∨ b = 1 := by omega
    rcases hb2 with e | e
    · subst e
      have hL : f_L_isContent (nI f) bh P G 1 ao = some (0, vp_updL ao (0 : Int32).toNatClampNeg 0) := by
        unfold f_L_isContent
        rw [bd hC]
        rfl
      unfold f_law_867
      rw [bd hL, bd hM]
      exact ⟨_, lw_b0 (ao := ao), REL_M hR rfl rfl rfl rfl⟩
    · subst e
      have hL : f_L_isContent (nI f) bh P G 1 ao = some (0, vp_updL ao (0 : Int32).toNatClampNeg 1) := by
        unfold f_L_isContent
        rw [bd hC]
        rfl
      unfold f_law_867
      rw [bd hL, bd hM]
      exact ⟨_, lw_b1 (ao := ao), REL_M hR rfl rfl rfl rfl⟩
  exact key b hb hC hM
theorem rl_930 (hn : 2100 < n) (hq : q ≤ 600) (x : Int32) (hR : REL q bh tp P F G O (th, ta, bs, ea, kd, nu, po, ln, tk, wr, er, et, dp, fn, gn, va, N, kp) T) : ∃ σ, f_law_930 n x bh tp X P R F G O Tr TR dF dG dO (th, ta, bs, ea, kd, nu, po, ln, tk, wr, er, et, dp, fn, gn, va, N, kp) T Fr ao = some σ ∧ LRel (q + 1) σ := by
  have hR' := hR
  obtain ⟨-, he, hh, nf, ng, no, fo, fr, hr, gr, h1, hp, ho, ht⟩ := hR'
  have h2 : hh < 1000000 := by omega
  replace ht : RPt nf ng fr hr gr P N hh := ht
  have hp' := hp
  have ht' := ht
  obtain ⟨p1, p2, p3, p4, p5, p6, p7, p8⟩ := hp'
  obtain ⟨t1, t2, ⟨w3, -, t3, u3⟩, ⟨w4, -, t4, u4⟩, ⟨w5, -, t5, u5⟩, ⟨w6, -, t6, u6⟩, ⟨w7, -, t7, u7⟩, t8, t9, t10, t11⟩ := ht'
  rcases gu_in (bh := bh) (P := P) (x := x) (N := N) (th := th) (ta := ta) (bs := bs) (ea := ea) (kd := kd) (nu := nu) (po := po) (ln := ln) (tk := tk) (wr := wr) (er := er) (et := et) (dp := dp) (fn := fn) (gn := gn) (va := va) (kp := kp) p2 p5 p6 with ⟨f, hf, e, c1, m1⟩ | ⟨c1, m1⟩
  case inr =>
    have hC : f_X12_wasServed x bh P G = some (.inr ("java/lang/IndexOutOfBoundsException", ())) := by
      unfold f_X12_wasServed
      rw [bd c1]
      rfl
    have hM : f_X14_wasServed x (th, ta, bs, ea, kd, nu, po, ln, tk, wr, er, et, dp, fn, gn, va, N, kp) T = some (0, 1) := by
      unfold f_X14_wasServed
      rw [bd m1]
      rfl
    have hL : f_L_wasServed x bh P G 1 ao = some (1, ao) := by
      unfold f_L_wasServed
      rw [bd hC]
      exact (if_pos rfl : (if ("java/lang/IndexOutOfBoundsException" : String) = "java/lang/IndexOutOfBoundsException" then some ((1 : Int32), ao) else none) = some (1, ao))
    unfold f_law_930
    rw [bd hL, bd hM]
    exact ⟨_, lw_t, REL_M hR rfl rfl rfl rfl⟩
  subst e
  have ci : ¬ ((nI f) < 0 ∨ 10 ≤ (nI f).toNatClampNeg) := by rw [nJ_clamp (by omega), nL_0, nJ_lt (by omega) (by omega)]; omega
  have mi : ¬ ((38 + nI f) < 0 ∨ 58 ≤ (38 + nI f).toNatClampNeg) := by rw [nL_38, nJ_add, nJ_clamp (by omega), nL_0, nJ_lt (by omega) (by omega)]; omega
  have me : ((38 : Int32) + nI f).toNatClampNeg = 38 + f := by rw [nL_38, nJ_add, nJ_clamp (by omega)]
  obtain ⟨b, b', hb, hb', hb4, hb4', hb3, hb3', -⟩ := t11 f hf
  have hC : f_X12_wasServed (nI f) bh P G = some (.inl (nI b)) := by
    unfold f_X12_wasServed
    rw [bd c1]
    show (if (nI f) < 0 ∨ 10 ≤ (nI f).toNatClampNeg then none else if vp_nar .boolean ((X8_guestServed P) (nI f).toNatClampNeg) = (X8_guestServed P) (nI f).toNatClampNeg then some (Sum.inl ((X8_guestServed P) (nI f).toNatClampNeg)) else none) = _
    rw [if_neg ci, nJ_clamp (by omega), hb4, if_pos (vpn_b hb)]
  have hM : f_X14_wasServed (nI f) (th, ta, bs, ea, kd, nu, po, ln, tk, wr, er, et, dp, fn, gn, va, N, kp) T = some (nI b, 0) := by
    unfold f_X14_wasServed
    rw [bd m1, if_neg (show ¬ ((1 : Int32) = 0) by decide), if_neg mi, me]
    show (if N (38 + f) = 1 then some (1, 0) else some (0, 0)) = _
    rw [hb3]
    have hb2 : b = 0 ∨ b = 1 := by omega
    rcases hb2 with e | e <;> subst e <;> rfl

  have key : ∀ b : Nat, b ≤ 1 → f_X12_wasServed (nI f) bh P G = some (.inl (nI b)) → f_X14_wasServed (nI f) (th, ta, bs, ea, kd, nu, po, ln, tk, wr, er, et, dp, fn, gn, va, N, kp) T = some (nI b, 0) → ∃ σ, f_law_930 n (nI f) bh tp X P R F G O Tr TR dF dG dO (th, ta, bs, ea, kd, nu, po, ln, tk, wr, er, et, dp, fn, gn, va, N, kp) T Fr ao = some σ ∧ LRel (q + 1) σ := by
    intro b hb hC hM
    have hb2 : b = 0 ∨ b = 1 := by omega
    rcases hb2 with e | e
    · subst e
      have hL : f_L_wasServed (nI f) bh P G 1 ao = some (0, vp_updL ao (0 : Int32).toNatClampNeg 0) := by
        unfold f_L_wasServed
        rw [bd hC]
        rfl
      unfold f_law_930
      rw [bd hL, bd hM]
      exact ⟨_, lw_b0 (ao := ao), REL_M hR rfl rfl rfl rfl⟩
    · subst e
      have hL : f_L_wasServed (nI f) bh P G 1 ao = some (0, vp_updL ao (0 : Int32).toNatClampNeg 1) := by
        unfold f_L_wasServed
        rw [bd hC]
        rfl
      unfold f_law_930
      rw [bd hL, bd hM]
      exact ⟨_, lw_b1 (ao := ao), REL_M hR rfl rfl rfl rfl⟩
  exact key b hb hC hM
theorem rl_993 (hn : 2100 < n) (hq : q ≤ 600) (x : Int32) (hR : REL q bh tp P F G O (th, ta, bs, ea, kd, nu, po, ln, tk, wr, er, et, dp, fn, gn, va, N, kp) T) : ∃ σ, f_law_993 n x bh tp X P R F G O Tr TR dF dG dO (th, ta, bs, ea, kd, nu, po, ln, tk, wr, er, et, dp, fn, gn, va, N, kp) T Fr ao = some σ ∧ LRel (q + 1) σ := by
  have hR' := hR
  obtain ⟨-, he, hh, nf, ng, no, fo, fr, hr, gr, h1, hp, ho, ht⟩ := hR'
  have h2 : hh < 1000000 := by omega
  replace ht : RPt nf ng fr hr gr P N hh := ht
  have hp' := hp
  have ht' := ht
  obtain ⟨p1, p2, p3, p4, p5, p6, p7, p8⟩ := hp'
  obtain ⟨t1, t2, ⟨w3, -, t3, u3⟩, ⟨w4, -, t4, u4⟩, ⟨w5, -, t5, u5⟩, ⟨w6, -, t6, u6⟩, ⟨w7, -, t7, u7⟩, t8, t9, t10, t11⟩ := ht'
  rcases gu_in (bh := bh) (P := P) (x := x) (N := N) (th := th) (ta := ta) (bs := bs) (ea := ea) (kd := kd) (nu := nu) (po := po) (ln := ln) (tk := tk) (wr := wr) (er := er) (et := et) (dp := dp) (fn := fn) (gn := gn) (va := va) (kp := kp) p2 p5 p6 with ⟨f, hf, e, c1, m1⟩ | ⟨c1, m1⟩
  case inr =>
    have hC : f_X12_wasStormed x bh P G = some (.inr ("java/lang/IndexOutOfBoundsException", ())) := by
      unfold f_X12_wasStormed
      rw [bd c1]
      rfl
    have hM : f_X14_wasStormed x (th, ta, bs, ea, kd, nu, po, ln, tk, wr, er, et, dp, fn, gn, va, N, kp) T = some (0, 1) := by
      unfold f_X14_wasStormed
      rw [bd m1]
      rfl
    have hL : f_L_wasStormed x bh P G 1 ao = some (1, ao) := by
      unfold f_L_wasStormed
      rw [bd hC]
      exact (if_pos rfl : (if ("java/lang/IndexOutOfBoundsException" : String) = "java/lang/IndexOutOfBoundsException" then some ((1 : Int32), ao) else none) = some (1, ao))
    unfold f_law_993
    rw [bd hL, bd hM]
    exact ⟨_, lw_t, REL_M hR rfl rfl rfl rfl⟩
  subst e
  have ci : ¬ ((nI f) < 0 ∨ 10 ≤ (nI f).toNatClampNeg) := by rw [nJ_clamp (by omega), nL_0, nJ_lt (by omega) (by omega)]; omega
  have mi : ¬ ((48 + nI f) < 0 ∨ 58 ≤ (48 + nI f).toNatClampNeg) := by rw [nL_48, nJ_add, nJ_clamp (by omega), nL_0, nJ_lt (by omega) (by omega)]; omega
  have me : ((48 : Int32) + nI f).toNatClampNeg = 48 + f := by rw [nL_48, nJ_add, nJ_clamp (by omega)]
  obtain ⟨b', b, hb', hb, hb4', hb4, hb3', hb3, -⟩ := t11 f hf
  have hC : f_X12_wasStormed (nI f) bh P G = some (.inl (nI b)) := by
    unfold f_X12_wasStormed
    rw [bd c1]
    show (if (nI f) < 0 ∨ 10 ≤ (nI f).toNatClampNeg then none else if vp_nar .boolean ((X8_guestStormed P) (nI f).toNatClampNeg) = (X8_guestStormed P) (nI f).toNatClampNeg then some (Sum.inl ((X8_guestStormed P) (nI f).toNatClampNeg)) else none) = _
    rw [if_neg ci, nJ_clamp (by omega), hb4, if_pos (vpn_b hb)]
  have hM : f_X14_wasStormed (nI f) (th, ta, bs, ea, kd, nu, po, ln, tk, wr, er, et, dp, fn, gn, va, N, kp) T = some (nI b, 0) := by
    unfold f_X14_wasStormed
    rw [bd m1, if_neg (show ¬ ((1 : Int32) = 0) by decide), if_neg mi, me]
    show (if N (48 + f) = 1 then some (1, 0) else some (0, 0)) = _
    rw [hb3]
    have hb2 : b = 0 ∨ b = 1 := by omega
    rcases hb2 with e | e <;> subst e <;> rfl

  have key : ∀ b : Nat, b ≤ 1 → f_X12_wasStormed (nI f) bh P G = some (.inl (nI b)) → f_X14_wasStormed (nI f) (th, ta, bs, ea, kd, nu, po, ln, tk, wr, er, et, dp, fn, gn, va, N, kp) T = some (nI b, 0) → ∃ σ, f_law_993 n (nI f) bh tp X P R F G O Tr TR dF dG dO (th, ta, bs, ea, kd, nu, po, ln, tk, wr, er, et, dp, fn, gn, va, N, kp) T Fr ao = some σ ∧ LRel (q + 1) σ := by
    intro b hb hC hM
    have hb2 : b = 0 ∨ b = 1 := by omega
    rcases hb2 with e | e
    · subst e
      have hL : f_L_wasStormed (nI f) bh P G 1 ao = some (0, vp_updL ao (0 : Int32).toNatClampNeg 0) := by
        unfold f_L_wasStormed
        rw [bd hC]
        rfl
      unfold f_law_993
      rw [bd hL, bd hM]
      exact ⟨_, lw_b0 (ao := ao), REL_M hR rfl rfl rfl rfl⟩
    · subst e
      have hL : f_L_wasStormed (nI f) bh P G 1 ao = some (0, vp_updL ao (0 : Int32).toNatClampNeg 1) := by
        unfold f_L_wasStormed
        rw [bd hC]
        rfl
      unfold f_law_993
      rw [bd hL, bd hM]
      exact ⟨_, lw_b1 (ao := ao), REL_M hR rfl rfl rfl rfl⟩
  exact key b hb hC hM
end P70
