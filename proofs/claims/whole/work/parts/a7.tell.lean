/-! class and model between two calls; the calls that only tell -/
def REL (q : Nat) (bh : bX12) (tp : bX10) (P : bX8) (F : bX2) (G : bX4) (O : bX6) (M : bX14) (T : bX13) : Prop := (∃ len, TPR (X10_bytes tp) (X14_tape M) len ∧ X10_length tp = nI len ∧ X14_bytes M = nI len) ∧ bh = X14_errorAt M ∧ ∃ (h nf ng no : Nat) (fo fr hr gr : Nat → Nat), h ≤ 30 * q ∧ RPl F G T nf ng fo fr hr gr ∧ RO O T nf ng no ∧ RPt nf ng fr hr gr P (X14_now M) h
def LRel (q : Nat) (σ : LSt) : Prop := REL q σ.1 σ.2.1 σ.2.2.2.1 σ.2.2.2.2.2.1 σ.2.2.2.2.2.2.1 σ.2.2.2.2.2.2.2.1 σ.2.2.2.2.2.2.2.2.2.2.2.2.2.1 σ.2.2.2.2.2.2.2.2.2.2.2.2.2.2.1
theorem REL_M {q : Nat} {bh : bX12} {tp : bX10} {P : bX8} {F : bX2} {G : bX4} {O : bX6} {M M' : bX14} {T : bX13} (h : REL q bh tp P F G O M T) (e1 : X14_tape M' = X14_tape M) (e2 : X14_bytes M' = X14_bytes M) (e3 : X14_errorAt M' = X14_errorAt M) (e4 : X14_now M' = X14_now M) : REL (q + 1) bh tp P F G O M' T := by
  obtain ⟨⟨len, a1, a2, a3⟩, a4, hh, nf, ng, no, fo, fr, hr, gr, h1, hp, ho, ht⟩ := h
  refine ⟨⟨len, by rw [e1]; exact a1, a2, by rw [e2]; exact a3⟩, by rw [e3]; exact a4, hh, nf, ng, no, fo, fr, hr, gr, by omega, hp, ho, ?_⟩
  rw [e4]
  exact ht
/-- .. with another pot -/
theorem REL_P {q : Nat} {bh : bX12} {tp : bX10} {P P' : bX8} {F : bX2} {G : bX4} {O : bX6} {M M' : bX14} {T : bX13} {hh nf ng no : Nat} {fo fr hr gr : Nat → Nat} (h : REL q bh tp P F G O M T) (e1 : X14_tape M' = X14_tape M) (e2 : X14_bytes M' = X14_bytes M) (e3 : X14_errorAt M' = X14_errorAt M) (h1 : hh ≤ 30 * (q + 1)) (hp : RPl F G T nf ng fo fr hr gr) (ho : RO O T nf ng no) (ht : RPt nf ng fr hr gr P' (X14_now M') hh) : REL (q + 1) bh tp P' F G O M' T := by
  obtain ⟨⟨len, a1, a2, a3⟩, a4, -⟩ := h
  exact ⟨⟨len, by rw [e1]; exact a1, a2, by rw [e2]; exact a3⟩, by rw [e3]; exact a4, hh, nf, ng, no, fo, fr, hr, gr, h1, hp, ho, ht⟩
section P69
variable {n q : Nat} {th bs ea tk wr er et dp : Int32} {ta kd nu po ln fn gn va kp : Nat → Int32}
variable {N : Nat → Int32} {bh : bX12} {tp : bX10} {X : bX11} {P Tr : bX8} {R TR : bX9} {F dF : bX2} {G dG : bX4} {O dO : bX6} {T Fr : bX13} {ao : Nat → Int64}
theorem rl_377 (hn : 2100 < n) (hq : q ≤ 600) (hR : REL q bh tp P F G O (th, ta, bs, ea, kd, nu, po, ln, tk, wr, er, et, dp, fn, gn, va, N, kp) T) : ∃ σ, f_law_377 n bh tp X P R F G O Tr TR dF dG dO (th, ta, bs, ea, kd, nu, po, ln, tk, wr, er, et, dp, fn, gn, va, N, kp) T Fr ao = some σ ∧ LRel (q + 1) σ := by
  have hR' := hR
  obtain ⟨-, he, hh, nf, ng, no, fo, fr, hr, gr, h1, hp, ho, ht⟩ := hR'
  have h2 : hh < 1000000 := by omega
  replace ht : RPt nf ng fr hr gr P N hh := ht
  have hp' := hp
  have ht' := ht
  obtain ⟨p1, p2, p3, p4, p5, p6, p7, p8⟩ := hp'
  obtain ⟨t1, t2, ⟨w3, -, t3, u3⟩, ⟨w4, -, t4, u4⟩, ⟨w5, -, t5, u5⟩, ⟨w6, -, t6, u6⟩, ⟨w7, -, t7, u7⟩, t8, t9, t10, t11⟩ := ht'
  have hC : f_X12_errorAt bh = some (ea) := by
    show some bh = _; rw [he]
  have hM : f_X14_errorAt (th, ta, bs, ea, kd, nu, po, ln, tk, wr, er, et, dp, fn, gn, va, N, kp) = some (ea, 0) := by
    rfl
  unfold f_law_377
  rw [bd hC, bd hM]
  exact ⟨_, if_pos rfl, REL_M hR rfl rfl rfl rfl⟩
theorem rl_390 (hn : 2100 < n) (hq : q ≤ 600) (hR : REL q bh tp P F G O (th, ta, bs, ea, kd, nu, po, ln, tk, wr, er, et, dp, fn, gn, va, N, kp) T) : ∃ σ, f_law_390 n bh tp X P R F G O Tr TR dF dG dO (th, ta, bs, ea, kd, nu, po, ln, tk, wr, er, et, dp, fn, gn, va, N, kp) T Fr ao = some σ ∧ LRel (q + 1) σ := by
  have hR' := hR
  obtain ⟨-, he, hh, nf, ng, no, fo, fr, hr, gr, h1, hp, ho, ht⟩ := hR'
  have h2 : hh < 1000000 := by omega
  replace ht : RPt nf ng fr hr gr P N hh := ht
  have hp' := hp
  have ht' := ht
  obtain ⟨p1, p2, p3, p4, p5, p6, p7, p8⟩ := hp'
  obtain ⟨t1, t2, ⟨w3, -, t3, u3⟩, ⟨w4, -, t4, u4⟩, ⟨w5, -, t5, u5⟩, ⟨w6, -, t6, u6⟩, ⟨w7, -, t7, u7⟩, t8, t9, t10, t11⟩ := ht'
  have hC : f_X12_fronts bh P F = some (nI nf) := by
    show some (X2_count F) = _; rw [p3]
  have hM : f_X14_fronts (th, ta, bs, ea, kd, nu, po, ln, tk, wr, er, et, dp, fn, gn, va, N, kp) T = some (nI nf, 0) := by
    show some (X13_fronts T, 0) = _; rw [p4]
  unfold f_law_390
  rw [bd hC, bd hM]
  exact ⟨_, if_pos rfl, REL_M hR rfl rfl rfl rfl⟩
theorem rl_403 (hn : 2100 < n) (hq : q ≤ 600) (hR : REL q bh tp P F G O (th, ta, bs, ea, kd, nu, po, ln, tk, wr, er, et, dp, fn, gn, va, N, kp) T) : ∃ σ, f_law_403 n bh tp X P R F G O Tr TR dF dG dO (th, ta, bs, ea, kd, nu, po, ln, tk, wr, er, et, dp, fn, gn, va, N, kp) T Fr ao = some σ ∧ LRel (q + 1) σ := by
  have hR' := hR
  obtain ⟨-, he, hh, nf, ng, no, fo, fr, hr, gr, h1, hp, ho, ht⟩ := hR'
  have h2 : hh < 1000000 := by omega
  replace ht : RPt nf ng fr hr gr P N hh := ht
  have hp' := hp
  have ht' := ht
  obtain ⟨p1, p2, p3, p4, p5, p6, p7, p8⟩ := hp'
  obtain ⟨t1, t2, ⟨w3, -, t3, u3⟩, ⟨w4, -, t4, u4⟩, ⟨w5, -, t5, u5⟩, ⟨w6, -, t6, u6⟩, ⟨w7, -, t7, u7⟩, t8, t9, t10, t11⟩ := ht'
  have hC : f_X12_guests bh P G = some (nI ng) := by
    show some (X4_count G) = _; rw [p5]
  have hM : f_X14_guests (th, ta, bs, ea, kd, nu, po, ln, tk, wr, er, et, dp, fn, gn, va, N, kp) T = some (nI ng, 0) := by
    show some (X13_guests T, 0) = _; rw [p6]
  unfold f_law_403
  rw [bd hC, bd hM]
  exact ⟨_, if_pos rfl, REL_M hR rfl rfl rfl rfl⟩
theorem rl_416 (hn : 2100 < n) (hq : q ≤ 600) (hR : REL q bh tp P F G O (th, ta, bs, ea, kd, nu, po, ln, tk, wr, er, et, dp, fn, gn, va, N, kp) T) : ∃ σ, f_law_416 n bh tp X P R F G O Tr TR dF dG dO (th, ta, bs, ea, kd, nu, po, ln, tk, wr, er, et, dp, fn, gn, va, N, kp) T Fr ao = some σ ∧ LRel (q + 1) σ := by
  have hR' := hR
  obtain ⟨-, he, hh, nf, ng, no, fo, fr, hr, gr, h1, hp, ho, ht⟩ := hR'
  have h2 : hh < 1000000 := by omega
  replace ht : RPt nf ng fr hr gr P N hh := ht
  have hp' := hp
  have ht' := ht
  obtain ⟨p1, p2, p3, p4, p5, p6, p7, p8⟩ := hp'
  obtain ⟨t1, t2, ⟨w3, -, t3, u3⟩, ⟨w4, -, t4, u4⟩, ⟨w5, -, t5, u5⟩, ⟨w6, -, t6, u6⟩, ⟨w7, -, t7, u7⟩, t8, t9, t10, t11⟩ := ht'
  have hC : f_X12_hour bh P = some (nI hh) := by
    show some (X8_hour P) = _; rw [t1]
  have hM : f_X14_hour (th, ta, bs, ea, kd, nu, po, ln, tk, wr, er, et, dp, fn, gn, va, N, kp) = some (nI hh, 0) := by
    unfold f_X14_hour
    rw [if_neg (by decide)]
    show some (N 0, 0) = _
    rw [t2]
  unfold f_law_416
  rw [bd hC, bd hM]
  exact ⟨_, if_pos rfl, REL_M hR rfl rfl rfl rfl⟩
theorem rl_429 (hn : 2100 < n) (hq : q ≤ 600) (hR : REL q bh tp P F G O (th, ta, bs, ea, kd, nu, po, ln, tk, wr, er, et, dp, fn, gn, va, N, kp) T) : ∃ σ, f_law_429 n bh tp X P R F G O Tr TR dF dG dO (th, ta, bs, ea, kd, nu, po, ln, tk, wr, er, et, dp, fn, gn, va, N, kp) T Fr ao = some σ ∧ LRel (q + 1) σ := by
  have hR' := hR
  obtain ⟨-, he, hh, nf, ng, no, fo, fr, hr, gr, h1, hp, ho, ht⟩ := hR'
  have h2 : hh < 1000000 := by omega
  replace ht : RPt nf ng fr hr gr P N hh := ht
  have hp' := hp
  have ht' := ht
  obtain ⟨p1, p2, p3, p4, p5, p6, p7, p8⟩ := hp'
  obtain ⟨t1, t2, ⟨w3, -, t3, u3⟩, ⟨w4, -, t4, u4⟩, ⟨w5, -, t5, u5⟩, ⟨w6, -, t6, u6⟩, ⟨w7, -, t7, u7⟩, t8, t9, t10, t11⟩ := ht'
  have hC : f_X12_warmth bh P = some (nI w3) := by
    show some (X8_warmth P) = _; rw [t3]
  have hM : f_X14_warmth (th, ta, bs, ea, kd, nu, po, ln, tk, wr, er, et, dp, fn, gn, va, N, kp) = some (nI w3, 0) := by
    unfold f_X14_warmth
    rw [if_neg (by decide)]
    show some (N 1, 0) = _
    rw [u3]
  unfold f_law_429
  rw [bd hC, bd hM]
  exact ⟨_, if_pos rfl, REL_M hR rfl rfl rfl rfl⟩
theorem rl_442 (hn : 2100 < n) (hq : q ≤ 600) (hR : REL q bh tp P F G O (th, ta, bs, ea, kd, nu, po, ln, tk, wr, er, et, dp, fn, gn, va, N, kp) T) : ∃ σ, f_law_442 n bh tp X P R F G O Tr TR dF dG dO (th, ta, bs, ea, kd, nu, po, ln, tk, wr, er, et, dp, fn, gn, va, N, kp) T Fr ao = some σ ∧ LRel (q + 1) σ := by
  have hR' := hR
  obtain ⟨-, he, hh, nf, ng, no, fo, fr, hr, gr, h1, hp, ho, ht⟩ := hR'
  have h2 : hh < 1000000 := by omega
  replace ht : RPt nf ng fr hr gr P N hh := ht
  have hp' := hp
  have ht' := ht
  obtain ⟨p1, p2, p3, p4, p5, p6, p7, p8⟩ := hp'
  obtain ⟨t1, t2, ⟨w3, -, t3, u3⟩, ⟨w4, -, t4, u4⟩, ⟨w5, -, t5, u5⟩, ⟨w6, -, t6, u6⟩, ⟨w7, -, t7, u7⟩, t8, t9, t10, t11⟩ := ht'
  have hC : f_X12_strength bh P = some (nI w4) := by
    show some (X8_strength P) = _; rw [t4]
  have hM : f_X14_strength (th, ta, bs, ea, kd, nu, po, ln, tk, wr, er, et, dp, fn, gn, va, N, kp) = some (nI w4, 0) := by
    unfold f_X14_strength
    rw [if_neg (by decide)]
    show some (N 2, 0) = _
    rw [u4]
  unfold f_law_442
  rw [bd hC, bd hM]
  exact ⟨_, if_pos rfl, REL_M hR rfl rfl rfl rfl⟩
theorem rl_455 (hn : 2100 < n) (hq : q ≤ 600) (hR : REL q bh tp P F G O (th, ta, bs, ea, kd, nu, po, ln, tk, wr, er, et, dp, fn, gn, va, N, kp) T) : ∃ σ, f_law_455 n bh tp X P R F G O Tr TR dF dG dO (th, ta, bs, ea, kd, nu, po, ln, tk, wr, er, et, dp, fn, gn, va, N, kp) T Fr ao = some σ ∧ LRel (q + 1) σ := by
  have hR' := hR
  obtain ⟨-, he, hh, nf, ng, no, fo, fr, hr, gr, h1, hp, ho, ht⟩ := hR'
  have h2 : hh < 1000000 := by omega
  replace ht : RPt nf ng fr hr gr P N hh := ht
  have hp' := hp
  have ht' := ht
  obtain ⟨p1, p2, p3, p4, p5, p6, p7, p8⟩ := hp'
  obtain ⟨t1, t2, ⟨w3, -, t3, u3⟩, ⟨w4, -, t4, u4⟩, ⟨w5, -, t5, u5⟩, ⟨w6, -, t6, u6⟩, ⟨w7, -, t7, u7⟩, t8, t9, t10, t11⟩ := ht'
  have hC : f_X12_charge bh P = some (nI w5) := by
    show some (X8_charge P) = _; rw [t5]
  have hM : f_X14_charge (th, ta, bs, ea, kd, nu, po, ln, tk, wr, er, et, dp, fn, gn, va, N, kp) = some (nI w5, 0) := by
    unfold f_X14_charge
    rw [if_neg (by decide)]
    show some (N 3, 0) = _
    rw [u5]
  unfold f_law_455
  rw [bd hC, bd hM]
  exact ⟨_, if_pos rfl, REL_M hR rfl rfl rfl rfl⟩
theorem rl_468 (hn : 2100 < n) (hq : q ≤ 600) (hR : REL q bh tp P F G O (th, ta, bs, ea, kd, nu, po, ln, tk, wr, er, et, dp, fn, gn, va, N, kp) T) : ∃ σ, f_law_468 n bh tp X P R F G O Tr TR dF dG dO (th, ta, bs, ea, kd, nu, po, ln, tk, wr, er, et, dp, fn, gn, va, N, kp) T Fr ao = some σ ∧ LRel (q + 1) σ := by
  have hR' := hR
  obtain ⟨-, he, hh, nf, ng, no, fo, fr, hr, gr, h1, hp, ho, ht⟩ := hR'
  have h2 : hh < 1000000 := by omega
  replace ht : RPt nf ng fr hr gr P N hh := ht
  have hp' := hp
  have ht' := ht
  obtain ⟨p1, p2, p3, p4, p5, p6, p7, p8⟩ := hp'
  obtain ⟨t1, t2, ⟨w3, -, t3, u3⟩, ⟨w4, -, t4, u4⟩, ⟨w5, -, t5, u5⟩, ⟨w6, -, t6, u6⟩, ⟨w7, -, t7, u7⟩, t8, t9, t10, t11⟩ := ht'
  have hC : f_X12_lemons bh P = some (nI w6) := by
    show some (X8_lemons P) = _; rw [t6]
  have hM : f_X14_lemons (th, ta, bs, ea, kd, nu, po, ln, tk, wr, er, et, dp, fn, gn, va, N, kp) = some (nI w6, 0) := by
    unfold f_X14_lemons
    rw [if_neg (by decide)]
    show some (N 4, 0) = _
    rw [u6]
  unfold f_law_468
  rw [bd hC, bd hM]
  exact ⟨_, if_pos rfl, REL_M hR rfl rfl rfl rfl⟩
theorem rl_481 (hn : 2100 < n) (hq : q ≤ 600) (hR : REL q bh tp P F G O (th, ta, bs, ea, kd, nu, po, ln, tk, wr, er, et, dp, fn, gn, va, N, kp) T) : ∃ σ, f_law_481 n bh tp X P R F G O Tr TR dF dG dO (th, ta, bs, ea, kd, nu, po, ln, tk, wr, er, et, dp, fn, gn, va, N, kp) T Fr ao = some σ ∧ LRel (q + 1) σ := by
  have hR' := hR
  obtain ⟨-, he, hh, nf, ng, no, fo, fr, hr, gr, h1, hp, ho, ht⟩ := hR'
  have h2 : hh < 1000000 := by omega
  replace ht : RPt nf ng fr hr gr P N hh := ht
  have hp' := hp
  have ht' := ht
  obtain ⟨p1, p2, p3, p4, p5, p6, p7, p8⟩ := hp'
  obtain ⟨t1, t2, ⟨w3, -, t3, u3⟩, ⟨w4, -, t4, u4⟩, ⟨w5, -, t5, u5⟩, ⟨w6, -, t6, u6⟩, ⟨w7, -, t7, u7⟩, t8, t9, t10, t11⟩ := ht'
  have hC : f_X12_saucers bh P = some (nI w7) := by
    show some (X8_saucers P) = _; rw [t7]
  have hM : f_X14_saucers (th, ta, bs, ea, kd, nu, po, ln, tk, wr, er, et, dp, fn, gn, va, N, kp) = some (nI w7, 0) := by
    unfold f_X14_saucers
    rw [if_neg (by decide)]
    show some (N 5, 0) = _
    rw [u7]
  unfold f_law_481
  rw [bd hC, bd hM]
  exact ⟨_, if_pos rfl, REL_M hR rfl rfl rfl rfl⟩
theorem rl_494 (hn : 2100 < n) (hq : q ≤ 600) (hR : REL q bh tp P F G O (th, ta, bs, ea, kd, nu, po, ln, tk, wr, er, et, dp, fn, gn, va, N, kp) T) : ∃ σ, f_law_494 n bh tp X P R F G O Tr TR dF dG dO (th, ta, bs, ea, kd, nu, po, ln, tk, wr, er, et, dp, fn, gn, va, N, kp) T Fr ao = some σ ∧ LRel (q + 1) σ := by
  have hR' := hR
  obtain ⟨-, he, hh, nf, ng, no, fo, fr, hr, gr, h1, hp, ho, ht⟩ := hR'
  have h2 : hh < 1000000 := by omega
  replace ht : RPt nf ng fr hr gr P N hh := ht
  have hp' := hp
  have ht' := ht
  obtain ⟨p1, p2, p3, p4, p5, p6, p7, p8⟩ := hp'
  obtain ⟨t1, t2, ⟨w3, -, t3, u3⟩, ⟨w4, -, t4, u4⟩, ⟨w5, -, t5, u5⟩, ⟨w6, -, t6, u6⟩, ⟨w7, -, t7, u7⟩, t8, t9, t10, t11⟩ := ht'
  have hC : f_X12_coins bh P = some (X8_coins P) := by
    rfl
  have hM : f_X14_coins (th, ta, bs, ea, kd, nu, po, ln, tk, wr, er, et, dp, fn, gn, va, N, kp) = some (X8_coins P, 0) := by
    unfold f_X14_coins
    rw [if_neg (by decide)]
    show some (N 7, 0) = _
    rw [t9]
  unfold f_law_494
  rw [bd hC, bd hM]
  exact ⟨_, if_pos rfl, REL_M hR rfl rfl rfl rfl⟩
theorem rl_507 (hn : 2100 < n) (hq : q ≤ 600) (hR : REL q bh tp P F G O (th, ta, bs, ea, kd, nu, po, ln, tk, wr, er, et, dp, fn, gn, va, N, kp) T) : ∃ σ, f_law_507 n bh tp X P R F G O Tr TR dF dG dO (th, ta, bs, ea, kd, nu, po, ln, tk, wr, er, et, dp, fn, gn, va, N, kp) T Fr ao = some σ ∧ LRel (q + 1) σ := by
  have hR' := hR
  obtain ⟨-, he, hh, nf, ng, no, fo, fr, hr, gr, h1, hp, ho, ht⟩ := hR'
  have h2 : hh < 1000000 := by omega
  replace ht : RPt nf ng fr hr gr P N hh := ht
  have hp' := hp
  have ht' := ht
  obtain ⟨p1, p2, p3, p4, p5, p6, p7, p8⟩ := hp'
  obtain ⟨t1, t2, ⟨w3, -, t3, u3⟩, ⟨w4, -, t4, u4⟩, ⟨w5, -, t5, u5⟩, ⟨w6, -, t6, u6⟩, ⟨w7, -, t7, u7⟩, t8, t9, t10, t11⟩ := ht'
  have hC : f_X12_storms bh P = some (X8_storms P) := by
    rfl
  have hM : f_X14_storms (th, ta, bs, ea, kd, nu, po, ln, tk, wr, er, et, dp, fn, gn, va, N, kp) = some (X8_storms P, 0) := by
    unfold f_X14_storms
    rw [if_neg (by decide)]
    show some (N 6, 0) = _
    rw [t8]
  unfold f_law_507
  rw [bd hC, bd hM]
  exact ⟨_, if_pos rfl, REL_M hR rfl rfl rfl rfl⟩
theorem rl_520 (hn : 2100 < n) (hq : q ≤ 600) (hR : REL q bh tp P F G O (th, ta, bs, ea, kd, nu, po, ln, tk, wr, er, et, dp, fn, gn, va, N, kp) T) : ∃ σ, f_law_520 n bh tp X P R F G O Tr TR dF dG dO (th, ta, bs, ea, kd, nu, po, ln, tk, wr, er, et, dp, fn, gn, va, N, kp) T Fr ao = some σ ∧ LRel (q + 1) σ := by
  have hR' := hR
  obtain ⟨-, he, hh, nf, ng, no, fo, fr, hr, gr, h1, hp, ho, ht⟩ := hR'
  have h2 : hh < 1000000 := by omega
  replace ht : RPt nf ng fr hr gr P N hh := ht
  have hp' := hp
  have ht' := ht
  obtain ⟨p1, p2, p3, p4, p5, p6, p7, p8⟩ := hp'
  obtain ⟨t1, t2, ⟨w3, -, t3, u3⟩, ⟨w4, -, t4, u4⟩, ⟨w5, -, t5, u5⟩, ⟨w6, -, t6, u6⟩, ⟨w7, -, t7, u7⟩, t8, t9, t10, t11⟩ := ht'
  have hC := k_seated hp ht h2 (n := n) (by omega) bh
  have kw := k_with (N := N) (th := th) (ta := ta) (bs := bs) (ea := ea) (kd := kd) (nu := nu) (po := po) (ln := ln) (tk := tk) (wr := wr) (er := er) (et := et) (dp := dp) (fn := fn) (gn := gn) (va := va) (kp := kp) p2 p6 (show 20 < n by omega) (c := 28) (by omega)
  have hM : f_X14_seatedGuests n (th, ta, bs, ea, kd, nu, po, ln, tk, wr, er, et, dp, fn, gn, va, N, kp) T = some (sumI (fun g => N (28 + g)) ng, 0) := by
    unfold f_X14_seatedGuests
    exact bd kw _
  unfold f_law_520
  rw [bd hC, bd hM]
  exact ⟨_, if_pos rfl, REL_M hR rfl rfl rfl rfl⟩
theorem rl_533 (hn : 2100 < n) (hq : q ≤ 600) (hR : REL q bh tp P F G O (th, ta, bs, ea, kd, nu, po, ln, tk, wr, er, et, dp, fn, gn, va, N, kp) T) : ∃ σ, f_law_533 n bh tp X P R F G O Tr TR dF dG dO (th, ta, bs, ea, kd, nu, po, ln, tk, wr, er, et, dp, fn, gn, va, N, kp) T Fr ao = some σ ∧ LRel (q + 1) σ := by
  have hR' := hR
  obtain ⟨-, he, hh, nf, ng, no, fo, fr, hr, gr, h1, hp, ho, ht⟩ := hR'
  have h2 : hh < 1000000 := by omega
  replace ht : RPt nf ng fr hr gr P N hh := ht
  have hp' := hp
  have ht' := ht
  obtain ⟨p1, p2, p3, p4, p5, p6, p7, p8⟩ := hp'
  obtain ⟨t1, t2, ⟨w3, -, t3, u3⟩, ⟨w4, -, t4, u4⟩, ⟨w5, -, t5, u5⟩, ⟨w6, -, t6, u6⟩, ⟨w7, -, t7, u7⟩, t8, t9, t10, t11⟩ := ht'
  have kc := k_countTrue (n := n) (f := X8_guestServed P) (by omega) p2 (fun g hg => by
    obtain ⟨t, u, a1, a2, a3, a4, a5, a6, -⟩ := t11 g hg
    exact ⟨t, a1, a3⟩)
  have hC : f_X12_served n bh P G = some (sumI (X8_guestServed P) ng) := by
    unfold f_X12_served
    rw [p5, bd kc]
  have kw := k_with (N := N) (th := th) (ta := ta) (bs := bs) (ea := ea) (kd := kd) (nu := nu) (po := po) (ln := ln) (tk := tk) (wr := wr) (er := er) (et := et) (dp := dp) (fn := fn) (gn := gn) (va := va) (kp := kp) p2 p6 (show 20 < n by omega) (c := 38) (by omega)
  have hs : sumI (fun g => N (38 + g)) ng = sumI (X8_guestServed P) ng := sumI_congr (fun g hg => by
    obtain ⟨t, u, a1, a2, a3, a4, a5, a6, -⟩ := t11 g hg
    rw [a3, a5])
  rw [hs] at kw
  have hM : f_X14_served n (th, ta, bs, ea, kd, nu, po, ln, tk, wr, er, et, dp, fn, gn, va, N, kp) T = some (sumI (X8_guestServed P) ng, 0) := by
    unfold f_X14_served
    exact bd kw _
  unfold f_law_533
  rw [bd hC, bd hM]
  exact ⟨_, if_pos rfl, REL_M hR rfl rfl rfl rfl⟩
theorem rl_546 (hn : 2100 < n) (hq : q ≤ 600) (hR : REL q bh tp P F G O (th, ta, bs, ea, kd, nu, po, ln, tk, wr, er, et, dp, fn, gn, va, N, kp) T) : ∃ σ, f_law_546 n bh tp X P R F G O Tr TR dF dG dO (th, ta, bs, ea, kd, nu, po, ln, tk, wr, er, et, dp, fn, gn, va, N, kp) T Fr ao = some σ ∧ LRel (q + 1) σ := by
  have hR' := hR
  obtain ⟨-, he, hh, nf, ng, no, fo, fr, hr, gr, h1, hp, ho, ht⟩ := hR'
  have h2 : hh < 1000000 := by omega
  replace ht : RPt nf ng fr hr gr P N hh := ht
  have hp' := hp
  have ht' := ht
  obtain ⟨p1, p2, p3, p4, p5, p6, p7, p8⟩ := hp'
  obtain ⟨t1, t2, ⟨w3, -, t3, u3⟩, ⟨w4, -, t4, u4⟩, ⟨w5, -, t5, u5⟩, ⟨w6, -, t6, u6⟩, ⟨w7, -, t7, u7⟩, t8, t9, t10, t11⟩ := ht'
  have kc := k_countTrue (n := n) (f := X8_guestStormed P) (by omega) p2 (fun g hg => by
    obtain ⟨t, u, a1, a2, a3, a4, a5, a6, -⟩ := t11 g hg
    exact ⟨u, a2, a4⟩)
  have hC : f_X12_stormed n bh P G = some (sumI (X8_guestStormed P) ng) := by
    unfold f_X12_stormed
    rw [p5, bd kc]
  have kw := k_with (N := N) (th := th) (ta := ta) (bs := bs) (ea := ea) (kd := kd) (nu := nu) (po := po) (ln := ln) (tk := tk) (wr := wr) (er := er) (et := et) (dp := dp) (fn := fn) (gn := gn) (va := va) (kp := kp) p2 p6 (show 20 < n by omega) (c := 48) (by omega)
  have hs : sumI (fun g => N (48 + g)) ng = sumI (X8_guestStormed P) ng := sumI_congr (fun g hg => by
    obtain ⟨t, u, a1, a2, a3, a4, a5, a6, -⟩ := t11 g hg
    rw [a4, a6])
  rw [hs] at kw
  have hM : f_X14_stormed n (th, ta, bs, ea, kd, nu, po, ln, tk, wr, er, et, dp, fn, gn, va, N, kp) T = some (sumI (X8_guestStormed P) ng, 0) := by
    unfold f_X14_stormed
    exact bd kw _
  unfold f_law_546
  rw [bd hC, bd hM]
  exact ⟨_, if_pos rfl, REL_M hR rfl rfl rfl rfl⟩
theorem rl_1493 (hn : 2100 < n) (hq : q ≤ 600) (hR : REL q bh tp P F G O (th, ta, bs, ea, kd, nu, po, ln, tk, wr, er, et, dp, fn, gn, va, N, kp) T) : ∃ σ, f_law_1493 n bh tp X P R F G O Tr TR dF dG dO (th, ta, bs, ea, kd, nu, po, ln, tk, wr, er, et, dp, fn, gn, va, N, kp) T Fr ao = some σ ∧ LRel (q + 1) σ := by
  have hR' := hR
  obtain ⟨-, he, hh, nf, ng, no, fo, fr, hr, gr, h1, hp, ho, ht⟩ := hR'
  have h2 : hh < 1000000 := by omega
  replace ht : RPt nf ng fr hr gr P N hh := ht
  have hp' := hp
  have ht' := ht
  obtain ⟨p1, p2, p3, p4, p5, p6, p7, p8⟩ := hp'
  obtain ⟨t1, t2, ⟨w3, -, t3, u3⟩, ⟨w4, -, t4, u4⟩, ⟨w5, -, t5, u5⟩, ⟨w6, -, t6, u6⟩, ⟨w7, -, t7, u7⟩, t8, t9, t10, t11⟩ := ht'
  have hC := k_best hp ht h2 (n := n) (by omega) bh
  have kb := k_bestM (N := N) (th := th) (ta := ta) (bs := bs) (ea := ea) (kd := kd) (nu := nu) (po := po) (ln := ln) (tk := tk) (wr := wr) (er := er) (et := et) (dp := dp) (fn := fn) (gn := gn) (va := va) (kp := kp) hp ht (n := n) (by omega)
  have hM : f_X14_bestToSteep n (th, ta, bs, ea, kd, nu, po, ln, tk, wr, er, et, dp, fn, gn, va, N, kp) T = some (bstB (bestS (fun f => N (8 + f)) (fun f => ctN N T ng (strN N T f)) nf), 0, N) := by
    unfold f_X14_bestToSteep
    exact bd kb _
  unfold f_law_1493
  rw [bd hC, bd hM]
  exact ⟨_, if_pos rfl, REL_M hR rfl rfl rfl rfl⟩
theorem rl_1506 (hn : 2100 < n) (hq : q ≤ 600) (hR : REL q bh tp P F G O (th, ta, bs, ea, kd, nu, po, ln, tk, wr, er, et, dp, fn, gn, va, N, kp) T) : ∃ σ, f_law_1506 n bh tp X P R F G O Tr TR dF dG dO (th, ta, bs, ea, kd, nu, po, ln, tk, wr, er, et, dp, fn, gn, va, N, kp) T Fr ao = some σ ∧ LRel (q + 1) σ := by
  have hR' := hR
  obtain ⟨-, he, hh, nf, ng, no, fo, fr, hr, gr, h1, hp, ho, ht⟩ := hR'
  have h2 : hh < 1000000 := by omega
  replace ht : RPt nf ng fr hr gr P N hh := ht
  have hp' := hp
  have ht' := ht
  obtain ⟨p1, p2, p3, p4, p5, p6, p7, p8⟩ := hp'
  obtain ⟨t1, t2, ⟨w3, -, t3, u3⟩, ⟨w4, -, t4, u4⟩, ⟨w5, -, t5, u5⟩, ⟨w6, -, t6, u6⟩, ⟨w7, -, t7, u7⟩, t8, t9, t10, t11⟩ := ht'
  have hC := k_mean hp ht h2 (n := n) (by omega) bh
  have hM := k_meanM (N := N) (th := th) (ta := ta) (bs := bs) (ea := ea) (kd := kd) (nu := nu) (po := po) (ln := ln) (tk := tk) (wr := wr) (er := er) (et := et) (dp := dp) (fn := fn) (gn := gn) (va := va) (kp := kp) hp ht (n := n) (by omega)
  unfold f_law_1506
  rw [bd hC, bd hM]
  generalize meanS (sumN (fun f => bitN N f * fo f) nf) (sumN (bitN N) nf) = v
  by_cases z : (Op.cmpValue (FP.dcmp v v) .l) = 0
  · exact ⟨_, if_pos z, REL_M hR rfl rfl rfl rfl⟩
  · exact ⟨_, (if_neg z).trans ((if_neg z).trans (if_neg z)), REL_M hR rfl rfl rfl rfl⟩
theorem rl_1547 (hn : 2100 < n) (hq : q ≤ 600) (hR : REL q bh tp P F G O (th, ta, bs, ea, kd, nu, po, ln, tk, wr, er, et, dp, fn, gn, va, N, kp) T) : ∃ σ, f_law_1547 n bh tp X P R F G O Tr TR dF dG dO (th, ta, bs, ea, kd, nu, po, ln, tk, wr, er, et, dp, fn, gn, va, N, kp) T Fr ao = some σ ∧ LRel (q + 1) σ := by
  have hR' := hR
  obtain ⟨-, he, hh, nf, ng, no, fo, fr, hr, gr, h1, hp, ho, ht⟩ := hR'
  have h2 : hh < 1000000 := by omega
  replace ht : RPt nf ng fr hr gr P N hh := ht
  have hp' := hp
  have ht' := ht
  obtain ⟨p1, p2, p3, p4, p5, p6, p7, p8⟩ := hp'
  obtain ⟨t1, t2, ⟨w3, -, t3, u3⟩, ⟨w4, -, t4, u4⟩, ⟨w5, -, t5, u5⟩, ⟨w6, -, t6, u6⟩, ⟨w7, -, t7, u7⟩, t8, t9, t10, t11⟩ := ht'
  have hC := k_digest hp ht h2 (n := n) (by omega) bh
  have hM := k_digestM (N := N) (th := th) (ta := ta) (bs := bs) (ea := ea) (kd := kd) (nu := nu) (po := po) (ln := ln) (tk := tk) (wr := wr) (er := er) (et := et) (dp := dp) (fn := fn) (gn := gn) (va := va) (kp := kp) hp ht (n := n) (by omega)
  unfold f_law_1547
  rw [bd hC, bd hM]
  have hc : lg_cmp (digN N T nf ng) (digN N T nf ng) = 0 := (cmp_eq _ _).mpr rfl
  exact ⟨_, if_pos hc, REL_M hR rfl rfl rfl rfl⟩
end P69
