/-! the laws of the calls that let hours go by, or look ahead -/
abbrev lpR : Type := Int32 × Int32 × Int32 × Int32 × Int32 × Int32 × Int32 × Int32 × Int32 × (Nat → Int32) × (Nat → Int32) × (Nat → Int32) × (Nat → Int32) × Int32 × (Nat → Int64)
def lpT (c : Int32) (p : pkT) (ao : Nat → Int64) : lpR := (c, p.1, p.2.1, p.2.2.1, p.2.2.2.1, p.2.2.2.2.1, p.2.2.2.2.2.1, p.2.2.2.2.2.2.1, p.2.2.2.2.2.2.2.1, p.2.2.2.2.2.2.2.2.1, p.2.2.2.2.2.2.2.2.2.1, p.2.2.2.2.2.2.2.2.2.2.1, p.2.2.2.2.2.2.2.2.2.2.2.1, p.2.2.2.2.2.2.2.2.2.2.2.2, ao)
section P74
variable {n q : Nat} {th bs ea tk wr er et dp : Int32} {ta kd nu po ln fn gn va kp : Nat → Int32}
variable {N : Nat → Int32} {bh : bX12} {tp : bX10} {X : bX11} {P Tr : bX8} {R TR : bX9} {F dF : bX2} {G dG : bX4} {O dO : bX6} {T Fr : bX13} {ao : Nat → Int64}
theorem rl_1312 (hn : 2100 < n) (hq : q ≤ 600) (x : Int32) (hR : REL q bh tp P F G O (th, ta, bs, ea, kd, nu, po, ln, tk, wr, er, et, dp, fn, gn, va, N, kp) T) : ∃ σ, f_law_1312 n x bh tp X P R F G O Tr TR dF dG dO (th, ta, bs, ea, kd, nu, po, ln, tk, wr, er, et, dp, fn, gn, va, N, kp) T Fr ao = some σ ∧ LRel (q + 1) σ := by
  have hR' := hR
  obtain ⟨-, he, hh, nf, ng, no, fo, fr, hr, gr, h1, hp, hO, ht⟩ := hR'
  have h2 : hh < 900000 := by omega
  have h3 : hh ≤ 30 * (q + 1) := by omega
  replace ht : RPt nf ng fr hr gr P N hh := ht
  have hp' := hp
  obtain ⟨p1, p2, p3, p4, p5, p6, p7, p8⟩ := hp'
  have htp := r_tpot (Tr := Tr) p1 p2 ht
  rcases hrs_in (x := x) with ⟨m, m0, m1, e, c1, c2⟩ | ⟨c1, c2⟩
  case inr =>
    have hC : f_X12_passHours n x bh P R F G O = some (.inr ("java/lang/IllegalArgumentException", pk P R)) := by
      rw [ph_eq]
      exact bd c1 _
    have hM : f_X14_passHours n x (th, ta, bs, ea, kd, nu, po, ln, tk, wr, er, et, dp, fn, gn, va, N, kp) T = some (0, 1, va, N) := by
      unfold f_X14_passHours
      exact bd c2 _
    have hL : f_L_passHours n x bh P R F G O 1 ao = some (lpT 1 (pk P R) ao) := by
      unfold f_L_passHours
      rw [bd hC]
      exact (if_pos rfl : (if ("java/lang/IllegalArgumentException" : String) = "java/lang/IllegalArgumentException" then some (lpT 1 (pk P R) ao) else none) = some (lpT 1 (pk P R) ao))
    unfold f_law_1312
    rw [bd hL, bd hM]
    exact ⟨_, lw_t, REL_M hR rfl rfl rfl rfl⟩
  subst e
  obtain ⟨sq, s0, s1, s2⟩ := hr_seq (R := R) (th := nI 0) (ta := ta) (bs := bs) (ea := ea) (kd := kd) (nu := nu) (po := po) (ln := ln) (tk := tk) (wr := wr) (er := er) (et := et) (dp := dp) (fn := fn) (gn := gn) (va := va) (kp := kp) hn hp hO ht h2 m (by omega)
  have hCi := iter_count (phC n (nI m) bh P R F G O) (fun i => (nI i, pk (sq i).1 (sq i).2.1)) m _ (fun i hi => phC_s m1 hi (s2 i hi).1) phC_e (n := n) (by omega)
  have hMi := iter_count (phM n (nI m) (th, ta, bs, ea, kd, nu, po, ln, tk, wr, er, et, dp, fn, gn, va, N, kp) T) (fun i => (nI i, (sq i).2.2.1, (sq i).2.2.2)) m _ (fun i hi => phM_s m1 hi (s2 i hi).2) phM_e (n := n) (by omega)
  rw [s0] at hCi hMi
  have hm := s1 m (Nat.le_refl _)
  have hN : (sq m).2.2.2 6 - N 6 = X8_storms (sq m).1 - X8_storms P := by rw [hm.2.2.2.2.2.2.2.1, ht.2.2.2.2.2.2.2.1]
  rw [hN] at hMi
  have hC : f_X12_passHours n (nI m) bh P R F G O = some (.inl (X8_storms (sq m).1 - X8_storms P, pk (sq m).1 (sq m).2.1)) := by
    rw [ph_eq]
    exact (bd c1 _).trans hCi
  have hM : f_X14_passHours n (nI m) (th, ta, bs, ea, kd, nu, po, ln, tk, wr, er, et, dp, fn, gn, va, N, kp) T = some (X8_storms (sq m).1 - X8_storms P, 0, (sq m).2.2.1, (sq m).2.2.2) := by
    unfold f_X14_passHours
    refine (bd c2 _).trans ?_
    rw [if_neg (show ¬ (nI 1 = (0 : Int32)) by decide), if_neg (by decide)]
    exact hMi
  generalize X8_storms (sq m).1 - X8_storms P = v at hC hM
  have hL : f_L_passHours n (nI m) bh P R F G O 1 ao = some (lpT 0 (pk (sq m).1 (sq m).2.1) (vp_updL ao (0 : Int32).toNatClampNeg (Int32.toInt64 v))) := by
    unfold f_L_passHours
    rw [bd hC]
    rfl
  unfold f_law_1312
  rw [bd hL, bd hM]
  exact ⟨_, lw_ok (ao := ao) (v := v), REL_P (hh := hh + m) hR rfl rfl rfl (by omega) hp hO hm⟩
theorem rl_1368 (hn : 2100 < n) (hq : q ≤ 600) (x : Int32) (hR : REL q bh tp P F G O (th, ta, bs, ea, kd, nu, po, ln, tk, wr, er, et, dp, fn, gn, va, N, kp) T) : ∃ σ, f_law_1368 n x bh tp X P R F G O Tr TR dF dG dO (th, ta, bs, ea, kd, nu, po, ln, tk, wr, er, et, dp, fn, gn, va, N, kp) T Fr ao = some σ ∧ LRel (q + 1) σ := by
  have hR' := hR
  obtain ⟨-, he, hh, nf, ng, no, fo, fr, hr, gr, h1, hp, hO, ht⟩ := hR'
  have h2 : hh < 900000 := by omega
  have h3 : hh ≤ 30 * (q + 1) := by omega
  replace ht : RPt nf ng fr hr gr P N hh := ht
  have hp' := hp
  obtain ⟨p1, p2, p3, p4, p5, p6, p7, p8⟩ := hp'
  have htp := r_tpot (Tr := Tr) p1 p2 ht
  rcases hrs_in (x := x) with ⟨m, m0, m1, e, c1, c2⟩ | ⟨c1, c2⟩
  case inr =>
    have hC : f_X12_coinsAfter n x bh P F G O Tr TR = some (.inr ("java/lang/IllegalArgumentException", pk Tr TR)) := by
      rw [ca_eq]
      exact bd c1 _
    have hM : f_X14_coinsAfter n x (th, ta, bs, ea, kd, nu, po, ln, tk, wr, er, et, dp, fn, gn, va, N, kp) T = some (0, 1, va, N, kp) := by
      unfold f_X14_coinsAfter
      exact bd c2 _
    have hL : f_L_coinsAfter n x bh P F G O Tr TR 1 ao = some (lpT 1 (pk Tr TR) ao) := by
      unfold f_L_coinsAfter
      rw [bd hC]
      exact (if_pos rfl : (if ("java/lang/IllegalArgumentException" : String) = "java/lang/IllegalArgumentException" then some (lpT 1 (pk Tr TR) ao) else none) = some (lpT 1 (pk Tr TR) ao))
    unfold f_law_1368
    rw [bd hL, bd hM]
    exact ⟨_, lw_t, REL_M hR rfl rfl rfl rfl⟩
  subst e
  obtain ⟨sq, s0, s1, s2⟩ := hr_seq (R := TR) (th := nI 0) (ta := ta) (bs := bs) (ea := ea) (kd := kd) (nu := nu) (po := po) (ln := ln) (tk := tk) (wr := wr) (er := er) (et := et) (dp := dp) (fn := fn) (gn := gn) (va := va) (kp := va_cpy N kp 0 0 58) hn hp hO htp h2 m (by omega)
  have hCi := iter_count (caC n (nI m) bh P F G O Tr TR) (fun i => (nI i, pk (sq i).1 (sq i).2.1)) m _ (fun i hi => caC_s m1 hi (s2 i hi).1) caC_e (n := n) (by omega)
  have hMi := iter_count (caM n (nI m) (th, ta, bs, ea, kd, nu, po, ln, tk, wr, er, et, dp, fn, gn, va, N, kp) T (va_cpy N kp 0 0 58)) (fun i => (nI i, (sq i).2.2.1, (sq i).2.2.2)) m _ (fun i hi => caM_s m1 hi (s2 i hi).2) caM_e (n := n) (by omega)
  rw [s0] at hCi hMi
  have hm := s1 m (Nat.le_refl _)
  have hN : (sq m).2.2.2 7 = X8_coins (sq m).1 := hm.2.2.2.2.2.2.2.2.1
  rw [hN] at hMi
  have hC : f_X12_coinsAfter n (nI m) bh P F G O Tr TR = some (.inl (X8_coins (sq m).1, pk (sq m).1 (sq m).2.1)) := by
    rw [ca_eq]
    exact (bd c1 _).trans ((bd (k_copyFrom hn) _).trans hCi)
  have hM : f_X14_coinsAfter n (nI m) (th, ta, bs, ea, kd, nu, po, ln, tk, wr, er, et, dp, fn, gn, va, N, kp) T = some (X8_coins (sq m).1, 0, (sq m).2.2.1, va_cpy (va_cpy N kp 0 0 58) (sq m).2.2.2 0 0 58, va_cpy N kp 0 0 58) := by
    unfold f_X14_coinsAfter
    refine (bd c2 _).trans ?_
    rw [if_neg (show ¬ (nI 1 = (0 : Int32)) by decide)]
    refine (bd (k_keep (N := N) (th := nI 0) (ta := ta) (bs := bs) (ea := ea) (kd := kd) (nu := nu) (po := po) (ln := ln) (tk := tk) (wr := wr) (er := er) (et := et) (dp := dp) (fn := fn) (gn := gn) (va := va) (kp := kp)) _).trans ?_
    exact hMi
  generalize X8_coins (sq m).1 = v at hC hM
  have hL : f_L_coinsAfter n (nI m) bh P F G O Tr TR 1 ao = some (lpT 0 (pk (sq m).1 (sq m).2.1) (vp_updL ao (0 : Int32).toNatClampNeg (Int32.toInt64 v))) := by
    unfold f_L_coinsAfter
    rw [bd hC]
    rfl
  have hb := RPt_congr p1 p2 ht (k_back N (sq m).2.2.2 kp) rfl rfl rfl rfl rfl rfl rfl rfl (fun _ _ => rfl) (fun _ _ => ⟨rfl, rfl⟩)
  unfold f_law_1368
  rw [bd hL, bd hM]
  exact ⟨_, lw_ok (ao := ao) (v := v), REL_P hR rfl rfl rfl h3 hp hO hb⟩
/-- the model's search, over the hours that follow -/
theorem un_M (hn : 2100 < n) {w : Nat} (hw : w < 58) {sq : Nat → sqT} {P0 : bX8} {R0 : bX9} (s0 : sq 0 = (P0, R0, va, N)) (s2 : ∀ i, i < 60 → f_X14_hourOn n (th, ta, bs, ea, kd, nu, po, ln, tk, wr, er, et, dp, fn, gn, (sq i).2.2.1, (sq i).2.2.2, va_cpy N kp 0 0 58) T = some ((sq (i + 1)).2.2.1, (sq (i + 1)).2.2.2)) {j : Nat} (hj : j ≤ 60) (h1 : ∀ i, i < j → (sq (i + 1)).2.2.2 w ≤ N w) (h2 : j < 60 → ¬ (sq (j + 1)).2.2.2 w ≤ N w) : ∃ r : Nat, f_X14_until n (nI w) (th, ta, bs, ea, kd, nu, po, ln, tk, wr, er, et, dp, fn, gn, va, N, kp) T = some ((if j < 60 then nI (j + 1) else -1), (sq r).2.2.1, va_cpy (va_cpy N kp 0 0 58) (sq r).2.2.2 0 0 58, va_cpy N kp 0 0 58) := by
  have hkw : va_cpy N kp 0 0 58 w = N w := sb_cpy0 hw
  have e0 : f_X14_until n (nI w) (th, ta, bs, ea, kd, nu, po, ln, tk, wr, er, et, dp, fn, gn, va, N, kp) T = iter (unM n (nI w) (th, ta, bs, ea, kd, nu, po, ln, tk, wr, er, et, dp, fn, gn, va, N, kp) T (va_cpy N kp 0 0 58)) n (-1, nI (0 + 1), (sq 0).2.2.1, (sq 0).2.2.2) := by
    rw [s0]
    unfold f_X14_until
    exact bd (k_keep (N := N) (th := th) (ta := ta) (bs := bs) (ea := ea) (kd := kd) (nu := nu) (po := po) (ln := ln) (tk := tk) (wr := wr) (er := er) (et := et) (dp := dp) (fn := fn) (gn := gn) (va := va) (kp := kp)) _
  rw [e0]
  have hst : ∀ i, i < j → unM n (nI w) (th, ta, bs, ea, kd, nu, po, ln, tk, wr, er, et, dp, fn, gn, va, N, kp) T (va_cpy N kp 0 0 58) (-1, nI (i + 1), (sq i).2.2.1, (sq i).2.2.2) = some (.inl (-1, nI (i + 1 + 1), (sq (i + 1)).2.2.1, (sq (i + 1)).2.2.2)) := fun i hi => unM_s hw (by omega) (s2 i (by omega)) (by rw [hkw]; exact h1 i hi)
  have hgo : ∀ (k m : Nat), k ≤ j → iter (unM n (nI w) (th, ta, bs, ea, kd, nu, po, ln, tk, wr, er, et, dp, fn, gn, va, N, kp) T (va_cpy N kp 0 0 58)) (m + k) (-1, nI (0 + 1), (sq 0).2.2.1, (sq 0).2.2.2) = iter (unM n (nI w) (th, ta, bs, ea, kd, nu, po, ln, tk, wr, er, et, dp, fn, gn, va, N, kp) T (va_cpy N kp 0 0 58)) m (-1, nI (k + 1), (sq k).2.2.1, (sq k).2.2.2) := by
    intro k
    induction k with
    | zero => intro m _; rfl
    | succ k ih =>
      intro m hk
      have := ih (m + 1) (by omega)
      rw [show m + (k + 1) = m + 1 + k by omega, this, iter_inl (hst k (by omega))]
  have hg := hgo j (n - j) (Nat.le_refl _)
  rw [show n - j + j = n by omega] at hg
  rw [hg]
  by_cases z : j < 60
  · rw [if_pos z, show n - j = (n - j - 2) + 1 + 1 by omega, iter_inl (unM_r hw z (s2 j z) (by rw [hkw]; exact h2 z)), iter_inr (unM_f z)]
    exact ⟨j + 1, rfl⟩
  · have e : j = 60 := by omega
    subst e
    rw [if_neg z, show n - 60 = (n - 61) + 1 by omega, iter_inr unM_e]
    exact ⟨60, rfl⟩
theorem rl_1424 (hn : 2100 < n) (hq : q ≤ 600) (hR : REL q bh tp P F G O (th, ta, bs, ea, kd, nu, po, ln, tk, wr, er, et, dp, fn, gn, va, N, kp) T) : ∃ σ, f_law_1424 n bh tp X P R F G O Tr TR dF dG dO (th, ta, bs, ea, kd, nu, po, ln, tk, wr, er, et, dp, fn, gn, va, N, kp) T Fr ao = some σ ∧ LRel (q + 1) σ := by
  have hR' := hR
  obtain ⟨-, he, hh, nf, ng, no, fo, fr, hr, gr, h1, hp, hO, ht⟩ := hR'
  have h2 : hh < 900000 := by omega
  have h3 : hh ≤ 30 * (q + 1) := by omega
  replace ht : RPt nf ng fr hr gr P N hh := ht
  have hp' := hp
  obtain ⟨p1, p2, p3, p4, p5, p6, p7, p8⟩ := hp'
  have htp := r_tpot (Tr := Tr) p1 p2 ht
  obtain ⟨sq, s0, s1, s2⟩ := hr_seq (R := TR) (th := th) (ta := ta) (bs := bs) (ea := ea) (kd := kd) (nu := nu) (po := po) (ln := ln) (tk := tk) (wr := wr) (er := er) (et := et) (dp := dp) (fn := fn) (gn := gn) (va := va) (kp := va_cpy N kp 0 0 58) hn hp hO htp h2 60 (by omega)
  obtain ⟨j, j1, j2, j3⟩ := first_ex (fun i => decide (¬ X8_storms (sq (i + 1)).1 ≤ X8_storms P)) 60
  have j2' : ∀ i, i < j → X8_storms (sq (i + 1)).1 ≤ X8_storms P := fun i hi => by
    have := j2 i hi
    simpa using this
  have j3' : j < 60 → ¬ X8_storms (sq (j + 1)).1 ≤ X8_storms P := fun hj => by
    have := j3 hj
    simpa using this
  have hN0 : N 6 = X8_storms P := ht.2.2.2.2.2.2.2.1
  have hN : ∀ i, i ≤ 60 → (sq i).2.2.2 6 = X8_storms (sq i).1 := fun i hi => (s1 i hi).2.2.2.2.2.2.2.1
  obtain ⟨r, hr2⟩ := un_M (th := th) (ta := ta) (bs := bs) (ea := ea) (kd := kd) (nu := nu) (po := po) (ln := ln) (tk := tk) (wr := wr) (er := er) (et := et) (dp := dp) (fn := fn) (gn := gn) (va := va) (kp := kp) (N := N) hn (w := 6) (by omega) s0 (fun i hi => (s2 i hi).2) j1 (fun i hi => by rw [hN _ (by omega), hN0]; exact j2' i hi) (fun hj => by rw [hN _ (by omega), hN0]; exact j3' hj)
  have hM : f_X14_hoursUntilStorm n (th, ta, bs, ea, kd, nu, po, ln, tk, wr, er, et, dp, fn, gn, va, N, kp) T = some ((if j < 60 then nI (j + 1) else -1), 0, (sq r).2.2.1, va_cpy (va_cpy N kp 0 0 58) (sq r).2.2.2 0 0 58, va_cpy N kp 0 0 58) := by
    unfold f_X14_hoursUntilStorm
    exact bd hr2 _
  have hC : ∃ (P2 : bX8) (R2 : bX9), f_X12_hoursUntilStorm n bh P F G O Tr TR = some ((if j < 60 then nI (j + 1) else -1), pk P2 R2) := by
    rw [hs_eq, bd (k_copyFrom hn)]
    by_cases z : j < 60
    · have hi := iter_count (hsC n bh P F G O Tr TR) (fun i => (nI (i + 1), pk (sq i).1 (sq i).2.1)) j _ (fun i hi => hsC_s (by omega) (s2 i (by omega)).1 (j2' i hi)) (hsC_r z (s2 j z).1 (j3' z)) (n := n) (by omega)
      rw [s0] at hi
      rw [if_pos z]
      exact ⟨_, _, hi⟩
    · have e : j = 60 := by omega
      subst e
      have hi := iter_count (hsC n bh P F G O Tr TR) (fun i => (nI (i + 1), pk (sq i).1 (sq i).2.1)) 60 _ (fun i hi => hsC_s (by omega) (s2 i (by omega)).1 (j2' i hi)) hsC_e (n := n) (by omega)
      rw [s0] at hi
      rw [if_neg z]
      exact ⟨_, _, hi⟩
  obtain ⟨P2, R2, hC⟩ := hC
  have hb := RPt_congr p1 p2 ht (k_back N (sq r).2.2.2 kp) rfl rfl rfl rfl rfl rfl rfl rfl (fun _ _ => rfl) (fun _ _ => ⟨rfl, rfl⟩)
  generalize ((if j < 60 then nI (j + 1) else -1) : Int32) = v at hC hM
  unfold f_law_1424
  rw [bd hC, bd hM]
  exact ⟨_, if_pos rfl, REL_P hR rfl rfl rfl h3 hp hO hb⟩
theorem rl_1437 (hn : 2100 < n) (hq : q ≤ 600) (x : Int32) (hR : REL q bh tp P F G O (th, ta, bs, ea, kd, nu, po, ln, tk, wr, er, et, dp, fn, gn, va, N, kp) T) : ∃ σ, f_law_1437 n x bh tp X P R F G O Tr TR dF dG dO (th, ta, bs, ea, kd, nu, po, ln, tk, wr, er, et, dp, fn, gn, va, N, kp) T Fr ao = some σ ∧ LRel (q + 1) σ := by
  have hR' := hR
  obtain ⟨-, he, hh, nf, ng, no, fo, fr, hr, gr, h1, hp, hO, ht⟩ := hR'
  have h2 : hh < 900000 := by omega
  have h3 : hh ≤ 30 * (q + 1) := by omega
  replace ht : RPt nf ng fr hr gr P N hh := ht
  have hp' := hp
  obtain ⟨p1, p2, p3, p4, p5, p6, p7, p8⟩ := hp'
  have htp := r_tpot (Tr := Tr) p1 p2 ht
  rcases gu_in (bh := bh) (P := P) (x := x) (N := N) (th := th) (ta := ta) (bs := bs) (ea := ea) (kd := kd) (nu := nu) (po := po) (ln := ln) (tk := tk) (wr := wr) (er := er) (et := et) (dp := dp) (fn := fn) (gn := gn) (va := va) (kp := kp) p2 p5 p6 with ⟨g, hg, e, c1, m1⟩ | ⟨c1, m1⟩
  case inr =>
    have hC : f_X12_hoursUntilServed n x bh P F G O Tr TR = some (.inr ("java/lang/IndexOutOfBoundsException", pk Tr TR)) := by
      rw [hv_eq]
      exact bd c1 _
    have hM : f_X14_hoursUntilServed n x (th, ta, bs, ea, kd, nu, po, ln, tk, wr, er, et, dp, fn, gn, va, N, kp) T = some (0, 1, va, N, kp) := by
      unfold f_X14_hoursUntilServed
      exact bd m1 _
    have hL : f_L_hoursUntilServed n x bh P F G O Tr TR 1 ao = some (lpT 1 (pk Tr TR) ao) := by
      unfold f_L_hoursUntilServed
      rw [bd hC]
      exact (if_pos rfl : (if ("java/lang/IndexOutOfBoundsException" : String) = "java/lang/IndexOutOfBoundsException" then some (lpT 1 (pk Tr TR) ao) else none) = some (lpT 1 (pk Tr TR) ao))
    unfold f_law_1437
    rw [bd hL, bd hM]
    exact ⟨_, lw_t, REL_M hR rfl rfl rfl rfl⟩
  subst e
  obtain ⟨sq, s0, s1, s2⟩ := hr_seq (R := TR) (th := nI 0) (ta := ta) (bs := bs) (ea := ea) (kd := kd) (nu := nu) (po := po) (ln := ln) (tk := tk) (wr := wr) (er := er) (et := et) (dp := dp) (fn := fn) (gn := gn) (va := va) (kp := va_cpy N kp 0 0 58) hn hp hO htp h2 60 (by omega)
  have hS : ∀ i, i ≤ 60 → ∃ t, t ≤ 1 ∧ X8_guestServed (sq i).1 g = nI t ∧ (sq i).2.2.2 (38 + g) = nI t := fun i hi => by
    obtain ⟨t, u, b1, b2, b3, b4, b5, -⟩ := (s1 i hi).2.2.2.2.2.2.2.2.2.2 g hg
    exact ⟨t, b1, b3, b5⟩
  have hS0 := hS 0 (by omega)
  rw [s0] at hS0
  obtain ⟨t0, b1, b2, b3⟩ := hS0
  replace b2 : X8_guestServed (tpot Tr P) g = nI t0 := b2
  replace b3 : N (38 + g) = nI t0 := b3
  have mi : ¬ ((38 + nI g) < 0 ∨ 58 ≤ (38 + nI g).toNatClampNeg) := by rw [nL_38, nJ_add, nJ_clamp (by omega), nL_0, nJ_lt (by omega) (by omega)]; omega
  have me : ((38 : Int32) + nI g).toNatClampNeg = 38 + g := by rw [nL_38, nJ_add, nJ_clamp (by omega)]
  have key : ∀ (v : Int32) (P2 : bX8) (R2 : bX9) (va2 N2 kp2 : Nat → Int32), f_X12_hoursUntilServed n (nI g) bh P F G O Tr TR = some (.inl (v, pk P2 R2)) → f_X14_hoursUntilServed n (nI g) (th, ta, bs, ea, kd, nu, po, ln, tk, wr, er, et, dp, fn, gn, va, N, kp) T = some (v, 0, va2, N2, kp2) → (∀ j, j < 58 → N2 j = N j) → ∃ σ, f_law_1437 n (nI g) bh tp X P R F G O Tr TR dF dG dO (th, ta, bs, ea, kd, nu, po, ln, tk, wr, er, et, dp, fn, gn, va, N, kp) T Fr ao = some σ ∧ LRel (q + 1) σ := by
    intro v P2 R2 va2 N2 kp2 hC hM hN2
    have hL : f_L_hoursUntilServed n (nI g) bh P F G O Tr TR 1 ao = some (lpT 0 (pk P2 R2) (vp_updL ao (0 : Int32).toNatClampNeg (Int32.toInt64 v))) := by
      unfold f_L_hoursUntilServed
      rw [bd hC]
      rfl
    have hb := RPt_congr p1 p2 ht hN2 rfl rfl rfl rfl rfl rfl rfl rfl (fun _ _ => rfl) (fun _ _ => ⟨rfl, rfl⟩)
    unfold f_law_1437
    rw [bd hL, bd hM]
    exact ⟨_, lw_ok (ao := ao) (v := v), REL_P hR rfl rfl rfl h3 hp hO hb⟩
  rcases (show t0 = 1 ∨ t0 = 0 by omega) with y | y
  · subst y
    refine key (nI 0) (tpot Tr P) TR va N kp ?_ ?_ (fun _ _ => rfl)
    · rw [hv_eq]
      refine (bd c1 _).trans ((bd (k_copyFrom hn) _).trans ?_)
      rw [show n = (n - 1) + 1 by omega]
      exact iter_inr (hvC_r (i := 0) (by omega) (by omega) b2)
    · unfold f_X14_hoursUntilServed
      rw [bd m1, if_neg (show ¬ ((1 : Int32) = 0) by decide), if_neg mi, me]
      exact (if_pos (show N (38 + g) = 1 from b3)).trans rfl
  · subst y
    obtain ⟨j, j1, j2, j3⟩ := first_ex (fun i => decide (X8_guestServed (sq (i + 1)).1 g = nI 1)) 60
    have j2' : ∀ i, i < j → X8_guestServed (sq (i + 1)).1 g = nI 0 := fun i hi => by
      have z := of_decide_eq_false (j2 i hi)
      obtain ⟨t, d1, d2, -⟩ := hS (i + 1) (by omega)
      rcases (show t = 0 ∨ t = 1 by omega) with w | w
      · rw [d2, w]
      · rw [d2, w] at z
        exact absurd rfl z
    have j3' : j < 60 → X8_guestServed (sq (j + 1)).1 g = nI 1 := fun hj => of_decide_eq_true (j3 hj)
    have n01 : ¬ (nI 1 : Int32) ≤ nI 0 := by decide
    have hNN : ∀ i, i ≤ 60 → (sq i).2.2.2 (38 + g) = X8_guestServed (sq i).1 g := fun i hi => by
      obtain ⟨t, d1, d2, d3⟩ := hS i hi
      rw [d2, d3]
    obtain ⟨r, hr2⟩ := un_M (th := nI 0) (ta := ta) (bs := bs) (ea := ea) (kd := kd) (nu := nu) (po := po) (ln := ln) (tk := tk) (wr := wr) (er := er) (et := et) (dp := dp) (fn := fn) (gn := gn) (va := va) (kp := kp) (N := N) hn (w := 38 + g) (by omega) s0 (fun i hi => (s2 i hi).2) j1 (fun i hi => by rw [hNN _ (by omega), b3, j2' i hi]; exact Int32.le_refl _) (fun hj => by rw [hNN _ (by omega), b3, j3' hj]; exact n01)
    have hz : ∀ i, i ≤ j → X8_guestServed (sq i).1 g = nI 0 := fun i hi => by
      by_cases w : i = 0
      · rw [w, s0]
        exact b2
      · have := j2' (i - 1) (by omega)
        rw [show i - 1 + 1 = i by omega] at this
        exact this
    have hC : ∃ (P2 : bX8) (R2 : bX9), f_X12_hoursUntilServed n (nI g) bh P F G O Tr TR = some (.inl ((if j < 60 then nI (j + 1) else -1), pk P2 R2)) := by
      rw [hv_eq, bd c1]
      show ∃ (P2 : bX8) (R2 : bX9), ((f_X8_copyFrom n Tr P).bind fun u2 => iter (hvC n (nI g) bh P F G O Tr TR) n (0, pk u2 TR)) = _
      rw [bd (k_copyFrom hn)]
      by_cases z : j < 60
      · have hi := iter_count (hvC n (nI g) bh P F G O Tr TR) (fun i => (nI i, pk (sq i).1 (sq i).2.1)) (j + 1) _ (fun i hi => hvC_s (by omega) (by omega) (s2 i (by omega)).1 (hz i (by omega))) (hvC_r (by omega) (by omega) (j3' z)) (n := n) (by omega)
        rw [s0] at hi
        rw [if_pos z]
        exact ⟨_, _, hi⟩
      · have e : j = 60 := by omega
        subst e
        have hi := iter_count (hvC n (nI g) bh P F G O Tr TR) (fun i => (nI i, pk (sq i).1 (sq i).2.1)) 60 _ (fun i hi => hvC_s (by omega) (by omega) (s2 i (by omega)).1 (hz i (by omega))) (hvC_e (by omega) (hz 60 (by omega))) (n := n) (by omega)
        rw [s0] at hi
        rw [if_neg z]
        exact ⟨_, _, hi⟩
    obtain ⟨P2, R2, hC⟩ := hC
    refine key _ P2 R2 (sq r).2.2.1 (va_cpy (va_cpy N kp 0 0 58) (sq r).2.2.2 0 0 58) (va_cpy N kp 0 0 58) hC ?_ (k_back N (sq r).2.2.2 kp)
    unfold f_X14_hoursUntilServed
    rw [bd m1, if_neg (show ¬ ((1 : Int32) = 0) by decide), if_neg mi, me]
    refine (if_neg (show ¬ N (38 + g) = 1 by rw [b3]; decide)).trans ?_
    rw [show (38 : Int32) + nI g = nI (38 + g) from nJ_add 38 g]
    exact bd hr2 _
end P74
