/-! the calls that let hours go by, or look ahead -/
def phC (n : Nat) (x0 : Int32) (bh : bX12) (P0 : bX8) (R0 : bX9) (F : bX2) (G : bX4) (O : bX6) (s : Int32 × pkT) : Option ((Int32 × pkT) ⊕ ((Int32 × pkT) ⊕ (String × pkT))) := f_X12_passHours_L14 n x0 bh P0 R0 F G O x0 (X8_storms P0) s.1 s.2.1 s.2.2.1 s.2.2.2.1 s.2.2.2.2.1 s.2.2.2.2.2.1 s.2.2.2.2.2.2.1 s.2.2.2.2.2.2.2.1 s.2.2.2.2.2.2.2.2.1 s.2.2.2.2.2.2.2.2.2.1 s.2.2.2.2.2.2.2.2.2.2.1 s.2.2.2.2.2.2.2.2.2.2.2.1 s.2.2.2.2.2.2.2.2.2.2.2.2.1 s.2.2.2.2.2.2.2.2.2.2.2.2.2
def caC (n : Nat) (x0 : Int32) (bh : bX12) (P0 : bX8) (F : bX2) (G : bX4) (O : bX6) (Tr : bX8) (TR : bX9) (s : Int32 × pkT) : Option ((Int32 × pkT) ⊕ ((Int32 × pkT) ⊕ (String × pkT))) := f_X12_coinsAfter_L17 n x0 bh P0 F G O Tr TR x0 s.1 s.2.1 s.2.2.1 s.2.2.2.1 s.2.2.2.2.1 s.2.2.2.2.2.1 s.2.2.2.2.2.2.1 s.2.2.2.2.2.2.2.1 s.2.2.2.2.2.2.2.2.1 s.2.2.2.2.2.2.2.2.2.1 s.2.2.2.2.2.2.2.2.2.2.1 s.2.2.2.2.2.2.2.2.2.2.2.1 s.2.2.2.2.2.2.2.2.2.2.2.2.1 s.2.2.2.2.2.2.2.2.2.2.2.2.2
def hvC (n : Nat) (x0 : Int32) (bh : bX12) (P0 : bX8) (F : bX2) (G : bX4) (O : bX6) (Tr : bX8) (TR : bX9) (s : Int32 × pkT) : Option ((Int32 × pkT) ⊕ ((Int32 × pkT) ⊕ (String × pkT))) := f_X12_hoursUntilServed_L18 n x0 bh P0 F G O Tr TR x0 s.1 s.2.1 s.2.2.1 s.2.2.2.1 s.2.2.2.2.1 s.2.2.2.2.2.1 s.2.2.2.2.2.2.1 s.2.2.2.2.2.2.2.1 s.2.2.2.2.2.2.2.2.1 s.2.2.2.2.2.2.2.2.2.1 s.2.2.2.2.2.2.2.2.2.2.1 s.2.2.2.2.2.2.2.2.2.2.2.1 s.2.2.2.2.2.2.2.2.2.2.2.2.1 s.2.2.2.2.2.2.2.2.2.2.2.2.2
def hsC (n : Nat) (bh : bX12) (P0 : bX8) (F : bX2) (G : bX4) (O : bX6) (Tr : bX8) (TR : bX9) (s : Int32 × pkT) : Option ((Int32 × pkT) ⊕ (Int32 × pkT)) := f_X12_hoursUntilStorm_L13 n bh P0 F G O Tr TR s.1 s.2.1 s.2.2.1 s.2.2.2.1 s.2.2.2.2.1 s.2.2.2.2.2.1 s.2.2.2.2.2.2.1 s.2.2.2.2.2.2.2.1 s.2.2.2.2.2.2.2.2.1 s.2.2.2.2.2.2.2.2.2.1 s.2.2.2.2.2.2.2.2.2.2.1 s.2.2.2.2.2.2.2.2.2.2.2.1 s.2.2.2.2.2.2.2.2.2.2.2.2.1 s.2.2.2.2.2.2.2.2.2.2.2.2.2
def phM (n : Nat) (x0 : Int32) (B : bX14) (T : bX13) (s : Int32 × (Nat → Int32) × (Nat → Int32)) := f_X14_passHours_L31 n x0 B T x0 ((X14_now B) (6 : Int32).toNatClampNeg) s.1 0 s.2.1 s.2.2
def caM (n : Nat) (x0 : Int32) (B : bX14) (T : bX13) (kq : Nat → Int32) (s : Int32 × (Nat → Int32) × (Nat → Int32)) := f_X14_coinsAfter_L27 n x0 B T x0 s.1 0 s.2.1 s.2.2 kq
def unM (n : Nat) (x0 : Int32) (B : bX14) (T : bX13) (kq : Nat → Int32) (s : Int32 × Int32 × (Nat → Int32) × (Nat → Int32)) := f_X14_until_L8 n x0 B T x0 s.1 s.2.1 s.2.2.1 s.2.2.2 kq
theorem ph_eq (n : Nat) (x : Int32) (bh : bX12) (P : bX8) (R : bX9) (F : bX2) (G : bX4) (O : bX6) : f_X12_passHours n x bh P R F G O = (f_X12_requireHours x).bind (Sum.elim (fun _ => iter (phC n x bh P R F G O) n (0, pk P R)) (fun E => some (.inr (E.1, pk P R)))) := rfl
theorem ca_eq (n : Nat) (x : Int32) (bh : bX12) (P : bX8) (F : bX2) (G : bX4) (O : bX6) (Tr : bX8) (TR : bX9) : f_X12_coinsAfter n x bh P F G O Tr TR = (f_X12_requireHours x).bind (Sum.elim (fun _ => (f_X8_copyFrom n Tr P).bind fun u2 => iter (caC n x bh P F G O Tr TR) n (0, pk u2 TR)) (fun E => some (.inr (E.1, pk Tr TR)))) := rfl
theorem hv_eq (n : Nat) (x : Int32) (bh : bX12) (P : bX8) (F : bX2) (G : bX4) (O : bX6) (Tr : bX8) (TR : bX9) : f_X12_hoursUntilServed n x bh P F G O Tr TR = (f_X12_requireGuest x bh P G).bind (Sum.elim (fun _ => (f_X8_copyFrom n Tr P).bind fun u2 => iter (hvC n x bh P F G O Tr TR) n (0, pk u2 TR)) (fun E => some (.inr (E.1, pk Tr TR)))) := rfl
theorem hs_eq (n : Nat) (bh : bX12) (P : bX8) (F : bX2) (G : bX4) (O : bX6) (Tr : bX8) (TR : bX9) : f_X12_hoursUntilStorm n bh P F G O Tr TR = (f_X8_copyFrom n Tr P).bind fun u2 => iter (hsC n bh P F G O Tr TR) n (1, pk u2 TR) := rfl
theorem hrs_in {x : Int32} : (∃ m, 1 ≤ m ∧ m ≤ 30 ∧ x = nI m ∧ f_X12_requireHours x = some (.inl ()) ∧ f_X14_isIn x 1 30 = some (nI 1)) ∨ (f_X12_requireHours x = some (.inr ("java/lang/IllegalArgumentException", ())) ∧ f_X14_isIn x 1 30 = some (nI 0)) := by
  have hi := k_isIn3 x (nI 1) (nI 30)
  by_cases z : x < nI 1 ∨ nI 30 < x
  · right
    rw [if_pos z] at hi
    refine ⟨?_, hi⟩
    unfold f_X12_requireHours
    by_cases y : x < 1
    · rw [if_pos y]
    · rw [if_neg y, if_neg (show ¬ x ≤ (30 : Int32) by
        rcases z with z | z
        · exact absurd z y
        · exact Int32.not_le.2 z)]
  · left
    rw [if_neg z] at hi
    obtain ⟨e, e0, e1⟩ := nI_rng (x := x) (lo := 1) (hi := 30) (by omega) (by omega) (fun y => z (Or.inl y)) (fun y => z (Or.inr y))
    refine ⟨_, e0, e1, e, ?_, hi⟩
    unfold f_X12_requireHours
    rw [if_neg (show ¬ x < 1 from fun y => z (Or.inl y)), if_pos (show x ≤ (30 : Int32) from Int32.not_lt.1 (fun y => z (Or.inr y)))]
/-- the row kept, and brought back -/
theorem k_back (N N' kp : Nat → Int32) : ∀ j, j < 58 → va_cpy (va_cpy N kp 0 0 58) N' 0 0 58 j = N j := fun j hj => by rw [sb_cpy0 hj, sb_cpy0 hj]
section P73
variable {n q : Nat} {th bs ea tk wr er et dp : Int32} {ta kd nu po ln fn gn va kp : Nat → Int32}
variable {N : Nat → Int32} {bh : bX12} {tp : bX10} {X : bX11} {P Tr : bX8} {R TR : bX9} {F dF : bX2} {G dG : bX4} {O dO : bX6} {T Fr : bX13} {ao : Nat → Int64} {P1 P2 : bX8} {R1 R2 : bX9} {va1 N1 va2 N2 : Nat → Int32} {i m : Nat}
theorem k_keep : f_X14_keep (th, ta, bs, ea, kd, nu, po, ln, tk, wr, er, et, dp, fn, gn, va, N, kp) = some (va_cpy N kp 0 0 58) := rfl
theorem k_bring : f_X14_bringBack (th, ta, bs, ea, kd, nu, po, ln, tk, wr, er, et, dp, fn, gn, va, N, kp) = some (va_cpy kp N 0 0 58) := rfl
theorem phC_s (hm : m ≤ 30) (hi : i < m) (h : f_X8_passHour n P1 R1 F G O = some (pk P2 R2)) : phC n (nI m) bh P R F G O (nI i, pk P1 R1) = some (.inl (nI (i + 1), pk P2 R2)) := by
  unfold phC f_X12_passHours_L14
  rw [if_neg (show ¬ nI m ≤ nI i by rw [nJ_le (by omega) (by omega)]; omega)]
  refine (bd h _).trans ?_
  show some (Sum.inl (nI i + 1, pk P2 R2)) = _
  rw [show nI i + 1 = nI (i + 1) from nJ_add i 1]
theorem phC_e : phC n (nI m) bh P R F G O (nI m, pk P1 R1) = some (.inr (.inl (X8_storms P1 - X8_storms P, pk P1 R1))) := by
  unfold phC f_X12_passHours_L14
  rw [if_pos (show nI m ≤ nI m from Int32.le_refl _)]
  rfl
theorem phM_s (hm : m ≤ 30) (hi : i < m) (h : f_X14_hourOn n (nI 0, ta, bs, ea, kd, nu, po, ln, tk, wr, er, et, dp, fn, gn, va1, N1, kp) T = some (va2, N2)) : phM n (nI m) (th, ta, bs, ea, kd, nu, po, ln, tk, wr, er, et, dp, fn, gn, va, N, kp) T (nI i, va1, N1) = some (.inl (nI (i + 1), va2, N2)) := by
  unfold phM f_X14_passHours_L31
  rw [if_neg (show ¬ nI m ≤ nI i by rw [nJ_le (by omega) (by omega)]; omega)]
  refine (bd h _).trans ?_
  show some (Sum.inl (nI i + 1, va2, N2)) = _
  rw [show nI i + 1 = nI (i + 1) from nJ_add i 1]
theorem phM_e : phM n (nI m) (th, ta, bs, ea, kd, nu, po, ln, tk, wr, er, et, dp, fn, gn, va, N, kp) T (nI m, va1, N1) = some (.inr (N1 6 - N 6, 0, va1, N1)) := by
  unfold phM f_X14_passHours_L31
  rw [if_pos (show nI m ≤ nI m from Int32.le_refl _), if_neg (by decide)]
  rfl
theorem caC_s (hm : m ≤ 30) (hi : i < m) (h : f_X8_passHour n P1 R1 F G O = some (pk P2 R2)) : caC n (nI m) bh P F G O Tr TR (nI i, pk P1 R1) = some (.inl (nI (i + 1), pk P2 R2)) := by
  unfold caC f_X12_coinsAfter_L17
  rw [if_neg (show ¬ nI m ≤ nI i by rw [nJ_le (by omega) (by omega)]; omega)]
  refine (bd h _).trans ?_
  show some (Sum.inl (nI i + 1, pk P2 R2)) = _
  rw [show nI i + 1 = nI (i + 1) from nJ_add i 1]
theorem caC_e : caC n (nI m) bh P F G O Tr TR (nI m, pk P1 R1) = some (.inr (.inl (X8_coins P1, pk P1 R1))) := by
  unfold caC f_X12_coinsAfter_L17
  rw [if_pos (show nI m ≤ nI m from Int32.le_refl _)]
  rfl
theorem caM_s {kq : Nat → Int32} (hm : m ≤ 30) (hi : i < m) (h : f_X14_hourOn n (nI 0, ta, bs, ea, kd, nu, po, ln, tk, wr, er, et, dp, fn, gn, va1, N1, kq) T = some (va2, N2)) : caM n (nI m) (th, ta, bs, ea, kd, nu, po, ln, tk, wr, er, et, dp, fn, gn, va, N, kp) T kq (nI i, va1, N1) = some (.inl (nI (i + 1), va2, N2)) := by
  unfold caM f_X14_coinsAfter_L27
  rw [if_neg (show ¬ nI m ≤ nI i by rw [nJ_le (by omega) (by omega)]; omega)]
  refine (bd h _).trans ?_
  show some (Sum.inl (nI i + 1, va2, N2)) = _
  rw [show nI i + 1 = nI (i + 1) from nJ_add i 1]
theorem caM_e {kq : Nat → Int32} : caM n (nI m) (th, ta, bs, ea, kd, nu, po, ln, tk, wr, er, et, dp, fn, gn, va, N, kp) T kq (nI m, va1, N1) = some (.inr (N1 7, 0, va1, va_cpy kq N1 0 0 58, kq)) := by
  unfold caM f_X14_coinsAfter_L27
  rw [if_pos (show nI m ≤ nI m from Int32.le_refl _), if_neg (by decide)]
  rfl
theorem hsC_s (hi : i < 60) (h : f_X8_passHour n P1 R1 F G O = some (pk P2 R2)) (hc : X8_storms P2 ≤ X8_storms P) : hsC n bh P F G O Tr TR (nI (i + 1), pk P1 R1) = some (.inl (nI (i + 1 + 1), pk P2 R2)) := by
  unfold hsC f_X12_hoursUntilStorm_L13
  rw [if_neg (show ¬ (60 : Int32) < nI (i + 1) by rw [nL_60, nJ_lt (by omega) (by omega)]; omega)]
  refine (bd h _).trans ?_
  refine (if_pos hc).trans ?_
  show some (Sum.inl (nI (i + 1) + 1, pk P2 R2)) = _
  rw [show nI (i + 1) + 1 = nI (i + 1 + 1) from nJ_add (i + 1) 1]
theorem hsC_r (hi : i < 60) (h : f_X8_passHour n P1 R1 F G O = some (pk P2 R2)) (hc : ¬ X8_storms P2 ≤ X8_storms P) : hsC n bh P F G O Tr TR (nI (i + 1), pk P1 R1) = some (.inr (nI (i + 1), pk P2 R2)) := by
  unfold hsC f_X12_hoursUntilStorm_L13
  rw [if_neg (show ¬ (60 : Int32) < nI (i + 1) by rw [nL_60, nJ_lt (by omega) (by omega)]; omega)]
  refine (bd h _).trans ?_
  exact (if_neg hc).trans rfl
theorem hsC_e : hsC n bh P F G O Tr TR (nI (60 + 1), pk P1 R1) = some (.inr (-1, pk P1 R1)) := by
  unfold hsC f_X12_hoursUntilStorm_L13
  rw [if_pos (show (60 : Int32) < nI (60 + 1) by decide)]
theorem hvC_s {g : Nat} (hg : g < 10) (hi : i < 60) (h : f_X8_passHour n P1 R1 F G O = some (pk P2 R2)) (hc : X8_guestServed P1 g = nI 0) : hvC n (nI g) bh P F G O Tr TR (nI i, pk P1 R1) = some (.inl (nI (i + 1), pk P2 R2)) := by
  unfold hvC f_X12_hoursUntilServed_L18
  rw [if_neg (show ¬ (60 : Int32) ≤ nI i by rw [nL_60, nJ_le (by omega) (by omega)]; omega), if_neg (show ¬ (nI g < 0 ∨ 10 ≤ (nI g).toNatClampNeg) by rw [nJ_clamp (by omega), nL_0, nJ_lt (by omega) (by omega)]; omega)]
  refine (if_pos (show X8_guestServed P1 (nI g).toNatClampNeg = 0 by rw [nJ_clamp (by omega)]; exact hc)).trans ?_
  refine (bd h _).trans ?_
  show some (Sum.inl (nI i + 1, pk P2 R2)) = _
  rw [show nI i + 1 = nI (i + 1) from nJ_add i 1]
theorem hvC_r {g : Nat} (hg : g < 10) (hi : i ≤ 60) (hc : X8_guestServed P1 g = nI 1) : hvC n (nI g) bh P F G O Tr TR (nI i, pk P1 R1) = some (.inr (.inl (nI i, pk P1 R1))) := by
  unfold hvC f_X12_hoursUntilServed_L18
  have ci : ¬ (nI g < 0 ∨ 10 ≤ (nI g).toNatClampNeg) := by rw [nJ_clamp (by omega), nL_0, nJ_lt (by omega) (by omega)]; omega
  have cs : ¬ X8_guestServed P1 (nI g).toNatClampNeg = 0 := by
    rw [nJ_clamp (by omega), hc]
    decide
  by_cases z : i = 60
  · rw [z, if_pos (show (60 : Int32) ≤ nI 60 by decide), if_neg ci]
    exact (if_neg cs).trans rfl
  · rw [if_neg (show ¬ (60 : Int32) ≤ nI i by rw [nL_60, nJ_le (by omega) (by omega)]; omega), if_neg ci]
    exact (if_neg cs).trans rfl
theorem hvC_e {g : Nat} (hg : g < 10) (hc : X8_guestServed P1 g = nI 0) : hvC n (nI g) bh P F G O Tr TR (nI 60, pk P1 R1) = some (.inr (.inl (-1, pk P1 R1))) := by
  unfold hvC f_X12_hoursUntilServed_L18
  rw [if_pos (show (60 : Int32) ≤ nI 60 by decide), if_neg (show ¬ (nI g < 0 ∨ 10 ≤ (nI g).toNatClampNeg) by rw [nJ_clamp (by omega), nL_0, nJ_lt (by omega) (by omega)]; omega)]
  exact (if_pos (show X8_guestServed P1 (nI g).toNatClampNeg = 0 by rw [nJ_clamp (by omega)]; exact hc)).trans rfl
theorem unM_s {w : Nat} {kq : Nat → Int32} (hw : w < 58) (hi : i < 60) (h : f_X14_hourOn n (th, ta, bs, ea, kd, nu, po, ln, tk, wr, er, et, dp, fn, gn, va1, N1, kq) T = some (va2, N2)) (hc : N2 w ≤ kq w) : unM n (nI w) (th, ta, bs, ea, kd, nu, po, ln, tk, wr, er, et, dp, fn, gn, va, N, kp) T kq (-1, nI (i + 1), va1, N1) = some (.inl (-1, nI (i + 1 + 1), va2, N2)) := by
  unfold unM f_X14_until_L8
  have ci : ¬ (nI w < 0 ∨ 58 ≤ (nI w).toNatClampNeg) := by rw [nJ_clamp (by omega), nL_0, nJ_lt (by omega) (by omega)]; omega
  rw [if_neg (show ¬ (60 : Int32) < nI (i + 1) by rw [nL_60, nJ_lt (by omega) (by omega)]; omega), if_pos rfl]
  refine (bd h _).trans ?_
  rw [if_neg ci, if_neg ci]
  refine (if_pos (show N2 (nI w).toNatClampNeg ≤ kq (nI w).toNatClampNeg by rw [nJ_clamp (by omega)]; exact hc)).trans ?_
  show some (Sum.inl ((-1 : Int32), nI (i + 1) + 1, va2, N2)) = _
  rw [show nI (i + 1) + 1 = nI (i + 1 + 1) from nJ_add (i + 1) 1]
theorem unM_r {w : Nat} {kq : Nat → Int32} (hw : w < 58) (hi : i < 60) (h : f_X14_hourOn n (th, ta, bs, ea, kd, nu, po, ln, tk, wr, er, et, dp, fn, gn, va1, N1, kq) T = some (va2, N2)) (hc : ¬ N2 w ≤ kq w) : unM n (nI w) (th, ta, bs, ea, kd, nu, po, ln, tk, wr, er, et, dp, fn, gn, va, N, kp) T kq (-1, nI (i + 1), va1, N1) = some (.inl (nI (i + 1), nI (i + 1 + 1), va2, N2)) := by
  unfold unM f_X14_until_L8
  have ci : ¬ (nI w < 0 ∨ 58 ≤ (nI w).toNatClampNeg) := by rw [nJ_clamp (by omega), nL_0, nJ_lt (by omega) (by omega)]; omega
  rw [if_neg (show ¬ (60 : Int32) < nI (i + 1) by rw [nL_60, nJ_lt (by omega) (by omega)]; omega), if_pos rfl]
  refine (bd h _).trans ?_
  rw [if_neg ci, if_neg ci]
  refine (if_neg (show ¬ N2 (nI w).toNatClampNeg ≤ kq (nI w).toNatClampNeg by rw [nJ_clamp (by omega)]; exact hc)).trans ?_
  show some (Sum.inl (nI (i + 1), nI (i + 1) + 1, va2, N2)) = _
  rw [show nI (i + 1) + 1 = nI (i + 1 + 1) from nJ_add (i + 1) 1]
theorem unM_e {w : Nat} {kq : Nat → Int32} : unM n (nI w) (th, ta, bs, ea, kd, nu, po, ln, tk, wr, er, et, dp, fn, gn, va, N, kp) T kq (-1, nI (60 + 1), va1, N1) = some (.inr (-1, va1, va_cpy kq N1 0 0 58, kq)) := by
  unfold unM f_X14_until_L8 f_X14_until_R46
  rw [if_pos (show (60 : Int32) < nI (60 + 1) by decide)]
  rfl
theorem unM_f {w : Nat} {kq : Nat → Int32} (hi : i < 60) : unM n (nI w) (th, ta, bs, ea, kd, nu, po, ln, tk, wr, er, et, dp, fn, gn, va, N, kp) T kq (nI (i + 1), nI (i + 1 + 1), va1, N1) = some (.inr (nI (i + 1), va1, va_cpy kq N1 0 0 58, kq)) := by
  unfold unM f_X14_until_L8 f_X14_until_R46
  by_cases z : (60 : Int32) < nI (i + 1 + 1)
  · rw [if_pos z]
    rfl
  · rw [if_neg z, if_neg (show ¬ (nI (i + 1) = (-1 : Int32)) from fun y => by
      have := nJ_nm1 (a := i + 1) (by omega)
      exact (this ▸ y : False))]
    rfl
end P73
