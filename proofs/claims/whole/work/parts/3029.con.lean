/-! contracts, part 29 -/
theorem g_X14_z (n j : Nat) (x : Int32) (b_h : bX14) (b_h_fresh : bX13) : g_X14 n 0 j x b_h b_h_fresh = none := rfl
theorem g_X14_s (n d : Nat) : g_X14 n (d + 1) = sel_X14 n (g_X14 n d) := rfl
theorem sel_X14_0 (n : Nat) (rec : Nat → Int32 → bX14 → bX13 → Option (Int32 × Int32 × Int32 × Int32 × Int32 × Int32 × Int32 × (Nat → Int32) × (Nat → Int32) × (Nat → Int32))) (x : Int32) (b_h : bX14) (b_h_fresh : bX13) : sel_X14 n rec 0 x b_h b_h_fresh = f_X14_test n rec b_h b_h_fresh := rfl
theorem sel_X14_1 (n : Nat) (rec : Nat → Int32 → bX14 → bX13 → Option (Int32 × Int32 × Int32 × Int32 × Int32 × Int32 × Int32 × (Nat → Int32) × (Nat → Int32) × (Nat → Int32))) (x : Int32) (b_h : bX14) (b_h_fresh : bX13) : sel_X14 n rec 1 x b_h b_h_fresh = f_X14_both n rec b_h b_h_fresh := rfl
theorem sel_X14_2 (n : Nat) (rec : Nat → Int32 → bX14 → bX13 → Option (Int32 × Int32 × Int32 × Int32 × Int32 × Int32 × Int32 × (Nat → Int32) × (Nat → Int32) × (Nat → Int32))) (x : Int32) (b_h : bX14) (b_h_fresh : bX13) : sel_X14 n rec 2 x b_h b_h_fresh = f_X14_single n rec b_h b_h_fresh := rfl
theorem sel_X14_3 (n : Nat) (rec : Nat → Int32 → bX14 → bX13 → Option (Int32 × Int32 × Int32 × Int32 × Int32 × Int32 × Int32 × (Nat → Int32) × (Nat → Int32) × (Nat → Int32))) (x : Int32) (b_h : bX14) (b_h_fresh : bX13) : sel_X14 n rec 3 x b_h b_h_fresh = f_X14_comparison n rec b_h b_h_fresh := rfl
theorem sel_X14_4 (n : Nat) (rec : Nat → Int32 → bX14 → bX13 → Option (Int32 × Int32 × Int32 × Int32 × Int32 × Int32 × Int32 × (Nat → Int32) × (Nat → Int32) × (Nat → Int32))) (x : Int32) (b_h : bX14) (b_h_fresh : bX13) : sel_X14 n rec 4 x b_h b_h_fresh = f_X14_sum n rec b_h b_h_fresh := rfl
theorem sel_X14_5 (n : Nat) (rec : Nat → Int32 → bX14 → bX13 → Option (Int32 × Int32 × Int32 × Int32 × Int32 × Int32 × Int32 × (Nat → Int32) × (Nat → Int32) × (Nat → Int32))) (x : Int32) (b_h : bX14) (b_h_fresh : bX13) : sel_X14 n rec 5 x b_h b_h_fresh = f_X14_product n rec b_h b_h_fresh := rfl
theorem sel_X14_6 (n : Nat) (rec : Nat → Int32 → bX14 → bX13 → Option (Int32 × Int32 × Int32 × Int32 × Int32 × Int32 × Int32 × (Nat → Int32) × (Nat → Int32) × (Nat → Int32))) (x : Int32) (b_h : bX14) (b_h_fresh : bX13) : sel_X14 n rec 6 x b_h b_h_fresh = f_X14_value n rec b_h b_h_fresh := rfl
theorem sel_X14_7 (n : Nat) (rec : Nat → Int32 → bX14 → bX13 → Option (Int32 × Int32 × Int32 × Int32 × Int32 × Int32 × Int32 × (Nat → Int32) × (Nat → Int32) × (Nat → Int32))) (x : Int32) (b_h : bX14) (b_h_fresh : bX13) : sel_X14 n rec 7 x b_h b_h_fresh = f_X14_inBrackets n rec b_h b_h_fresh := rfl
theorem sel_X14_8 (n : Nat) (rec : Nat → Int32 → bX14 → bX13 → Option (Int32 × Int32 × Int32 × Int32 × Int32 × Int32 × Int32 × (Nat → Int32) × (Nat → Int32) × (Nat → Int32))) (x : Int32) (b_h : bX14) (b_h_fresh : bX13) : sel_X14 n rec 8 x b_h b_h_fresh = f_X14_ofTwo n rec x b_h b_h_fresh := rfl
set_option maxHeartbeats 4000000 in
theorem c_g_X14 {l : Launch} {D : va_G} {T : Nat → ClassId} {sd : SdT} (n : Nat) : ∀ d : Nat, rcg_X14 l D T sd (rmg_X14 d) (g_X14 n d) := by
  intro d
  induction d with
  | zero =>
    unfold rcg_X14
    refine ⟨?_, ?_, ?_, ?_, ?_, ?_, ?_, ?_, ?_⟩
    · intro z0 z1 z2 z3 z4 z5 z6 z7 z8 z9 z10 z11 z12 z13 z14 z15 z16 z17 z18 z19 z20 z21 z22 z23 z24 z25 z26 z27 z28 z29 z30 z31 h
      rw [g_X14_z] at h
      cases h
    · intro z0 z1 z2 z3 z4 z5 z6 z7 z8 z9 z10 z11 z12 z13 z14 z15 z16 z17 z18 z19 z20 z21 z22 z23 z24 z25 z26 z27 z28 z29 z30 z31 h
      rw [g_X14_z] at h
      cases h
    · intro z0 z1 z2 z3 z4 z5 z6 z7 z8 z9 z10 z11 z12 z13 z14 z15 z16 z17 z18 z19 z20 z21 z22 z23 z24 z25 z26 z27 z28 z29 z30 z31 h
      rw [g_X14_z] at h
      cases h
    · intro z0 z1 z2 z3 z4 z5 z6 z7 z8 z9 z10 z11 z12 z13 z14 z15 z16 z17 z18 z19 z20 z21 z22 z23 z24 z25 z26 z27 z28 z29 z30 z31 h
      rw [g_X14_z] at h
      cases h
    · intro z0 z1 z2 z3 z4 z5 z6 z7 z8 z9 z10 z11 z12 z13 z14 z15 z16 z17 z18 z19 z20 z21 z22 z23 z24 z25 z26 z27 z28 z29 z30 z31 h
      rw [g_X14_z] at h
      cases h
    · intro z0 z1 z2 z3 z4 z5 z6 z7 z8 z9 z10 z11 z12 z13 z14 z15 z16 z17 z18 z19 z20 z21 z22 z23 z24 z25 z26 z27 z28 z29 z30 z31 h
      rw [g_X14_z] at h
      cases h
    · intro z0 z1 z2 z3 z4 z5 z6 z7 z8 z9 z10 z11 z12 z13 z14 z15 z16 z17 z18 z19 z20 z21 z22 z23 z24 z25 z26 z27 z28 z29 z30 z31 h
      rw [g_X14_z] at h
      cases h
    · intro z0 z1 z2 z3 z4 z5 z6 z7 z8 z9 z10 z11 z12 z13 z14 z15 z16 z17 z18 z19 z20 z21 z22 z23 z24 z25 z26 z27 z28 z29 z30 z31 h
      rw [g_X14_z] at h
      cases h
    · intro z0 z1 z2 z3 z4 z5 z6 z7 z8 z9 z10 z11 z12 z13 z14 z15 z16 z17 z18 z19 z20 z21 z22 z23 z24 z25 z26 z27 z28 z29 z30 z31 z32 h
      rw [g_X14_z] at h
      cases h
  | succ d ih =>
    unfold rcg_X14
    rw [g_X14_s]
    refine ⟨?_, ?_, ?_, ?_, ?_, ?_, ?_, ?_, ?_⟩
    · intro z0 z1 z2 z3 z4 z5 z6 z7 z8 z9 z10 z11 z12 z13 z14 z15 z16 z17 z18 z19 z20 z21 z22 z23 z24 z25 z26 z27 z28 z29 z30 z31 h
      rw [sel_X14_0] at h
      exact c_X14_test n d (g_X14 n d) ih z0 z1 z2 z3 z4 z5 z6 z7 z8 z9 z10 z11 z12 z13 z14 z15 z16 z17 z18 z19 z20 z21 z22 z23 z24 z25 z26 z27 z28 z29 z30 z31 h
    · intro z0 z1 z2 z3 z4 z5 z6 z7 z8 z9 z10 z11 z12 z13 z14 z15 z16 z17 z18 z19 z20 z21 z22 z23 z24 z25 z26 z27 z28 z29 z30 z31 h
      rw [sel_X14_1] at h
      exact c_X14_both n d (g_X14 n d) ih z0 z1 z2 z3 z4 z5 z6 z7 z8 z9 z10 z11 z12 z13 z14 z15 z16 z17 z18 z19 z20 z21 z22 z23 z24 z25 z26 z27 z28 z29 z30 z31 h
    · intro z0 z1 z2 z3 z4 z5 z6 z7 z8 z9 z10 z11 z12 z13 z14 z15 z16 z17 z18 z19 z20 z21 z22 z23 z24 z25 z26 z27 z28 z29 z30 z31 h
      rw [sel_X14_2] at h
      exact c_X14_single n d (g_X14 n d) ih z0 z1 z2 z3 z4 z5 z6 z7 z8 z9 z10 z11 z12 z13 z14 z15 z16 z17 z18 z19 z20 z21 z22 z23 z24 z25 z26 z27 z28 z29 z30 z31 h
    · intro z0 z1 z2 z3 z4 z5 z6 z7 z8 z9 z10 z11 z12 z13 z14 z15 z16 z17 z18 z19 z20 z21 z22 z23 z24 z25 z26 z27 z28 z29 z30 z31 h
      rw [sel_X14_3] at h
      exact c_X14_comparison n d (g_X14 n d) ih z0 z1 z2 z3 z4 z5 z6 z7 z8 z9 z10 z11 z12 z13 z14 z15 z16 z17 z18 z19 z20 z21 z22 z23 z24 z25 z26 z27 z28 z29 z30 z31 h
    · intro z0 z1 z2 z3 z4 z5 z6 z7 z8 z9 z10 z11 z12 z13 z14 z15 z16 z17 z18 z19 z20 z21 z22 z23 z24 z25 z26 z27 z28 z29 z30 z31 h
      rw [sel_X14_4] at h
      exact c_X14_sum n d (g_X14 n d) ih z0 z1 z2 z3 z4 z5 z6 z7 z8 z9 z10 z11 z12 z13 z14 z15 z16 z17 z18 z19 z20 z21 z22 z23 z24 z25 z26 z27 z28 z29 z30 z31 h
    · intro z0 z1 z2 z3 z4 z5 z6 z7 z8 z9 z10 z11 z12 z13 z14 z15 z16 z17 z18 z19 z20 z21 z22 z23 z24 z25 z26 z27 z28 z29 z30 z31 h
      rw [sel_X14_5] at h
      exact c_X14_product n d (g_X14 n d) ih z0 z1 z2 z3 z4 z5 z6 z7 z8 z9 z10 z11 z12 z13 z14 z15 z16 z17 z18 z19 z20 z21 z22 z23 z24 z25 z26 z27 z28 z29 z30 z31 h
    · intro z0 z1 z2 z3 z4 z5 z6 z7 z8 z9 z10 z11 z12 z13 z14 z15 z16 z17 z18 z19 z20 z21 z22 z23 z24 z25 z26 z27 z28 z29 z30 z31 h
      rw [sel_X14_6] at h
      exact c_X14_value n d (g_X14 n d) ih z0 z1 z2 z3 z4 z5 z6 z7 z8 z9 z10 z11 z12 z13 z14 z15 z16 z17 z18 z19 z20 z21 z22 z23 z24 z25 z26 z27 z28 z29 z30 z31 h
    · intro z0 z1 z2 z3 z4 z5 z6 z7 z8 z9 z10 z11 z12 z13 z14 z15 z16 z17 z18 z19 z20 z21 z22 z23 z24 z25 z26 z27 z28 z29 z30 z31 h
      rw [sel_X14_7] at h
      exact c_X14_inBrackets n d (g_X14 n d) ih z0 z1 z2 z3 z4 z5 z6 z7 z8 z9 z10 z11 z12 z13 z14 z15 z16 z17 z18 z19 z20 z21 z22 z23 z24 z25 z26 z27 z28 z29 z30 z31 h
    · intro z0 z1 z2 z3 z4 z5 z6 z7 z8 z9 z10 z11 z12 z13 z14 z15 z16 z17 z18 z19 z20 z21 z22 z23 z24 z25 z26 z27 z28 z29 z30 z31 z32 h
      rw [sel_X14_8] at h
      exact c_X14_ofTwo n d (g_X14 n d) ih z0 z1 z2 z3 z4 z5 z6 z7 z8 z9 z10 z11 z12 z13 z14 z15 z16 z17 z18 z19 z20 z21 z22 z23 z24 z25 z26 z27 z28 z29 z30 z31 z32 h
