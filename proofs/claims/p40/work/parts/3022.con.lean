/-! contracts, part 22 -/
theorem g_X3_z (n j : Nat) (x : Int32) (b_a0 : bX11) (b_a1 : bX6) : g_X3 n 0 j x b_a0 b_a1 = none := rfl
theorem g_X3_s (n d : Nat) : g_X3 n (d + 1) = sel_X3 n (g_X3 n d) := rfl
theorem sel_X3_0 (n : Nat) (rec : Nat → Int32 → bX11 → bX6 → Option (Int32 × Int32 × (Nat → Nat) × (Nat → Int32) × Int32)) (x : Int32) (b_a0 : bX11) (b_a1 : bX6) : sel_X3 n rec 0 x b_a0 b_a1 = f_X3_test n rec x b_a0 b_a1 := rfl
theorem sel_X3_1 (n : Nat) (rec : Nat → Int32 → bX11 → bX6 → Option (Int32 × Int32 × (Nat → Nat) × (Nat → Int32) × Int32)) (x : Int32) (b_a0 : bX11) (b_a1 : bX6) : sel_X3 n rec 1 x b_a0 b_a1 = f_X3_both n rec x b_a0 b_a1 := rfl
theorem sel_X3_2 (n : Nat) (rec : Nat → Int32 → bX11 → bX6 → Option (Int32 × Int32 × (Nat → Nat) × (Nat → Int32) × Int32)) (x : Int32) (b_a0 : bX11) (b_a1 : bX6) : sel_X3 n rec 2 x b_a0 b_a1 = f_X3_single n rec x b_a0 b_a1 := rfl
theorem sel_X3_3 (n : Nat) (rec : Nat → Int32 → bX11 → bX6 → Option (Int32 × Int32 × (Nat → Nat) × (Nat → Int32) × Int32)) (x : Int32) (b_a0 : bX11) (b_a1 : bX6) : sel_X3 n rec 3 x b_a0 b_a1 = f_X3_comparison n rec x b_a0 b_a1 := rfl
theorem sel_X3_4 (n : Nat) (rec : Nat → Int32 → bX11 → bX6 → Option (Int32 × Int32 × (Nat → Nat) × (Nat → Int32) × Int32)) (x : Int32) (b_a0 : bX11) (b_a1 : bX6) : sel_X3 n rec 4 x b_a0 b_a1 = f_X3_sum n rec x b_a0 b_a1 := rfl
theorem sel_X3_5 (n : Nat) (rec : Nat → Int32 → bX11 → bX6 → Option (Int32 × Int32 × (Nat → Nat) × (Nat → Int32) × Int32)) (x : Int32) (b_a0 : bX11) (b_a1 : bX6) : sel_X3 n rec 5 x b_a0 b_a1 = f_X3_product n rec x b_a0 b_a1 := rfl
theorem sel_X3_6 (n : Nat) (rec : Nat → Int32 → bX11 → bX6 → Option (Int32 × Int32 × (Nat → Nat) × (Nat → Int32) × Int32)) (x : Int32) (b_a0 : bX11) (b_a1 : bX6) : sel_X3 n rec 6 x b_a0 b_a1 = f_X3_value n rec x b_a0 b_a1 := rfl
set_option maxHeartbeats 4000000 in
theorem c_g_X3 {l : Launch} {D : va_G} {T : Nat → ClassId} {sd : SdT} (n : Nat) : ∀ d : Nat, rcg_X3 l D T sd (rmg_X3 d) (g_X3 n d) := by
  intro d
  induction d with
  | zero =>
    unfold rcg_X3
    refine ⟨?_, ?_, ?_, ?_, ?_, ?_, ?_⟩
    · intro z0 z1 z2 z3 z4 z5 z6 z7 z8 z9 z10 z11 z12 z13 z14 h
      rw [g_X3_z] at h
      cases h
    · intro z0 z1 z2 z3 z4 z5 z6 z7 z8 z9 z10 z11 z12 z13 z14 h
      rw [g_X3_z] at h
      cases h
    · intro z0 z1 z2 z3 z4 z5 z6 z7 z8 z9 z10 z11 z12 z13 z14 h
      rw [g_X3_z] at h
      cases h
    · intro z0 z1 z2 z3 z4 z5 z6 z7 z8 z9 z10 z11 z12 z13 z14 h
      rw [g_X3_z] at h
      cases h
    · intro z0 z1 z2 z3 z4 z5 z6 z7 z8 z9 z10 z11 z12 z13 z14 h
      rw [g_X3_z] at h
      cases h
    · intro z0 z1 z2 z3 z4 z5 z6 z7 z8 z9 z10 z11 z12 z13 z14 h
      rw [g_X3_z] at h
      cases h
    · intro z0 z1 z2 z3 z4 z5 z6 z7 z8 z9 z10 z11 z12 z13 z14 h
      rw [g_X3_z] at h
      cases h
  | succ d ih =>
    unfold rcg_X3
    rw [g_X3_s]
    refine ⟨?_, ?_, ?_, ?_, ?_, ?_, ?_⟩
    · intro z0 z1 z2 z3 z4 z5 z6 z7 z8 z9 z10 z11 z12 z13 z14 h
      rw [sel_X3_0] at h
      exact c_X3_test n d (g_X3 n d) ih z0 z1 z2 z3 z4 z5 z6 z7 z8 z9 z10 z11 z12 z13 z14 h
    · intro z0 z1 z2 z3 z4 z5 z6 z7 z8 z9 z10 z11 z12 z13 z14 h
      rw [sel_X3_1] at h
      exact c_X3_both n d (g_X3 n d) ih z0 z1 z2 z3 z4 z5 z6 z7 z8 z9 z10 z11 z12 z13 z14 h
    · intro z0 z1 z2 z3 z4 z5 z6 z7 z8 z9 z10 z11 z12 z13 z14 h
      rw [sel_X3_2] at h
      exact c_X3_single n d (g_X3 n d) ih z0 z1 z2 z3 z4 z5 z6 z7 z8 z9 z10 z11 z12 z13 z14 h
    · intro z0 z1 z2 z3 z4 z5 z6 z7 z8 z9 z10 z11 z12 z13 z14 h
      rw [sel_X3_3] at h
      exact c_X3_comparison n d (g_X3 n d) ih z0 z1 z2 z3 z4 z5 z6 z7 z8 z9 z10 z11 z12 z13 z14 h
    · intro z0 z1 z2 z3 z4 z5 z6 z7 z8 z9 z10 z11 z12 z13 z14 h
      rw [sel_X3_4] at h
      exact c_X3_sum n d (g_X3 n d) ih z0 z1 z2 z3 z4 z5 z6 z7 z8 z9 z10 z11 z12 z13 z14 h
    · intro z0 z1 z2 z3 z4 z5 z6 z7 z8 z9 z10 z11 z12 z13 z14 h
      rw [sel_X3_5] at h
      exact c_X3_product n d (g_X3 n d) ih z0 z1 z2 z3 z4 z5 z6 z7 z8 z9 z10 z11 z12 z13 z14 h
    · intro z0 z1 z2 z3 z4 z5 z6 z7 z8 z9 z10 z11 z12 z13 z14 h
      rw [sel_X3_6] at h
      exact c_X3_value n d (g_X3 n d) ih z0 z1 z2 z3 z4 z5 z6 z7 z8 z9 z10 z11 z12 z13 z14 h
