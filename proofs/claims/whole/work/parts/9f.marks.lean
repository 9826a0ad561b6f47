/-! the marks at an order's head -/
section P40
variable {K : Nat → Nat} {kF kG : Nat → Int32} {c c' : Nat} {e : Int32 × Int32}
theorem mkR_2 (h : c + 2 ≤ c') (h2 : K (c + 1) = 47) : mkR K kF kG (c + 2) (c' - (c + 2)) (mkK K kF kG c e) = mkR K kF kG c (c' - c) e := by
  have q : c' - c = 1 + (1 + (c' - (c + 2))) := by omega
  rw [q, mkR_app, mkR_app]
  show _ = mkR K kF kG (c + 2) (c' - (c + 2)) (mkK K kF kG (c + 1) (mkK K kF kG c e))
  rw [mkK_no (i := c + 1) (by omega)]
theorem mkR_1' (h : c + 1 ≤ c') (h2 : K c = 12 ∨ K c = 13) : mkR K kF kG (c + 1) (c' - (c + 1)) e = mkR K kF kG c (c' - c) e := by
  have q : c' - c = 1 + (c' - (c + 1)) := by omega
  rw [q, mkR_app]
  show _ = mkR K kF kG (c + 1) (c' - (c + 1)) (mkK K kF kG c e)
  rw [mkK_no (i := c) (by omega)]
theorem mn_11 (h : K c = 11) : mn (kF (c + 1)) (c + 1) e = mkK K kF kG c e := by
  unfold mn mkK
  by_cases q : kF (c + 1) = -nI 1
  · rw [if_pos q, if_pos ⟨Or.inl h, q⟩]
  · rw [if_neg q, if_neg (fun w => q w.2), if_neg (fun w => by omega)]
theorem mn_14 (h : K c = 14) : mn (kG (c + 1)) (c + 1) e = mkK K kF kG c e := by
  unfold mn mkK
  rw [if_neg (c := (K c = 11 ∨ K c = 24 ∨ K c = 26) ∧ kF (c + 1) = -nI 1) (fun w => by omega)]
  by_cases q : kG (c + 1) = -nI 1
  · rw [if_pos q, if_pos ⟨Or.inl h, q⟩]
  · rw [if_neg q, if_neg (fun w => q w.2)]
end P40
