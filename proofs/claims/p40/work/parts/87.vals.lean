/-! THE VALUES OF NUMBERS AND NAMES -/
theorem nJ_mul (a b : Nat) : nI a * nI b = nI (a * b) := (Int32.ofNat_mul a b).symm
theorem cb_dg : ∀ v : Nat, v < 257 → dig v = true → cb v = nI v ∧ 48 ≤ v ∧ v ≤ 57 := by decide +kernel
def dvN (Y : Nat → Nat) : Nat → Nat
  | 0 => 0
  | z + 1 => dvN Y z * 10 + (Y z - 48)
theorem vl_dv {Y : Nat → Nat} : ∀ z : Nat, (∀ i, i < z → dig (Y i) = true ∧ Y i < 257) → (vlI true Y 0 z).toInt32 = nI (dvN Y z)
  | 0, _ => rfl
  | z + 1, hd => by
    show (vlI true Y 0 z * 10 + Int32.toInt64 (cb (Y (0 + z)) - 48)).toInt32 = nI (dvN Y z * 10 + (Y z - 48))
    rw [Nat.zero_add]
    obtain ⟨h1, h1'⟩ := hd z (by omega)
    obtain ⟨h2, h48, -⟩ := cb_dg _ h1' h1
    rw [Int64.toInt32_add, Int64.toInt32_mul, Int32.toInt32_toInt64, vl_dv z (fun i hi => hd i (by omega)), h2, show (48 : Int32) = nI 48 from rfl, nJ_sub h48, show (10 : Int64).toInt32 = nI 10 from by decide, nJ_mul, nJ_add]
theorem dec_dv {v : Nat} (hv : v < 1000000) : dvN (at6 (decL v)) (decL v).length = v := by
  unfold decL
  repeat' split
  · show 0 * 10 + (48 + v - 48) = v
    omega
  · show (0 * 10 + (48 + v / 10 - 48)) * 10 + (48 + v % 10 - 48) = v
    omega
  · show ((0 * 10 + (48 + v / 100 - 48)) * 10 + (48 + v / 10 % 10 - 48)) * 10 + (48 + v % 10 - 48) = v
    omega
  · show (((0 * 10 + (48 + v / 1000 - 48)) * 10 + (48 + v / 100 % 10 - 48)) * 10 + (48 + v / 10 % 10 - 48)) * 10 + (48 + v % 10 - 48) = v
    omega
  · show ((((0 * 10 + (48 + v / 10000 - 48)) * 10 + (48 + v / 1000 % 10 - 48)) * 10 + (48 + v / 100 % 10 - 48)) * 10 + (48 + v / 10 % 10 - 48)) * 10 + (48 + v % 10 - 48) = v
    omega
  · show (((((0 * 10 + (48 + v / 100000 - 48)) * 10 + (48 + v / 10000 % 10 - 48)) * 10 + (48 + v / 1000 % 10 - 48)) * 10 + (48 + v / 100 % 10 - 48)) * 10 + (48 + v / 10 % 10 - 48)) * 10 + (48 + v % 10 - 48) = v
    omega
theorem num_val {v : Nat} (hv : v < 1000000) : (vlL (decL v)).toInt32 = nI v := by
  obtain ⟨h1, h2⟩ := dec_dig hv
  have h0 : dig (at6 (decL v) 0) = true := (h1 _ (at6_mem h2)).1
  unfold vlL
  rw [h0, vl_dv _ (fun i hi => ⟨(h1 _ (at6_mem hi)).1, Nat.lt_trans (h1 _ (at6_mem hi)).2 (by decide)⟩), dec_dv hv]
/-! names: ten fronts, ten guests, each of its own -/
theorem nm_inj : ∀ c d, (c = 102 ∨ c = 103) → (d = 102 ∨ d = 103) → ∀ i, i < 10 → ∀ j, j < 10 → vlL (nmL c i) = vlL (nmL d j) → c = d ∧ i = j := by
  intro c d hc hd
  rcases hc with rfl | rfl <;> rcases hd with rfl | rfl
  · exact (by decide +kernel : ∀ i, i < 10 → ∀ j, j < 10 → vlL (nmL 102 i) = vlL (nmL 102 j) → 102 = 102 ∧ i = j)
  · exact (by decide +kernel : ∀ i, i < 10 → ∀ j, j < 10 → vlL (nmL 102 i) = vlL (nmL 103 j) → 102 = 103 ∧ i = j)
  · exact (by decide +kernel : ∀ i, i < 10 → ∀ j, j < 10 → vlL (nmL 103 i) = vlL (nmL 102 j) → 103 = 102 ∧ i = j)
  · exact (by decide +kernel : ∀ i, i < 10 → ∀ j, j < 10 → vlL (nmL 103 i) = vlL (nmL 103 j) → 103 = 103 ∧ i = j)
