/-! four letters in one number, and back -/
theorem or8 {a c : Nat} (ha : a * 256 < 2 ^ 31) (hc : c < 256) : nI (a * 256) ||| nI c = nI (a * 256 + c) := by
  have h9 : a * 256 + c < 2 ^ 32 := Nat.lt_trans (Nat.add_lt_add ha hc) (by decide)
  have h8 : c < 2 ^ 32 := Nat.lt_trans hc (by decide)
  have h1 : (nI (a * 256)).toBitVec.toNat = a * 256 := pk_tn (Nat.lt_trans ha (by decide))
  have h2 : (nI c).toBitVec.toNat = c := pk_tn h8
  have h3 : (nI (a * 256 + c)).toBitVec.toNat = a * 256 + c := pk_tn (n := a * 256 + c) h9
  apply Int32.toBitVec_inj.mp
  apply BitVec.eq_of_toNat_eq
  rw [h3]
  show ((nI (a * 256)).toBitVec ||| (nI c).toBitVec).toNat = _
  rw [BitVec.toNat_or, h1, h2]
  have := Nat.shiftLeft_add_eq_or_of_lt (a := a) (i := 8) (b := c) (by omega)
  rw [Nat.shiftLeft_eq] at this
  exact this.symm
theorem pk8 {a c : Nat} (ha : a < 2 ^ 23) (hc : c < 256) : (nI a <<< ((8 : Int32) &&& 31)) ||| nI c = nI (a * 256 + c) := by
  rw [pk_shlN _ 8 (by decide) (by omega)]
  exact or8 (by omega) hc
theorem byt {b : Nat} (hb : b < 2 ^ 31) (h : b % 256 < 128) : vp_nar .byte (Int8.toInt32 (Int32.toInt8 (nI b))) = nI (b % 256) := by
  rw [pk_vb]
  apply Int32.toInt_inj.mp
  have e : (b : Int).bmod 256 = ((b % 256 : Nat) : Int) := by
    unfold Int.bmod
    simp only []
    split <;> omega
  rw [Int8.toInt_toInt32, Int32.toInt_toInt8, nI_toInt hb, nI_toInt (by omega)]
  exact e
/-- the letters of a text, blanks behind it -/
def chA (tx : List Nat) (i : Nat) : Nat := if i < tx.length then tx.getD i 0 else 32
theorem chA_lt {tx : List Nat} (h : ∀ x ∈ tx, x < 128) (i : Nat) : chA tx i < 128 := by
  unfold chA
  split
  · rename_i hi
    exact h _ (gd_mem hi)
  · decide
/-- the first n of the four letters from i -/
def pkA (tx : List Nat) (i : Nat) : Nat → Nat
  | 0 => 0
  | n + 1 => pkA tx i n * 256 + chA tx (i + n)
theorem pkA_lt {tx : List Nat} (h : ∀ x ∈ tx, x < 128) (i : Nat) : pkA tx i 1 < 128 ∧ pkA tx i 2 < 128 * 256 ∧ pkA tx i 3 < 128 * 65536 ∧ pkA tx i 4 < 2 ^ 31 := by
  have h0 := chA_lt h (i + 0)
  have h1 := chA_lt h (i + 1)
  have h2 := chA_lt h (i + 2)
  have h3 := chA_lt h (i + 3)
  simp only [pkA]
  omega
theorem pkA_s {tx : List Nat} (h : ∀ x ∈ tx, x < 128) (i n : Nat) (hn : n < 4) : (nI (pkA tx i n) <<< ((8 : Int32) &&& 31)) ||| nI (chA tx (i + n)) = nI (pkA tx i (n + 1)) := by
  have h5 := chA_lt h (i + n)
  obtain ⟨b1, b2, b3, -⟩ := pkA_lt h i
  refine pk8 ?_ (by omega)
  have hn' : n = 0 ∨ n = 1 ∨ n = 2 ∨ n = 3 := by omega
  rcases hn' with rfl | rfl | rfl | rfl
  · exact (by decide : 0 < 2 ^ 23)
  · omega
  · omega
  · omega
/-- what the tape holds behind four letters -/
theorem ap4 {tx : List Nat} (h : ∀ x ∈ tx, x < 128) (i : Nat) {L : Nat} (hL : L + 4 ≤ 2000) (B : Nat → Int32) {n : Nat} (hn : 4 < n) : f_X10_append n (nI (pkA tx i 4)) (B, nI L) = some (upd (upd (upd (upd B L (nI (chA tx i))) (L + 1) (nI (chA tx (i + 1)))) (L + 2) (nI (chA tx (i + 2)))) (L + 3) (nI (chA tx (i + 3))), nI (L + 4)) := by
  obtain ⟨b1, b2, b3, b4⟩ := pkA_lt h i
  have c0 := chA_lt h i
  have c1 := chA_lt h (i + 1)
  have c2 := chA_lt h (i + 2)
  have c3 := chA_lt h (i + 3)
  have e : pkA tx i 4 = ((chA tx i * 256 + chA tx (i + 1)) * 256 + chA tx (i + 2)) * 256 + chA tx (i + 3) := by
    simp only [pkA, Nat.add_zero]
    omega
  have hst : ∀ (v : Int32) (k : Nat) (hk : (v &&& 31).toBitVec.smod 32 = (nI k).toBitVec) (hk2 : k < 32) (w : Nat → Int32) (M c : Nat), M < 2000 → ¬ v < 0 → pkA tx i 4 / 2 ^ k % 256 = c → c < 128 → f_X10_append_L3 n (nI (pkA tx i 4)) (B, nI L) (nI (pkA tx i 4)) v w (nI M) = some (Sum.inl (v + (-8), upd w M (nI c), nI (M + 1))) := by
    intro v k hk hk2 w M c hM hv hc hc2
    unfold f_X10_append_L3
    rw [if_neg hv, if_neg (show ¬ (2000 : Int32) ≤ nI M from nI_ge (a := M) (b := 2000) hM (by decide)), if_neg (vp_in_nI hM (by decide)), nI_clamp (by omega), pk_shrN b4 _ k (by rw [hk]; exact pk_tn (by omega)), byt (Nat.lt_of_le_of_lt (Nat.div_le_self _ _) b4) (by omega), hc, nI_1]
  unfold f_X10_append
  obtain ⟨n, rfl⟩ := Nat.exists_eq_add_of_lt hn
  rw [show 4 + n + 1 = (((((n) + 1) + 1) + 1) + 1) + 1 by omega]
  rw [iter_inl (s' := (24 + (-8), upd B L (nI (chA tx i)), nI (L + 1))) (hst 24 24 (by decide) (by decide) B L _ (by omega) (by decide) (by omega) c0)]
  rw [iter_inl (s' := (24 + (-8) + (-8), upd (upd B L (nI (chA tx i))) (L + 1) (nI (chA tx (i + 1))), nI (L + 1 + 1))) (hst (24 + (-8)) 16 (by decide) (by decide) _ (L + 1) _ (by omega) (by decide) (by omega) c1)]
  rw [iter_inl (s' := (24 + (-8) + (-8) + (-8), upd (upd (upd B L (nI (chA tx i))) (L + 1) (nI (chA tx (i + 1)))) (L + 1 + 1) (nI (chA tx (i + 2))), nI (L + 1 + 1 + 1))) (hst (24 + (-8) + (-8)) 8 (by decide) (by decide) _ (L + 1 + 1) _ (by omega) (by decide) (by omega) c2)]
  rw [iter_inl (s' := (24 + (-8) + (-8) + (-8) + (-8), upd (upd (upd (upd B L (nI (chA tx i))) (L + 1) (nI (chA tx (i + 1)))) (L + 1 + 1) (nI (chA tx (i + 2)))) (L + 1 + 1 + 1) (nI (chA tx (i + 3))), nI (L + 1 + 1 + 1 + 1))) (hst (24 + (-8) + (-8) + (-8)) 0 (by decide) (by decide) _ (L + 1 + 1 + 1) _ (by omega) (by decide) (by omega) c3)]
  refine iter_inr ?_
  show f_X10_append_L3 n (nI (pkA tx i 4)) (B, nI L) (nI (pkA tx i 4)) (24 + (-8) + (-8) + (-8) + (-8)) _ (nI (L + 1 + 1 + 1 + 1)) = _
  unfold f_X10_append_L3
  rw [if_pos (by decide)]
theorem ap4' {tx : List Nat} (h : ∀ x ∈ tx, x < 128) {L : Nat} (hL : L + 4 ≤ 2000) (B : Nat → Int32) (hB : ∀ j, j < L → B j = nI (chA tx j)) {n : Nat} (hn : 4 < n) : ∃ B', f_X10_append n (nI (pkA tx L 4)) (B, nI L) = some (B', nI (L + 4)) ∧ ∀ j, j < L + 4 → B' j = nI (chA tx j) := by
  refine ⟨_, ap4 h L hL B hn, fun j hj => ?_⟩
  by_cases h3 : j = L + 3
  · rw [h3, upd_same]
  rw [upd_else _ _ h3]
  by_cases h2 : j = L + 2
  · rw [h2, upd_same]
  rw [upd_else _ _ h2]
  by_cases h1 : j = L + 1
  · rw [h1, upd_same]
  rw [upd_else _ _ h1]
  by_cases h0 : j = L
  · rw [h0, upd_same]
  rw [upd_else _ _ h0]
  exact hB j (by omega)
theorem feed_ok {tx : List Nat} (h : ∀ x ∈ tx, x < 128) {L : Nat} (hL : L + 20 ≤ 2000) (b : bX12) (B : Nat → Int32) (hB : ∀ j, j < L → B j = nI (chA tx j)) {n : Nat} (hn : 4 < n) : ∃ r B', f_X12_feed_r n (nI (pkA tx L 4)) (nI (pkA tx (L + 4) 4)) (nI (pkA tx (L + 8) 4)) (nI (pkA tx (L + 12) 4)) (nI (pkA tx (L + 16) 4)) b (B, nI L) = some (r, B', nI (L + 20)) ∧ ∀ j, j < L + 20 → B' j = nI (chA tx j) := by
  obtain ⟨B1, e1, g1⟩ := ap4' h (L := L) (by omega) B hB hn
  obtain ⟨B2, e2, g2⟩ := ap4' h (L := L + 4) (by omega) B1 g1 hn
  obtain ⟨B3, e3, g3⟩ := ap4' h (L := L + 8) (by omega) B2 g2 hn
  obtain ⟨B4, e4, g4⟩ := ap4' h (L := L + 12) (by omega) B3 g3 hn
  obtain ⟨B5, e5, g5⟩ := ap4' h (L := L + 16) (by omega) B4 g4 hn
  refine ⟨nI (L + 20), B5, ?_, g5⟩
  unfold f_X12_feed_r
  rw [if_pos (show X10_length (B, nI L) + 20 ≤ 2000 from by
    show nI L + nI 20 ≤ nI 2000
    rw [nI_add]
    exact nI_le (by omega) (by decide)), e1, sb, e2, sb, e3, sb, e4, sb, e5, sb]
