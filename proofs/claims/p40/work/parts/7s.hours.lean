/-! HOURS in the code; its looks ahead -/
theorem hourS_st (P : Pl) {S : Sp} (hS : SpB S) : (hourS P S).storms = S.storms + stormy P S := by
  have h := (ord_x P P.os S hS).2.2.2
  show (weatherS P (blowS P (ordS P S P.os))).storms = _
  unfold weatherS stormy isStorm
  by_cases hc : (blowS P (ordS P S P.os)).charge < 12
  · rw [if_pos hc, if_pos hc]
    exact h
  · rw [if_neg hc, if_neg hc]
    show (ordS P S P.os).storms + 1 = _
    rw [h]
theorem hoursS_st (P : Pl) {S : Sp} (hS : SpB S) : ∀ k, (hoursS P S k).storms = S.storms + stormsS P S k := by
  intro k
  induction k with
  | zero => rfl
  | succ k ih =>
    show (hourS P (hoursS P S k)).storms = S.storms + (stormsS P S k + stormy P (hoursS P S k))
    rw [hourS_st P (SpB_hours hS k).1, ih, Nat.add_assoc]
theorem SpI_hours {P : Pl} (hP : PlOk P) {S : Sp} (hS : SpB S) (hI : SpI P S) : ∀ k, SpI P (hoursS P S k) := by
  intro k
  induction k with
  | zero => exact hI
  | succ k ih => exact SpI_hour hP (SpB_hours hS k).1 ih
theorem stormy_le (P : Pl) (S : Sp) : stormy P S ≤ 1 := by
  unfold stormy isStorm
  split <;> decide
theorem stormsS_le (P : Pl) (S : Sp) : ∀ k, stormsS P S k ≤ k := by
  intro k
  induction k with
  | zero => exact Nat.le_refl _
  | succ k ih =>
    have := stormy_le P (hoursS P S k)
    show stormsS P S k + stormy P (hoursS P S k) ≤ k + 1
    omega
/-- the pot's cells with those of its reckoner -/
abbrev cbR (S : Sp) (F G W st : Nat → Int32) (ht : Int32) : Int32 × Int32 × Int32 × Int32 × Int32 × Int32 × Int32 × Int32 × (Nat → Int32) × (Nat → Int32) × (Nat → Int32) × (Nat → Int32) × Int32 := (nI S.hour, nI S.warmth, nI S.strength, nI S.charge, nI S.lemons, nI S.saucers, nI S.coins, nI S.storms, F, G, W, st, ht)
section HRS
variable {P : Pl} {S : Sp} {c2 : bX2} {c4 : bX4} {c6 : bX6} {bh : bX12}
theorem reqH {N : Nat} (h1 : 1 ≤ N) (h2 : N ≤ 30) : f_X12_requireHours (nI N) = some (.inl ()) ∧ f_X12_requireHours_r (nI N) = some () := by
  unfold f_X12_requireHours f_X12_requireHours_r
  rw [if_neg (show ¬ nI N < 1 from nI_nlt (b := 1) h1 (by omega)), if_pos (show nI N ≤ 30 from nI_le (b := 30) h2 (by decide)), if_neg (show ¬ nI N < 1 from nI_nlt (b := 1) h1 (by omega)), if_pos (show nI N ≤ 30 from nI_le (b := 30) h2 (by decide))]
  exact ⟨rfl, rfl⟩
theorem hrs_ok (hP : PlOk P) (hS : SpB S) (hI : SpI P S) (hh : S.hour < 2 ^ 28) {F G W : Nat → Int32} (hbr : RPt S (cbO S F G W)) (h2 : RFr P c2) (h4 : RGu P c4) (h6 : ROs P c6) (b9 : bX9) {N : Nat} (hN1 : 1 ≤ N) (hN : N ≤ 30) {n : Nat} (hn : 401 < n) : ∃ F' G' W' st ht, f_X12_passHours n (nI N) bh (cbO S F G W) b9 c2 c4 c6 = some (.inl (nI (stormsS P S N), cbR (hoursS P S N) F' G' W' st ht)) ∧ f_X12_passHours_r n (nI N) bh (cbO S F G W) b9 c2 c4 c6 = some (nI (stormsS P S N), cbR (hoursS P S N) F' G' W' st ht) ∧ RPt (hoursS P S N) (cbO (hoursS P S N) F' G' W') := by
  -- the states, one behind the other
  have hst : ∀ k, k ≤ N → ∃ F' G' W' st ht, RPt (hoursS P S k) (cbO (hoursS P S k) F' G' W') ∧ ∀ m, k + m = N →
      (iter (fun s : Int32 × Int32 × Int32 × Int32 × Int32 × Int32 × Int32 × Int32 × Int32 × (Nat → Int32) × (Nat → Int32) × (Nat → Int32) × (Nat → Int32) × Int32 => f_X12_passHours_L14 n (nI N) bh (cbO S F G W) b9 c2 c4 c6 (nI N) (nI S.storms) s.1 s.2.1 s.2.2.1 s.2.2.2.1 s.2.2.2.2.1 s.2.2.2.2.2.1 s.2.2.2.2.2.2.1 s.2.2.2.2.2.2.2.1 s.2.2.2.2.2.2.2.2.1 s.2.2.2.2.2.2.2.2.2.1 s.2.2.2.2.2.2.2.2.2.2.1 s.2.2.2.2.2.2.2.2.2.2.2.1 s.2.2.2.2.2.2.2.2.2.2.2.2.1 s.2.2.2.2.2.2.2.2.2.2.2.2.2) n (0, cbR S F G W (X9_stack b9) (X9_height b9)) = iter (fun s : Int32 × Int32 × Int32 × Int32 × Int32 × Int32 × Int32 × Int32 × Int32 × (Nat → Int32) × (Nat → Int32) × (Nat → Int32) × (Nat → Int32) × Int32 => f_X12_passHours_L14 n (nI N) bh (cbO S F G W) b9 c2 c4 c6 (nI N) (nI S.storms) s.1 s.2.1 s.2.2.1 s.2.2.2.1 s.2.2.2.2.1 s.2.2.2.2.2.1 s.2.2.2.2.2.2.1 s.2.2.2.2.2.2.2.1 s.2.2.2.2.2.2.2.2.1 s.2.2.2.2.2.2.2.2.2.1 s.2.2.2.2.2.2.2.2.2.2.1 s.2.2.2.2.2.2.2.2.2.2.2.1 s.2.2.2.2.2.2.2.2.2.2.2.2.1 s.2.2.2.2.2.2.2.2.2.2.2.2.2) (n - k) (nI k, cbR (hoursS P S k) F' G' W' st ht)) ∧
      (iter (fun s : Int32 × Int32 × Int32 × Int32 × Int32 × Int32 × Int32 × Int32 × Int32 × (Nat → Int32) × (Nat → Int32) × (Nat → Int32) × (Nat → Int32) × Int32 => f_X12_passHours_r_L14 n (nI N) bh (cbO S F G W) b9 c2 c4 c6 (nI N) (nI S.storms) s.1 s.2.1 s.2.2.1 s.2.2.2.1 s.2.2.2.2.1 s.2.2.2.2.2.1 s.2.2.2.2.2.2.1 s.2.2.2.2.2.2.2.1 s.2.2.2.2.2.2.2.2.1 s.2.2.2.2.2.2.2.2.2.1 s.2.2.2.2.2.2.2.2.2.2.1 s.2.2.2.2.2.2.2.2.2.2.2.1 s.2.2.2.2.2.2.2.2.2.2.2.2.1 s.2.2.2.2.2.2.2.2.2.2.2.2.2) n (0, cbR S F G W (X9_stack b9) (X9_height b9)) = iter (fun s : Int32 × Int32 × Int32 × Int32 × Int32 × Int32 × Int32 × Int32 × Int32 × (Nat → Int32) × (Nat → Int32) × (Nat → Int32) × (Nat → Int32) × Int32 => f_X12_passHours_r_L14 n (nI N) bh (cbO S F G W) b9 c2 c4 c6 (nI N) (nI S.storms) s.1 s.2.1 s.2.2.1 s.2.2.2.1 s.2.2.2.2.1 s.2.2.2.2.2.1 s.2.2.2.2.2.2.1 s.2.2.2.2.2.2.2.1 s.2.2.2.2.2.2.2.2.1 s.2.2.2.2.2.2.2.2.2.1 s.2.2.2.2.2.2.2.2.2.2.1 s.2.2.2.2.2.2.2.2.2.2.2.1 s.2.2.2.2.2.2.2.2.2.2.2.2.1 s.2.2.2.2.2.2.2.2.2.2.2.2.2) (n - k) (nI k, cbR (hoursS P S k) F' G' W' st ht)) := by
    intro k
    induction k with
    | zero => intro _; exact ⟨F, G, W, X9_stack b9, X9_height b9, hbr, fun m _ => ⟨rfl, rfl⟩⟩
    | succ k ih =>
      intro hk
      obtain ⟨F1, G1, W1, st, ht, hb1, hit⟩ := ih (by omega)
      obtain ⟨x0, x1⟩ := SpB_hours (P := P) hS k
      obtain ⟨F2, G2, W2, st2, ht2, e, hb2⟩ := passc_ok hP x0 (SpI_hours hP hS hI k) (by omega) hb1 h2 h4 h6 (st, ht) hn
      refine ⟨F2, G2, W2, st2, ht2, hb2, fun m hm => ?_⟩
      obtain ⟨i1, i2⟩ := hit (m + 1) (by omega)
      obtain ⟨q, hq⟩ : ∃ q, n - k = q + 1 := ⟨n - k - 1, by omega⟩
      have hq2 : n - (k + 1) = q := by omega
      have hge : ¬ nI N ≤ nI k := nI_ge (by omega) (by omega)
      rw [i1, i2, hq, hq2]
      refine ⟨iter_inl ?_, iter_inl ?_⟩
      · show f_X12_passHours_L14 n (nI N) bh (cbO S F G W) b9 c2 c4 c6 (nI N) (nI S.storms) (nI k) _ _ _ _ _ _ _ _ _ _ _ _ _ = _
        unfold f_X12_passHours_L14
        rw [if_neg hge]
        show ((f_X8_passHour n (cbO (hoursS P S k) F1 G1 W1) (st, ht) c2 c4 c6).bind _) = _
        rw [e, sb, nI_1]
        rfl
      · show f_X12_passHours_r_L14 n (nI N) bh (cbO S F G W) b9 c2 c4 c6 (nI N) (nI S.storms) (nI k) _ _ _ _ _ _ _ _ _ _ _ _ _ = _
        unfold f_X12_passHours_r_L14
        rw [if_neg hge]
        show ((f_X8_passHour n (cbO (hoursS P S k) F1 G1 W1) (st, ht) c2 c4 c6).bind _) = _
        rw [e, sb, nI_1]
        rfl
  obtain ⟨F', G', W', st, ht, hb', hit⟩ := hst N (Nat.le_refl _)
  obtain ⟨i1, i2⟩ := hit 0 rfl
  obtain ⟨q, hq⟩ : ∃ q, n - N = q + 1 := ⟨n - N - 1, by omega⟩
  rw [hq] at i1 i2
  have hsub : nI (hoursS P S N).storms - nI S.storms = nI (stormsS P S N) := by
    rw [hoursS_st P hS N, pk_sub (Nat.le_add_right _ _), Nat.add_sub_cancel_left]
  refine ⟨F', G', W', st, ht, ?_, ?_, hb'⟩
  · unfold f_X12_passHours
    rw [(reqH hN1 hN).1, sb]
    show iter _ n (0, cbR S F G W (X9_stack b9) (X9_height b9)) = _
    refine i1.trans (iter_inr ?_)
    show f_X12_passHours_L14 n (nI N) bh (cbO S F G W) b9 c2 c4 c6 (nI N) (nI S.storms) (nI N) _ _ _ _ _ _ _ _ _ _ _ _ _ = _
    unfold f_X12_passHours_L14
    rw [if_pos (Int32.le_refl _), hsub]
  · unfold f_X12_passHours_r
    rw [(reqH hN1 hN).2, sb]
    show iter _ n (0, cbR S F G W (X9_stack b9) (X9_height b9)) = _
    refine i2.trans (iter_inr ?_)
    show f_X12_passHours_r_L14 n (nI N) bh (cbO S F G W) b9 c2 c4 c6 (nI N) (nI S.storms) (nI N) _ _ _ _ _ _ _ _ _ _ _ _ _ = _
    unfold f_X12_passHours_r_L14
    rw [if_pos (Int32.le_refl _), hsub]
end HRS
