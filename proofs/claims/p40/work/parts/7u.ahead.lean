/-! LOOKS AHEAD: the trial pot; the best front; the sum of all -/
section AHEAD
variable {P : Pl} {S : Sp} {c2 : bX2} {c4 : bX4} {c6 : bX6} {bh : bX12} {F G W : Nat → Int32}
theorem oneI (x : Int32) : ∃ u, f_X12_oneIf x = some u := by
  unfold f_X12_oneIf
  by_cases h : x = 0
  · rw [if_pos h]; exact ⟨_, rfl⟩
  · rw [if_neg h]; exact ⟨_, rfl⟩
theorem copy_ok (hbr : RPt S (cbO S F G W)) (bt : bX8) {n : Nat} (hn : 10 < n) : ∃ F' G' W', f_X8_copyFrom n bt (cbO S F G W) = some (cbO S F' G' W') ∧ RPt S (cbO S F' G' W') := by
  have q9 := hbr.2.2.2.2.2.2.2.2.1
  have q10 := hbr.2.2.2.2.2.2.2.2.2.1
  have q11 := hbr.2.2.2.2.2.2.2.2.2.2
  have hin : ∀ F1 : Nat → Int32, ∃ r, iter (fun s : Int32 × (Nat → Int32) × (Nat → Int32) => f_X8_copyFrom_L100 n bt (cbO S F G W) s.1 (nI S.hour) (nI S.warmth) (nI S.strength) (nI S.charge) (nI S.lemons) (nI S.saucers) (nI S.coins) (nI S.storms) F1 s.2.1 s.2.2) n (0, X8_guestServed bt, X8_guestStormed bt) = some r ∧ ∃ G' W', r = cbO S F1 G' W' ∧ (∀ j, j < 10 → G' j = nI (b01 (S.gp j = 2))) ∧ ∀ j, j < 10 → W' j = nI (b01 (S.gp j = 3)) := fun F1 => by
    refine iter_inv _ (fun i s => s.1 = nI i ∧ (∀ j, j < i → s.2.1 j = nI (b01 (S.gp j = 2))) ∧ ∀ j, j < i → s.2.2 j = nI (b01 (S.gp j = 3))) _ 10 (fun i s hi hI2 => ?_) n 0 _ (by decide) hn ⟨rfl, fun j hj => absurd hj (Nat.not_lt_zero j), fun j hj => absurd hj (Nat.not_lt_zero j)⟩
    obtain ⟨v, g, w⟩ := s
    obtain ⟨rfl, hg, hw⟩ : v = nI i ∧ (∀ j, j < i → g j = nI (b01 (S.gp j = 2))) ∧ ∀ j, j < i → w j = nI (b01 (S.gp j = 3)) := hI2
    show (∃ s', f_X8_copyFrom_L100 n bt (cbO S F G W) (nI i) _ _ _ _ _ _ _ _ F1 g w = some (.inl s') ∧ _) ∨ (∃ r, f_X8_copyFrom_L100 n bt (cbO S F G W) (nI i) _ _ _ _ _ _ _ _ F1 g w = some (.inr r) ∧ _)
    unfold f_X8_copyFrom_L100
    by_cases h10 : i = 10
    · subst h10
      rw [if_pos (show (10 : Int32) ≤ nI 10 from Int32.le_refl _)]
      exact Or.inr ⟨_, rfl, g, w, rfl, hg, hw⟩
    · have hr : ¬ (nI i < 0 ∨ 10 ≤ (nI i).toNatClampNeg) := vp_in_nI (show i < 10 by omega) (by decide)
      rw [if_neg (show ¬ (10 : Int32) ≤ nI i from nI_ge (b := 10) (by omega) (by decide)), if_neg hr, if_neg hr, if_neg hr, if_neg hr, nI_clamp (by omega), nI_1, q10 i (by omega), q11 i (by omega), nar_b, nar_b]
      refine Or.inl ⟨_, rfl, by omega, rfl, fun j hj => ?_, fun j hj => ?_⟩
      · show upd g i _ j = _
        by_cases hji : j = i
        · rw [hji, pk_us]
        · rw [pk_un hji]; exact hg j (by omega)
      · show upd w i _ j = _
        by_cases hji : j = i
        · rw [hji, pk_us]
        · rw [pk_un hji]; exact hw j (by omega)
  have hout : ∃ r, f_X8_copyFrom n bt (cbO S F G W) = some r ∧ ∃ F' G' W', r = cbO S F' G' W' ∧ RPt S (cbO S F' G' W') := by
    unfold f_X8_copyFrom
    refine iter_inv _ (fun i s => s.1 = nI i ∧ ∀ j, j < i → s.2 j = nI (b01 (S.fp j = 2))) _ 10 (fun i s hi hI2 => ?_) n 0 _ (by decide) hn ⟨rfl, fun j hj => absurd hj (Nat.not_lt_zero j)⟩
    obtain ⟨v, w⟩ := s
    obtain ⟨rfl, hw⟩ : v = nI i ∧ ∀ j, j < i → w j = nI (b01 (S.fp j = 2)) := hI2
    show (∃ s', f_X8_copyFrom_L74 n bt (cbO S F G W) (nI i) _ _ _ _ _ _ _ _ w _ _ = some (.inl s') ∧ _) ∨ (∃ r, f_X8_copyFrom_L74 n bt (cbO S F G W) (nI i) _ _ _ _ _ _ _ _ w _ _ = some (.inr r) ∧ _)
    unfold f_X8_copyFrom_L74
    by_cases h10 : i = 10
    · subst h10
      rw [if_pos (show (10 : Int32) ≤ nI 10 from Int32.le_refl _)]
      obtain ⟨r, e, G', W', rfl, hg', hw'⟩ := hin w
      refine Or.inr ⟨_, ?_, w, G', W', rfl, RPt_cb hw hg' hw'⟩
      show (iter (fun s : Int32 × (Nat → Int32) × (Nat → Int32) => f_X8_copyFrom_L100 n bt (cbO S F G W) s.1 (nI S.hour) (nI S.warmth) (nI S.strength) (nI S.charge) (nI S.lemons) (nI S.saucers) (nI S.coins) (nI S.storms) w s.2.1 s.2.2) n (0, X8_guestServed bt, X8_guestStormed bt)).bind _ = _
      rw [e]
      rfl
    · have hr : ¬ (nI i < 0 ∨ 10 ≤ (nI i).toNatClampNeg) := vp_in_nI (show i < 10 by omega) (by decide)
      rw [if_neg (show ¬ (10 : Int32) ≤ nI i from nI_ge (b := 10) (by omega) (by decide)), if_neg hr, if_neg hr, nI_clamp (by omega), nI_1, q9 i (by omega), nar_b]
      refine Or.inl ⟨_, rfl, by omega, rfl, fun j hj => ?_⟩
      show upd w i _ j = _
      by_cases hji : j = i
      · rw [hji, pk_us]
      · rw [pk_un hji]; exact hw j (by omega)
  obtain ⟨r, e, F', G', W', rfl, hb'⟩ := hout
  exact ⟨F', G', W', e, hb'⟩
theorem coins_ok (hP : PlOk P) (hS : SpB S) (hI : SpI P S) (hh : S.hour < 2 ^ 28) (hbr : RPt S (cbO S F G W)) (h2 : RFr P c2) (h4 : RGu P c4) (h6 : ROs P c6) (bt : bX8) (b9 : bX9) {N : Nat} (hN1 : 1 ≤ N) (hN : N ≤ 30) {n : Nat} (hn : 401 < n) : ∃ r, f_X12_coinsAfter_r n (nI N) bh (cbO S F G W) c2 c4 c6 bt b9 = some r ∧ r.1 = nI (hoursS P S N).coins := by
  obtain ⟨F0, G0, W0, ec, hb0⟩ := copy_ok hbr bt (n := n) (by omega)
  unfold f_X12_coinsAfter_r
  rw [(reqH hN1 hN).2, sb, ec, sb]
  refine iter_inv _ (fun i s => ∃ F1 G1 W1 st ht, s = (nI i, cbR (hoursS P S i) F1 G1 W1 st ht) ∧ RPt (hoursS P S i) (cbO (hoursS P S i) F1 G1 W1)) (fun r => Prod.fst r = nI (hoursS P S N).coins) N (fun i s hi hI2 => ?_) n 0 _ (Nat.zero_le _) (by omega) ⟨F0, G0, W0, X9_stack b9, X9_height b9, rfl, hb0⟩
  obtain ⟨F1, G1, W1, st, ht, rfl, hb1⟩ := hI2
  show (∃ s', f_X12_coinsAfter_r_L17 n (nI N) bh (cbO S F G W) c2 c4 c6 bt b9 (nI N) (nI i) _ _ _ _ _ _ _ _ F1 G1 W1 st ht = some (.inl s') ∧ _) ∨ (∃ r, f_X12_coinsAfter_r_L17 n (nI N) bh (cbO S F G W) c2 c4 c6 bt b9 (nI N) (nI i) _ _ _ _ _ _ _ _ F1 G1 W1 st ht = some (.inr r) ∧ _)
  unfold f_X12_coinsAfter_r_L17
  by_cases hiN : i < N
  · obtain ⟨x0, x1⟩ := SpB_hours (P := P) hS i
    obtain ⟨F2, G2, W2, st2, ht2, e, hb2⟩ := passc_ok hP x0 (SpI_hours hP hS hI i) (by omega) hb1 h2 h4 h6 (st, ht) hn
    rw [if_neg (nI_ge (a := i) (b := N) hiN (by omega))]
    refine Or.inl ⟨(nI (i + 1), cbR (hoursS P S (i + 1)) F2 G2 W2 st2 ht2), ?_, hiN, F2, G2, W2, st2, ht2, rfl, hb2⟩
    show ((f_X8_passHour n (cbO (hoursS P S i) F1 G1 W1) (st, ht) c2 c4 c6).bind _) = _
    rw [e, sb, nI_1]
    rfl
  · have hi2 : i = N := by omega
    subst hi2
    rw [if_pos (Int32.le_refl _)]
    exact Or.inr ⟨_, rfl, rfl⟩
/-- in how many hours it storms -/
def StormIn (P : Pl) (S : Sp) (u : Int32) : Prop := (∃ k, 1 ≤ k ∧ k ≤ 60 ∧ u = nI k ∧ 0 < stormsS P S k ∧ ∀ j, j < k → stormsS P S j = 0) ∨ (u = -1 ∧ stormsS P S 60 = 0)
theorem storm_ok (hP : PlOk P) (hS : SpB S) (hI : SpI P S) (hh : S.hour < 2 ^ 28) (hst : S.storms < 2 ^ 28) (hbr : RPt S (cbO S F G W)) (h2 : RFr P c2) (h4 : RGu P c4) (h6 : ROs P c6) (bt : bX8) (b9 : bX9) {n : Nat} (hn : 401 < n) : ∃ r, f_X12_hoursUntilStorm n bh (cbO S F G W) c2 c4 c6 bt b9 = some r ∧ StormIn P S r.1 := by
  obtain ⟨F0, G0, W0, ec, hb0⟩ := copy_ok hbr bt (n := n) (by omega)
  unfold f_X12_hoursUntilStorm
  rw [ec, sb]
  refine iter_inv _ (fun i s => ∃ F1 G1 W1 st ht, s = (nI (i + 1), cbR (hoursS P S i) F1 G1 W1 st ht) ∧ RPt (hoursS P S i) (cbO (hoursS P S i) F1 G1 W1) ∧ stormsS P S i = 0) (fun r => StormIn P S (Prod.fst r)) 60 (fun i s hi hI2 => ?_) n 0 _ (Nat.zero_le _) (by omega) ⟨F0, G0, W0, X9_stack b9, X9_height b9, rfl, hb0, rfl⟩
  obtain ⟨F1, G1, W1, st, ht, rfl, hb1, hz⟩ := hI2
  have hz' : ∀ j, j ≤ i → stormsS P S j = 0 := by
    have mono : ∀ m j, stormsS P S j ≤ stormsS P S (j + m) := by
      intro m
      induction m with
      | zero => intro j; exact Nat.le_refl _
      | succ m ih => intro j; exact Nat.le_trans (ih j) (Nat.le_add_right _ _)
    intro j hj
    have := mono (i - j) j
    rw [show j + (i - j) = i by omega, hz] at this
    omega
  show (∃ s', f_X12_hoursUntilStorm_L13 n bh (cbO S F G W) c2 c4 c6 bt b9 (nI (i + 1)) _ _ _ _ _ _ _ _ F1 G1 W1 st ht = some (.inl s') ∧ _) ∨ (∃ r, f_X12_hoursUntilStorm_L13 n bh (cbO S F G W) c2 c4 c6 bt b9 (nI (i + 1)) _ _ _ _ _ _ _ _ F1 G1 W1 st ht = some (.inr r) ∧ _)
  unfold f_X12_hoursUntilStorm_L13
  by_cases h60 : i = 60
  · subst h60
    rw [if_pos (show (60 : Int32) < nI (60 + 1) from by decide)]
    exact Or.inr ⟨_, rfl, Or.inr ⟨rfl, hz⟩⟩
  · obtain ⟨x0, x1⟩ := SpB_hours (P := P) hS i
    obtain ⟨F2, G2, W2, st2, ht2, e, hb2⟩ := passc_ok hP x0 (SpI_hours hP hS hI i) (by omega) hb1 h2 h4 h6 (st, ht) hn
    rw [if_neg (show ¬ (60 : Int32) < nI (i + 1) from nI_nlt (a := 60) (by omega) (by decide))]
    have hs := hoursS_st P hS (i + 1)
    have hle := stormsS_le P S (i + 1)
    by_cases hc : stormsS P S (i + 1) = 0
    · refine Or.inl ⟨(nI (i + 1 + 1), cbR (hoursS P S (i + 1)) F2 G2 W2 st2 ht2), ?_, by omega, F2, G2, W2, st2, ht2, rfl, hb2, hc⟩
      show ((f_X8_passHour n (cbO (hoursS P S i) F1 G1 W1) (st, ht) c2 c4 c6).bind _) = _
      rw [e, sb]
      show (if nI (hoursS P S (i + 1)).storms ≤ nI S.storms then _ else _) = _
      rw [if_pos (by rw [hs, hc]; exact Int32.le_refl _), nI_1]
      rfl
    · refine Or.inr ⟨(nI (i + 1), cbR (hoursS P S (i + 1)) F2 G2 W2 st2 ht2), ?_, Or.inl ⟨i + 1, by omega, by omega, rfl, by omega, fun j hj => hz' j (by omega)⟩⟩
      show ((f_X8_passHour n (cbO (hoursS P S i) F1 G1 W1) (st, ht) c2 c4 c6).bind _) = _
      rw [e, sb]
      show (if nI (hoursS P S (i + 1)).storms ≤ nI S.storms then _ else _) = _
      rw [if_neg (nI_ge (a := S.storms) (b := (hoursS P S (i + 1)).storms) (by rw [hs]; omega) (by rw [hs]; omega))]
      rfl
/-- in how many hours a guest is served -/
def ServeIn (P : Pl) (S : Sp) (g : Nat) (u : Int32) : Prop := (∃ k, k ≤ 60 ∧ u = nI k ∧ (hoursS P S k).gp g = 2 ∧ ∀ j, j < k → (hoursS P S j).gp g ≠ 2) ∨ (u = -1 ∧ ∀ j, j ≤ 60 → (hoursS P S j).gp g ≠ 2)
theorem until_ok (hP : PlOk P) (hS : SpB S) (hI : SpI P S) (hh : S.hour < 2 ^ 28) (hbr : RPt S (cbO S F G W)) (h2 : RFr P c2) (h4 : RGu P c4) (h6 : ROs P c6) (bt : bX8) (b9 : bX9) {g : Nat} (hg : g < P.ng) {n : Nat} (hn : 401 < n) : ∃ r, f_X12_hoursUntilServed_r n (nI g) bh (cbO S F G W) c2 c4 c6 bt b9 = some r ∧ ServeIn P S g r.1 := by
  have hng := hP.2.1
  obtain ⟨F0, G0, W0, ec, hb0⟩ := copy_ok hbr bt (n := n) (by omega)
  unfold f_X12_hoursUntilServed_r
  rw [reqG hP h4 hg, sb, ec, sb]
  refine iter_inv _ (fun i s => ∃ F1 G1 W1 st ht, s = (nI i, cbR (hoursS P S i) F1 G1 W1 st ht) ∧ RPt (hoursS P S i) (cbO (hoursS P S i) F1 G1 W1) ∧ ∀ j, j < i → (hoursS P S j).gp g ≠ 2) (fun r => ServeIn P S g (Prod.fst r)) 60 (fun i s hi hI2 => ?_) n 0 _ (Nat.zero_le _) (by omega) ⟨F0, G0, W0, X9_stack b9, X9_height b9, rfl, hb0, fun j hj => absurd hj (Nat.not_lt_zero j)⟩
  obtain ⟨F1, G1, W1, st, ht, rfl, hb1, hz⟩ := hI2
  have hG := hb1.2.2.2.2.2.2.2.2.2.1 g (by omega)
  have hG1 : G1 g = nI (b01 ((hoursS P S i).gp g = 2)) := hG
  have hr : ¬ (nI g < 0 ∨ 10 ≤ (nI g).toNatClampNeg) := vp_in_nI (show g < 10 by omega) (by decide)
  show (∃ s', f_X12_hoursUntilServed_r_L18 n (nI g) bh (cbO S F G W) c2 c4 c6 bt b9 (nI g) (nI i) _ _ _ _ _ _ _ _ F1 G1 W1 st ht = some (.inl s') ∧ _) ∨ (∃ r, f_X12_hoursUntilServed_r_L18 n (nI g) bh (cbO S F G W) c2 c4 c6 bt b9 (nI g) (nI i) _ _ _ _ _ _ _ _ F1 G1 W1 st ht = some (.inr r) ∧ _)
  unfold f_X12_hoursUntilServed_r_L18
  rw [if_neg hr, nI_clamp (by omega), hG1]
  unfold b01
  by_cases h60 : i = 60
  · subst h60
    rw [if_pos (show (60 : Int32) ≤ nI 60 from Int32.le_refl _)]
    by_cases hc : (hoursS P S 60).gp g = 2
    · rw [if_pos hc, if_neg (show ¬ nI 1 = 0 by decide)]
      exact Or.inr ⟨_, rfl, Or.inl ⟨60, Nat.le_refl _, rfl, hc, hz⟩⟩
    · rw [if_neg hc, if_pos (show nI 0 = 0 from rfl)]
      refine Or.inr ⟨_, rfl, Or.inr ⟨rfl, fun j hj => ?_⟩⟩
      by_cases hj6 : j = 60
      · rw [hj6]; exact hc
      · exact hz j (by omega)
  · rw [if_neg (show ¬ (60 : Int32) ≤ nI i from nI_ge (b := 60) (by omega) (by decide)), if_neg (rng10 (show g < 10 by omega))]
    by_cases hc : (hoursS P S i).gp g = 2
    · rw [if_pos hc, if_neg (show ¬ nI 1 = 0 by decide)]
      exact Or.inr ⟨_, rfl, Or.inl ⟨i, hi, rfl, hc, hz⟩⟩
    · rw [if_neg hc, if_pos (show nI 0 = 0 from rfl)]
      obtain ⟨x0, x1⟩ := SpB_hours (P := P) hS i
      obtain ⟨F2, G2, W2, st2, ht2, e, hb2⟩ := passc_ok hP x0 (SpI_hours hP hS hI i) (by omega) hb1 h2 h4 h6 (st, ht) hn
      refine Or.inl ⟨(nI (i + 1), cbR (hoursS P S (i + 1)) F2 G2 W2 st2 ht2), ?_, by omega, F2, G2, W2, st2, ht2, rfl, hb2, fun j hj => ?_⟩
      · show ((f_X8_passHour n (cbO (hoursS P S i) F1 G1 W1) (st, ht) c2 c4 c6).bind _) = _
        rw [e, sb, nI_1]
        rfl
      · by_cases hji : j = i
        · rw [hji]; exact hc
        · exact hz j (by omega)
/-! the best front -/
def strF (P : Pl) (S : Sp) (f : Nat) : Nat := if S.strength + (P.fr f).2.1 ≤ 30 then S.strength + (P.fr f).2.1 else 30
def cnF (P : Pl) (S : Sp) (f : Nat) : Nat := sumN (fun g => b01 (likeS P S g (strF P S f))) P.ng
theorem strF_le (P : Pl) (S : Sp) (f : Nat) : strF P S f ≤ 30 := by
  unfold strF
  split <;> omega
theorem cnF_le (hP : PlOk P) (S : Sp) (f : Nat) : cnF P S f ≤ 7 := by
  have h := sumN_le (n := P.ng) (f := fun g => b01 (likeS P S g (strF P S f))) (c := 1) (fun i _ => b01_le _)
  have := hP.2.1
  unfold cnF
  omega
theorem cont_ok {b : bX8} (hP : PlOk P) (hS : SpB S) (hI : SpI P S) (hh : S.hour < 2 ^ 30) (hbr : RPt S b) (h2 : RFr P c2) (h4 : RGu P c4) {f : Nat} (hf : f < P.nf) {n : Nat} (hn : 10 < n) : f_X8_contentIfSteeped n (nI f) b c2 c4 = some (nI (cnF P S f)) := by
  have hg := hP.2.1
  unfold f_X8_contentIfSteeped
  rw [swith_ok hP hS hbr h2 hf, sb]
  refine iter_count _ (fun i => (nI (sumN (fun g => b01 (likeS P S g (strF P S f))) i), nI i)) P.ng _ (fun i hi => ?_) ?_ (by omega)
  · show f_X8_contentIfSteeped_L11 n (nI f) b c2 c4 (nI (strF P S f)) (nI (sumN _ i)) (nI i) = _
    unfold f_X8_contentIfSteeped_L11
    rw [h4.1, if_neg (nI_ge hi (by omega)), like_ok hP hS hI hh hbr h4 (by omega) (by have := strF_le P S f; omega), sb, one_b, sb, nI_add, nI_1]
    rfl
  · show f_X8_contentIfSteeped_L11 n (nI f) b c2 c4 (nI (strF P S f)) (nI (sumN _ P.ng)) (nI P.ng) = _
    unfold f_X8_contentIfSteeped_L11
    rw [h4.1, if_pos (Int32.le_refl _)]
    rfl
/-- the best of the first N fronts: which one, and how many are content then -/
def BestN (P : Pl) (S : Sp) (N : Nat) (v m : Int32) : Prop := (v = -1 ∧ m = -1 ∧ ∀ f, f < N → S.fp f ≠ 1) ∨ ∃ f0, f0 < N ∧ v = nI f0 ∧ m = nI (cnF P S f0) ∧ S.fp f0 = 1 ∧ (∀ f, f < f0 → S.fp f = 1 → cnF P S f < cnF P S f0) ∧ ∀ f, f0 < f → f < N → S.fp f = 1 → cnF P S f ≤ cnF P S f0
theorem best_ok {b : bX8} (hP : PlOk P) (hS : SpB S) (hI : SpI P S) (hh : S.hour < 2 ^ 30) (hbr : RPt S b) (h2 : RFr P c2) (h4 : RGu P c4) {n : Nat} (hn : 10 < n) : ∃ v, f_X12_bestToSteep n bh b c2 c4 = some v ∧ ∃ m, BestN P S P.nf v m := by
  have hf8 := hP.1
  unfold f_X12_bestToSteep
  refine iter_inv _ (fun i s => s.2.2 = nI i ∧ BestN P S i s.1 s.2.1) (fun v => ∃ m, BestN P S P.nf v m) P.nf (fun i s hi hI2 => ?_) n 0 _ (Nat.zero_le _) (by omega) ⟨rfl, Or.inl ⟨rfl, rfl, fun f hf => absurd hf (Nat.not_lt_zero f)⟩⟩
  obtain ⟨v, m, x⟩ := s
  obtain ⟨rfl, hB⟩ : x = nI i ∧ BestN P S i v m := hI2
  show (∃ s', f_X12_bestToSteep_L6 n bh b c2 c4 v m (nI i) = some (.inl s') ∧ _) ∨ (∃ r, f_X12_bestToSteep_L6 n bh b c2 c4 v m (nI i) = some (.inr r) ∧ _)
  unfold f_X12_bestToSteep_L6
  rw [h2.1]
  by_cases hiN : i < P.nf
  · rw [if_neg (nI_ge hiN (by omega)), hangs_ok hP hI hh hbr h2 (by omega), sb]
    unfold b01
    by_cases hc : S.fp i = 1
    · rw [if_pos hc, if_neg (show ¬ nI 1 = 0 by decide), cont_ok hP hS hI hh hbr h2 h4 hiN hn, sb]
      have hcl := cnF_le hP S i
      rcases hB with ⟨rfl, rfl, hno⟩ | ⟨f0, hf0, rfl, rfl, hov, hlt, hle⟩
      · rw [if_neg (show ¬ nI (cnF P S i) ≤ -1 from fun z => by
          have h1 := Int32.le_trans (nI_pos' (n := cnF P S i) (by omega)) z
          exact absurd h1 (by decide)), nI_1]
        exact Or.inl ⟨_, rfl, hiN, rfl, Or.inr ⟨i, Nat.lt_succ_self i, rfl, rfl, hc, fun f hf hf1 => absurd hf1 (hno f hf), fun f h1 h3 => absurd h1 (by omega)⟩⟩
      · have hcl0 := cnF_le hP S f0
        by_cases hb9 : cnF P S i ≤ cnF P S f0
        · rw [if_pos (nI_le hb9 (by omega)), nI_1]
          refine Or.inl ⟨_, rfl, hiN, rfl, Or.inr ⟨f0, by omega, rfl, rfl, hov, hlt, fun f h1 h3 hf1 => ?_⟩⟩
          by_cases hfi : f = i
          · rw [hfi]; exact hb9
          · exact hle f h1 (by omega) hf1
        · rw [if_neg (nI_ge (by omega) (by omega)), nI_1]
          refine Or.inl ⟨_, rfl, hiN, rfl, Or.inr ⟨i, Nat.lt_succ_self i, rfl, rfl, hc, fun f hf hf1 => ?_, fun f h1 h3 => absurd h1 (by omega)⟩⟩
          by_cases hf1' : f < f0
          · have := hlt f hf1' hf1; omega
          · by_cases hf2' : f = f0
            · rw [hf2']; omega
            · have := hle f (by omega) hf hf1; omega
    · rw [if_neg hc, if_pos (show nI 0 = 0 from rfl), nI_1]
      refine Or.inl ⟨_, rfl, hiN, rfl, ?_⟩
      rcases hB with ⟨h1, h3, hno⟩ | ⟨f0, hf0, h1, h3, hov, hlt, hle⟩
      · refine Or.inl ⟨h1, h3, fun f hf => ?_⟩
        by_cases hfi : f = i
        · rw [hfi]; exact hc
        · exact hno f (by omega)
      · refine Or.inr ⟨f0, by omega, h1, h3, hov, hlt, fun f g1 g3 hf1 => ?_⟩
        by_cases hfi : f = i
        · rw [hfi] at hf1; exact absurd hf1 hc
        · exact hle f g1 (by omega) hf1
  · have hi2 : i = P.nf := by omega
    subst hi2
    rw [if_pos (Int32.le_refl _)]
    exact Or.inr ⟨_, rfl, m, hB⟩
theorem digest_ok (hP : PlOk P) (hS : SpB S) (hI : SpI P S) (hh : S.hour < 2 ^ 30) {b : bX8} (hbr : RPt S b) (h2 : RFr P c2) (h4 : RGu P c4) {n : Nat} (hn : 10 < n) : ∃ d, f_X12_digest n bh b c2 c4 = some d := by
  have hf8 := hP.1
  have hg7 := hP.2.1
  have hs30 := hS.2.1
  obtain ⟨v, ev, -⟩ := best_ok (bh := bh) hP hS hI hh hbr h2 h4 hn
  have hin : ∀ v1 : Int64, ∃ r, iter (fun s : Int64 × Int32 => f_X12_digest_L238 n bh b c2 c4 s.1 s.2) n (v1, 0) = some r ∧ True := fun v1 => by
    refine iter_inv _ (fun i s => s.2 = nI i) (fun _ => True) P.ng (fun i s hi hI2 => ?_) n 0 _ (Nat.zero_le _) (by omega) rfl
    obtain ⟨u, x⟩ := s
    obtain rfl : x = nI i := hI2
    show (∃ s', f_X12_digest_L238 n bh b c2 c4 u (nI i) = some (.inl s') ∧ _) ∨ (∃ r, f_X12_digest_L238 n bh b c2 c4 u (nI i) = some (.inr r) ∧ _)
    unfold f_X12_digest_L238
    rw [h4.1]
    by_cases hiN : i < P.ng
    · have hr : ¬ (nI i < 0 ∨ 10 ≤ (nI i).toNatClampNeg) := vp_in_nI (show i < 10 by omega) (by decide)
      obtain ⟨u1, e1⟩ := oneI (X8_guestServed b (nI i).toNatClampNeg)
      obtain ⟨u2, e2⟩ := oneI (X8_guestStormed b (nI i).toNatClampNeg)
      rw [if_neg (nI_ge hiN (by omega)), sits_ok hP hS hI hh hbr h4 (by omega), sb, one_b, sb, hbr.2.2.1, like_ok hP hS hI hh hbr h4 (by omega) (by omega), sb, one_b, sb, if_neg hr, e1, sb, if_neg hr, e2, sb]
      exact Or.inl ⟨_, rfl, hiN, nI_1 i⟩
    · have hi2 : i = P.ng := by omega
      subst hi2
      rw [if_pos (Int32.le_refl _)]
      exact Or.inr ⟨_, rfl, trivial⟩
  have hout : ∀ v1 : Int64, ∃ r, iter (fun s : Int64 × Int32 => f_X12_digest_L174 n bh b c2 c4 s.1 s.2) n (v1, 0) = some r ∧ True := fun v1 => by
    refine iter_inv _ (fun i s => s.2 = nI i) (fun _ => True) P.nf (fun i s hi hI2 => ?_) n 0 _ (Nat.zero_le _) (by omega) rfl
    obtain ⟨u, x⟩ := s
    obtain rfl : x = nI i := hI2
    show (∃ s', f_X12_digest_L174 n bh b c2 c4 u (nI i) = some (.inl s') ∧ _) ∨ (∃ r, f_X12_digest_L174 n bh b c2 c4 u (nI i) = some (.inr r) ∧ _)
    unfold f_X12_digest_L174
    rw [h2.1]
    by_cases hiN : i < P.nf
    · have hr : ¬ (nI i < 0 ∨ 10 ≤ (nI i).toNatClampNeg) := vp_in_nI (show i < 10 by omega) (by decide)
      obtain ⟨u1, e1⟩ := oneI (X8_frontSteeped b (nI i).toNatClampNeg)
      rw [if_neg (nI_ge hiN (by omega)), hangs_ok hP hI hh hbr h2 (by omega), sb, one_b, sb, if_neg hr, e1, sb]
      exact Or.inl ⟨_, rfl, hiN, nI_1 i⟩
    · have hi2 : i = P.nf := by omega
      subst hi2
      rw [if_pos (Int32.le_refl _)]
      obtain ⟨r, e, -⟩ := hin u
      rw [e]
      exact Or.inr ⟨_, rfl, trivial⟩
  unfold f_X12_digest
  rw [lk_sits hP hS hI hh hbr h4 hn, lk_nserved hP hbr h4 hn, lk_nstormed hP hbr h4 hn, ev]
  obtain ⟨r, e, -⟩ := hout _
  exact ⟨r, e⟩
end AHEAD
