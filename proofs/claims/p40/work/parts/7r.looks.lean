/-! WHAT IS LOOKED AT, in numbers -/
theorem nar_b (p : Prop) [Decidable p] : vp_nar .boolean (nI (b01 p)) = nI (b01 p) := by
  unfold b01
  split <;> decide
theorem one_b (p : Prop) [Decidable p] : f_X12_oneIf (nI (b01 p)) = some (nI (b01 p)) := by
  unfold f_X12_oneIf b01
  split
  · rw [if_neg (by decide)]; rfl
  · rw [if_pos (by decide)]; rfl
def cntS (P : Pl) (S : Sp) (x : Nat) : Nat := sumN (fun g => b01 (S.gp g = x)) P.ng
section LOOKS
variable {P : Pl} {S : Sp} {b : bX8} {c2 : bX2} {c4 : bX4} {bh : bX12}
theorem reqF (hP : PlOk P) (h2 : RFr P c2) {j : Nat} (hj : j < P.nf) : f_X12_requireFront_r (nI j) bh b c2 = some () := by
  have h := has2_ok hP h2 (j := j) (by have := hP.1; omega)
  unfold f_X12_requireFront_r
  unfold b01 at h
  rw [h, sb, if_pos hj, if_neg (by decide)]
theorem reqG (hP : PlOk P) (h4 : RGu P c4) {j : Nat} (hj : j < P.ng) : f_X12_requireGuest_r (nI j) bh b c4 = some () := by
  have h := has4_ok hP h4 (j := j) (by have := hP.2.1; omega)
  unfold f_X12_requireGuest_r
  unfold b01 at h
  rw [h, sb, if_pos hj, if_neg (by decide)]
theorem lk_warm (hP : PlOk P) (h2 : RFr P c2) {j : Nat} (hj : j < P.nf) : f_X12_isWarm_r (nI j) bh b c2 = some (nI (P.fr j).1) := by
  have hn := hP.1
  obtain ⟨q1, -⟩ := h2.2 j hj
  have hw := (hP.2.2.1 j hj).1
  unfold f_X12_isWarm_r
  rw [reqF hP h2 hj, sb, if_neg (vp_in_nI (show j < 10 by omega) (by decide)), nI_clamp (by omega), q1, if_pos (show vp_nar .boolean (nI (P.fr j).1) = nI (P.fr j).1 from Value.int.inj (nar01 hw))]
theorem lk_force (hP : PlOk P) (h2 : RFr P c2) {j : Nat} (hj : j < P.nf) : f_X12_forceOf_r (nI j) bh b c2 = some (nI (P.fr j).2.1) := by
  have hn := hP.1
  unfold f_X12_forceOf_r
  rw [reqF hP h2 hj, sb, if_neg (vp_in_nI (show j < 10 by omega) (by decide)), nI_clamp (by omega), (h2.2 j hj).2.1]
theorem lk_over (hP : PlOk P) (hI : SpI P S) (hh : S.hour < 2 ^ 30) (hbr : RPt S b) (h2 : RFr P c2) {j : Nat} (hj : j < P.nf) : f_X12_isOver_r (nI j) bh b c2 = some (nI (b01 (S.fp j = 1))) := by
  have hn := hP.1
  unfold f_X12_isOver_r
  rw [reqF hP h2 hj, sb, hangs_ok hP hI hh hbr h2 (by omega), sb, if_pos (nar_b _)]
theorem lk_steeped (hP : PlOk P) (hbr : RPt S b) (h2 : RFr P c2) {j : Nat} (hj : j < P.nf) : f_X12_isSteeped_r (nI j) bh b c2 = some (nI (b01 (S.fp j = 2))) := by
  have hn := hP.1
  unfold f_X12_isSteeped_r
  rw [reqF hP h2 hj, sb, if_neg (vp_in_nI (show j < 10 by omega) (by decide)), nI_clamp (by omega), hbr.2.2.2.2.2.2.2.2.1 j (by omega), if_pos (nar_b _)]
theorem lk_seated (hP : PlOk P) (hS : SpB S) (hI : SpI P S) (hh : S.hour < 2 ^ 30) (hbr : RPt S b) (h4 : RGu P c4) {j : Nat} (hj : j < P.ng) : f_X12_isSeated_r (nI j) bh b c4 = some (nI (b01 (S.gp j = 1))) := by
  have hn := hP.2.1
  unfold f_X12_isSeated_r
  rw [reqG hP h4 hj, sb, sits_ok hP hS hI hh hbr h4 (by omega), sb, if_pos (nar_b _)]
theorem lk_content (hP : PlOk P) (hS : SpB S) (hI : SpI P S) (hh : S.hour < 2 ^ 30) (hbr : RPt S b) (h4 : RGu P c4) {j : Nat} (hj : j < P.ng) : f_X12_isContent_r (nI j) bh b c4 = some (nI (b01 (likeS P S j S.strength))) := by
  have hn := hP.2.1
  have hs := hS.2.1
  unfold f_X12_isContent_r
  rw [reqG hP h4 hj, sb, hbr.2.2.1, like_ok hP hS hI hh hbr h4 (by omega) (by omega), sb, if_pos (nar_b _)]
theorem lk_served (hP : PlOk P) (hbr : RPt S b) (h4 : RGu P c4) {j : Nat} (hj : j < P.ng) : f_X12_wasServed_r (nI j) bh b c4 = some (nI (b01 (S.gp j = 2))) := by
  have hn := hP.2.1
  unfold f_X12_wasServed_r
  rw [reqG hP h4 hj, sb, if_neg (vp_in_nI (show j < 10 by omega) (by decide)), nI_clamp (by omega), hbr.2.2.2.2.2.2.2.2.2.1 j (by omega), if_pos (nar_b _)]
theorem lk_stormed (hP : PlOk P) (hbr : RPt S b) (h4 : RGu P c4) {j : Nat} (hj : j < P.ng) : f_X12_wasStormed_r (nI j) bh b c4 = some (nI (b01 (S.gp j = 3))) := by
  have hn := hP.2.1
  unfold f_X12_wasStormed_r
  rw [reqG hP h4 hj, sb, if_neg (vp_in_nI (show j < 10 by omega) (by decide)), nI_clamp (by omega), hbr.2.2.2.2.2.2.2.2.2.2 j (by omega), if_pos (nar_b _)]
theorem lk_sits (hP : PlOk P) (hS : SpB S) (hI : SpI P S) (hh : S.hour < 2 ^ 30) (hbr : RPt S b) (h4 : RGu P c4) {n : Nat} (hn : 10 < n) : f_X12_seatedGuests n bh b c4 = some (nI (cntS P S 1)) := by
  have hg := hP.2.1
  unfold f_X12_seatedGuests
  refine iter_count _ (fun i => (nI (sumN (fun g => b01 (S.gp g = 1)) i), nI i)) P.ng _ (fun i hi => ?_) ?_ (by omega)
  · show f_X12_seatedGuests_L4 n bh b c4 (nI (sumN _ i)) (nI i) = _
    unfold f_X12_seatedGuests_L4
    rw [h4.1, if_neg (nI_ge hi (by omega)), sits_ok hP hS hI hh hbr h4 (by omega), sb, one_b, sb, nI_add, nI_1]
    rfl
  · show f_X12_seatedGuests_L4 n bh b c4 (nI (sumN _ P.ng)) (nI P.ng) = _
    unfold f_X12_seatedGuests_L4
    rw [h4.1, if_pos (Int32.le_refl _)]
    rfl
theorem ctrue_ok {N : Nat} (hN : N ≤ 7) {w : Nat → Int32} {q : Nat → Prop} [DecidablePred q] (hw : ∀ j, j < 10 → w j = nI (b01 (q j))) {n : Nat} (hn : 10 < n) : f_X12_countTrue n (nI N) 10 w = some (nI (sumN (fun g => b01 (q g)) N)) := by
  unfold f_X12_countTrue
  refine iter_count _ (fun i => (nI (sumN (fun g => b01 (q g)) i), nI i)) N _ (fun i hi => ?_) ?_ (by omega)
  · show f_X12_countTrue_L4 n (nI N) 10 w (nI N) (nI (sumN _ i)) (nI i) = _
    unfold f_X12_countTrue_L4
    rw [if_neg (nI_ge hi (by omega)), if_neg (show ¬ Int32.ofNat 10 ≤ nI i from nI_ge (b := 10) (by omega) (by decide)), if_neg (vp_in_nI (show i < 10 by omega) (by decide)), nI_clamp (by omega), hw i (by omega), one_b, sb, nI_add, nI_1]
    rfl
  · show f_X12_countTrue_L4 n (nI N) 10 w (nI N) (nI (sumN _ N)) (nI N) = _
    unfold f_X12_countTrue_L4
    rw [if_pos (Int32.le_refl _)]
theorem lk_nserved (hP : PlOk P) (hbr : RPt S b) (h4 : RGu P c4) {n : Nat} (hn : 10 < n) : f_X12_served n bh b c4 = some (nI (cntS P S 2)) := by
  unfold f_X12_served
  rw [h4.1, ctrue_ok hP.2.1 hbr.2.2.2.2.2.2.2.2.2.1 hn]
  rfl
theorem lk_nstormed (hP : PlOk P) (hbr : RPt S b) (h4 : RGu P c4) {n : Nat} (hn : 10 < n) : f_X12_stormed n bh b c4 = some (nI (cntS P S 3)) := by
  unfold f_X12_stormed
  rw [h4.1, ctrue_ok hP.2.1 hbr.2.2.2.2.2.2.2.2.2.2 hn]
  rfl
theorem ga_ok (hP : PlOk P) (hS : SpB S) {x : Nat} (hx : x ≤ 3) {n : Nat} (hn : 10 < n) : f_X18_guestsAt n (nI x) (hb P S) = some (nI (cntS P S x)) := by
  have hg := hP.2.1
  have h7 := hS.2.2.2.2.2.2
  unfold f_X18_guestsAt
  refine iter_count _ (fun i => (nI (sumN (fun g => b01 (S.gp g = x)) i), nI i)) P.ng _ (fun i hi => ?_) ?_ (by omega)
  · show f_X18_guestsAt_L14 n (nI x) (hb P S) (nI x) (nI (sumN _ i)) (nI P.ng) (nI i) = _
    have := h7 i
    unfold f_X18_guestsAt_L14
    rw [if_neg (nI_ge hi (by omega)), if_neg (show ¬ (nI i < 0 ∨ Y18_ng (hb P S) ≤ (nI i).toNatClampNeg) from vp_in_nI hi (by show P.ng < _; omega)), nI_clamp (by omega)]
    show (if nI (S.gp i) = nI x then _ else _) = some (Sum.inl (nI (sumN _ i + b01 (S.gp i = x)), nI (i + 1)))
    unfold b01
    by_cases hc : S.gp i = x
    · rw [if_pos (congrArg nI hc), if_pos hc, nI_1, nI_1]
    · rw [if_neg (fun z => hc ((nI_eq (by omega) (by omega)).mp z)), if_neg hc, Int32.add_zero, nI_1]
      rfl
  · show f_X18_guestsAt_L14 n (nI x) (hb P S) (nI x) (nI (sumN _ P.ng)) (nI P.ng) (nI P.ng) = _
    unfold f_X18_guestsAt_L14
    rw [if_pos (Int32.le_refl _)]
    rfl
end LOOKS
/-! the mean force -/
theorem div_ok : ∀ s : Nat, s < 73 → ∀ m : Nat, m < 8 → (FP.ddiv (FP.i2d (nI s)) (FP.i2d (nI (m + 1)))) &&& 0x7fffffffffffffff ≤ 0x7ff0000000000000 ∧ Op.cmpValue (FP.dcmp (FP.ddiv (FP.i2d (nI s)) (FP.i2d (nI (m + 1)))) (FP.ddiv (FP.i2d (nI s)) (FP.i2d (nI (m + 1))))) .l = 0 := by decide +kernel
def sumF (P : Pl) (S : Sp) : Nat := sumN (fun f => if S.fp f = 1 then (P.fr f).2.1 else 0) P.nf
def meanS (P : Pl) (S : Sp) : UInt64 := if sumN (mnyF S) P.nf = 0 then 0 else FP.ddiv (FP.i2d (nI (sumF P S))) (FP.i2d (nI (sumN (mnyF S) P.nf)))
theorem forF_le {P : Pl} (hP : PlOk P) (S : Sp) : ∀ i, i < P.nf → (if S.fp i = 1 then (P.fr i).2.1 else 0) ≤ 9 := fun i hi => by
  have := (hP.2.2.1 i hi).2.2.1
  split <;> omega
section MEAN
variable {P : Pl} {S : Sp} {b : bX8} {c2 : bX2} {c4 : bX4} {bh : bX12}
theorem mean_ok {s m : Nat} (hs : s ≤ 72) (hm : m ≤ 8) (h0 : ¬ m = 0) : (FP.ddiv (FP.i2d (nI s)) (FP.i2d (nI m))) &&& 0x7fffffffffffffff ≤ 0x7ff0000000000000 ∧ Op.cmpValue (FP.dcmp (FP.ddiv (FP.i2d (nI s)) (FP.i2d (nI m))) (FP.ddiv (FP.i2d (nI s)) (FP.i2d (nI m)))) .l = 0 := by
  obtain ⟨k, rfl⟩ : ∃ k, m = k + 1 := ⟨m - 1, by omega⟩
  exact div_ok s (by omega) k (by omega)
theorem lk_mean (hP : PlOk P) (hI : SpI P S) (hh : S.hour < 2 ^ 30) (hbr : RPt S b) (h2 : RFr P c2) {n : Nat} (hn : 10 < n) : f_X12_meanForce n bh b c2 = some (meanS P S) := by
  have hf := hP.1
  have k3 := sumN_le (n := P.nf) (f := mnyF S) (c := 1) (fun i _ => mny_le S i)
  have k4 := sumN_le (n := P.nf) (forF_le hP S)
  unfold f_X12_meanForce
  refine iter_count _ (fun i => (nI (sumN (fun f => if S.fp f = 1 then (P.fr f).2.1 else 0) i), nI (sumN (mnyF S) i), nI i)) P.nf _ (fun i hi => ?_) ?_ (by omega)
  · show f_X12_meanForce_L6 n bh b c2 (nI (sumN _ i)) (nI (sumN (mnyF S) i)) (nI i) = _
    unfold f_X12_meanForce_L6
    rw [h2.1, if_neg (nI_ge hi (by omega)), hangs_ok hP hI hh hbr h2 (by omega), sb]
    show _ = some (Sum.inl (nI (sumN _ i + if S.fp i = 1 then (P.fr i).2.1 else 0), nI (sumN (mnyF S) i + mnyF S i), nI (i + 1)))
    unfold b01
    by_cases hc : S.fp i = 1
    · have e : mnyF S i = 1 := by unfold mnyF; rw [if_pos hc]
      rw [if_pos hc, if_neg (show ¬ nI 1 = 0 by decide), if_neg (vp_in_nI (show i < 10 by omega) (by decide)), nI_clamp (by omega), (h2.2 i hi).2.1, nI_add, nI_1, nI_1, if_pos hc, e]
    · have e : mnyF S i = 0 := by unfold mnyF; rw [if_neg hc]
      rw [if_neg hc, if_pos (show nI 0 = 0 from rfl), nI_1, if_neg hc, e]
      rfl
  · show f_X12_meanForce_L6 n bh b c2 (nI (sumN _ P.nf)) (nI (sumN (mnyF S) P.nf)) (nI P.nf) = _
    unfold f_X12_meanForce_L6
    rw [h2.1, if_pos (Int32.le_refl _)]
    unfold meanS
    by_cases h0 : sumN (mnyF S) P.nf = 0
    · rw [if_pos (show nI (sumN (mnyF S) P.nf) = 0 by rw [h0]; rfl), if_pos h0]
    · have := mean_ok (s := sumF P S) (m := sumN (mnyF S) P.nf) (by unfold sumF; omega) (by omega) h0
      rw [if_neg (nI_ne0 (by omega) (by omega)), if_neg h0]
      show (if (FP.ddiv (FP.i2d (nI (sumF P S))) (FP.i2d (nI (sumN (mnyF S) P.nf)))) &&& 0x7fffffffffffffff ≤ 0x7ff0000000000000 then _ else _) = _
      rw [if_pos this.1]
      rfl
/-- all is as by hand -/
theorem same_ok (hP : PlOk P) (hS : SpB S) (hI : SpI P S) (hh : S.hour < 2 ^ 30) (hbr : RPt S b) (h2 : RFr P c2) (h4 : RGu P c4) {n : Nat} (hn : 10 < n) : f_X18_isSame n (hb P S) bh b c2 c4 = some 1 := by
  have hf := hP.1
  have hg := hP.2.1
  have k3 := sumN_le (n := P.nf) (f := mnyF S) (c := 1) (fun i _ => mny_le S i)
  have k4 := sumN_le (n := P.nf) (forF_le hP S)
  unfold f_X18_isSame
  refine iter_count _ (fun i => (nI (sumN (fun f => if S.fp f = 1 then (P.fr f).2.1 else 0) i), nI (sumN (mnyF S) i), nI i)) P.nf _ (fun i hi => ?_) ?_ (by omega)
  · show f_X18_isSame_L7 n (hb P S) bh b c2 c4 (nI (sumN _ i)) (nI (sumN (mnyF S) i)) (nI i) = _
    have h6 := hS.2.2.2.2.2.1 i
    unfold f_X18_isSame_L7
    rw [if_neg (show ¬ nI (Y18_nf (hb P S)) ≤ nI i from nI_ge hi (by show P.nf < _; omega)), if_neg (show ¬ (nI i < 0 ∨ Y18_nf (hb P S) ≤ (nI i).toNatClampNeg) from vp_in_nI hi (by show P.nf < _; omega)), nI_clamp (by omega), lk_warm hP h2 hi, sb, if_pos (show nI (P.fr i).1 = Y18_Fw (hb P S) i from rfl), lk_force hP h2 hi, sb, if_pos (show nI (P.fr i).2.1 = Y18_Ff (hb P S) i from rfl), lk_over hP hI hh hbr h2 hi, sb]
    show _ = some (Sum.inl (nI (sumN _ i + if S.fp i = 1 then (P.fr i).2.1 else 0), nI (sumN (mnyF S) i + mnyF S i), nI (i + 1)))
    unfold f_X18_isSame_R74
    rw [lk_steeped hP hbr h2 hi]
    unfold f_X18_isSame_R97 f_X18_isSame_R121 b01
    have e : Y18_Fp (hb P S) i = nI (S.fp i) := rfl
    have e2 : Y18_Ff (hb P S) i = nI (P.fr i).2.1 := rfl
    have e3 : (i < Y18_nf (hb P S)) = True := eq_true hi
    by_cases h1 : S.fp i = 1
    · have em : mnyF S i = 1 := by unfold mnyF; rw [if_pos h1]
      simp (disch := omega) only [e, e2, e3, h1, em, sb, nJ_of, nJ_lt, nJ_le, nJ_eq, nJ_clamp, nJ_add, nJ_sub, if_pos, if_neg, if_true, if_false, nL_0, nL_1, nL_2, nL_3, nL_4, nL_5, nL_6, nL_7, nL_8, nL_9, nL_10, nL_11, nL_12, nL_13, nL_14, nL_15, nL_16, nL_17, nL_18, nL_19, nL_20, nL_21, nL_22, nL_23, nL_24, nL_25, nL_26, nL_27, nL_28, nL_30, nL_38, nL_40, nL_48, nL_58, nL_60]
    · have em : mnyF S i = 0 := by unfold mnyF; rw [if_neg h1]
      by_cases h2' : S.fp i = 2
      · simp (disch := omega) only [e, e2, e3, h1, h2', em, Nat.add_zero, sb, nJ_of, nJ_lt, nJ_le, nJ_eq, nJ_clamp, nJ_add, nJ_sub, if_pos, if_neg, if_true, if_false, nL_0, nL_1, nL_2, nL_3, nL_4, nL_5, nL_6, nL_7, nL_8, nL_9, nL_10, nL_11, nL_12, nL_13, nL_14, nL_15, nL_16, nL_17, nL_18, nL_19, nL_20, nL_21, nL_22, nL_23, nL_24, nL_25, nL_26, nL_27, nL_28, nL_30, nL_38, nL_40, nL_48, nL_58, nL_60]
      · simp (disch := omega) only [e, e2, e3, h1, h2', em, Nat.add_zero, sb, nJ_of, nJ_lt, nJ_le, nJ_eq, nJ_clamp, nJ_add, nJ_sub, if_pos, if_neg, if_true, if_false, nL_0, nL_1, nL_2, nL_3, nL_4, nL_5, nL_6, nL_7, nL_8, nL_9, nL_10, nL_11, nL_12, nL_13, nL_14, nL_15, nL_16, nL_17, nL_18, nL_19, nL_20, nL_21, nL_22, nL_23, nL_24, nL_25, nL_26, nL_27, nL_28, nL_30, nL_38, nL_40, nL_48, nL_58, nL_60]
  · show f_X18_isSame_L7 n (hb P S) bh b c2 c4 (nI (sumN _ P.nf)) (nI (sumN (mnyF S) P.nf)) (nI P.nf) = _
    unfold f_X18_isSame_L7
    rw [if_pos (show nI (Y18_nf (hb P S)) ≤ nI P.nf from Int32.le_refl _)]
    have hin : iter (fun s : Int32 => f_X18_isSame_L149 n (hb P S) bh b c2 c4 (nI (sumF P S)) (nI (sumN (mnyF S) P.nf)) s) n 0 = some 1 := by
      refine iter_count _ (fun i => nI i) P.ng _ (fun i hi => ?_) ?_ (by omega)
      · have h7 := hS.2.2.2.2.2.2 i
        unfold f_X18_isSame_L149
        rw [if_neg (show ¬ nI (Y18_ng (hb P S)) ≤ nI i from nI_ge hi (by show P.ng < _; omega)), if_neg (show ¬ (nI i < 0 ∨ Y18_ng (hb P S) ≤ (nI i).toNatClampNeg) from vp_in_nI hi (by show P.ng < _; omega)), nI_clamp (by omega), lk_seated hP hS hI hh hbr h4 hi, sb]
        have hl := likes_ok hP hS hi (x := S.strength) (by have := hS.2.1; omega)
        have hl' : f_X18_likes i (Y18_strength (hb P S)) (hb P S) = some (nI (b01 (likeS P S i S.strength))) := hl
        unfold f_X18_isSame_R188 f_X18_isSame_R230 f_X18_isSame_R253
        rw [lk_content hP hS hI hh hbr h4 hi, hl', lk_served hP hbr h4 hi, lk_stormed hP hbr h4 hi]
        have e : Y18_Gp (hb P S) i = nI (S.gp i) := rfl
        have e3 : (i < Y18_ng (hb P S)) = True := eq_true hi
        simp only [sb, if_true, e3, e]
        unfold b01
        by_cases h1 : S.gp i = 1
        · simp (disch := omega) only [h1, sb, nJ_of, nJ_lt, nJ_le, nJ_eq, nJ_clamp, nJ_add, nJ_sub, if_pos, if_neg, if_true, if_false, nL_0, nL_1, nL_2, nL_3, nL_4, nL_5, nL_6, nL_7, nL_8, nL_9, nL_10, nL_11, nL_12, nL_13, nL_14, nL_15, nL_16, nL_17, nL_18, nL_19, nL_20, nL_21, nL_22, nL_23, nL_24, nL_25, nL_26, nL_27, nL_28, nL_30, nL_38, nL_40, nL_48, nL_58, nL_60]
        · by_cases h2' : S.gp i = 2
          · simp (disch := omega) only [h1, h2', sb, nJ_of, nJ_lt, nJ_le, nJ_eq, nJ_clamp, nJ_add, nJ_sub, if_pos, if_neg, if_true, if_false, nL_0, nL_1, nL_2, nL_3, nL_4, nL_5, nL_6, nL_7, nL_8, nL_9, nL_10, nL_11, nL_12, nL_13, nL_14, nL_15, nL_16, nL_17, nL_18, nL_19, nL_20, nL_21, nL_22, nL_23, nL_24, nL_25, nL_26, nL_27, nL_28, nL_30, nL_38, nL_40, nL_48, nL_58, nL_60]
          · by_cases h3 : S.gp i = 3
            · simp (disch := omega) only [h1, h2', h3, sb, nJ_of, nJ_lt, nJ_le, nJ_eq, nJ_clamp, nJ_add, nJ_sub, if_pos, if_neg, if_true, if_false, nL_0, nL_1, nL_2, nL_3, nL_4, nL_5, nL_6, nL_7, nL_8, nL_9, nL_10, nL_11, nL_12, nL_13, nL_14, nL_15, nL_16, nL_17, nL_18, nL_19, nL_20, nL_21, nL_22, nL_23, nL_24, nL_25, nL_26, nL_27, nL_28, nL_30, nL_38, nL_40, nL_48, nL_58, nL_60]
            · simp (disch := omega) only [h1, h2', h3, sb, nJ_of, nJ_lt, nJ_le, nJ_eq, nJ_clamp, nJ_add, nJ_sub, if_pos, if_neg, if_true, if_false, nL_0, nL_1, nL_2, nL_3, nL_4, nL_5, nL_6, nL_7, nL_8, nL_9, nL_10, nL_11, nL_12, nL_13, nL_14, nL_15, nL_16, nL_17, nL_18, nL_19, nL_20, nL_21, nL_22, nL_23, nL_24, nL_25, nL_26, nL_27, nL_28, nL_30, nL_38, nL_40, nL_48, nL_58, nL_60]
      · unfold f_X18_isSame_L149
        have hbr0 := hbr
        obtain ⟨r1, r2, r3, r4, r5, r6, r7, r8, -, -, -⟩ := hbr
        have a1 : f_X12_fronts bh b c2 = some (nI P.nf) := congrArg some h2.1
        have a2 : f_X12_guests bh b c4 = some (nI P.ng) := congrArg some h4.1
        have a_hour : f_X12_hour bh b = some (nI S.hour) := congrArg some r1
        have a_warmth : f_X12_warmth bh b = some (nI S.warmth) := congrArg some r2
        have a_strength : f_X12_strength bh b = some (nI S.strength) := congrArg some r3
        have a_charge : f_X12_charge bh b = some (nI S.charge) := congrArg some r4
        have a_lemons : f_X12_lemons bh b = some (nI S.lemons) := congrArg some r5
        have a_saucers : f_X12_saucers bh b = some (nI S.saucers) := congrArg some r6
        have a_coins : f_X12_coins bh b = some (nI S.coins) := congrArg some r7
        have a_storms : f_X12_storms bh b = some (nI S.storms) := congrArg some r8
        rw [if_pos (show nI (Y18_ng (hb P S)) ≤ nI P.ng from Int32.le_refl _), a1, sb, if_pos (show nI P.nf = nI (Y18_nf (hb P S)) from rfl), a2, sb, if_pos (show nI P.ng = nI (Y18_ng (hb P S)) from rfl), a_hour, sb, if_pos (show nI S.hour = Y18_hour (hb P S) from rfl), a_warmth, sb, if_pos (show nI S.warmth = Y18_warmth (hb P S) from rfl), a_strength, sb, if_pos (show nI S.strength = Y18_strength (hb P S) from rfl), a_charge, sb, if_pos (show nI S.charge = Y18_charge (hb P S) from rfl), a_lemons, sb, if_pos (show nI S.lemons = Y18_lemons (hb P S) from rfl), a_saucers, sb, if_pos (show nI S.saucers = Y18_saucers (hb P S) from rfl), a_coins, sb, if_pos (show nI S.coins = Y18_coins (hb P S) from rfl), a_storms, sb, if_pos (show nI S.storms = Y18_storms (hb P S) from rfl)]
        rw [lk_sits hP hS hI hh hbr0 h4 hn, sb, show f_X18_guestsAt n 1 (hb P S) = _ from ga_ok hP hS (x := 1) (by decide) hn, sb, if_pos rfl, lk_nserved hP hbr0 h4 hn, sb, show f_X18_guestsAt n 2 (hb P S) = _ from ga_ok hP hS (x := 2) (by decide) hn, sb, if_pos rfl, lk_nstormed hP hbr0 h4 hn, sb, show f_X18_guestsAt n 3 (hb P S) = _ from ga_ok hP hS (x := 3) (by decide) hn, sb, if_pos rfl, lk_mean hP hI hh hbr0 h2 hn, sb]
        unfold f_X18_isSame_R429 meanS
        by_cases h0 : sumN (mnyF S) P.nf = 0
        · rw [if_pos (show nI (sumN (mnyF S) P.nf) = 0 by rw [h0]; rfl), if_pos h0, if_pos (by decide +kernel)]
          rfl
        · have := mean_ok (s := sumF P S) (m := sumN (mnyF S) P.nf) (by unfold sumF; omega) (by omega) h0
          rw [if_neg (nI_ne0 (by omega) (by omega)), if_neg h0, if_pos this.1, if_pos this.2]
          rfl
    show (iter (fun s : Int32 => f_X18_isSame_L149 n (hb P S) bh b c2 c4 (nI (sumF P S)) (nI (sumN (mnyF S) P.nf)) s) n 0).bind _ = _
    rw [hin]
    rfl
end MEAN
