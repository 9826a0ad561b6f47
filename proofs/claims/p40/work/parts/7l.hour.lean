/-! AN HOUR by hand: the weather blows, the orders ahead of it -/
def wrmF (P : Pl) (S : Sp) (f : Nat) : Nat := if S.fp f = 1 then (if (P.fr f).1 = 0 then 0 else (P.fr f).2.1) else 0
def cldF (P : Pl) (S : Sp) (f : Nat) : Nat := if S.fp f = 1 then (if (P.fr f).1 = 0 then (P.fr f).2.1 else 0) else 0
def mnyF (S : Sp) (f : Nat) : Nat := if S.fp f = 1 then 1 else 0
def minS (a b : Nat) : Nat := if b ≤ a then b else a
def chgS (c w k : Nat) : Nat := if c + minS w k ≤ 30 then c + minS w k else 30
def airS (x many w k : Nat) : Nat := if many = 0 then (if 20 ≤ x then (if x ≤ 20 then x else x - 1) else x + 1) else if k ≤ x + w then (if x + w - k ≤ 40 then x + w - k else 40) else 0
def blowS (P : Pl) (S : Sp) : Sp := Sp.mk S.hour (airS S.warmth (sumN (mnyF S) P.nf) (sumN (wrmF P S) P.nf) (sumN (cldF P S) P.nf)) S.strength (chgS S.charge (sumN (wrmF P S) P.nf) (sumN (cldF P S) P.nf)) S.lemons S.saucers S.coins S.storms S.fp S.gp
theorem airS_le {x a b c : Nat} (hx : x ≤ 40) : airS x a b c ≤ 40 := by
  unfold airS
  split
  · split
    · split <;> omega
    · omega
  · split
    · split <;> omega
    · omega
theorem chgS_le {x a b : Nat} : chgS x a b ≤ 30 := by
  unfold chgS
  split <;> omega
theorem SpB_blow {P : Pl} {S : Sp} (hS : SpB S) : SpB (blowS P S) := ⟨airS_le hS.1, hS.2.1, chgS_le, hS.2.2.2⟩
theorem r196_ok {n : Nat} {os : List Od} {b : bY18} {wa co ch : Nat} (hw : wa ≤ 1000) (hk : co ≤ 1000) (hc : ch ≤ 30) (a1 a2 a3 a4 a5 a6 a7 : Int32) (p1 p2 : Nat → Int32) : f_X18_pass_R196 n os b (nI wa) (nI co) a1 a2 a3 (nI ch) a4 a5 a6 a7 p1 p2 = f_X18_pass_R230 n os b a1 a2 a3 (nI (chgS ch wa co)) a4 a5 a6 a7 p1 p2 := by
  unfold f_X18_pass_R196 f_X18_pass_R211 chgS minS
  by_cases h1 : co ≤ wa
  · by_cases h2 : ch + co ≤ 30
    · simp (disch := omega) only [h1, h2, sb, nJ_of, nJ_lt, nJ_le, nJ_eq, nJ_clamp, nJ_add, nJ_sub, if_pos, if_neg, if_true, if_false, nL_0, nL_1, nL_2, nL_3, nL_4, nL_5, nL_6, nL_7, nL_8, nL_9, nL_10, nL_11, nL_12, nL_13, nL_14, nL_15, nL_16, nL_17, nL_18, nL_19, nL_20, nL_21, nL_22, nL_23, nL_24, nL_25, nL_26, nL_27, nL_28, nL_30, nL_38, nL_40, nL_48, nL_58, nL_60]
    · simp (disch := omega) only [h1, h2, sb, nJ_of, nJ_lt, nJ_le, nJ_eq, nJ_clamp, nJ_add, nJ_sub, if_pos, if_neg, if_true, if_false, nL_0, nL_1, nL_2, nL_3, nL_4, nL_5, nL_6, nL_7, nL_8, nL_9, nL_10, nL_11, nL_12, nL_13, nL_14, nL_15, nL_16, nL_17, nL_18, nL_19, nL_20, nL_21, nL_22, nL_23, nL_24, nL_25, nL_26, nL_27, nL_28, nL_30, nL_38, nL_40, nL_48, nL_58, nL_60]
  · by_cases h2 : ch + wa ≤ 30
    · simp (disch := omega) only [h1, h2, sb, nJ_of, nJ_lt, nJ_le, nJ_eq, nJ_clamp, nJ_add, nJ_sub, if_pos, if_neg, if_true, if_false, nL_0, nL_1, nL_2, nL_3, nL_4, nL_5, nL_6, nL_7, nL_8, nL_9, nL_10, nL_11, nL_12, nL_13, nL_14, nL_15, nL_16, nL_17, nL_18, nL_19, nL_20, nL_21, nL_22, nL_23, nL_24, nL_25, nL_26, nL_27, nL_28, nL_30, nL_38, nL_40, nL_48, nL_58, nL_60]
    · simp (disch := omega) only [h1, h2, sb, nJ_of, nJ_lt, nJ_le, nJ_eq, nJ_clamp, nJ_add, nJ_sub, if_pos, if_neg, if_true, if_false, nL_0, nL_1, nL_2, nL_3, nL_4, nL_5, nL_6, nL_7, nL_8, nL_9, nL_10, nL_11, nL_12, nL_13, nL_14, nL_15, nL_16, nL_17, nL_18, nL_19, nL_20, nL_21, nL_22, nL_23, nL_24, nL_25, nL_26, nL_27, nL_28, nL_30, nL_38, nL_40, nL_48, nL_58, nL_60]
theorem r181_ok {n : Nat} {os : List Od} {b : bY18} {wa co ch w : Nat} (hw : wa ≤ 1000) (hk : co ≤ 1000) (hc : ch ≤ 30) (hx : w ≤ 2000) (a1 a3 a4 a5 a6 a7 : Int32) (p1 p2 : Nat → Int32) : f_X18_pass_R181 n os b (nI wa) (nI co) a1 (nI w) a3 (nI ch) a4 a5 a6 a7 p1 p2 = f_X18_pass_R230 n os b a1 (nI (if w ≤ 40 then w else 40)) a3 (nI (chgS ch wa co)) a4 a5 a6 a7 p1 p2 := by
  unfold f_X18_pass_R181
  by_cases h1 : w ≤ 40
  · simp (disch := omega) only [h1, sb, nJ_of, nJ_lt, nJ_le, nJ_eq, nJ_clamp, nJ_add, nJ_sub, if_pos, if_neg, if_true, if_false, nL_0, nL_1, nL_2, nL_3, nL_4, nL_5, nL_6, nL_7, nL_8, nL_9, nL_10, nL_11, nL_12, nL_13, nL_14, nL_15, nL_16, nL_17, nL_18, nL_19, nL_20, nL_21, nL_22, nL_23, nL_24, nL_25, nL_26, nL_27, nL_28, nL_30, nL_38, nL_40, nL_48, nL_58, nL_60]
    exact r196_ok hw hk hc _ _ _ _ _ _ _ _ _
  · simp (disch := omega) only [h1, sb, nJ_of, nJ_lt, nJ_le, nJ_eq, nJ_clamp, nJ_add, nJ_sub, if_pos, if_neg, if_true, if_false, nL_0, nL_1, nL_2, nL_3, nL_4, nL_5, nL_6, nL_7, nL_8, nL_9, nL_10, nL_11, nL_12, nL_13, nL_14, nL_15, nL_16, nL_17, nL_18, nL_19, nL_20, nL_21, nL_22, nL_23, nL_24, nL_25, nL_26, nL_27, nL_28, nL_30, nL_38, nL_40, nL_48, nL_58, nL_60]
    exact r196_ok hw hk hc _ _ _ _ _ _ _ _ _
theorem wrm_le {P : Pl} (hP : PlOk P) (S : Sp) : ∀ i, i < P.nf → wrmF P S i ≤ 9 := fun i hi => by
  have := (hP.2.2.1 i hi).2.2.1
  unfold wrmF
  split
  · split <;> omega
  · omega
theorem cld_le {P : Pl} (hP : PlOk P) (S : Sp) : ∀ i, i < P.nf → cldF P S i ≤ 9 := fun i hi => by
  have := (hP.2.2.1 i hi).2.2.1
  unfold cldF
  split
  · split <;> omega
  · omega
theorem mny_le (S : Sp) : ∀ i, mnyF S i ≤ 1 := fun i => by
  unfold mnyF
  split <;> omega
/-- the sum of a warm and a cold wind, seen as an int -/
theorem pls {x w k : Nat} (hx : x ≤ 40) (hw : w ≤ 1000) (hk : k ≤ 1000) : (k ≤ x + w → nI x + (nI w - nI k) = nI (x + w - k)) ∧ (¬ k ≤ x + w → ¬ (0 : Int32) ≤ nI x + (nI w - nI k)) := by
  have e : nI x + (nI w - nI k) = nI (x + w) - nI k := by
    rw [← nI_add, Int32.sub_eq_add_neg, Int32.sub_eq_add_neg, Int32.add_assoc]
  refine ⟨fun h => ?_, fun h => ?_⟩
  · rw [e]
    exact pk_sub h
  · rw [e]
    have := pk_sneg (a := x + w) (b := k) (by omega) (by omega)
    exact fun z => Int32.not_lt.mpr z this
theorem blow_ok {P : Pl} (hP : PlOk P) {S S0 : Sp} (hS : SpB S) (hh : S.hour < 2 ^ 30) {n : Nat} (hn : 10 < n) (os : List Od) : iter (fun s : Int32 × Int32 × Int32 × Int32 => f_X18_pass_L52 n os (hb P S0) s.1 s.2.1 s.2.2.1 (nI P.nf) s.2.2.2 (nI S.hour) (nI S.warmth) (nI S.strength) (nI S.charge) (nI S.lemons) (nI S.saucers) (nI S.coins) (nI S.storms) (fun j => nI (S.fp j)) (fun j => nI (S.gp j))) n (0, 0, 0, 0) = some (nI (isStorm (blowS P S)), spA (comeS P (leaveS P (weatherS P (blowS P S))))) := by
  have hW := weather_ok hP (S := blowS P S) (S0 := S0) (SpB_blow hS) hh hn os
  have k1 := sumN_le (n := P.nf) (wrm_le hP S)
  have k2 := sumN_le (n := P.nf) (cld_le hP S)
  have k3 := sumN_le (n := P.nf) (f := mnyF S) (c := 1) (fun i _ => mny_le S i)
  obtain ⟨hnf, hng, hfr, hgu, -, -⟩ := hP
  obtain ⟨b1, b2, b3, b4, b5, b6, b7⟩ := hS
  refine iter_count _ (fun i => (nI (sumN (mnyF S) i), nI (sumN (wrmF P S) i), nI (sumN (cldF P S) i), nI i)) P.nf _ (fun i hi => ?_) ?_ (by omega)
  · show f_X18_pass_L52 n os (hb P S0) (nI (sumN (mnyF S) i)) (nI (sumN (wrmF P S) i)) (nI (sumN (cldF P S) i)) (nI P.nf) (nI i) _ _ _ _ _ _ _ _ _ _ = _
    obtain ⟨f1, f2, f3, f4, f5, f6⟩ := hfr i hi
    have h2 := b6 i
    unfold f_X18_pass_L52
    by_cases hc : S.fp i = 1
    · by_cases hd : (P.fr i).1 = 0
      · have e1 : mnyF S i = 1 := by unfold mnyF; rw [if_pos hc]
        have e2 : wrmF P S i = 0 := by unfold wrmF; rw [if_pos hc, if_pos hd]
        have e3 : cldF P S i = (P.fr i).2.1 := by unfold cldF; rw [if_pos hc, if_pos hd]
        simp (disch := omega) only [sumN, e1, e2, e3, hb_hour, hb_warmth, hb_strength, hb_charge, hb_lemons, hb_saucers, hb_coins, hb_storms, hb_Fw, hb_Ff, hb_Fa, hb_Fs, hb_Fp, hb_Ga, hb_Gl, hb_Gh, hb_Gn, hb_Gp, hb_nf, hb_ng, in_rng hi, hc, hd, Nat.add_zero, sb, nJ_of, nJ_lt, nJ_le, nJ_eq, nJ_clamp, nJ_add, nJ_sub, if_pos, if_neg, if_true, if_false, nL_0, nL_1, nL_2, nL_3, nL_4, nL_5, nL_6, nL_7, nL_8, nL_9, nL_10, nL_11, nL_12, nL_13, nL_14, nL_15, nL_16, nL_17, nL_18, nL_19, nL_20, nL_21, nL_22, nL_23, nL_24, nL_25, nL_26, nL_27, nL_28, nL_30, nL_38, nL_40, nL_48, nL_58, nL_60]
      · have e1 : mnyF S i = 1 := by unfold mnyF; rw [if_pos hc]
        have e2 : wrmF P S i = (P.fr i).2.1 := by unfold wrmF; rw [if_pos hc, if_neg hd]
        have e3 : cldF P S i = 0 := by unfold cldF; rw [if_pos hc, if_neg hd]
        simp (disch := omega) only [sumN, e1, e2, e3, hb_hour, hb_warmth, hb_strength, hb_charge, hb_lemons, hb_saucers, hb_coins, hb_storms, hb_Fw, hb_Ff, hb_Fa, hb_Fs, hb_Fp, hb_Ga, hb_Gl, hb_Gh, hb_Gn, hb_Gp, hb_nf, hb_ng, in_rng hi, hc, hd, Nat.add_zero, sb, nJ_of, nJ_lt, nJ_le, nJ_eq, nJ_clamp, nJ_add, nJ_sub, if_pos, if_neg, if_true, if_false, nL_0, nL_1, nL_2, nL_3, nL_4, nL_5, nL_6, nL_7, nL_8, nL_9, nL_10, nL_11, nL_12, nL_13, nL_14, nL_15, nL_16, nL_17, nL_18, nL_19, nL_20, nL_21, nL_22, nL_23, nL_24, nL_25, nL_26, nL_27, nL_28, nL_30, nL_38, nL_40, nL_48, nL_58, nL_60]
    · have e1 : mnyF S i = 0 := by unfold mnyF; rw [if_neg hc]
      have e2 : wrmF P S i = 0 := by unfold wrmF; rw [if_neg hc]
      have e3 : cldF P S i = 0 := by unfold cldF; rw [if_neg hc]
      simp (disch := omega) only [sumN, e1, e2, e3, hb_hour, hb_warmth, hb_strength, hb_charge, hb_lemons, hb_saucers, hb_coins, hb_storms, hb_Fw, hb_Ff, hb_Fa, hb_Fs, hb_Fp, hb_Ga, hb_Gl, hb_Gh, hb_Gn, hb_Gp, hb_nf, hb_ng, in_rng hi, hc, Nat.add_zero, sb, nJ_of, nJ_lt, nJ_le, nJ_eq, nJ_clamp, nJ_add, nJ_sub, if_pos, if_neg, if_true, if_false, nL_0, nL_1, nL_2, nL_3, nL_4, nL_5, nL_6, nL_7, nL_8, nL_9, nL_10, nL_11, nL_12, nL_13, nL_14, nL_15, nL_16, nL_17, nL_18, nL_19, nL_20, nL_21, nL_22, nL_23, nL_24, nL_25, nL_26, nL_27, nL_28, nL_30, nL_38, nL_40, nL_48, nL_58, nL_60]
  · show f_X18_pass_L52 n os (hb P S0) (nI (sumN (mnyF S) P.nf)) (nI (sumN (wrmF P S) P.nf)) (nI (sumN (cldF P S) P.nf)) (nI P.nf) (nI P.nf) _ _ _ _ _ _ _ _ _ _ = _
    generalize hm : sumN (mnyF S) P.nf = many at *
    generalize hw : sumN (wrmF P S) P.nf = wa at *
    generalize hk : sumN (cldF P S) P.nf = co at *
    have hW2 : ∀ w, airS S.warmth many wa co = w → f_X18_pass_R230 n os (hb P S0) (nI S.hour) (nI w) (nI S.strength) (nI (chgS S.charge wa co)) (nI S.lemons) (nI S.saucers) (nI S.coins) (nI S.storms) (fun j => nI (S.fp j)) (fun j => nI (S.gp j)) = some (nI (isStorm (blowS P S)), spA (comeS P (leaveS P (weatherS P (blowS P S))))) := fun w hw9 => by
      rw [← hW]
      unfold blowS
      rw [hm, hw, hk, hw9]
    unfold f_X18_pass_L52
    rw [if_pos (Int32.le_refl _)]
    by_cases h0 : many = 0
    · rw [if_pos (show nI many = 0 by rw [h0]; rfl)]
      by_cases h1 : 20 ≤ S.warmth
      · rw [if_pos (show (20 : Int32) ≤ nI S.warmth from nI_le (a := 20) h1 (by omega))]
        by_cases h2 : S.warmth ≤ 20
        · rw [if_pos (show nI S.warmth ≤ (20 : Int32) from nI_le (b := 20) h2 (by decide))]
          unfold f_X18_pass_R150
          rw [Int32.add_zero, r196_ok (by omega) (by omega) (by omega), hW2 S.warmth (by unfold airS; rw [if_pos h0, if_pos h1, if_pos h2])]
          rfl
        · rw [if_neg (show ¬ nI S.warmth ≤ (20 : Int32) from nI_ge (a := 20) (by omega) (by omega))]
          unfold f_X18_pass_R150
          obtain ⟨w', hw'⟩ : ∃ w', S.warmth = w' + 1 := ⟨S.warmth - 1, by omega⟩
          rw [hw', pk_m1, r196_ok (by omega) (by omega) (by omega), hW2 w' (by unfold airS; rw [if_pos h0, if_pos h1, if_neg h2, hw']; rfl)]
          rfl
      · rw [if_neg (show ¬ (20 : Int32) ≤ nI S.warmth from nI_ge (b := 20) (by omega) (by decide))]
        unfold f_X18_pass_R150
        rw [nI_1, r196_ok (by omega) (by omega) (by omega), hW2 (S.warmth + 1) (by unfold airS; rw [if_pos h0, if_neg h1])]
        rfl
    · rw [if_neg (nI_ne0 (by omega) (by omega))]
      obtain ⟨q1, q2⟩ := pls (x := S.warmth) (w := wa) (k := co) b1 (by omega) (by omega)
      by_cases h1 : co ≤ S.warmth + wa
      · rw [q1 h1, if_pos (nI_pos' (by omega)), r181_ok (by omega) (by omega) (by omega) (by omega), hW2 _ (by unfold airS; rw [if_neg h0, if_pos h1])]
        rfl
      · rw [if_neg (q2 h1), show (0 : Int32) = nI 0 from rfl, r181_ok (by omega) (by omega) (by omega) (by omega), hW2 _ (by unfold airS; rw [if_neg h0, if_neg h1]; rfl)]
        rfl
/-- the orders, one behind the other -/
def ordS (P : Pl) (S : Sp) (os : List Od) : Sp := os.foldl (odoS P) S
def hourS (P : Pl) (S : Sp) : Sp := comeS P (leaveS P (weatherS P (blowS P (ordS P S P.os))))
def stormy (P : Pl) (S : Sp) : Nat := isStorm (blowS P (ordS P S P.os))
theorem updT_le {w : Nat → Nat} {b f x : Nat} (h : ∀ j, w j ≤ b) (hx : x ≤ b) : ∀ j, updT w f x j ≤ b := fun j => by
  unfold updT
  split
  · exact hx
  · exact h j
theorem SpB_steep {P : Pl} {S : Sp} (hS : SpB S) (f : Nat) : SpB (steepS P S f) := by
  obtain ⟨b1, b2, b3, b4, b5, b6, b7⟩ := hS
  unfold steepS
  by_cases h : S.fp f = 1
  · rw [if_pos h]
    refine ⟨b1, ?_, b3, b4, b5, updT_le b6 (by decide), b7⟩
    show (if S.strength + (P.fr f).2.1 ≤ 30 then S.strength + (P.fr f).2.1 else 30) ≤ 30
    split <;> omega
  · rw [if_neg h]
    exact ⟨b1, b2, b3, b4, b5, b6, b7⟩
theorem SpB_squeeze {S : Sp} (hS : SpB S) : SpB (squeezeS S) := by
  obtain ⟨b1, b2, b3, b4, b5, b6, b7⟩ := hS
  unfold squeezeS
  by_cases h : S.lemons = 0
  · rw [if_pos h]
    exact ⟨b1, b2, b3, b4, b5, b6, b7⟩
  · rw [if_neg h]
    refine ⟨b1, b2, ?_, (show S.lemons - 1 ≤ 3 by omega), b5, b6, b7⟩
    show (if S.charge ≤ 24 then S.charge + 6 else 30) ≤ 30
    split <;> omega
theorem SpB_calm {S : Sp} (hS : SpB S) : SpB (calmS S) := by
  obtain ⟨b1, b2, b3, b4, b5, b6, b7⟩ := hS
  unfold calmS
  by_cases h : S.saucers = 0
  · rw [if_pos h]
    exact ⟨b1, b2, b3, b4, b5, b6, b7⟩
  · rw [if_neg h]
    exact ⟨b1, b2, (show S.charge - 5 ≤ 30 by omega), b4, (show S.saucers - 1 ≤ 3 by omega), b6, b7⟩
theorem SpB_serve {P : Pl} {S : Sp} (hS : SpB S) (g : Nat) : SpB (serveS P S g) := by
  obtain ⟨b1, b2, b3, b4, b5, b6, b7⟩ := hS
  unfold serveS
  by_cases h : likeS P S g S.strength
  · rw [if_pos h]
    exact ⟨b1, (show S.strength - 3 ≤ 30 by omega), b3, b4, b5, b6, updT_le b7 (by decide)⟩
  · rw [if_neg h]
    exact ⟨b1, b2, b3, b4, b5, b6, b7⟩
theorem SpB_do {P : Pl} {S : Sp} (hS : SpB S) (o : Od) : SpB (doS P S o) := by
  unfold doS
  split
  · exact SpB_steep hS _
  · split
    · exact SpB_serve hS _
    · split
      · exact SpB_squeeze hS
      · exact SpB_calm hS
theorem SpB_odo {P : Pl} {S : Sp} (hS : SpB S) (o : Od) : SpB (odoS P S o) := by
  unfold odoS
  split
  · exact SpB_do hS o
  · split
    · exact hS
    · exact SpB_do hS o
theorem do_x (P : Pl) (S : Sp) (o : Od) : (doS P S o).hour = S.hour ∧ (doS P S o).warmth = S.warmth ∧ (doS P S o).storms = S.storms := by
  unfold doS
  split
  · exact ⟨(steepS_x P S o.2.1).2.2.2.2.2.1, (steepS_x P S o.2.1).2.2.2.2.2.2.1, (steepS_x P S o.2.1).2.2.2.2.2.2.2⟩
  · split
    · exact ⟨(serveS_x P S o.2.1).2.2.2.2.1, (serveS_x P S o.2.1).2.2.2.2.2.1, (serveS_x P S o.2.1).2.2.2.2.2.2⟩
    · split
      · exact ⟨(squeezeS_x S).2.2.2.2.2.1, (squeezeS_x S).2.2.2.2.2.2.1, (squeezeS_x S).2.2.2.2.2.2.2⟩
      · exact ⟨(calmS_x S).2.2.2.2.2.1, (calmS_x S).2.2.2.2.2.2.1, (calmS_x S).2.2.2.2.2.2.2⟩
theorem odo_x (P : Pl) (S : Sp) (o : Od) : (odoS P S o).hour = S.hour ∧ (odoS P S o).warmth = S.warmth ∧ (odoS P S o).storms = S.storms := by
  unfold odoS
  split
  · exact do_x P S o
  · split
    · exact ⟨rfl, rfl, rfl⟩
    · exact do_x P S o
theorem ord_x (P : Pl) : ∀ (os : List Od) (S : Sp), SpB S → SpB (ordS P S os) ∧ (ordS P S os).hour = S.hour ∧ (ordS P S os).warmth = S.warmth ∧ (ordS P S os).storms = S.storms := by
  intro os
  induction os with
  | nil => intro S hS; exact ⟨hS, rfl, rfl, rfl⟩
  | cons o os ih =>
    intro S hS
    obtain ⟨x1, x2, x3⟩ := odo_x P S o
    obtain ⟨y0, y1, y2, y3⟩ := ih (odoS P S o) (SpB_odo hS o)
    exact ⟨y0, y1.trans x1, y2.trans x2, y3.trans x3⟩
theorem take_s (P : Pl) (S : Sp) (os : List Od) (i : Nat) (o : Od) (h : os[i]? = some o) : ordS P S (os.take (i + 1)) = odoS P (ordS P S (os.take i)) o := by
  unfold ordS
  rw [List.take_add_one, h, List.foldl_append]
  rfl
theorem pass_ok {P : Pl} (hP : PlOk P) {S : Sp} (hS : SpB S) (hh : S.hour < 2 ^ 30) {n : Nat} (hn : 10 < n) : f_X18_pass n P.os (hb P S) = some (nI (stormy P S), spA (hourS P S)) := by
  have hlen := hP.2.2.2.2.1
  have hords := hP.2.2.2.2.2
  unfold f_X18_pass
  refine iter_count _ (fun i => (nI i, spO (ordS P S (P.os.take i)))) P.os.length _ (fun i hi => ?_) ?_ (by omega)
  · show f_X18_pass_L10 n P.os (hb P S) (nI P.os.length) (nI i) _ _ _ _ _ _ _ _ _ _ = _
    obtain ⟨x0, x1, x2, x3⟩ := ord_x P (P.os.take i) S hS
    have ho : P.os[i]? = some (P.os[i]) := List.getElem?_eq_getElem hi
    have hOd := hords _ (List.getElem_mem hi)
    have hd := odo_ok hP x0 hOd
    unfold f_X18_pass_L10
    rw [if_neg (nI_ge (a := i) (b := P.os.length) (by omega) (by omega)), if_neg (vp_in_nI hi (by omega)), nI_clamp (by omega)]
    unfold f_X17_carryOut
    rw [ho, sb]
    show (f_odo P.os[i] (nI S.hour, nI S.warmth, nI (ordS P S (P.os.take i)).strength, nI (ordS P S (P.os.take i)).charge, nI (ordS P S (P.os.take i)).lemons, nI (ordS P S (P.os.take i)).saucers, nI (ordS P S (P.os.take i)).coins, nI S.storms, _, _, _, _, (fun j => nI ((ordS P S (P.os.take i)).fp j)), _, _, _, _, (fun j => nI ((ordS P S (P.os.take i)).gp j)), _, _)).bind _ = _
    rw [← x1, ← x2, ← x3]
    show (f_odo P.os[i] (hb P (ordS P S (P.os.take i)))).bind _ = _
    rw [hd, sb, take_s P S P.os i _ ho, nI_1]
  · show f_X18_pass_L10 n P.os (hb P S) (nI P.os.length) (nI P.os.length) _ _ _ _ _ _ _ _ _ _ = _
    rw [List.take_length]
    obtain ⟨x0, x1, x2, x3⟩ := ord_x P P.os S hS
    have hB := blow_ok hP (S := ordS P S P.os) (S0 := S) x0 (by rw [x1]; exact hh) hn P.os
    unfold f_X18_pass_L10
    rw [if_pos (Int32.le_refl _)]
    rw [x1, x2, x3] at hB
    show (iter (fun s : Int32 × Int32 × Int32 × Int32 => f_X18_pass_L52 n P.os (hb P S) s.1 s.2.1 s.2.2.1 (nI P.nf) s.2.2.2 (nI S.hour) (nI S.warmth) (nI (ordS P S P.os).strength) (nI (ordS P S P.os).charge) (nI (ordS P S P.os).lemons) (nI (ordS P S P.os).saucers) (nI (ordS P S P.os).coins) (nI S.storms) (fun j => nI ((ordS P S P.os).fp j)) (fun j => nI ((ordS P S P.os).gp j))) n (0, 0, 0, 0)).bind _ = _
    rw [hB]
    rfl
theorem SpB_come {P : Pl} {S : Sp} (hS : SpB S) : SpB (comeS P S) := by
  obtain ⟨b1, b2, b3, b4, b5, b6, b7⟩ := hS
  exact ⟨b1, b2, b3, b4, b5, mk1_le b6 (by decide), mk1_le b7 (by decide)⟩
theorem SpB_leave {P : Pl} {S : Sp} (hS : SpB S) : SpB (leaveS P S) := by
  obtain ⟨b1, b2, b3, b4, b5, b6, b7⟩ := hS
  exact ⟨b1, b2, b3, b4, b5, mk1_le b6 (by decide), mk1_le b7 (by decide)⟩
theorem SpB_hour {P : Pl} {S : Sp} (hS : SpB S) : SpB (hourS P S) := SpB_come (SpB_leave (SpB_storm (SpB_blow (ord_x P P.os S hS).1)))
theorem hour_h (P : Pl) {S : Sp} (hS : SpB S) : (hourS P S).hour = S.hour + 1 := by
  have h := (ord_x P P.os S hS).2.1
  show (weatherS P (blowS P (ordS P S P.os))).hour + 1 = _
  rw [← h]
  unfold weatherS
  split <;> rfl
/-- hours, one behind the other; how many storms -/
def hoursS (P : Pl) (S : Sp) : Nat → Sp
  | 0 => S
  | k + 1 => hourS P (hoursS P S k)
def stormsS (P : Pl) (S : Sp) : Nat → Nat
  | 0 => 0
  | k + 1 => stormsS P S k + stormy P (hoursS P S k)
theorem SpB_hours {P : Pl} {S : Sp} (hS : SpB S) : ∀ k, SpB (hoursS P S k) ∧ (hoursS P S k).hour = S.hour + k := by
  intro k
  induction k with
  | zero => exact ⟨hS, rfl⟩
  | succ k ih => exact ⟨SpB_hour ih.1, by rw [show hoursS P S (k + 1) = hourS P (hoursS P S k) from rfl, hour_h P ih.1, ih.2]; omega⟩
theorem pass2_ok {P : Pl} (hP : PlOk P) {S : Sp} (hS : SpB S) {N : Nat} (hN : N ≤ 1000) (hh : S.hour < 2 ^ 29) {n : Nat} (hn : 10 < n) (hn2 : N < n) : f_X18_pass_ n P.os (nI N) (hb P S) = some (nI (stormsS P S N), spA (hoursS P S N)) := by
  unfold f_X18_pass_
  refine iter_count _ (fun i => (nI (stormsS P S i), nI i, spA (hoursS P S i))) N _ (fun i hi => ?_) ?_ hn2
  · show f_X18_pass__L4 n P.os (nI N) (hb P S) (nI N) (nI (stormsS P S i)) (nI i) _ _ _ _ _ _ _ _ _ _ = _
    obtain ⟨y1, y2⟩ := SpB_hours (P := P) hS i
    have hp := pass_ok hP (S := hoursS P S i) y1 (by omega) hn
    unfold f_X18_pass__L4
    rw [if_neg (nI_ge (a := i) (b := N) (by omega) (by omega))]
    show (f_X18_pass n P.os (hb P (hoursS P S i))).bind _ = _
    rw [hp, sb, nI_1, nI_add]
    rfl
  · show f_X18_pass__L4 n P.os (nI N) (hb P S) (nI N) (nI (stormsS P S N)) (nI N) _ _ _ _ _ _ _ _ _ _ = _
    unfold f_X18_pass__L4
    rw [if_pos (Int32.le_refl _)]
