/-! THE POT BY HAND in numbers: what each of its methods does to the state -/
theorem upd_nI (w : Nat → Nat) (f x : Nat) : upd (fun j => nI (w j)) f (nI x) = fun j => nI (updT w f x j) := by
  funext j
  unfold upd updT
  by_cases h : j = f
  · rw [if_pos h, if_pos h]
  · rw [if_neg h, if_neg h]
abbrev likeS (P : Pl) (S : Sp) (g strong : Nat) : Prop := S.gp g = 1 ∧ (P.gu g).2.1 ≤ strong ∧ strong ≤ (P.gu g).2.2.1 ∧ 14 < S.warmth
/-- what the numbers of a state keep to -/
def SpB (S : Sp) : Prop := S.warmth ≤ 40 ∧ S.strength ≤ 30 ∧ S.charge ≤ 30 ∧ S.lemons ≤ 3 ∧ S.saucers ≤ 3 ∧ (∀ j, S.fp j ≤ 2) ∧ (∀ j, S.gp j ≤ 3)
theorem likes_ok {P : Pl} (hP : PlOk P) {S : Sp} (hS : SpB S) {g x : Nat} (hg : g < P.ng) (hx : x ≤ 60) : f_X18_likes g (nI x) (hb P S) = some (nI (if likeS P S g x then 1 else 0)) := by
  obtain ⟨hnf, hng, hfr, hgu, -, -⟩ := hP
  obtain ⟨b1, b2, b3, b4, b5, b6, b7⟩ := hS
  obtain ⟨g1, g2, g3, g4, g5⟩ := hgu g hg
  have := b7 g
  unfold f_X18_likes
  by_cases h1 : S.gp g = 1
  · by_cases h2 : x < (P.gu g).2.1
    · simp (disch := omega) only [hb_hour, hb_warmth, hb_strength, hb_charge, hb_lemons, hb_saucers, hb_coins, hb_storms, hb_Fw, hb_Ff, hb_Fa, hb_Fs, hb_Fp, hb_Ga, hb_Gl, hb_Gh, hb_Gn, hb_Gp, hb_nf, hb_ng, h1, h2, hg, sb, nJ_of, nJ_lt, nJ_le, nJ_eq, nJ_clamp, nJ_add, nJ_sub, if_pos, if_neg, if_true, if_false, nL_0, nL_1, nL_2, nL_3, nL_4, nL_5, nL_6, nL_7, nL_8, nL_9, nL_10, nL_11, nL_12, nL_13, nL_14, nL_15, nL_16, nL_17, nL_18, nL_19, nL_20, nL_21, nL_22, nL_23, nL_24, nL_25, nL_26, nL_27, nL_28, nL_30, nL_38, nL_40, nL_48, nL_58, nL_60]
    · by_cases h3 : (P.gu g).2.2.1 < x
      · simp (disch := omega) only [hb_hour, hb_warmth, hb_strength, hb_charge, hb_lemons, hb_saucers, hb_coins, hb_storms, hb_Fw, hb_Ff, hb_Fa, hb_Fs, hb_Fp, hb_Ga, hb_Gl, hb_Gh, hb_Gn, hb_Gp, hb_nf, hb_ng, h1, h2, h3, hg, sb, nJ_of, nJ_lt, nJ_le, nJ_eq, nJ_clamp, nJ_add, nJ_sub, if_pos, if_neg, if_true, if_false, nL_0, nL_1, nL_2, nL_3, nL_4, nL_5, nL_6, nL_7, nL_8, nL_9, nL_10, nL_11, nL_12, nL_13, nL_14, nL_15, nL_16, nL_17, nL_18, nL_19, nL_20, nL_21, nL_22, nL_23, nL_24, nL_25, nL_26, nL_27, nL_28, nL_30, nL_38, nL_40, nL_48, nL_58, nL_60]
      · by_cases h4 : S.warmth ≤ 14
        · simp (disch := omega) only [hb_hour, hb_warmth, hb_strength, hb_charge, hb_lemons, hb_saucers, hb_coins, hb_storms, hb_Fw, hb_Ff, hb_Fa, hb_Fs, hb_Fp, hb_Ga, hb_Gl, hb_Gh, hb_Gn, hb_Gp, hb_nf, hb_ng, h1, h2, h3, h4, hg, sb, nJ_of, nJ_lt, nJ_le, nJ_eq, nJ_clamp, nJ_add, nJ_sub, if_pos, if_neg, if_true, if_false, nL_0, nL_1, nL_2, nL_3, nL_4, nL_5, nL_6, nL_7, nL_8, nL_9, nL_10, nL_11, nL_12, nL_13, nL_14, nL_15, nL_16, nL_17, nL_18, nL_19, nL_20, nL_21, nL_22, nL_23, nL_24, nL_25, nL_26, nL_27, nL_28, nL_30, nL_38, nL_40, nL_48, nL_58, nL_60]
        · simp (disch := omega) only [hb_hour, hb_warmth, hb_strength, hb_charge, hb_lemons, hb_saucers, hb_coins, hb_storms, hb_Fw, hb_Ff, hb_Fa, hb_Fs, hb_Fp, hb_Ga, hb_Gl, hb_Gh, hb_Gn, hb_Gp, hb_nf, hb_ng, h1, h2, h3, h4, hg, sb, nJ_of, nJ_lt, nJ_le, nJ_eq, nJ_clamp, nJ_add, nJ_sub, if_pos, if_neg, if_true, if_false, nL_0, nL_1, nL_2, nL_3, nL_4, nL_5, nL_6, nL_7, nL_8, nL_9, nL_10, nL_11, nL_12, nL_13, nL_14, nL_15, nL_16, nL_17, nL_18, nL_19, nL_20, nL_21, nL_22, nL_23, nL_24, nL_25, nL_26, nL_27, nL_28, nL_30, nL_38, nL_40, nL_48, nL_58, nL_60]
  · simp (disch := omega) only [hb_hour, hb_warmth, hb_strength, hb_charge, hb_lemons, hb_saucers, hb_coins, hb_storms, hb_Fw, hb_Ff, hb_Fa, hb_Fs, hb_Fp, hb_Ga, hb_Gl, hb_Gh, hb_Gn, hb_Gp, hb_nf, hb_ng, h1, hg, sb, nJ_of, nJ_lt, nJ_le, nJ_eq, nJ_clamp, nJ_add, nJ_sub, if_pos, if_neg, if_true, if_false, nL_0, nL_1, nL_2, nL_3, nL_4, nL_5, nL_6, nL_7, nL_8, nL_9, nL_10, nL_11, nL_12, nL_13, nL_14, nL_15, nL_16, nL_17, nL_18, nL_19, nL_20, nL_21, nL_22, nL_23, nL_24, nL_25, nL_26, nL_27, nL_28, nL_30, nL_38, nL_40, nL_48, nL_58, nL_60]
def steepS (P : Pl) (S : Sp) (f : Nat) : Sp := if S.fp f = 1 then Sp.mk S.hour S.warmth (if S.strength + (P.fr f).2.1 ≤ 30 then S.strength + (P.fr f).2.1 else 30) S.charge S.lemons S.saucers S.coins S.storms (updT S.fp f 2) S.gp else S
def squeezeS (S : Sp) : Sp := if S.lemons = 0 then S else Sp.mk S.hour S.warmth S.strength (if S.charge ≤ 24 then S.charge + 6 else 30) (S.lemons - 1) S.saucers S.coins S.storms S.fp S.gp
def calmS (S : Sp) : Sp := if S.saucers = 0 then S else Sp.mk S.hour S.warmth S.strength (S.charge - 5) S.lemons (S.saucers - 1) S.coins S.storms S.fp S.gp
def serveS (P : Pl) (S : Sp) (g : Nat) : Sp := if likeS P S g S.strength then Sp.mk S.hour S.warmth (S.strength - 3) S.charge S.lemons S.saucers (S.coins + S.strength) S.storms S.fp (updT S.gp g 2) else S
theorem steeped_ok {P : Pl} (hP : PlOk P) {S : Sp} (hS : SpB S) {f : Nat} (hf : f < P.nf) : f_X18_isSteeped (nI f) (hb P S) = some (nI (if S.fp f = 1 then 1 else 0), nI (steepS P S f).strength, fun j => nI ((steepS P S f).fp j)) := by
  obtain ⟨hnf, hng, hfr, hgu, -, -⟩ := hP
  obtain ⟨b1, b2, b3, b4, b5, b6, b7⟩ := hS
  obtain ⟨g1, g2, g3, g4, g5, g6⟩ := hfr f hf
  have := b6 f
  unfold f_X18_isSteeped steepS
  by_cases h1 : S.fp f = 1
  · by_cases h2 : S.strength + (P.fr f).2.1 ≤ 30
    · simp (disch := omega) only [hb_hour, hb_warmth, hb_strength, hb_charge, hb_lemons, hb_saucers, hb_coins, hb_storms, hb_Fw, hb_Ff, hb_Fa, hb_Fs, hb_Fp, hb_Ga, hb_Gl, hb_Gh, hb_Gn, hb_Gp, hb_nf, hb_ng, in_rng hf, h1, h2, sb, nJ_of, nJ_lt, nJ_le, nJ_eq, nJ_clamp, nJ_add, nJ_sub, if_pos, if_neg, if_true, if_false, nL_0, nL_1, nL_2, nL_3, nL_4, nL_5, nL_6, nL_7, nL_8, nL_9, nL_10, nL_11, nL_12, nL_13, nL_14, nL_15, nL_16, nL_17, nL_18, nL_19, nL_20, nL_21, nL_22, nL_23, nL_24, nL_25, nL_26, nL_27, nL_28, nL_30, nL_38, nL_40, nL_48, nL_58, nL_60]
      rw [← upd_nI]
      rfl
    · simp (disch := omega) only [hb_hour, hb_warmth, hb_strength, hb_charge, hb_lemons, hb_saucers, hb_coins, hb_storms, hb_Fw, hb_Ff, hb_Fa, hb_Fs, hb_Fp, hb_Ga, hb_Gl, hb_Gh, hb_Gn, hb_Gp, hb_nf, hb_ng, in_rng hf, h1, h2, sb, nJ_of, nJ_lt, nJ_le, nJ_eq, nJ_clamp, nJ_add, nJ_sub, if_pos, if_neg, if_true, if_false, nL_0, nL_1, nL_2, nL_3, nL_4, nL_5, nL_6, nL_7, nL_8, nL_9, nL_10, nL_11, nL_12, nL_13, nL_14, nL_15, nL_16, nL_17, nL_18, nL_19, nL_20, nL_21, nL_22, nL_23, nL_24, nL_25, nL_26, nL_27, nL_28, nL_30, nL_38, nL_40, nL_48, nL_58, nL_60]
      rw [← upd_nI]
      rfl
  · simp (disch := omega) only [hb_hour, hb_warmth, hb_strength, hb_charge, hb_lemons, hb_saucers, hb_coins, hb_storms, hb_Fw, hb_Ff, hb_Fa, hb_Fs, hb_Fp, hb_Ga, hb_Gl, hb_Gh, hb_Gn, hb_Gp, hb_nf, hb_ng, in_rng hf, h1, sb, nJ_of, nJ_lt, nJ_le, nJ_eq, nJ_clamp, nJ_add, nJ_sub, if_pos, if_neg, if_true, if_false, nL_0, nL_1, nL_2, nL_3, nL_4, nL_5, nL_6, nL_7, nL_8, nL_9, nL_10, nL_11, nL_12, nL_13, nL_14, nL_15, nL_16, nL_17, nL_18, nL_19, nL_20, nL_21, nL_22, nL_23, nL_24, nL_25, nL_26, nL_27, nL_28, nL_30, nL_38, nL_40, nL_48, nL_58, nL_60]
    rfl
theorem squeezed_ok {P : Pl} {S : Sp} (hS : SpB S) : f_X18_isSqueezed (hb P S) = some (nI (if S.lemons = 0 then 0 else 1), nI (squeezeS S).charge, nI (squeezeS S).lemons) := by
  obtain ⟨b1, b2, b3, b4, b5, b6, b7⟩ := hS
  unfold f_X18_isSqueezed squeezeS
  by_cases h1 : S.lemons = 0
  · simp (disch := omega) only [hb_hour, hb_warmth, hb_strength, hb_charge, hb_lemons, hb_saucers, hb_coins, hb_storms, hb_Fw, hb_Ff, hb_Fa, hb_Fs, hb_Fp, hb_Ga, hb_Gl, hb_Gh, hb_Gn, hb_Gp, hb_nf, hb_ng, h1, sb, nJ_of, nJ_lt, nJ_le, nJ_eq, nJ_clamp, nJ_add, nJ_sub, if_pos, if_neg, if_true, if_false, nL_0, nL_1, nL_2, nL_3, nL_4, nL_5, nL_6, nL_7, nL_8, nL_9, nL_10, nL_11, nL_12, nL_13, nL_14, nL_15, nL_16, nL_17, nL_18, nL_19, nL_20, nL_21, nL_22, nL_23, nL_24, nL_25, nL_26, nL_27, nL_28, nL_30, nL_38, nL_40, nL_48, nL_58, nL_60]
  · by_cases h2 : S.charge ≤ 24
    · simp (disch := omega) only [hb_hour, hb_warmth, hb_strength, hb_charge, hb_lemons, hb_saucers, hb_coins, hb_storms, hb_Fw, hb_Ff, hb_Fa, hb_Fs, hb_Fp, hb_Ga, hb_Gl, hb_Gh, hb_Gn, hb_Gp, hb_nf, hb_ng, h1, h2, sb, nJ_of, nJ_lt, nJ_le, nJ_eq, nJ_clamp, nJ_add, nJ_sub, if_pos, if_neg, if_true, if_false, nL_0, nL_1, nL_2, nL_3, nL_4, nL_5, nL_6, nL_7, nL_8, nL_9, nL_10, nL_11, nL_12, nL_13, nL_14, nL_15, nL_16, nL_17, nL_18, nL_19, nL_20, nL_21, nL_22, nL_23, nL_24, nL_25, nL_26, nL_27, nL_28, nL_30, nL_38, nL_40, nL_48, nL_58, nL_60]
    · simp (disch := omega) only [hb_hour, hb_warmth, hb_strength, hb_charge, hb_lemons, hb_saucers, hb_coins, hb_storms, hb_Fw, hb_Ff, hb_Fa, hb_Fs, hb_Fp, hb_Ga, hb_Gl, hb_Gh, hb_Gn, hb_Gp, hb_nf, hb_ng, h1, h2, sb, nJ_of, nJ_lt, nJ_le, nJ_eq, nJ_clamp, nJ_add, nJ_sub, if_pos, if_neg, if_true, if_false, nL_0, nL_1, nL_2, nL_3, nL_4, nL_5, nL_6, nL_7, nL_8, nL_9, nL_10, nL_11, nL_12, nL_13, nL_14, nL_15, nL_16, nL_17, nL_18, nL_19, nL_20, nL_21, nL_22, nL_23, nL_24, nL_25, nL_26, nL_27, nL_28, nL_30, nL_38, nL_40, nL_48, nL_58, nL_60]
theorem calmed_ok {P : Pl} {S : Sp} (hS : SpB S) : f_X18_isCalmed (hb P S) = some (nI (if S.saucers = 0 then 0 else 1), nI (calmS S).charge, nI (calmS S).saucers) := by
  obtain ⟨b1, b2, b3, b4, b5, b6, b7⟩ := hS
  unfold f_X18_isCalmed calmS
  by_cases h1 : S.saucers = 0
  · simp (disch := omega) only [hb_hour, hb_warmth, hb_strength, hb_charge, hb_lemons, hb_saucers, hb_coins, hb_storms, hb_Fw, hb_Ff, hb_Fa, hb_Fs, hb_Fp, hb_Ga, hb_Gl, hb_Gh, hb_Gn, hb_Gp, hb_nf, hb_ng, h1, sb, nJ_of, nJ_lt, nJ_le, nJ_eq, nJ_clamp, nJ_add, nJ_sub, if_pos, if_neg, if_true, if_false, nL_0, nL_1, nL_2, nL_3, nL_4, nL_5, nL_6, nL_7, nL_8, nL_9, nL_10, nL_11, nL_12, nL_13, nL_14, nL_15, nL_16, nL_17, nL_18, nL_19, nL_20, nL_21, nL_22, nL_23, nL_24, nL_25, nL_26, nL_27, nL_28, nL_30, nL_38, nL_40, nL_48, nL_58, nL_60]
  · by_cases h2 : 5 ≤ S.charge
    · simp (disch := omega) only [hb_hour, hb_warmth, hb_strength, hb_charge, hb_lemons, hb_saucers, hb_coins, hb_storms, hb_Fw, hb_Ff, hb_Fa, hb_Fs, hb_Fp, hb_Ga, hb_Gl, hb_Gh, hb_Gn, hb_Gp, hb_nf, hb_ng, h1, h2, sb, nJ_of, nJ_lt, nJ_le, nJ_eq, nJ_clamp, nJ_add, nJ_sub, if_pos, if_neg, if_true, if_false, nL_0, nL_1, nL_2, nL_3, nL_4, nL_5, nL_6, nL_7, nL_8, nL_9, nL_10, nL_11, nL_12, nL_13, nL_14, nL_15, nL_16, nL_17, nL_18, nL_19, nL_20, nL_21, nL_22, nL_23, nL_24, nL_25, nL_26, nL_27, nL_28, nL_30, nL_38, nL_40, nL_48, nL_58, nL_60]
    · simp (disch := omega) only [hb_hour, hb_warmth, hb_strength, hb_charge, hb_lemons, hb_saucers, hb_coins, hb_storms, hb_Fw, hb_Ff, hb_Fa, hb_Fs, hb_Fp, hb_Ga, hb_Gl, hb_Gh, hb_Gn, hb_Gp, hb_nf, hb_ng, h1, h2, sb, nJ_of, nJ_lt, nJ_le, nJ_eq, nJ_clamp, nJ_add, nJ_sub, if_pos, if_neg, if_true, if_false, nL_0, nL_1, nL_2, nL_3, nL_4, nL_5, nL_6, nL_7, nL_8, nL_9, nL_10, nL_11, nL_12, nL_13, nL_14, nL_15, nL_16, nL_17, nL_18, nL_19, nL_20, nL_21, nL_22, nL_23, nL_24, nL_25, nL_26, nL_27, nL_28, nL_30, nL_38, nL_40, nL_48, nL_58, nL_60]
      rw [show S.charge - 5 = 0 by omega]
theorem served_ok {P : Pl} (hP : PlOk P) {S : Sp} (hS : SpB S) {g : Nat} (hg : g < P.ng) : f_X18_isServed (nI g) (hb P S) = some (nI (if likeS P S g S.strength then 1 else 0), nI (serveS P S g).strength, nI (serveS P S g).coins, fun j => nI ((serveS P S g).gp j)) := by
  have hL := likes_ok hP hS hg (x := S.strength) (by have := hS.2.1; omega)
  obtain ⟨hnf, hng, hfr, hgu, -, -⟩ := hP
  obtain ⟨b1, b2, b3, b4, b5, b6, b7⟩ := hS
  unfold f_X18_isServed serveS
  by_cases h1 : likeS P S g S.strength
  · rw [if_pos h1] at hL
    by_cases h2 : 3 ≤ S.strength
    · simp (disch := omega) only [hb_hour, hb_warmth, hb_strength, hb_charge, hb_lemons, hb_saucers, hb_coins, hb_storms, hb_Fw, hb_Ff, hb_Fa, hb_Fs, hb_Fp, hb_Ga, hb_Gl, hb_Gh, hb_Gn, hb_Gp, hb_nf, hb_ng, in_rng hg, hL, h1, h2, sb, nJ_of, nJ_lt, nJ_le, nJ_eq, nJ_clamp, nJ_add, nJ_sub, if_pos, if_neg, if_true, if_false, nL_0, nL_1, nL_2, nL_3, nL_4, nL_5, nL_6, nL_7, nL_8, nL_9, nL_10, nL_11, nL_12, nL_13, nL_14, nL_15, nL_16, nL_17, nL_18, nL_19, nL_20, nL_21, nL_22, nL_23, nL_24, nL_25, nL_26, nL_27, nL_28, nL_30, nL_38, nL_40, nL_48, nL_58, nL_60]
      rw [← upd_nI]
      rfl
    · simp (disch := omega) only [hb_hour, hb_warmth, hb_strength, hb_charge, hb_lemons, hb_saucers, hb_coins, hb_storms, hb_Fw, hb_Ff, hb_Fa, hb_Fs, hb_Fp, hb_Ga, hb_Gl, hb_Gh, hb_Gn, hb_Gp, hb_nf, hb_ng, in_rng hg, hL, h1, h2, sb, nJ_of, nJ_lt, nJ_le, nJ_eq, nJ_clamp, nJ_add, nJ_sub, if_pos, if_neg, if_true, if_false, nL_0, nL_1, nL_2, nL_3, nL_4, nL_5, nL_6, nL_7, nL_8, nL_9, nL_10, nL_11, nL_12, nL_13, nL_14, nL_15, nL_16, nL_17, nL_18, nL_19, nL_20, nL_21, nL_22, nL_23, nL_24, nL_25, nL_26, nL_27, nL_28, nL_30, nL_38, nL_40, nL_48, nL_58, nL_60]
      rw [← upd_nI, show S.strength - 3 = 0 by omega]
      rfl
  · rw [if_neg h1] at hL
    simp (disch := omega) only [hb_hour, hb_warmth, hb_strength, hb_charge, hb_lemons, hb_saucers, hb_coins, hb_storms, hb_Fw, hb_Ff, hb_Fa, hb_Fs, hb_Fp, hb_Ga, hb_Gl, hb_Gh, hb_Gn, hb_Gp, hb_nf, hb_ng, in_rng hg, hL, h1, sb, nJ_of, nJ_lt, nJ_le, nJ_eq, nJ_clamp, nJ_add, nJ_sub, if_pos, if_neg, if_true, if_false, nL_0, nL_1, nL_2, nL_3, nL_4, nL_5, nL_6, nL_7, nL_8, nL_9, nL_10, nL_11, nL_12, nL_13, nL_14, nL_15, nL_16, nL_17, nL_18, nL_19, nL_20, nL_21, nL_22, nL_23, nL_24, nL_25, nL_26, nL_27, nL_28, nL_30, nL_38, nL_40, nL_48, nL_58, nL_60]
    rfl
