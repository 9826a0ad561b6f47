/-! loops that mark; who comes -/
theorem sb {α β : Type} (a : α) (k : α → Option β) : (some a).bind k = k a := rfl
theorem iter_mark {R : Type} (body : Int32 × (Nat → Int32) → Option ((Int32 × (Nat → Int32)) ⊕ R)) (N : Nat) (w0 : Nat → Int32) (c : Nat → Prop) [DecidablePred c] (x : Int32) (r : R)
    (hs : ∀ i w, i < N → w i = w0 i → body (nI i, w) = some (.inl (nI (i + 1), if c i then upd w i x else w)))
    (he : body (nI N, fun j => if j < N ∧ c j then x else w0 j) = some (.inr r)) {n : Nat} (hn : N < n) : iter body n (0, w0) = some r := by
  have h := iter_count body (fun i => (nI i, fun j => if j < i ∧ c j then x else w0 j)) N r (fun i hi => ?_) he hn
  · have e0 : (0, w0) = ((nI 0, fun j => if j < 0 ∧ c j then x else w0 j) : Int32 × (Nat → Int32)) := by
      refine Prod.ext rfl ?_
      funext j
      show w0 j = if j < 0 ∧ c j then x else w0 j
      rw [if_neg (by omega)]
    rw [e0]
    exact h
  · show body (nI i, fun j => if j < i ∧ c j then x else w0 j) = _
    rw [hs i _ hi (if_neg (by omega))]
    refine congrArg (fun z => some (Sum.inl (nI (i + 1), z))) ?_
    by_cases hc : c i
    · rw [if_pos hc]
      funext j
      unfold upd
      by_cases hj : j = i
      · subst hj
        rw [if_pos rfl, if_pos ⟨by omega, hc⟩]
      · rw [if_neg hj]
        show (if j < i ∧ c j then x else w0 j) = _
        by_cases h1 : j < i ∧ c j
        · rw [if_pos h1, if_pos ⟨by omega, h1.2⟩]
        · rw [if_neg h1, if_neg (fun z => h1 ⟨by omega, z.2⟩)]
    · rw [if_neg hc]
      funext j
      by_cases hj : j = i
      · subst hj
        rw [if_neg (fun z => hc z.2), if_neg (fun z => hc z.2)]
      · by_cases h1 : j < i ∧ c j
        · rw [if_pos h1, if_pos ⟨by omega, h1.2⟩]
        · rw [if_neg h1, if_neg (fun z => h1 ⟨by omega, z.2⟩)]
/-- a mark among numbers -/
def mk1 (N : Nat) (c : Nat → Prop) [DecidablePred c] (x : Nat) (w : Nat → Nat) : Nat → Nat := fun j => if j < N ∧ c j then x else w j
theorem mk1_nI (N : Nat) (c : Nat → Prop) [DecidablePred c] (x : Nat) (w : Nat → Nat) : (fun j => if j < N ∧ c j then nI x else nI (w j)) = fun j => nI (mk1 N c x w j) := by
  funext j
  unfold mk1
  by_cases h : j < N ∧ c j
  · rw [if_pos h, if_pos h]
  · rw [if_neg h, if_neg h]
theorem hb_hour (P : Pl) (S : Sp) : Y18_hour (hb P S) = nI S.hour := rfl
theorem hb_warmth (P : Pl) (S : Sp) : Y18_warmth (hb P S) = nI S.warmth := rfl
theorem hb_strength (P : Pl) (S : Sp) : Y18_strength (hb P S) = nI S.strength := rfl
theorem hb_charge (P : Pl) (S : Sp) : Y18_charge (hb P S) = nI S.charge := rfl
theorem hb_lemons (P : Pl) (S : Sp) : Y18_lemons (hb P S) = nI S.lemons := rfl
theorem hb_saucers (P : Pl) (S : Sp) : Y18_saucers (hb P S) = nI S.saucers := rfl
theorem hb_coins (P : Pl) (S : Sp) : Y18_coins (hb P S) = nI S.coins := rfl
theorem hb_storms (P : Pl) (S : Sp) : Y18_storms (hb P S) = nI S.storms := rfl
theorem hb_Fw (P : Pl) (S : Sp) (j : Nat) : Y18_Fw (hb P S) j = nI (P.fr j).1 := rfl
theorem hb_Ff (P : Pl) (S : Sp) (j : Nat) : Y18_Ff (hb P S) j = nI (P.fr j).2.1 := rfl
theorem hb_Fa (P : Pl) (S : Sp) (j : Nat) : Y18_Fa (hb P S) j = nI (P.fr j).2.2.1 := rfl
theorem hb_Fs (P : Pl) (S : Sp) (j : Nat) : Y18_Fs (hb P S) j = nI (P.fr j).2.2.2 := rfl
theorem hb_Fp (P : Pl) (S : Sp) (j : Nat) : Y18_Fp (hb P S) j = nI (S.fp j) := rfl
theorem hb_Ga (P : Pl) (S : Sp) (j : Nat) : Y18_Ga (hb P S) j = nI (P.gu j).1 := rfl
theorem hb_Gl (P : Pl) (S : Sp) (j : Nat) : Y18_Gl (hb P S) j = nI (P.gu j).2.1 := rfl
theorem hb_Gh (P : Pl) (S : Sp) (j : Nat) : Y18_Gh (hb P S) j = nI (P.gu j).2.2.1 := rfl
theorem hb_Gn (P : Pl) (S : Sp) (j : Nat) : Y18_Gn (hb P S) j = nI (P.gu j).2.2.2 := rfl
theorem hb_Gp (P : Pl) (S : Sp) (j : Nat) : Y18_Gp (hb P S) j = nI (S.gp j) := rfl
theorem hb_nf (P : Pl) (S : Sp) : Y18_nf (hb P S) = P.nf := rfl
theorem hb_ng (P : Pl) (S : Sp) : Y18_ng (hb P S) = P.ng := rfl
def comeS (P : Pl) (S : Sp) : Sp := Sp.mk S.hour S.warmth S.strength S.charge S.lemons S.saucers S.coins S.storms (mk1 P.nf (fun j => (P.fr j).2.2.1 = S.hour) 1 S.fp) (mk1 P.ng (fun j => (P.gu j).1 = S.hour) 1 S.gp)
def Sp00 : Sp := Sp.mk 0 20 0 0 3 3 0 0 (fun _ => 0) (fun _ => 0)
def Sp0 (P : Pl) : Sp := comeS P Sp00
theorem in_rng {i N : Nat} (hi : i < N) (h31 : N < 2 ^ 31) : (nI i < nI 0 ∨ N ≤ i) = False := by
  rw [nJ_neg i (by omega)]
  exact eq_false (fun z => z.elim id (fun q => absurd q (by omega)))
theorem come_ok {P : Pl} (hP : PlOk P) {S : Sp} (hh : S.hour < 2 ^ 31) {n : Nat} (hn : 10 < n) : f_X18_come n (hb P S) = some ((fun j => nI ((comeS P S).fp j)), (fun j => nI ((comeS P S).gp j))) := by
  obtain ⟨hnf, hng, hfr, hgu, -, -⟩ := hP
  unfold f_X18_come
  have hg : ∀ w, iter (fun s : Int32 × (Nat → Int32) => f_X18_come_L54 n (hb P S) (nI P.ng) s.1 w s.2) n (0, fun j => nI (S.gp j)) = some (w, fun j => nI ((comeS P S).gp j)) := fun w => by
    refine iter_mark _ P.ng _ (fun j => (P.gu j).1 = S.hour) (nI 1) _ (fun i v hi hv => ?_) ?_ (by omega)
    · show f_X18_come_L54 n (hb P S) (nI P.ng) (nI i) w v = _
      have := (hgu i hi).1
      unfold f_X18_come_L54
      by_cases hc : (P.gu i).1 = S.hour
      · simp (disch := omega) only [hb_hour, hb_warmth, hb_strength, hb_charge, hb_lemons, hb_saucers, hb_coins, hb_storms, hb_Fw, hb_Ff, hb_Fa, hb_Fs, hb_Fp, hb_Ga, hb_Gl, hb_Gh, hb_Gn, hb_Gp, hb_nf, hb_ng, in_rng hi, hc, sb, nJ_of, nJ_lt, nJ_le, nJ_eq, nJ_clamp, nJ_add, nJ_sub, if_pos, if_neg, if_true, if_false, nL_0, nL_1, nL_2, nL_3, nL_4, nL_5, nL_6, nL_7, nL_8, nL_9, nL_10, nL_11, nL_12, nL_13, nL_14, nL_15, nL_16, nL_17, nL_18, nL_19, nL_20, nL_21, nL_22, nL_23, nL_24, nL_25, nL_26, nL_27, nL_28, nL_30, nL_38, nL_40, nL_48, nL_58, nL_60]
      · simp (disch := omega) only [hb_hour, hb_warmth, hb_strength, hb_charge, hb_lemons, hb_saucers, hb_coins, hb_storms, hb_Fw, hb_Ff, hb_Fa, hb_Fs, hb_Fp, hb_Ga, hb_Gl, hb_Gh, hb_Gn, hb_Gp, hb_nf, hb_ng, in_rng hi, hc, sb, nJ_of, nJ_lt, nJ_le, nJ_eq, nJ_clamp, nJ_add, nJ_sub, if_pos, if_neg, if_true, if_false, nL_0, nL_1, nL_2, nL_3, nL_4, nL_5, nL_6, nL_7, nL_8, nL_9, nL_10, nL_11, nL_12, nL_13, nL_14, nL_15, nL_16, nL_17, nL_18, nL_19, nL_20, nL_21, nL_22, nL_23, nL_24, nL_25, nL_26, nL_27, nL_28, nL_30, nL_38, nL_40, nL_48, nL_58, nL_60]
    · show f_X18_come_L54 n (hb P S) (nI P.ng) (nI P.ng) w _ = _
      unfold f_X18_come_L54
      rw [if_pos (Int32.le_refl _), mk1_nI]
      rfl
  refine iter_mark _ P.nf _ (fun j => (P.fr j).2.2.1 = S.hour) (nI 1) _ (fun i v hi hv => ?_) ?_ (by omega)
  · show f_X18_come_L10 n (hb P S) (nI P.nf) (nI i) v _ = _
    have := (hfr i hi).2.2.2.1
    unfold f_X18_come_L10
    by_cases hc : (P.fr i).2.2.1 = S.hour
    · simp (disch := omega) only [hb_hour, hb_warmth, hb_strength, hb_charge, hb_lemons, hb_saucers, hb_coins, hb_storms, hb_Fw, hb_Ff, hb_Fa, hb_Fs, hb_Fp, hb_Ga, hb_Gl, hb_Gh, hb_Gn, hb_Gp, hb_nf, hb_ng, in_rng hi, hc, sb, nJ_of, nJ_lt, nJ_le, nJ_eq, nJ_clamp, nJ_add, nJ_sub, if_pos, if_neg, if_true, if_false, nL_0, nL_1, nL_2, nL_3, nL_4, nL_5, nL_6, nL_7, nL_8, nL_9, nL_10, nL_11, nL_12, nL_13, nL_14, nL_15, nL_16, nL_17, nL_18, nL_19, nL_20, nL_21, nL_22, nL_23, nL_24, nL_25, nL_26, nL_27, nL_28, nL_30, nL_38, nL_40, nL_48, nL_58, nL_60]
    · simp (disch := omega) only [hb_hour, hb_warmth, hb_strength, hb_charge, hb_lemons, hb_saucers, hb_coins, hb_storms, hb_Fw, hb_Ff, hb_Fa, hb_Fs, hb_Fp, hb_Ga, hb_Gl, hb_Gh, hb_Gn, hb_Gp, hb_nf, hb_ng, in_rng hi, hc, sb, nJ_of, nJ_lt, nJ_le, nJ_eq, nJ_clamp, nJ_add, nJ_sub, if_pos, if_neg, if_true, if_false, nL_0, nL_1, nL_2, nL_3, nL_4, nL_5, nL_6, nL_7, nL_8, nL_9, nL_10, nL_11, nL_12, nL_13, nL_14, nL_15, nL_16, nL_17, nL_18, nL_19, nL_20, nL_21, nL_22, nL_23, nL_24, nL_25, nL_26, nL_27, nL_28, nL_30, nL_38, nL_40, nL_48, nL_58, nL_60]
  · show f_X18_come_L10 n (hb P S) (nI P.nf) (nI P.nf) _ _ = _
    unfold f_X18_come_L10
    rw [if_pos (Int32.le_refl _)]
    show (iter (fun s : Int32 × (Nat → Int32) => f_X18_come_L54 n (hb P S) (nI P.ng) s.1 (fun j => if j < P.nf ∧ (P.fr j).2.2.1 = S.hour then nI 1 else nI (S.fp j)) s.2) n (0, fun j => nI (S.gp j))).bind _ = _
    rw [hg]
    show some (Sum.inr ((fun j => if j < P.nf ∧ (P.fr j).2.2.1 = S.hour then nI 1 else nI (S.fp j)), _)) = _
    rw [mk1_nI]
    rfl
