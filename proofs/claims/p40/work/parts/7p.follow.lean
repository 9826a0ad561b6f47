/-! ORDERS in the code: whether the test holds, what is done -/
def dK (d : Nat) : Nat := if d = 0 then 11 else if d = 1 then 14 else if d = 2 then 12 else 13
def ROrd (c : bX6) (i : Nat) (o : Od) : Prop := X6_deeds c i = dK o.1 ∧ (o.1 ≤ 1 → X6_targets c i = nI o.2.1) ∧ ∃ p E : Nat, X6_firstSteps c i = nI p ∧ X6_endSteps c i = nI E ∧ E < 400 ∧ match o.2.2 with
  | none => p = E
  | some t => E = p + (pfx 4 t).length ∧ Stq c p (pfx 4 t)
def ROs (P : Pl) (c : bX6) : Prop := X6_count c = nI P.os.length ∧ ∀ i o, P.os[i]? = some o → ROrd c i o
section FOLLOW
variable {P : Pl} {S : Sp} {b : bX8} {c2 : bX2} {c4 : bX4} {c6 : bX6}
/-- whether the test of the order holds -/
def tstS (P : Pl) (S : Sp) (o : Od) : Prop := match o.2.2 with
  | none => True
  | some t => ¬ valS P S t = 0
theorem holds_ok (hP : PlOk P) (hS : SpB S) (hI : SpI P S) (hh : S.hour < 2 ^ 30) (hbr : RPt S b) (h2 : RFr P c2) (h4 : RGu P c4) {i : Nat} (hi : i < 16) {o : Od} (ho : OdOk P.nf P.ng o) (hr : ROrd c6 i o) (b9 : bX9) {n : Nat} (hn : 401 < n) : ∃ r w H, f_X9_holds n (nI i) b9 c6 b c2 c4 = some (r, w, H) ∧ (r = 0 ↔ ¬ tstS P S o) := by
  obtain ⟨-, -, p, E, hp, hE, hE4, hm⟩ := hr
  unfold f_X9_holds
  rw [if_neg (vp_in_nI hi (by decide)), nI_clamp (by omega), hp]
  unfold tstS
  rcases ho.2 with h | ⟨t, h, ht⟩
  · rw [h] at hm ⊢
    have hm : p = E := hm
    subst hm
    obtain ⟨m, rfl⟩ : ∃ m, n = m + 1 := ⟨n - 1, by omega⟩
    refine ⟨1, X9_stack b9, 0, iter_inr ?_, ⟨fun z => absurd z (by decide), fun z => absurd trivial z⟩⟩
    show f_X9_holds_L13 _ _ _ _ _ _ _ _ _ _ _ = _
    unfold f_X9_holds_L13
    rw [if_neg (vp_in_nI hi (by decide)), nI_clamp (by omega), hE, if_pos (Int32.le_refl _), if_pos rfl]
  · rw [h] at hm ⊢
    obtain ⟨hm1, hm2⟩ : E = p + (pfx 4 t).length ∧ Stq c6 p (pfx 4 t) := hm
    obtain ⟨v, hv, -, hr⟩ := ev_ok (b9 := b9) (n := n) hP hS hI hh hbr h2 h4 hi hE (by omega) 4 t (T1_ev ht).1
    obtain ⟨m, hm⟩ : ∃ m, n = (m + 1) + (pfx 4 t).length := ⟨n - 1 - (pfx 4 t).length, by omega⟩
    obtain ⟨w', e1, e2, e3⟩ := hr p (X9_stack b9) 0 (m + 1) hm2 (by omega) (by omega)
    have hval : valS P S t = v := by
      unfold valS
      rw [hv]
      rfl
    have hlast : f_X9_holds_L13 n (nI i) b9 c6 b c2 c4 (nI i) (nI (p + (pfx 4 t).length)) w' (nI (0 + 1)) = some (.inr (if v = 0 then 0 else 1, w', nI 0)) := by
      unfold f_X9_holds_L13
      rw [if_neg (vp_in_nI hi (by decide)), nI_clamp (by omega), hE, hm1, if_pos (Int32.le_refl _), if_neg (show ¬ nI (0 + 1) = 0 by decide), pop_ok w' (by decide), sb]
      show (if w' 0 = 0 then some (Sum.inr (0, w', nI 0)) else some (Sum.inr (1, w', nI 0))) = _
      rw [e2]
      by_cases hv0 : v = 0
      · rw [if_pos hv0, if_pos hv0]
      · rw [if_neg hv0, if_neg hv0]
    refine ⟨if v = 0 then 0 else 1, w', nI 0, ?_, ?_⟩
    · show iter (evB n i b9 c6 b c2 c4) n (nI p, X9_stack b9, nI 0) = _
      have := e1.trans (iter_inr hlast)
      rw [← hm] at this
      exact this
    · show _ ↔ ¬ ¬ valS P S t = 0
      rw [hval]
      by_cases hv0 : v = 0
      · rw [if_pos hv0]
        exact ⟨fun _ z => z hv0, fun _ => rfl⟩
      · rw [if_neg hv0]
        exact ⟨fun z => absurd z (by decide), fun z => absurd hv0 z⟩
/-- a state's bundle, with its flags -/
abbrev cbO (S : Sp) (F G W : Nat → Int32) : bX8 := (nI S.hour, nI S.warmth, nI S.strength, nI S.charge, nI S.lemons, nI S.saucers, nI S.coins, nI S.storms, F, G, W)
theorem RPt_cb {F G W : Nat → Int32} (h1 : ∀ j, j < 10 → F j = nI (b01 (S.fp j = 2))) (h2 : ∀ j, j < 10 → G j = nI (b01 (S.gp j = 2))) (h3 : ∀ j, j < 10 → W j = nI (b01 (S.gp j = 3))) : RPt S (cbO S F G W) := ⟨rfl, rfl, rfl, rfl, rfl, rfl, rfl, rfl, h1, h2, h3⟩
theorem follow_ok (hP : PlOk P) (hS : SpB S) (hI : SpI P S) (hh : S.hour < 2 ^ 30) {F G W : Nat → Int32} (hbr : RPt S (cbO S F G W)) (h2 : RFr P c2) (h4 : RGu P c4) {o : Od} (ho : OdOk P.nf P.ng o) {x : Int32} (hx : o.1 ≤ 1 → x = nI o.2.1) : ∃ F' G', f_X8_follow (dK o.1) x (cbO S F G W) c2 c4 = some (nI (doS P S o).strength, nI (doS P S o).charge, nI (doS P S o).lemons, nI (doS P S o).saucers, nI (doS P S o).coins, F', G') ∧ RPt (doS P S o) (cbO (doS P S o) F' G' W) := by
  obtain ⟨ho, -⟩ := ho
  have q9 := hbr.2.2.2.2.2.2.2.2.1
  have q10 := hbr.2.2.2.2.2.2.2.2.2.1
  have q11 := hbr.2.2.2.2.2.2.2.2.2.2
  unfold f_X8_follow dK doS
  by_cases h0 : o.1 = 0
  · obtain ⟨F', e, hF⟩ := steep_ok hP hS hI hh hbr h2 (j := o.2.1) (by omega)
    obtain ⟨x1, x2, x3, x4, x5, x6, x7, x8⟩ := steepS_x P S o.2.1
    refine ⟨F', G, ?_, RPt_cb ?_ ?_ ?_⟩
    · rw [if_pos h0, if_pos h0, if_pos (by decide), if_pos (by decide), hx (by omega), e, sb, x1, x2, x3, x4]
    · rw [if_pos h0]; exact hF
    · rw [if_pos h0, x5]; exact q10
    · rw [if_pos h0, x5]; exact q11
  by_cases h1 : o.1 = 1
  · obtain ⟨G', e, hG, hW⟩ := serve_ok hP hS hI hh hbr h4 (j := o.2.1) (by omega)
    obtain ⟨x1, x2, x3, x4, x5, x6, x7⟩ := serveS_x P S o.2.1
    refine ⟨F, G', ?_, RPt_cb ?_ ?_ ?_⟩
    · rw [if_neg h0, if_neg h0, if_pos h1, if_pos h1, if_pos (by decide), if_neg (by decide), if_pos (by decide), hx (by omega), e, sb, x1, x2, x3]
    · rw [if_neg h0, if_pos h1, x4]; exact q9
    · rw [if_neg h0, if_pos h1]; exact hG
    · rw [if_neg h0, if_pos h1]; exact hW
  by_cases h3 : o.1 = 2
  · have e := lemon_ok hS hbr
    obtain ⟨x1, x2, x3, x4, x5, x6, x7, x8⟩ := squeezeS_x S
    refine ⟨F, G, ?_, RPt_cb ?_ ?_ ?_⟩
    · rw [if_neg h0, if_neg h0, if_neg h1, if_neg h1, if_pos h3, if_pos h3, if_pos (by decide), if_neg (by decide), if_neg (by decide), if_pos (by decide), e, sb, x1, x2, x3]
    · rw [if_neg h0, if_neg h1, if_pos h3, x4]; exact q9
    · rw [if_neg h0, if_neg h1, if_pos h3, x5]; exact q10
    · rw [if_neg h0, if_neg h1, if_pos h3, x5]; exact q11
  · have e := saucer_ok hS hbr
    obtain ⟨x1, x2, x3, x4, x5, x6, x7, x8⟩ := calmS_x S
    refine ⟨F, G, ?_, RPt_cb ?_ ?_ ?_⟩
    · rw [if_neg h0, if_neg h0, if_neg h1, if_neg h1, if_neg h3, if_neg h3, if_pos (by decide), if_neg (by decide), if_neg (by decide), if_neg (by decide), if_pos (by decide), e, sb, x1, x2, x3]
    · rw [if_neg h0, if_neg h1, if_neg h3, x4]; exact q9
    · rw [if_neg h0, if_neg h1, if_neg h3, x5]; exact q10
    · rw [if_neg h0, if_neg h1, if_neg h3, x5]; exact q11
theorem SpI_steep (hP : PlOk P) (hI : SpI P S) {f : Nat} (hf : f < P.nf) : SpI P (steepS P S f) := by
  obtain ⟨i1, i2, i3, i4⟩ := hI
  unfold steepS
  by_cases hc : S.fp f = 1
  · rw [if_pos hc]
    refine ⟨fun j hj => ?_, fun j hj => ?_, i3, i4⟩
    · obtain ⟨a1, a2⟩ := i1 j hj
      show ((updT S.fp f 2 j = 2 → _) ∧ (updT S.fp f 2 j = 1 ↔ updT S.fp f 2 j ≠ 2 ∧ _))
      by_cases hjf : j = f
      · subst hjf
        rw [updT_s]
        exact ⟨fun _ => (a2.mp hc).2.1, fun z => absurd z (by decide), fun z => absurd rfl z.1⟩
      · rw [updT_o _ _ hjf]
        exact ⟨a1, a2⟩
    · show updT S.fp f 2 j = 0
      rw [updT_o _ _ (by omega)]
      exact i2 j hj
  · rw [if_neg hc]
    exact ⟨i1, i2, i3, i4⟩
theorem SpI_serve (hI : SpI P S) {g : Nat} (hg : g < P.ng) : SpI P (serveS P S g) := by
  obtain ⟨i1, i2, i3, i4⟩ := hI
  unfold serveS
  by_cases hc : likeS P S g S.strength
  · rw [if_pos hc]
    refine ⟨i1, i2, fun j hj => ?_, fun j hj => ?_⟩
    · obtain ⟨a1, a2⟩ := i3 j hj
      show ((2 ≤ updT S.gp g 2 j → _) ∧ (updT S.gp g 2 j = 1 ↔ updT S.gp g 2 j < 2 ∧ _))
      by_cases hjf : j = g
      · subst hjf
        rw [updT_s]
        exact ⟨fun _ => (a2.mp hc.1).2.1, fun z => absurd z (by decide), fun z => absurd z.1 (by decide)⟩
      · rw [updT_o _ _ hjf]
        exact ⟨a1, a2⟩
    · show updT S.gp g 2 j = 0
      rw [updT_o _ _ (by omega)]
      exact i4 j hj
  · rw [if_neg hc]
    exact ⟨i1, i2, i3, i4⟩
theorem SpI_squeeze (hI : SpI P S) : SpI P (squeezeS S) := by
  unfold squeezeS
  split
  · exact hI
  · exact hI
theorem SpI_calm (hI : SpI P S) : SpI P (calmS S) := by
  unfold calmS
  split
  · exact hI
  · exact hI
theorem SpI_do (hP : PlOk P) (hI : SpI P S) {o : Od} (ho : OdOk P.nf P.ng o) : SpI P (doS P S o) := by
  obtain ⟨ho, -⟩ := ho
  unfold doS
  by_cases h0 : o.1 = 0
  · rw [if_pos h0]; exact SpI_steep hP hI (by omega)
  by_cases h1 : o.1 = 1
  · rw [if_neg h0, if_pos h1]; exact SpI_serve hI (by omega)
  rw [if_neg h0, if_neg h1]
  split
  · exact SpI_squeeze hI
  · exact SpI_calm hI
theorem odo_t (P : Pl) (S : Sp) (o : Od) : (tstS P S o → odoS P S o = doS P S o) ∧ (¬ tstS P S o → odoS P S o = S) := by
  unfold tstS odoS
  cases h : o.2.2 with
  | none => exact ⟨fun _ => rfl, fun z => absurd trivial z⟩
  | some t => exact ⟨fun z => if_neg z, fun z => if_pos (Classical.not_not.mp z)⟩
theorem SpI_odo (hP : PlOk P) (hI : SpI P S) {o : Od} (ho : OdOk P.nf P.ng o) : SpI P (odoS P S o) := by
  by_cases h : tstS P S o
  · rw [(odo_t P S o).1 h]; exact SpI_do hP hI ho
  · rw [(odo_t P S o).2 h]; exact hI
theorem SpI_ord (hP : PlOk P) : ∀ (os : List Od) (S : Sp), SpI P S → (∀ o ∈ os, OdOk P.nf P.ng o) → SpI P (ordS P S os) := by
  intro os
  induction os with
  | nil => intro S hI _; exact hI
  | cons o os ih => intro S hI ho; exact ih _ (SpI_odo hP hI (ho o List.mem_cons_self)) (fun q hq => ho q (List.mem_cons_of_mem _ hq))
end FOLLOW
