/-! WHAT AN HOUR MAY CHANGE: who is served, who flees, what is earned -/
/-- orders: a guest who sat may be served, for what the tea is worth -/
def Gain (P : Pl) (S S' : Sp) : Prop := (∀ g, S'.gp g = S.gp g ∨ (S.gp g = 1 ∧ S'.gp g = 2)) ∧ S.coins ≤ S'.coins ∧ S'.coins + 30 * cntS P S 2 ≤ S.coins + 30 * cntS P S' 2 ∧ (cntS P S' 2 = cntS P S 2 → S'.coins = S.coins)
theorem cnt_mono {P : Pl} {S S' : Sp} (h : ∀ g, S.gp g = 2 → S'.gp g = 2) : ∀ n, sumN (fun g => b01 (S.gp g = 2)) n ≤ sumN (fun g => b01 (S'.gp g = 2)) n := by
  intro n
  induction n with
  | zero => exact Nat.le_refl _
  | succ n ih =>
    have e : b01 (S.gp n = 2) ≤ b01 (S'.gp n = 2) := by
      unfold b01
      by_cases hc : S.gp n = 2
      · rw [if_pos hc, if_pos (h n hc)]; exact Nat.le_refl _
      · rw [if_neg hc]; exact Nat.zero_le _
    show sumN _ n + b01 (S.gp n = 2) ≤ sumN _ n + b01 (S'.gp n = 2)
    omega
theorem cnt_same {P : Pl} {S S' : Sp} {x : Nat} (h : ∀ g, S'.gp g = x ↔ S.gp g = x) : cntS P S' x = cntS P S x := by
  unfold cntS
  congr 1
  funext g
  exact b01_iff (h g)
theorem cnt_one {w w' : Nat → Nat} {f : Nat} (hf : ¬ w f = 2) (hf' : w' f = 2) (h : ∀ g, g ≠ f → w' g = w g) : ∀ n, sumN (fun g => b01 (w' g = 2)) n = sumN (fun g => b01 (w g = 2)) n + b01 (f < n) := by
  intro n
  induction n with
  | zero =>
    show 0 = 0 + b01 (f < 0)
    unfold b01
    rw [if_neg (Nat.not_lt_zero f)]
  | succ n ih =>
    show sumN _ n + b01 (w' n = 2) = (sumN _ n + b01 (w n = 2)) + b01 (f < n + 1)
    rw [ih]
    unfold b01
    by_cases hn : n = f
    · subst hn
      rw [if_neg (Nat.lt_irrefl n), if_pos hf', if_neg hf, if_pos (Nat.lt_succ_self n)]
    · rw [h n hn]
      by_cases hl : f < n
      · rw [if_pos hl, if_pos (show f < n + 1 by omega)]
        omega
      · rw [if_neg hl, if_neg (show ¬ f < n + 1 by omega), Nat.add_zero, Nat.add_zero]
theorem Gain_refl (P : Pl) (S : Sp) : Gain P S S := ⟨fun _ => Or.inl rfl, Nat.le_refl _, Nat.le_refl _, fun _ => rfl⟩
theorem Gain_eq {P : Pl} {S S' : Sp} (h1 : S'.gp = S.gp) (h2 : S'.coins = S.coins) : Gain P S S' := by
  refine ⟨fun g => Or.inl (by rw [h1]), by omega, ?_, fun _ => h2⟩
  have : cntS P S' 2 = cntS P S 2 := cnt_same (fun g => by rw [h1])
  omega
theorem Gain_trans {P : Pl} {S S' S'' : Sp} (h : Gain P S S') (g : Gain P S' S'') : Gain P S S'' := by
  obtain ⟨a1, a2, a3, a4⟩ := h
  obtain ⟨b1, b2, b3, b4⟩ := g
  have m1 : cntS P S 2 ≤ cntS P S' 2 := cnt_mono (P := P) (fun g hg => by
    rcases a1 g with q | q
    · rw [q]; exact hg
    · exact q.2) P.ng
  have m2 : cntS P S' 2 ≤ cntS P S'' 2 := cnt_mono (P := P) (fun g hg => by
    rcases b1 g with q | q
    · rw [q]; exact hg
    · exact q.2) P.ng
  refine ⟨fun g => ?_, by omega, by omega, fun he => ?_⟩
  · rcases a1 g with q | q
    · rcases b1 g with z | z
      · exact Or.inl (z.trans q)
      · exact Or.inr ⟨q.symm.trans z.1, z.2⟩
    · rcases b1 g with z | z
      · exact Or.inr ⟨q.1, z.trans q.2⟩
      · rw [q.2] at z; exact absurd z.1 (by decide)
  · rw [b4 (by omega), a4 (by omega)]
theorem Gain_serve {P : Pl} {S : Sp} (hS : SpB S) {g : Nat} (hg : g < P.ng) : Gain P S (serveS P S g) := by
  unfold serveS
  by_cases hc : likeS P S g S.strength
  · rw [if_pos hc]
    have hb := hS.2.1
    have hcn : cntS P (Sp.mk S.hour S.warmth (S.strength - 3) S.charge S.lemons S.saucers (S.coins + S.strength) S.storms S.fp (updT S.gp g 2)) 2 = cntS P S 2 + 1 := by
      have := cnt_one (w := S.gp) (w' := updT S.gp g 2) (f := g) (by rw [hc.1]; decide) (updT_s _ _ _) (fun j hj => updT_o _ _ hj) P.ng
      unfold b01 at this
      rw [if_pos hg] at this
      exact this
    refine ⟨fun j => ?_, Nat.le_add_right _ _, ?_, fun he => ?_⟩
    · show updT S.gp g 2 j = S.gp j ∨ (S.gp j = 1 ∧ updT S.gp g 2 j = 2)
      by_cases hj : j = g
      · subst hj
        exact Or.inr ⟨hc.1, updT_s _ _ _⟩
      · exact Or.inl (updT_o _ _ hj)
    · rw [hcn]
      show S.coins + S.strength + 30 * cntS P S 2 ≤ S.coins + 30 * (cntS P S 2 + 1)
      omega
    · rw [hcn] at he
      omega
  · rw [if_neg hc]
    exact Gain_refl P S
theorem Gain_do {P : Pl} {S : Sp} (hS : SpB S) {o : Od} (ho : OdOk P.nf P.ng o) : Gain P S (doS P S o) := by
  obtain ⟨ho, -⟩ := ho
  unfold doS
  by_cases h0 : o.1 = 0
  · rw [if_pos h0]
    obtain ⟨x1, x2, x3, x4, x5, x6, x7, x8⟩ := steepS_x P S o.2.1
    exact Gain_eq x5 x4
  rw [if_neg h0]
  by_cases h1 : o.1 = 1
  · rw [if_pos h1]
    exact Gain_serve hS (by omega)
  rw [if_neg h1]
  split
  · obtain ⟨x1, x2, x3, x4, x5, x6, x7, x8⟩ := squeezeS_x S
    exact Gain_eq x5 x3
  · obtain ⟨x1, x2, x3, x4, x5, x6, x7, x8⟩ := calmS_x S
    exact Gain_eq x5 x3
theorem Gain_ord {P : Pl} : ∀ (os : List Od) (S : Sp), SpB S → (∀ o ∈ os, OdOk P.nf P.ng o) → Gain P S (ordS P S os) := by
  intro os
  induction os with
  | nil => intro S _ _; exact Gain_refl P S
  | cons o r ih =>
    intro S hS ho
    refine Gain_trans ?_ (ih (odoS P S o) (SpB_odo hS o) (fun q hq => ho q (List.mem_cons_of_mem _ hq)))
    by_cases h : tstS P S o
    · rw [(odo_t P S o).1 h]; exact Gain_do hS (ho o List.mem_cons_self)
    · rw [(odo_t P S o).2 h]; exact Gain_refl P S
/-- what the law looks at behind an hour -/
theorem hour_law {P : Pl} (hP : PlOk P) {S : Sp} (hS : SpB S) (hI : SpI P S) :
    (stormy P S = 0 → (hourS P S).charge ≤ 11) ∧ (stormy P S = 1 → (hourS P S).strength ≤ 15) ∧ (hourS P S).charge ≤ 18 ∧
    (∀ g, (S.gp g = 2 → (hourS P S).gp g = 2) ∧ (S.gp g = 3 → (hourS P S).gp g = 3) ∧ ((hourS P S).gp g = 2 → S.gp g ≠ 2 → S.gp g = 1) ∧ ((hourS P S).gp g = 3 → S.gp g ≠ 3 → stormy P S = 1 ∧ S.gp g = 1 ∧ (P.gu g).2.2.2 < (hourS P S).charge + 12) ∧ (stormy P S = 1 → g < P.ng → S.gp g = 1 → (hourS P S).gp g = 1 → ¬ (P.gu g).2.2.2 < (hourS P S).charge + 12)) ∧
    S.coins ≤ (hourS P S).coins ∧ (hourS P S).coins + 30 * cntS P S 2 ≤ S.coins + 30 * cntS P (hourS P S) 2 ∧ (cntS P (hourS P S) 2 = cntS P S 2 → (hourS P S).coins = S.coins) := by
  have hod := hP.2.2.2.2.2
  obtain ⟨g1, g2, g3, g4⟩ := Gain_ord (P := P) P.os S hS hod
  have x0 := (ord_x P P.os S hS).1
  have hIo := SpI_ord hP P.os S hI hod
  have hBo := SpB_blow (P := P) x0
  have hIb : SpI P (blowS P (ordS P S P.os)) := hIo
  obtain ⟨n1, n2, n3, n4⟩ := SpI_next hP (SpB_storm (P := P) hBo) (SpI_weather hIb)
  have e : hourS P S = comeS P (leaveS P (weatherS P (blowS P (ordS P S P.os)))) := rfl
  have ech : (hourS P S).charge = (weatherS P (blowS P (ordS P S P.os))).charge := rfl
  have est : (hourS P S).strength = (weatherS P (blowS P (ordS P S P.os))).strength := rfl
  have eco : (hourS P S).coins = (weatherS P (blowS P (ordS P S P.os))).coins := rfl
  have hgb : (blowS P (ordS P S P.os)).gp = (ordS P S P.os).gp := rfl
  have hcb : (blowS P (ordS P S P.os)).coins = (ordS P S P.os).coins := rfl
  rw [← e] at n3 n4
  unfold stormy isStorm
  generalize hB : blowS P (ordS P S P.os) = B at *
  generalize hO : ordS P S P.os = O at *
  have hw2 : ∀ g, (weatherS P B).gp g = 2 ↔ O.gp g = 2 := fun g => by
    unfold weatherS
    split
    · rw [hgb]
    · show mk1 P.ng (fun g => B.gp g = 1 ∧ (P.gu g).2.2.2 < B.charge) 3 B.gp g = 2 ↔ _
      by_cases hm : g < P.ng ∧ (B.gp g = 1 ∧ (P.gu g).2.2.2 < B.charge)
      · rw [(mk1_c g).1 hm, ← hgb, hm.2.1]
        exact ⟨fun z => absurd z (by decide), fun z => absurd z (by decide)⟩
      · rw [(mk1_c g).2 hm, hgb]
  have hwc : (weatherS P B).coins = O.coins := by
    unfold weatherS
    split
    · exact hcb
    · exact hcb
  have hcnt : cntS P (hourS P S) 2 = cntS P O 2 := cnt_same (fun g => (n3 g).trans (hw2 g))
  have hwch : B.charge < 12 ∨ (12 ≤ B.charge ∧ (weatherS P B).charge = B.charge - 12 ∧ (weatherS P B).strength = B.strength / 2) := by
    by_cases hc : B.charge < 12
    · exact Or.inl hc
    · refine Or.inr ⟨by omega, ?_, ?_⟩
      · unfold weatherS; rw [if_neg hc]; rfl
      · unfold weatherS; rw [if_neg hc]; rfl
  have hch30 := hBo.2.2.1
  have hst30 := hBo.2.1
  have hlt : B.charge < 12 → (weatherS P B).charge = B.charge := fun hc => by unfold weatherS; rw [if_pos hc]
  refine ⟨fun z => ?_, fun z => ?_, ?_, fun g => ⟨fun z => ?_, fun z => ?_, fun z1 z2 => ?_, fun z1 z2 => ?_, fun z1 zg z2 z3 => ?_⟩, ?_, ?_, fun z => ?_⟩
  · rw [ech]
    by_cases hc : B.charge < 12
    · rw [hlt hc]; omega
    · rw [if_neg hc] at z; exact absurd z (by decide)
  · rw [est]
    by_cases hc : B.charge < 12
    · rw [if_pos hc] at z; exact absurd z (by decide)
    · rcases hwch with q | ⟨-, -, q⟩
      · exact absurd q hc
      · rw [q]; omega
  · rw [ech]
    rcases hwch with q | ⟨-, q, -⟩
    · rw [hlt q]; omega
    · rw [q]; omega
  · refine (n3 g).mpr ((hw2 g).mpr ?_)
    rcases g1 g with q | q
    · rw [q]; exact z
    · exact q.2
  · refine (n4 g).mpr ?_
    have hO3 : O.gp g = 3 := by
      rcases g1 g with q | q
      · rw [q]; exact z
      · rw [q.1] at z; exact absurd z (by decide)
    unfold weatherS
    split
    · rw [hgb]; exact hO3
    · show mk1 P.ng (fun g => B.gp g = 1 ∧ (P.gu g).2.2.2 < B.charge) 3 B.gp g = 3
      by_cases hm : g < P.ng ∧ (B.gp g = 1 ∧ (P.gu g).2.2.2 < B.charge)
      · exact (mk1_c g).1 hm
      · rw [(mk1_c g).2 hm, hgb]; exact hO3
  · have := (hw2 g).mp ((n3 g).mp z1)
    rcases g1 g with q | q
    · rw [q] at this; exact absurd this z2
    · exact q.1
  · have h3 := (n4 g).mp z1
    have hO3 : O.gp g ≠ 3 := fun q => by
      rcases g1 g with w | w
      · rw [w] at q; exact z2 q
      · rw [w.2] at q; exact absurd q (by decide)
    by_cases hc : B.charge < 12
    · have e3 : (weatherS P B).gp g = O.gp g := by unfold weatherS; rw [if_pos hc, hgb]
      rw [e3] at h3
      exact absurd h3 hO3
    · have e3 : (weatherS P B).gp g = mk1 P.ng (fun g => B.gp g = 1 ∧ (P.gu g).2.2.2 < B.charge) 3 B.gp g := by unfold weatherS; rw [if_neg hc]; rfl
      rw [e3] at h3
      by_cases hm : g < P.ng ∧ (B.gp g = 1 ∧ (P.gu g).2.2.2 < B.charge)
      · refine ⟨if_neg hc, ?_, ?_⟩
        · have := hm.2.1
          rw [hgb] at this
          rcases g1 g with w | w
          · rw [← w]; exact this
          · exact w.1
        · rw [ech]
          rcases hwch with q | ⟨q1, q2, -⟩
          · exact absurd q hc
          · rw [q2]; have := hm.2.2; omega
      · rw [(mk1_c g).2 hm, hgb] at h3
        exact absurd h3 hO3
  · by_cases hc : B.charge < 12
    · rw [if_pos hc] at z1; exact absurd z1 (by decide)
    · intro hlt2
      rw [ech] at hlt2
      rcases hwch with q | ⟨q1, q2, -⟩
      · exact hc q
      · rw [q2] at hlt2
        by_cases hO1 : O.gp g = 1
        · have e3 : (weatherS P B).gp g = 3 := by
            unfold weatherS
            rw [if_neg hc]
            show mk1 P.ng (fun g => B.gp g = 1 ∧ (P.gu g).2.2.2 < B.charge) 3 B.gp g = 3
            exact (mk1_c g).1 ⟨zg, by rw [hgb]; exact hO1, by omega⟩
          have := (n4 g).mpr e3
          rw [z3] at this
          exact absurd this (by decide)
        · rcases g1 g with w | w
          · exact hO1 (w.trans z2)
          · have := (n3 g).mpr ((hw2 g).mpr w.2)
            rw [z3] at this
            exact absurd this (by decide)
  · rw [eco, hwc]; exact g2
  · rw [eco, hwc, hcnt]; exact g3
  · rw [eco, hwc]
    rw [hcnt] at z
    exact g4 z
