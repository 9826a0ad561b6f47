/-! WHAT ALWAYS HOLDS of a state -/
def Iv (P : Pl) (S : Sp) : Prop := SpB S ∧ SpI P S ∧ S.coins ≤ 30 * cntS P S 2 ∧ S.storms ≤ S.hour
theorem cntS_le {P : Pl} (hP : PlOk P) (S : Sp) (x : Nat) : cntS P S x ≤ 7 := by
  have h := sumN_le (n := P.ng) (f := fun g => b01 (S.gp g = x)) (c := 1) (fun i _ => b01_le _)
  have := hP.2.1
  unfold cntS
  omega
theorem Iv_coins {P : Pl} (hP : PlOk P) {S : Sp} (h : Iv P S) : S.coins ≤ 210 := by
  have := cntS_le hP S 2
  have := h.2.2.1
  omega
theorem Iv_hour {P : Pl} (hP : PlOk P) {S : Sp} (h : Iv P S) : Iv P (hourS P S) := by
  obtain ⟨h1, h2, h3, h4⟩ := h
  have hl := hour_law hP h1 h2
  obtain ⟨-, -, -, -, q1, q2, -⟩ := hl
  refine ⟨SpB_hour h1, SpI_hour hP h1 h2, by omega, ?_⟩
  rw [hourS_st P h1, hour_h P h1]
  have := stormy_le P S
  omega
theorem Iv_hours {P : Pl} (hP : PlOk P) {S : Sp} (h : Iv P S) : ∀ k, Iv P (hoursS P S k) := by
  intro k
  induction k with
  | zero => exact h
  | succ k ih => exact Iv_hour hP ih
theorem Iv_eq {P : Pl} {S S' : Sp} (h : Iv P S) (hB : SpB S') (hI : SpI P S') (e1 : S'.gp = S.gp) (e2 : S'.coins = S.coins) (e3 : S'.storms = S.storms) (e4 : S'.hour = S.hour) : Iv P S' := by
  obtain ⟨-, -, h3, h4⟩ := h
  refine ⟨hB, hI, ?_, by omega⟩
  have : cntS P S' 2 = cntS P S 2 := cnt_same (fun g => by rw [e1])
  omega
theorem Iv_act {P : Pl} (hP : PlOk P) {S S' : Sp} (h : Iv P S) (hA : ActS P S S') : Iv P S' ∧ S.hour ≤ S'.hour ∧ S'.hour ≤ S.hour + 30 := by
  obtain ⟨h1, h2, h3, h4⟩ := id h
  rcases hA with rfl | ⟨f, hf, rfl⟩ | rfl | rfl | ⟨g, hg, rfl⟩ | ⟨w, hw, rfl⟩ | ⟨N, hN1, hN, rfl⟩
  · exact ⟨h, Nat.le_refl _, by omega⟩
  · obtain ⟨x1, x2, x3, x4, x5, x6, x7, x8⟩ := steepS_x P S f
    exact ⟨Iv_eq h (SpB_steep h1 f) (SpI_steep hP h2 hf) x5 x4 x8 x6, by omega, by omega⟩
  · obtain ⟨x1, x2, x3, x4, x5, x6, x7, x8⟩ := squeezeS_x S
    exact ⟨Iv_eq h (SpB_squeeze h1) (SpI_squeeze h2) x5 x3 x8 x6, by omega, by omega⟩
  · obtain ⟨x1, x2, x3, x4, x5, x6, x7, x8⟩ := calmS_x S
    exact ⟨Iv_eq h (SpB_calm h1) (SpI_calm h2) x5 x3 x8 x6, by omega, by omega⟩
  · obtain ⟨x1, x2, x3, x4, x5, x6, x7⟩ := serveS_x P S g
    obtain ⟨-, -, g3, -⟩ := Gain_serve h1 hg
    exact ⟨⟨SpB_serve h1 g, SpI_serve h2 hg, by omega, by omega⟩, by omega, by omega⟩
  · obtain ⟨b1, b2, b3, b4, b5, b6, b7⟩ := h1
    exact ⟨Iv_eq h ⟨hw, b2, b3, b4, b5, b6, b7⟩ h2 rfl rfl rfl rfl, Nat.le_refl _, Nat.le_add_right _ _⟩
  · have := (SpB_hours (P := P) h1 N).2
    exact ⟨Iv_hours hP h N, by omega, by omega⟩
theorem Iv_0 {P : Pl} (hP : PlOk P) : Iv P (Sp0 P) := by
  have hfr := hP.2.2.1
  have F1 : ∀ j, (Sp0 P).fp j = if j < P.nf ∧ (P.fr j).2.2.1 = 0 then 1 else 0 := fun j => rfl
  have G1 : ∀ j, (Sp0 P).gp j = if j < P.ng ∧ (P.gu j).1 = 0 then 1 else 0 := fun j => rfl
  refine ⟨⟨(show (20 : Nat) ≤ 40 by decide), (show (0 : Nat) ≤ 30 by decide), (show (0 : Nat) ≤ 30 by decide), (show (3 : Nat) ≤ 3 by decide), (show (3 : Nat) ≤ 3 by decide), mk1_le (fun _ => Nat.zero_le _) (by decide), mk1_le (fun _ => Nat.zero_le _) (by decide)⟩, ⟨fun j hj => ?_, fun j hj => ?_, fun j hj => ?_, fun j hj => ?_⟩, Nat.zero_le _, Nat.le_refl _⟩
  · obtain ⟨f1, f2, f3, f4, f5, f6⟩ := hfr j hj
    rw [F1]
    show ((if j < P.nf ∧ (P.fr j).2.2.1 = 0 then 1 else 0) = 2 → (P.fr j).2.2.1 ≤ 0) ∧ ((if j < P.nf ∧ (P.fr j).2.2.1 = 0 then 1 else 0) = 1 ↔ (if j < P.nf ∧ (P.fr j).2.2.1 = 0 then 1 else 0) ≠ 2 ∧ (P.fr j).2.2.1 ≤ 0 ∧ 0 < (P.fr j).2.2.1 + (P.fr j).2.2.2)
    by_cases hc : j < P.nf ∧ (P.fr j).2.2.1 = 0
    · rw [if_pos hc]; omega
    · rw [if_neg hc]
      have : (P.fr j).2.2.1 ≠ 0 := fun z => hc ⟨hj, z⟩
      omega
  · rw [F1, if_neg (fun z => absurd z.1 (by omega))]
  · rw [G1]
    show (2 ≤ (if j < P.ng ∧ (P.gu j).1 = 0 then 1 else 0) → (P.gu j).1 ≤ 0) ∧ ((if j < P.ng ∧ (P.gu j).1 = 0 then 1 else 0) = 1 ↔ (if j < P.ng ∧ (P.gu j).1 = 0 then 1 else 0) < 2 ∧ (P.gu j).1 ≤ 0 ∧ 0 < (P.gu j).1 + 8)
    by_cases hc : j < P.ng ∧ (P.gu j).1 = 0
    · rw [if_pos hc]; omega
    · rw [if_neg hc]
      have : (P.gu j).1 ≠ 0 := fun z => hc ⟨hj, z⟩
      omega
  · rw [G1, if_neg (fun z => absurd z.1 (by omega))]
/-- the newly served are counted -/
theorem more_ok {P : Pl} {S S' : Sp} (h : ∀ g, S.gp g = 2 → S'.gp g = 2) : ∀ n, sumN (fun g => b01 (S'.gp g = 2 ∧ ¬ S.gp g = 2)) n + sumN (fun g => b01 (S.gp g = 2)) n = sumN (fun g => b01 (S'.gp g = 2)) n := by
  intro n
  induction n with
  | zero => rfl
  | succ n ih =>
    have e : b01 (S'.gp n = 2 ∧ ¬ S.gp n = 2) + b01 (S.gp n = 2) = b01 (S'.gp n = 2) := by
      unfold b01
      by_cases hc : S.gp n = 2
      · rw [if_neg (fun z => z.2 hc), if_pos hc, if_pos (h n hc)]
      · by_cases hd : S'.gp n = 2
        · rw [if_pos ⟨hd, hc⟩, if_neg hc, if_pos hd]
        · rw [if_neg (fun z => hd z.1), if_neg hc, if_neg hd]
    show (sumN _ n + b01 (S'.gp n = 2 ∧ ¬ S.gp n = 2)) + (sumN _ n + b01 (S.gp n = 2)) = sumN _ n + b01 (S'.gp n = 2)
    omega
