/-! SOMETHING BY HAND, in the code and in the pot by hand -/
def heatS (S : Sp) (w : Nat) : Sp := Sp.mk S.hour w S.strength S.charge S.lemons S.saucers S.coins S.storms S.fp S.gp
def ActS (P : Pl) (S S' : Sp) : Prop := S' = S ∨ (∃ f, f < P.nf ∧ S' = steepS P S f) ∨ S' = squeezeS S ∨ S' = calmS S ∨ (∃ g, g < P.ng ∧ S' = serveS P S g) ∨ (∃ w, w ≤ 40 ∧ S' = heatS S w) ∨ ∃ N, 1 ≤ N ∧ N ≤ 30 ∧ S' = hoursS P S N
section ACT
variable {P : Pl} {S : Sp} {c2 : bX2} {c4 : bX4} {c6 : bX6} {bh : bX12} {F G W : Nat → Int32}
theorem reqFx (hP : PlOk P) (h2 : RFr P c2) {b : bX8} {j : Nat} (hj : j < P.nf) : f_X12_requireFront (nI j) bh b c2 = some (.inl ()) := by
  have h := has2_ok hP h2 (j := j) (by have := hP.1; omega)
  unfold f_X12_requireFront
  unfold b01 at h
  rw [h, sb, if_pos hj, if_neg (by decide)]
theorem reqGx (hP : PlOk P) (h4 : RGu P c4) {b : bX8} {j : Nat} (hj : j < P.ng) : f_X12_requireGuest (nI j) bh b c4 = some (.inl ()) := by
  have h := has4_ok hP h4 (j := j) (by have := hP.2.1; omega)
  unfold f_X12_requireGuest
  unfold b01 at h
  rw [h, sb, if_pos hj, if_neg (by decide)]
/-- what act leaves -/
def ActR (P : Pl) (S : Sp) (r : Option (Int32 × Int32 × Int32 × Int32 × Int32 × Int32 × Int32 × Int32 × Int32 × (Nat → Int32) × (Nat → Int32) × (Nat → Int32) × (Nat → Int32) × Int32 × Int32 × Int32 × Int32 × Int32 × Int32 × Int32 × Int32 × Int32 × (Nat → Int32) × (Nat → Int32) × Int32)) : Prop :=
  ∃ S' F' G' W' st ht y, r = some (1, nI S'.hour, nI S'.warmth, nI S'.strength, nI S'.charge, nI S'.lemons, nI S'.saucers, nI S'.coins, nI S'.storms, F', G', W', st, ht, nI S'.hour, nI S'.warmth, nI S'.strength, nI S'.charge, nI S'.lemons, nI S'.saucers, nI S'.coins, nI S'.storms, (fun j => nI (S'.fp j)), (fun j => nI (S'.gp j)), y) ∧ RPt S' (cbO S' F' G' W') ∧ ActS P S S'
theorem act_hours (hP : PlOk P) (hS : SpB S) (hI : SpI P S) (hh : S.hour < 2 ^ 28) (hbr : RPt S (cbO S F G W)) (h2 : RFr P c2) (h4 : RGu P c4) (h6 : ROs P c6) (b9 : bX9) (y0 : Int32) {n : Nat} (hn : 401 < n) (x : Int32) {m : Nat} (hm0 : 0 < m) (hm : m ≤ 30) : ActR P S (f_L_act_R295 n P.os bh (cbO S F G W) b9 c2 c4 c6 (hb P S) y0 1 (nI S.hour) (nI S.warmth) (nI S.strength) (nI S.charge) (nI S.lemons) (nI S.saucers) (nI S.coins) (nI S.storms) F G W (X9_stack b9) (X9_height b9) (nI S.hour) (nI S.warmth) (nI S.strength) (nI S.charge) (nI S.lemons) (nI S.saucers) (nI S.coins) (nI S.storms) (fun j => nI (S.fp j)) (fun j => nI (S.gp j)) x (nI m) 1) := by
  obtain ⟨v, y, hv, hd⟩ := dice_v hm0 (by omega) x
  obtain ⟨F', G', W', st, ht, e1, -, hb'⟩ := hrs_ok (bh := bh) hP hS hI hh hbr h2 h4 h6 b9 (N := 1 + v) (by omega) (by omega) hn
  have e2 := pass2_ok hP hS (N := 1 + v) (by omega) (by omega) (n := n) (by omega) (by omega)
  unfold f_L_act_R295
  rw [hd, sb]
  show ActR P S ((f_X12_passHours n (nI 1 + nI v) bh (cbO S F G W) b9 c2 c4 c6).bind _)
  rw [nI_add, e1, sb]
  show ActR P S ((f_X18_pass_ n P.os (nI 1 + nI v) (hb P S)).bind _)
  rw [nI_add, e2, sb, if_pos rfl]
  exact ⟨hoursS P S (1 + v), F', G', W', st, ht, y, rfl, hb', Or.inr (Or.inr (Or.inr (Or.inr (Or.inr (Or.inr ⟨1 + v, by omega, by omega, rfl⟩)))))⟩
theorem act51 (hP : PlOk P) (hS : SpB S) (hI : SpI P S) (hh : S.hour < 2 ^ 28) (hbr : RPt S (cbO S F G W)) (h2 : RFr P c2) (h4 : RGu P c4) (h6 : ROs P c6) (b9 : bX9) (y0 : Int32) {n : Nat} (hn : 401 < n) (x : Int32) {s f g : Nat} (hs : s < 12) (hf : P.nf = 0 ∨ f < P.nf) (hg : P.ng = 0 ∨ g < P.ng) : ActR P S (f_L_act_R51 n P.os bh (cbO S F G W) b9 c2 c4 c6 (hb P S) y0 (nI s) (nI f) (nI S.hour) (nI S.warmth) (nI S.strength) (nI S.charge) (nI S.lemons) (nI S.saucers) (nI S.coins) (nI S.storms) F G W (X9_stack b9) (X9_height b9) (nI S.hour) (nI S.warmth) (nI S.strength) (nI S.charge) (nI S.lemons) (nI S.saucers) (nI S.coins) (nI S.storms) (fun j => nI (S.fp j)) (fun j => nI (S.gp j)) x (nI g)) := by
  have hnf := hP.1
  have hng := hP.2.1
  have E : ∀ k : Nat, k < 100 → (nI s = nI k ↔ s = k) := fun k hk => nI_eq (by omega) (by omega)
  unfold f_L_act_R51
  by_cases h01 : s = 0 ∨ s = 1
  · rw [if_pos (show nI s = 0 ∨ nI s = 1 from h01.elim (fun z => Or.inl ((E 0 (by decide)).mpr z)) (fun z => Or.inr ((E 1 (by decide)).mpr z)))]
    by_cases hf0 : P.nf = 0
    · rw [if_pos (show nI (Y18_nf (hb P S)) = 0 from congrArg nI hf0)]
      exact ⟨S, F, G, W, _, _, x, rfl, hbr, Or.inl rfl⟩
    · rw [if_neg (show ¬ nI (Y18_nf (hb P S)) = 0 from nI_ne0 (show 0 < P.nf by omega) (show P.nf < 2 ^ 31 by omega))]
      have hfl : f < P.nf := by omega
      obtain ⟨F', e, hF⟩ := steep_ok hP hS hI (by omega) hbr h2 hfl
      obtain ⟨x1, x2, x3, x4, x5, x6, x7, x8⟩ := steepS_x P S f
      show ActR P S ((f_X18_isSteeped (nI f) (hb P S)).bind _)
      rw [steeped_ok hP hS hfl, sb]
      show ActR P S ((f_X12_steep (nI f) bh (cbO S F G W) c2).bind _)
      unfold f_X12_steep
      rw [reqFx hP h2 hfl, sb]
      show ActR P S (((f_X8_steepFront (nI f) (cbO S F G W) c2).bind _).bind _)
      rw [e, sb]
      unfold b01
      have hb' : RPt (steepS P S f) (cbO (steepS P S f) F' G W) := RPt_cb hF (by rw [x5]; exact hbr.2.2.2.2.2.2.2.2.2.1) (by rw [x5]; exact hbr.2.2.2.2.2.2.2.2.2.2)
      by_cases hc : S.fp f = 1
      · rw [if_pos hc, if_neg (show ¬ nI 1 = 0 by decide), sb]
        show ActR P S (if nI (steepS P S f).strength = nI (steepS P S f).strength then _ else _)
        rw [if_pos rfl, if_neg (show ¬ nI 1 = 0 by decide)]
        exact ⟨steepS P S f, F', G, W, _, _, x, by rw [x1, x2, x3, x4, x5, x6, x7, x8], hb', Or.inr (Or.inl ⟨f, hfl, rfl⟩)⟩
      · rw [if_neg hc, if_pos (show nI 0 = 0 from rfl), sb]
        dsimp only [Sum.elim_inr]
        rw [if_pos rfl, if_pos (show nI 0 = 0 from rfl)]
        exact ⟨steepS P S f, F', G, W, _, _, x, by rw [x1, x2, x3, x4, x5, x6, x7, x8], hb', Or.inr (Or.inl ⟨f, hfl, rfl⟩)⟩
  rw [if_neg (show ¬ (nI s = 0 ∨ nI s = 1) from fun z => h01 (z.elim (fun q => Or.inl ((E 0 (by decide)).mp q)) (fun q => Or.inr ((E 1 (by decide)).mp q))))]
  by_cases h2s : s = 2
  · rw [if_pos (show nI s = 2 from (E 2 (by decide)).mpr h2s)]
    have e := lemon_ok hS hbr
    obtain ⟨x1, x2, x3, x4, x5, x6, x7, x8⟩ := squeezeS_x S
    have hb' : RPt (squeezeS S) (cbO (squeezeS S) F G W) := RPt_cb (by rw [x4]; exact hbr.2.2.2.2.2.2.2.2.1) (by rw [x5]; exact hbr.2.2.2.2.2.2.2.2.2.1) (by rw [x5]; exact hbr.2.2.2.2.2.2.2.2.2.2)
    show ActR P S ((f_X18_isSqueezed (hb P S)).bind _)
    rw [squeezed_ok hS, sb]
    show ActR P S ((f_X12_lemon bh (cbO S F G W)).bind _)
    unfold f_X12_lemon
    rw [e, sb]
    by_cases hc : S.lemons = 0
    · rw [if_pos hc, if_pos (show nI 0 = 0 from rfl), sb]
      dsimp only [Sum.elim_inr]
      rw [if_pos rfl, if_pos (show nI 0 = 0 from rfl)]
      exact ⟨squeezeS S, F, G, W, _, _, x, by rw [x1, x2, x3, x4, x5, x6, x7, x8], hb', Or.inr (Or.inr (Or.inl rfl))⟩
    · rw [if_neg hc, if_neg (show ¬ nI 1 = 0 by decide), sb]
      show ActR P S (if nI (squeezeS S).charge = nI (squeezeS S).charge then _ else _)
      rw [if_pos rfl, if_neg (show ¬ nI 1 = 0 by decide)]
      exact ⟨squeezeS S, F, G, W, _, _, x, by rw [x1, x2, x3, x4, x5, x6, x7, x8], hb', Or.inr (Or.inr (Or.inl rfl))⟩
  rw [if_neg (show ¬ nI s = 2 from fun z => h2s ((E 2 (by decide)).mp z))]
  by_cases h3s : s = 3
  · rw [if_pos (show nI s = 3 from (E 3 (by decide)).mpr h3s)]
    have e := saucer_ok hS hbr
    obtain ⟨x1, x2, x3, x4, x5, x6, x7, x8⟩ := calmS_x S
    have hb' : RPt (calmS S) (cbO (calmS S) F G W) := RPt_cb (by rw [x4]; exact hbr.2.2.2.2.2.2.2.2.1) (by rw [x5]; exact hbr.2.2.2.2.2.2.2.2.2.1) (by rw [x5]; exact hbr.2.2.2.2.2.2.2.2.2.2)
    show ActR P S ((f_X18_isCalmed (hb P S)).bind _)
    rw [calmed_ok hS, sb]
    show ActR P S ((f_X12_saucer bh (cbO S F G W)).bind _)
    unfold f_X12_saucer
    rw [e, sb]
    by_cases hc : S.saucers = 0
    · rw [if_pos hc, if_pos (show nI 0 = 0 from rfl), sb]
      dsimp only [Sum.elim_inr]
      rw [if_pos rfl, if_pos (show nI 0 = 0 from rfl)]
      exact ⟨calmS S, F, G, W, _, _, x, by rw [x1, x2, x3, x4, x5, x6, x7, x8], hb', Or.inr (Or.inr (Or.inr (Or.inl rfl)))⟩
    · rw [if_neg hc, if_neg (show ¬ nI 1 = 0 by decide), sb]
      show ActR P S (if nI (calmS S).charge = nI (calmS S).charge then _ else _)
      rw [if_pos rfl, if_neg (show ¬ nI 1 = 0 by decide)]
      exact ⟨calmS S, F, G, W, _, _, x, by rw [x1, x2, x3, x4, x5, x6, x7, x8], hb', Or.inr (Or.inr (Or.inr (Or.inl rfl)))⟩
  rw [if_neg (show ¬ nI s = 3 from fun z => h3s ((E 3 (by decide)).mp z))]
  by_cases h45 : s = 4 ∨ s = 5
  · rw [if_pos (show nI s = 4 ∨ nI s = 5 from h45.elim (fun z => Or.inl ((E 4 (by decide)).mpr z)) (fun z => Or.inr ((E 5 (by decide)).mpr z)))]
    by_cases hg0 : P.ng = 0
    · rw [if_pos (show nI (Y18_ng (hb P S)) = 0 from congrArg nI hg0)]
      exact ⟨S, F, G, W, _, _, x, rfl, hbr, Or.inl rfl⟩
    · rw [if_neg (show ¬ nI (Y18_ng (hb P S)) = 0 from nI_ne0 (show 0 < P.ng by omega) (show P.ng < 2 ^ 31 by omega))]
      have hgl : g < P.ng := by omega
      obtain ⟨G', e, hG, hW⟩ := serve_ok hP hS hI (by omega) hbr h4 hgl
      obtain ⟨x1, x2, x3, x4, x5, x6, x7⟩ := serveS_x P S g
      have hb' : RPt (serveS P S g) (cbO (serveS P S g) F G' W) := RPt_cb (by rw [x4]; exact hbr.2.2.2.2.2.2.2.2.1) hG hW
      show ActR P S ((f_X18_isServed (nI g) (hb P S)).bind _)
      rw [served_ok hP hS hgl, sb]
      show ActR P S ((f_X12_serve (nI g) bh (cbO S F G W) c4).bind _)
      unfold f_X12_serve
      rw [reqGx hP h4 hgl, sb]
      show ActR P S (((f_X8_serveGuest (nI g) (cbO S F G W) c4).bind _).bind _)
      rw [e, sb]
      unfold b01
      by_cases hc : likeS P S g S.strength
      · rw [if_pos hc, if_neg (show ¬ nI 1 = 0 by decide), sb]
        have hcn : (serveS P S g).coins = S.coins + S.strength := by unfold serveS; rw [if_pos hc]
        show ActR P S (if nI (serveS P S g).coins - nI S.coins = nI S.strength then _ else _)
        rw [if_pos (by rw [hcn, pk_sub (Nat.le_add_right _ _), Nat.add_sub_cancel_left]), if_neg (show ¬ nI 1 = 0 by decide)]
        exact ⟨serveS P S g, F, G', W, _, _, x, by rw [x1, x2, x3, x4, x5, x6, x7], hb', Or.inr (Or.inr (Or.inr (Or.inr (Or.inl ⟨g, hgl, rfl⟩))))⟩
      · rw [if_neg hc, if_pos (show nI 0 = 0 from rfl), sb]
        dsimp only [Sum.elim_inr]
        rw [if_pos rfl, if_pos (show nI 0 = 0 from rfl)]
        exact ⟨serveS P S g, F, G', W, _, _, x, by rw [x1, x2, x3, x4, x5, x6, x7], hb', Or.inr (Or.inr (Or.inr (Or.inr (Or.inl ⟨g, hgl, rfl⟩))))⟩
  rw [if_neg (show ¬ (nI s = 4 ∨ nI s = 5) from fun z => h45 (z.elim (fun q => Or.inl ((E 4 (by decide)).mp q)) (fun q => Or.inr ((E 5 (by decide)).mp q))))]
  by_cases h6s : s = 6
  · rw [if_pos (show nI s = 6 from (E 6 (by decide)).mpr h6s)]
    obtain ⟨v, y, hv, hd⟩ := dice_v (n := 41) (by decide) (by decide) x
    rw [show f_X13_next 41 x = _ from hd, sb]
    show ActR P S ((f_X12_heat (nI v) bh (cbO S F G W)).bind _)
    unfold f_X12_heat
    rw [if_neg (nI_pos (by omega)), if_pos (show nI v ≤ 40 from nI_le (b := 40) (by omega) (by decide)), sb]
    show ActR P S (if nI S.warmth = nI S.warmth then _ else _)
    rw [if_pos rfl]
    exact ⟨heatS S v, F, G, W, _, _, y, rfl, RPt_cb hbr.2.2.2.2.2.2.2.2.1 hbr.2.2.2.2.2.2.2.2.2.1 hbr.2.2.2.2.2.2.2.2.2.2, Or.inr (Or.inr (Or.inr (Or.inr (Or.inr (Or.inl ⟨v, by omega, rfl⟩)))))⟩
  rw [if_neg (show ¬ nI s = 6 from fun z => h6s ((E 6 (by decide)).mp z))]
  obtain ⟨v, y, hv, hd⟩ := dice_v (n := 4) (by decide) (by decide) x
  rw [show f_X13_next 4 x = _ from hd, sb]
  by_cases hv0 : v = 0
  · rw [if_pos (show nI v = 0 from congrArg nI hv0)]
    exact act_hours hP hS hI hh hbr h2 h4 h6 b9 y0 hn y (m := 30) (by decide) (by decide)
  · rw [if_neg (show ¬ nI v = 0 from nI_ne0 (by omega) (by omega))]
    exact act_hours hP hS hI hh hbr h2 h4 h6 b9 y0 hn y (m := 3) (by decide) (by decide)
theorem act_ok (hP : PlOk P) (hS : SpB S) (hI : SpI P S) (hh : S.hour < 2 ^ 28) (hbr : RPt S (cbO S F G W)) (h2 : RFr P c2) (h4 : RGu P c4) (h6 : ROs P c6) (b9 : bX9) {n : Nat} (hn : 401 < n) (x : Int32) : ActR P S (f_L_act n P.os bh (cbO S F G W) b9 c2 c4 c6 (hb P S) x) := by
  have hnf := hP.1
  have hng := hP.2.1
  obtain ⟨s, y1, hs, hd1⟩ := dice_v (n := 12) (by decide) (by decide) x
  have h28 : ∀ (f : Nat) (y : Int32), (P.nf = 0 ∨ f < P.nf) → ActR P S (f_L_act_R28 n P.os bh (cbO S F G W) b9 c2 c4 c6 (hb P S) x (nI s) (nI S.hour) (nI S.warmth) (nI S.strength) (nI S.charge) (nI S.lemons) (nI S.saucers) (nI S.coins) (nI S.storms) F G W (X9_stack b9) (X9_height b9) (nI S.hour) (nI S.warmth) (nI S.strength) (nI S.charge) (nI S.lemons) (nI S.saucers) (nI S.coins) (nI S.storms) (fun j => nI (S.fp j)) (fun j => nI (S.gp j)) y (nI f)) := fun f y hf => by
    unfold f_L_act_R28
    by_cases hg0 : P.ng = 0
    · rw [if_pos (show nI (Y18_ng (hb P S)) = 0 from congrArg nI hg0)]
      exact act51 hP hS hI hh hbr h2 h4 h6 b9 x hn y hs hf (Or.inl hg0) (g := 0)
    · rw [if_neg (show ¬ nI (Y18_ng (hb P S)) = 0 from nI_ne0 (show 0 < P.ng by omega) (show P.ng < 2 ^ 31 by omega))]
      obtain ⟨g, y3, hg, hd3⟩ := dice_v (n := P.ng) (by omega) (by omega) y
      rw [show f_X13_next (nI (Y18_ng (hb P S))) y = _ from hd3, sb]
      exact act51 hP hS hI hh hbr h2 h4 h6 b9 x hn y3 hs hf (Or.inr hg)
  unfold f_L_act
  rw [show f_X13_next 12 x = _ from hd1, sb]
  by_cases hf0 : P.nf = 0
  · rw [if_pos (show nI (Y18_nf (hb P S)) = 0 from congrArg nI hf0)]
    exact h28 0 y1 (Or.inl hf0)
  · rw [if_neg (show ¬ nI (Y18_nf (hb P S)) = 0 from nI_ne0 (show 0 < P.nf by omega) (show P.nf < 2 ^ 31 by omega))]
    obtain ⟨f, y2, hf, hd2⟩ := dice_v (n := P.nf) (by omega) (by omega) y1
    rw [show f_X13_next (nI (Y18_nf (hb P S))) y1 = _ from hd2, sb]
    exact h28 f y2 (Or.inr hf)
end ACT
