/-! over an order's line -/
section P52
variable {n : Nat} {pf pg pO nd : Int32} {pw pc px py ps pl ph pn pd pW pF pT pt so le ri : Nat → Int32} {K : Nat → Nat} {sT : Nat → Int32} {vT : Nat → Int64} {t : Nat} {e1 e2 : Int32} {oA : Nat → Nat} {oB oC oD : Nat → Int32} {oE : Int32}
variable {kd nu fn gn : Nat → Int32} {er et : Int32} {sk : Nat → Nat} {sv : Nat → Int32} {s c no m g k : Nat} {a b : Nat → Nat} {cu eB : Int32} {B1 : bX2} {B2 : bX4}
theorem adn_16 (h : no ≤ 16) : (if no + 1 < 16 then nI (no + 1) else nI 16) = nI (adn no) := by
  unfold adn
  by_cases q : no = 16
  · rw [if_pos q, if_neg (by omega)]
  · rw [if_neg q]
    by_cases q2 : no + 1 < 16
    · rw [if_pos q2]
    · rw [if_neg q2]
      have e : no + 1 = 16 := by omega
      rw [e]
set_option maxHeartbeats 1000000 in
theorem iv_order (hK : TKO K kd t) (hn : 1000 < n) (hnu : ∀ j, j < t → K j = 48 → (vT j).toInt32 = nu j) (hk : k = 11 ∨ k = 12 ∨ k = 13 ∨ k = 14) (h : K c = k) (h47 : k = 11 ∨ k = 14 → K (c + 1) = 47)
    (hI : IV n K sT vT t cu eB B1 B2 a b c s no m g fn gn er et (oA, oB, oC, oD, sk, sv, nI no, nI s) (nI m, pw, pc, px, py, nI g, ps, pl, ph, pn, nI no, pd, pW, pF, pT, pt, nI s, so, le, ri))
    {c' s' : Nat} {sk' : Nat → Nat} {sv' so' le' ri' pW' : Nat → Int32} {x : Int32} (hc1 : c < c') (hc2 : c' ≤ t) (h36 : K c' = 36) (hs1 : s ≤ s') (hs2 : s' + c ≤ s + c')
    (hold : ∀ i, i < s → sk' i = sk i ∧ sv' i = sv i ∧ so' i = so i ∧ le' i = le i ∧ ri' i = ri i)
    (hx : (s' = s ∧ x = -nI 1) ∨ (s < s' ∧ x = nI (s' - 1) ∧ Ex (lpI K nu (kfn vT a m) c' sk' sv' so' le') (lpB K (kfn vT a m) (kfn vT b g) c' sk' sv' so' le') sk' so' le' ri' 1 s s'))
    (htk : ∀ j, c + 1 ≤ j → j < c' → ttk (K j) ∧ (tns (K j) → K (j + 1) = 47))
    (hW1 : ∀ q, q ≠ no → pW' q = pW q) (hW2 : k = 11 → pW' no = lFx (kfn vT a m (c + 1))) (hW3 : k = 14 → pW' no = lFx (kfn vT b g (c + 1))) :
    IV n K sT vT t cu eB B1 B2 a b (c' + 1) s' (adn no) m g fn gn (mkR K (kfn vT a m) (kfn vT b g) c (c' - c) (e4 no c (er, et))).1 (mkR K (kfn vT a m) (kfn vT b g) c (c' - c) (e4 no c (er, et))).2 (adA oA no k, adB oB no (nI (c + 1)), adB oC no (nI s), upd (adB oD no (nI s)) (adn no - 1) (nI s'), sk', sv', nI (adn no), nI s') (nI m, pw, pc, px, py, nI g, ps, pl, ph, pn, (if no + 1 < 16 then nI (no + 1) else nI 16), upd pd no (nI k), pW', upd pF no (nI s), upd pT no (nI s'), upd pt no x, nI s', so', le', ri') := by
  obtain ⟨i1, i2, i3, i4, i5, i6, i7, hE⟩ := hI
  have h0 := hK.1
  have hlt : c' < t := lt_of_K hK hc2 (by omega)
  refine ⟨by omega, by omega, adn_le i3, i4, i5, i6, i7, ?_⟩
  rcases hE with ⟨q0, V, e2, F, G, z1, z2, z3, z4, z5, z6, z7, z8⟩ | ⟨q0, z⟩
  case inr =>
    have ee : mkR K (kfn vT a m) (kfn vT b g) c (c' - c) (e4 no c (er, et)) = (er, et) := by
      rw [e4_err (E := (er, et)) q0, mkR_err (E := (er, et)) q0]
    rw [ee]
    exact Or.inr ⟨q0, z⟩
  have hx2 := ck_order hK i1 hn i3 z2 (fun j q => z3 j (by omega)) (by omega) hc1 hc2 (fun j p q => (htk j p q).1) z1
  have hq : EQ2 (mkR K (kfn vT a m) (kfn vT b g) c (c' - c) (e4 no c (er, et))) (mkR K (kfn vT a m) (kfn vT b g) c (c' - c) (e4 no c (nI 0, e2))) := EQ2_mkR (EQ2_e4 ⟨q0, fun z => absurd q0 z⟩) _
  rcases hx2 with ⟨y1, y2⟩ | ⟨y1, y2⟩
  case inr =>
    have y3 : (mkR K (kfn vT a m) (kfn vT b g) c (c' - c) (e4 no c (er, et))).1 ≠ nI 0 := by rw [hq.1]; exact y1
    refine Or.inr ⟨y3, ?_⟩
    rw [← hq.2 y3] at y2
    have hj : EJ t (mkR K (kfn vT a m) (kfn vT b g) c (c' - c) (e4 no c (er, et))) := EJ_mkR (EJ_e4 (Or.inl q0) i1) _ (by omega)
    exact ⟨y2, hj.resolve_left y3⟩
  have y3 : (mkR K (kfn vT a m) (kfn vT b g) c (c' - c) (e4 no c (er, et))).1 = nI 0 := hq.1.trans y1
  obtain ⟨y4, y5⟩ := mkR_ok _ y3
  obtain ⟨-, hno⟩ := e4_ok y4
  have eA : adA oA no k = va_up oA no k := if_neg hno
  have eB' : ∀ (f : Nat → Int32) (y : Int32), adB f no y = upd f no y := fun f y => if_neg hno
  have en : adn no = no + 1 := if_neg hno
  have ex : no + 1 - 1 = no := rfl
  have y6 := ck_pl h0 (by omega) hn (by omega) y2
  have ecl : c + (c' - c) = c' := by omega
  have hRef : RFS K vT a b m g (c' + 1) (VV K (kfn vT a m) (kfn vT b g) V c (c' - c)) := by
    intro j hj
    rcases Nat.lt_or_ge j c with p | p
    · rw [VV_else (by omega)]
      exact z5 j p
    · rcases Nat.lt_or_ge j c' with p2 | p2
      · have y7 := y5 j p (by omega)
        exact ⟨fun w => ⟨VV_f w p (by omega), y7.1 w⟩, fun w => ⟨VV_g w p (by omega), y7.2 w⟩⟩
      · have e : j = c' := by omega
        rw [e, h36]
        exact ⟨fun w => by omega, fun w => by omega⟩
  have hNum : ∀ j, K j = 48 → VV K (kfn vT a m) (kfn vT b g) V c (c' - c) j = vT j := by
    intro j hj
    rcases Nat.lt_or_ge c j with p | p
    · rcases Nat.lt_or_ge c' j with p2 | p2
      · rw [VV_else (by omega)]
        exact z4 j hj
      · have e : j - 1 + 1 = j := by omega
        rw [← e, VV_no ?_, e]
        · exact z4 j hj
        · by_cases p3 : j - 1 = c
          · rw [p3, h]
            by_cases p4 : k = 11 ∨ k = 14
            · have := h47 p4
              rw [show j = c + 1 by omega] at hj
              omega
            · omega
          · obtain ⟨t1, t2⟩ := htk (j - 1) (by omega) (by omega)
            rw [e] at t2
            unfold ttk at t1
            unfold tns at t2
            omega
    · rw [VV_else (by omega)]
      exact z4 j hj
  refine Or.inl ⟨y3, VV K (kfn vT a m) (kfn vT b g) V c (c' - c), (mkR K (kfn vT a m) (kfn vT b g) c (c' - c) (e4 no c (nI 0, e2))).2, F, G, by rw [en]; exact y6, z2, fun j hj => by rw [VV_else (by omega)]; exact z3 j (by omega), hNum, hRef, z6, z7, ?_⟩
  intro k' hk'
  rw [en] at hk'
  rw [eA, eB', eB', eB', en, ex]
  by_cases e : k' = no
  · rw [e]
    have hcI : ∀ i, lpI K nu (kfn vT a m) c' sk' sv' so' le' i → lqI (VV K (kfn vT a m) (kfn vT b g) V c (c' - c)) m (c' + 1) sk' sv' so' le' i := fun i hi => lqI_mono (Nat.le_refl _) (Nat.le_succ _) (fun j _ => rfl) rfl rfl rfl rfl (lp_lqI (b := b) (g := g) i4 (fun j hj => hRef j (by omega)) hNum (fun j hj => hnu j (by omega)) hi)
    have hcB : ∀ i, lpB K (kfn vT a m) (kfn vT b g) c' sk' sv' so' le' i → lqB (VV K (kfn vT a m) (kfn vT b g) V c (c' - c)) m g (c' + 1) sk' sv' so' le' i := fun i hi => lqB_mono (Nat.le_refl _) (Nat.le_refl _) (Nat.le_succ _) (fun j _ => rfl) rfl rfl rfl rfl (lp_lqB i4 i5 (fun j hj => hRef j (by omega)) hi)
    refine ⟨s, s', hs1, Nat.le_refl _, upd_same _ _ _, upd_same _ _ _, upd_same _ _ _, upd_same _ _ _, ?_, ?_⟩
    · rcases hx with ⟨p1, p2⟩ | ⟨p1, p2, p3⟩
      · exact Or.inl ⟨p1.symm, by rw [p2]; exact upd_same _ _ _⟩
      · exact Or.inr ⟨by rw [p2]; exact upd_same _ _ _, Ex_mono p3 fun i _ _ => ⟨hcI i, hcB i, rfl, rfl, rfl, rfl⟩⟩
    · have d1 : va_up oA no k no = k := va_up_same _ _ _
      have d2 : upd pd no (nI k) no = nI k := upd_same _ _ _
      have d3 : upd oB no (nI (c + 1)) no = nI (c + 1) := upd_same _ _ _
      rcases hk with hk | hk | hk | hk
      · subst hk
        have hr := (hRef c (by omega)).1 (by omega)
        obtain ⟨f, f1, f2, f3⟩ := rf_val (kk := 0) i4 hr.1 hr.2
        exact Or.inl ⟨d1, d2, c + 1, by omega, d3, f, f1, f2, (hW2 rfl).trans f3⟩
      · subst hk
        exact Or.inr (Or.inl ⟨d1, d2⟩)
      · subst hk
        exact Or.inr (Or.inr (Or.inl ⟨d1, d2⟩))
      · subst hk
        have hr := (hRef c (by omega)).2 (by omega)
        obtain ⟨f, f1, f2, f3⟩ := rf_val (kk := 0) i5 hr.1 hr.2
        exact Or.inr (Or.inr (Or.inr ⟨d1, d2, c + 1, by omega, d3, f, f1, f2, (hW3 rfl).trans f3⟩))
  · exact ORk_mono (Nat.le_refl _) (Nat.le_refl _) (by omega) hs1 (fun j hj => VV_else (by omega)) (upd_else _ _ e) ((upd_else _ _ e).trans (upd_else _ _ e)) (va_up_else _ _ e) (upd_else _ _ e) (upd_else _ _ e) (upd_else _ _ e) (upd_else _ _ e) (upd_else _ _ e) (hW1 k' e) (fun i hi => hold i hi) (z8 k' (by omega))
end P52
