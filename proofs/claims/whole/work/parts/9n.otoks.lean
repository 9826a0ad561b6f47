/-! the tokens of an order's line -/
section P48
variable {n : Nat} {K : Nat → Nat} {sT : Nat → Int32} {vT : Nat → Int64} {t : Nat} {e1 e2 : Int32} {oA : Nat → Nat} {oB oC oD : Nat → Int32} {oE : Int32}
variable {kd : Nat → Int32} {sk : Nat → Nat} {sv : Nat → Int32} {s c no c0 : Nat}
theorem al_R80 (hK : TKO K kd t) {cu0 cu : Int32} {O : bX6} {w1 : Nat → Nat} {w2 w3 w4 : Nat → Int32} {w5 : Nat → Nat} {w6 : Nat → Int32} {w7 w8 : Int32} (h : PA K t c0 cu) : AL (fun r => PR K t c0 r.1 r.2.1) (f_X3_order_R80 n (K, sT, vT, nI (t + 1), cu0, e1, e2) O cu w1 w2 w3 w4 w5 w6 w7 w8) := by
  have h99 : ∀ {cu : Int32} {w1 : Nat → Nat} {w2 w3 w4 : Nat → Int32} {w5 : Nat → Nat} {w6 : Nat → Int32} {w7 w8 : Int32}, PA K t c0 cu → AL (fun r => PR K t c0 r.1 r.2.1) (f_X3_order_R99 n (K, sT, vT, nI (t + 1), cu0, e1, e2) O cu w1 w2 w3 w4 w5 w6 w7 w8) := by
    intro cu w1 w2 w3 w4 w5 w6 w7 w8 h
    unfold f_X3_order_R99 f_X3_order_R104
    exact AL_bind AL_any (fun u hu => AL_if (fun g => AL_some (PR_A h)) (fun g => AL_none))
  unfold f_X3_order_R80
  refine AL_ti hK h ⟨by omega, by unfold ttk; omega, by unfold tns; omega⟩ (fun u hu => ?_)
  refine AL_if (fun g => h99 hu) (fun g => ?_)
  refine AL_ri (al_g hK 100 _ _ _ _ _ hu) (fun u hu => ?_) (fun u hu => h99 hu)
  unfold f_X3_order_R104
  exact AL_bind AL_any (fun v hv => AL_if (fun g => AL_some (PR_0 hu)) (fun g => AL_none))
theorem PA_nil (hc : c ≤ t) : PA K t c (nI c) := ⟨c, rfl, Nat.le_refl _, hc, fun j a b => by omega⟩
theorem PA_one (hK : TKO K kd t) (hc : c ≤ t) (h : K c = 47) : PA K t c (nI (c + 1)) := by
  have hlt : c < t := lt_of_K hK hc (by omega)
  refine ⟨c + 1, rfl, by omega, by omega, fun j a b => ?_⟩
  have e : j = c := by omega
  rw [e, h]
  exact ⟨⟨by omega, by omega, by omega, by omega, by omega, by omega⟩, fun z => by rcases z with z | z | z | z <;> omega⟩
theorem al_order (hK : TKO K kd t) (hc : c ≤ t) (hno : no ≤ 16) (h : K c = 11 ∨ K c = 12 ∨ K c = 13 ∨ K c = 14) : AL (fun r => PR K t (c + 1) r.1 r.2.1) (f_X3_order n (K, sT, vT, nI (t + 1), nI (c), e1, e2) (oA, oB, oC, oD, sk, sv, nI no, nI s)) := by
  have hlt : c < t := lt_of_K hK hc (by omega)
  rcases h with h | h | h | h
  · rw [co_11 hK hc hno h]
    exact AL_if (fun g => al_R80 hK (PA_one hK hlt g)) (fun g => AL_some (PR_A (PA_nil hlt)))
  · rw [co_12 hK hc hno h]
    exact al_R80 hK (PA_nil hlt)
  · rw [co_13 hK hc hno h]
    exact al_R80 hK (PA_nil hlt)
  · rw [co_14 hK hc hno h]
    exact AL_if (fun g => al_R80 hK (PA_one hK hlt g)) (fun g => AL_some (PR_A (PA_nil hlt)))
theorem al_line (hK : TKO K kd t) (hc : c ≤ t) (hno : no ≤ 16) (h : K c = 11 ∨ K c = 12 ∨ K c = 13 ∨ K c = 14) : AL (fun r => PR K t (c + 1) r.1 r.2.1) (f_X3_line n (K, sT, vT, nI (t + 1), nI (c), e1, e2) (oA, oB, oC, oD, sk, sv, nI no, nI s)) := by
  have h0 := hK.1
  have ct0 := c_take (sT := sT) (vT := vT) (e1 := e1) (e2 := e2) hK hc (k := 0) (by omega)
  have ct7 := c_take (sT := sT) (vT := vT) (e1 := e1) (e2 := e2) hK hc (k := 7) (by omega)
  rw [if_neg (by omega)] at ct0 ct7
  unfold f_X3_line
  rw [bd ct0]
  refine AL_if (fun g => ?_) (fun g => absurd rfl g)
  rw [show f_X11_take 7 (X11_kinds (K, sT, vT, nI (t + 1), nI (c), e1, e2), X11_starts (K, sT, vT, nI (t + 1), nI (c), e1, e2), X11_values (K, sT, vT, nI (t + 1), nI (c), e1, e2), X11_count (K, sT, vT, nI (t + 1), nI (c), e1, e2), ((nI 0, nI c) : Int32 × Int32).2, X11_error (K, sT, vT, nI (t + 1), nI (c), e1, e2), X11_errorToken (K, sT, vT, nI (t + 1), nI (c), e1, e2)) = some (nI 0, nI c) from ct7, sb]
  refine AL_if (fun g => ?_) (fun g => absurd rfl g)
  exact AL_bind (al_order hK hc hno h) (fun u hu => AL_if (fun g => AL_some hu) (fun g => AL_none))
/-- the tokens behind the deed of an order's line that was read -/
theorem ol_toks (hK : TKO K kd t) (hc : c ≤ t) (hno : no ≤ 16) (h : K c = 11 ∨ K c = 12 ∨ K c = 13 ∨ K c = 14) {c' : Nat} {y : q8} (hl : f_X3_line n (K, sT, vT, nI (t + 1), nI (c), e1, e2) (oA, oB, oC, oD, sk, sv, nI no, nI s) = some (nI 1, nI c', y)) (hc' : c' ≤ t) : ∀ j, c + 1 ≤ j → j < c' → ttk (K j) ∧ (tns (K j) → K (j + 1) = 47) := by
  have h0 := hK.1
  obtain ⟨-, h2⟩ := al_line hK hc hno h _ hl
  obtain ⟨c2, q1, q2, q3, q4⟩ := h2 (show (nI 1 : Int32) ≠ 0 by decide)
  have e : c' = c2 := by
    have q1' : nI c' = nI c2 := q1
    rw [nJ_eq (by omega) (by omega)] at q1'
    exact q1'
  rw [e]
  exact q4
end P48
