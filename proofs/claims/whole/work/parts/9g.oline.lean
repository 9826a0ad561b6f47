/-! an order's line, both readers -/
/-- an order's line: read alike, or wrong at the same token -/
def OLN (K : Nat → Nat) (nu kF kG : Nat → Int32) (t c s no k : Nat) (oA : Nat → Nat) (oB oC oD : Nat → Int32) (sk : Nat → Nat) (sv so le ri : Nat → Int32) (e : Int32 × Int32) (pd pW pF pT pt : Nat → Int32) (C : Option (Int32 × Int32 × (Nat → Nat) × (Nat → Int32) × (Nat → Int32) × (Nat → Int32) × (Nat → Nat) × (Nat → Int32) × Int32 × Int32)) (M : Option (Int32 × Int32 × Int32 × Int32 × Int32 × Int32 × (Nat → Int32) × (Nat → Int32) × (Nat → Int32) × (Nat → Int32) × (Nat → Int32) × Int32 × (Nat → Int32) × (Nat → Int32) × (Nat → Int32))) : Prop :=
  (∃ (c' s' : Nat) (sk' : Nat → Nat) (sv' so' le' ri' : Nat → Int32) (x : Int32), C = some (nI 1, nI c', adA oA no k, adB oB no (nI (c + 1)), adB oC no (nI s), upd (adB oD no (nI s)) (adn no - 1) (nI s'), sk', sv', nI (adn no), nI s') ∧ M = some (nI c', nI 0, (mkR K kF kG c (c' - c) e).1, (mkR K kF kG c (c' - c) e).2, nI 0, (if no + 1 < 16 then nI (no + 1) else nI 16), upd pd no (nI k), pW, upd pF no (nI s), upd pT no (nI s'), upd pt no x, nI s', so', le', ri') ∧ c < c' ∧ c' ≤ t ∧ s ≤ s' ∧ s' + c ≤ s + c' ∧ (∀ i, i < s → sk' i = sk i ∧ sv' i = sv i ∧ so' i = so i ∧ le' i = le i ∧ ri' i = ri i) ∧ ((s' = s ∧ x = -nI 1) ∨ (s < s' ∧ x = nI (s' - 1) ∧ Ex (lpI K nu kF c' sk' sv' so' le') (lpB K kF kG c' sk' sv' so' le') sk' so' le' ri' 1 s s'))) ∨
  (∃ (c' : Nat) (q : (Nat → Nat) × (Nat → Int32) × (Nat → Int32) × (Nat → Int32) × (Nat → Nat) × (Nat → Int32) × Int32 × Int32) (r : Int32 × Int32 × (Nat → Int32) × (Nat → Int32) × (Nat → Int32) × (Nat → Int32) × (Nat → Int32) × Int32 × (Nat → Int32) × (Nat → Int32) × (Nat → Int32)), C = some (nI 0, nI c', q) ∧ M = some (nI c', nI 1, nI 1, nI c', r) ∧ c ≤ c' ∧ c' ≤ t)
section P41
variable {N : Nat → Int32} {n : Nat} {th bs ea tk wr er et dp : Int32} {ta kd nu po ln fn gn va kp : Nat → Int32} {pf pg pO nd : Int32} {pw pc px py ps pl ph pn pd pW pF pT pt so le ri : Nat → Int32} {K : Nat → Nat} {sT : Nat → Int32} {vT : Nat → Int64} {t : Nat} {e1 e2 : Int32} {oA : Nat → Nat} {oB oC oD : Nat → Int32} {oE : Int32}
variable {K : Nat → Nat} {t : Nat} {kF kG : Nat → Int32} {sk : Nat → Nat} {sv : Nat → Int32} {s c no : Nat}
theorem OLN_of {k c0 : Nat} {e e0 : Int32 × Int32} {C : Option (Int32 × Int32 × (Nat → Nat) × (Nat → Int32) × (Nat → Int32) × (Nat → Int32) × (Nat → Nat) × (Nat → Int32) × Int32 × Int32)} {M : Option (Int32 × Int32 × Int32 × Int32 × Int32 × Int32 × (Nat → Int32) × (Nat → Int32) × (Nat → Int32) × (Nat → Int32) × (Nat → Int32) × Int32 × (Nat → Int32) × (Nat → Int32) × (Nat → Int32))} (hc : c < c0) (hm : ∀ c', c0 ≤ c' → mkR K kF kG c0 (c' - c0) e0 = mkR K kF kG c (c' - c) e)
    (h : OTL K nu kF kG t c0 s (adn no) no (adA oA no k) (adB oB no (nI (c + 1))) (adB oC no (nI s)) (adB oD no (nI s)) sk sv so le ri e0.1 e0.2 (if no + 1 < 16 then nI (no + 1) else nI 16) (upd pd no (nI k)) pW pF pT pt C M) : OLN K nu kF kG t c s no k oA oB oC oD sk sv so le ri e pd pW pF pT pt C M := by
  rcases h with ⟨c', s', sk', sv', so', le', ri', x, z1, z2, z3, z4, z5, z6, z7, z8⟩ | ⟨c', q, r, z1, z2, z3, z4⟩
  · rw [show ((e0.1, e0.2) : Int32 × Int32) = e0 from rfl, hm c' z3] at z2
    exact Or.inl ⟨c', s', sk', sv', so', le', ri', x, z1, z2, by omega, z4, z5, by omega, z7, z8⟩
  · exact Or.inr ⟨c', q, r, z1, z2, by omega, z4⟩
set_option maxHeartbeats 1000000 in
theorem ol_12 (hn : 1000 < n) (hK : TKO K kd t) (hW : KNW n pf pg ta kd nu po ln fn gn K kF kG t) (hc : c ≤ t) (hs : s ≤ c) (hno : no ≤ 16) (h : K c = 12) : OLN K nu kF kG t c s no 12 oA oB oC oD sk sv so le ri (e4 no c (er, et)) pd pW pF pT pt (f_X3_order n (K, sT, vT, nI (t + 1), nI (c), e1, e2) (oA, oB, oC, oD, sk, sv, nI no, nI s)) (f_X14_order n (nI 12) (th, ta, bs, ea, kd, nu, po, ln, (nI c), (nI 0), er, et, (nI 0), fn, gn, va, N, kp) (pf, pw, pc, px, py, pg, ps, pl, ph, pn, (nI no), pd, pW, pF, pT, pt, (nI s), so, le, ri)) := by
  have h0 := hK.1
  have hlt : c < t := lt_of_K hK hc (by omega)
  rw [co_12 hK hc hno h, mo_12 hn hK hW hc hno h]
  exact OLN_of (c0 := c + 1) (e0 := (e4 no c (er, et))) (by omega) (fun c' q => mkR_1' q (by omega)) (o_tail hn hK hW (by omega) (by omega) adn_pos (adn_le hno) hno ⟨rfl, rfl, rfl, rfl, rfl, rfl⟩)
set_option maxHeartbeats 1000000 in
theorem ol_13 (hn : 1000 < n) (hK : TKO K kd t) (hW : KNW n pf pg ta kd nu po ln fn gn K kF kG t) (hc : c ≤ t) (hs : s ≤ c) (hno : no ≤ 16) (h : K c = 13) : OLN K nu kF kG t c s no 13 oA oB oC oD sk sv so le ri (e4 no c (er, et)) pd pW pF pT pt (f_X3_order n (K, sT, vT, nI (t + 1), nI (c), e1, e2) (oA, oB, oC, oD, sk, sv, nI no, nI s)) (f_X14_order n (nI 13) (th, ta, bs, ea, kd, nu, po, ln, (nI c), (nI 0), er, et, (nI 0), fn, gn, va, N, kp) (pf, pw, pc, px, py, pg, ps, pl, ph, pn, (nI no), pd, pW, pF, pT, pt, (nI s), so, le, ri)) := by
  have h0 := hK.1
  have hlt : c < t := lt_of_K hK hc (by omega)
  rw [co_13 hK hc hno h, mo_13 hn hK hW hc hno h]
  exact OLN_of (c0 := c + 1) (e0 := (e4 no c (er, et))) (by omega) (fun c' q => mkR_1' q (by omega)) (o_tail hn hK hW (by omega) (by omega) adn_pos (adn_le hno) hno ⟨rfl, rfl, rfl, rfl, rfl, rfl⟩)
set_option maxHeartbeats 1000000 in
theorem ol_11 (hn : 1000 < n) (hK : TKO K kd t) (hW : KNW n pf pg ta kd nu po ln fn gn K kF kG t) (hc : c ≤ t) (hs : s ≤ c) (hno : no ≤ 16) (h : K c = 11) (h47 : K (c + 1) = 47) : OLN K nu kF kG t c s no 11 oA oB oC oD sk sv so le ri (e4 no c (er, et)) pd (upd pW no (lFx (kF (c + 1)))) pF pT pt (f_X3_order n (K, sT, vT, nI (t + 1), nI (c), e1, e2) (oA, oB, oC, oD, sk, sv, nI no, nI s)) (f_X14_order n (nI 11) (th, ta, bs, ea, kd, nu, po, ln, (nI c), (nI 0), er, et, (nI 0), fn, gn, va, N, kp) (pf, pw, pc, px, py, pg, ps, pl, ph, pn, (nI no), pd, pW, pF, pT, pt, (nI s), so, le, ri)) := by
  have h0 := hK.1
  have hlt : c < t := lt_of_K hK hc (by omega)
  have hl2 : c + 1 < t := lt_of_K hK (by omega) (by omega)
  rw [co_11 hK hc hno h, mo_11 hn hK hW hc hno h]
  rw [if_pos h47, if_pos h47]
  exact OLN_of (c0 := c + 2) (e0 := (mn (kF (c + 1)) (c + 1) (e4 no c (er, et)))) (by omega) (fun c' q => by rw [mn_11 h]; exact mkR_2 q h47) (o_tail hn hK hW (by omega) (by omega) adn_pos (adn_le hno) hno ⟨rfl, rfl, rfl, rfl, rfl, rfl⟩)
set_option maxHeartbeats 1000000 in
theorem ol_14 (hn : 1000 < n) (hK : TKO K kd t) (hW : KNW n pf pg ta kd nu po ln fn gn K kF kG t) (hc : c ≤ t) (hs : s ≤ c) (hno : no ≤ 16) (h : K c = 14) (h47 : K (c + 1) = 47) : OLN K nu kF kG t c s no 14 oA oB oC oD sk sv so le ri (e4 no c (er, et)) pd (upd pW no (lFx (kG (c + 1)))) pF pT pt (f_X3_order n (K, sT, vT, nI (t + 1), nI (c), e1, e2) (oA, oB, oC, oD, sk, sv, nI no, nI s)) (f_X14_order n (nI 14) (th, ta, bs, ea, kd, nu, po, ln, (nI c), (nI 0), er, et, (nI 0), fn, gn, va, N, kp) (pf, pw, pc, px, py, pg, ps, pl, ph, pn, (nI no), pd, pW, pF, pT, pt, (nI s), so, le, ri)) := by
  have h0 := hK.1
  have hlt : c < t := lt_of_K hK hc (by omega)
  have hl2 : c + 1 < t := lt_of_K hK (by omega) (by omega)
  rw [co_14 hK hc hno h, mo_14 hn hK hW hc hno h]
  rw [if_pos h47, if_pos h47]
  exact OLN_of (c0 := c + 2) (e0 := (mn (kG (c + 1)) (c + 1) (e4 no c (er, et)))) (by omega) (fun c' q => by rw [mn_14 h]; exact mkR_2 q h47) (o_tail hn hK hW (by omega) (by omega) adn_pos (adn_le hno) hno ⟨rfl, rfl, rfl, rfl, rfl, rfl⟩)
end P41
