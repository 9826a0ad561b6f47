/-! over a front's line, a guest's line -/
def eFr (nu : Nat → Int32) (c m : Nat) (o : Option Nat) (A : Int32 × Int32) : Int32 × Int32 := rgE (c + 1 + 8) (nu (c + 1 + 8)) (nI 1) (nI 12) (rgE (c + 1 + 6) (nu (c + 1 + 6)) (nI 0) (nI 60) (rgE (c + 1 + 4) (nu (c + 1 + 4)) (nI 1) (nI 9) (nwE (c + 1) m o A)))
def eGu (nu : Nat → Int32) (c m : Nat) (o : Option Nat) (A : Int32 × Int32) : Int32 × Int32 := rgE (c + 1 + 8) (nu (c + 1 + 8)) (nI 0) (nI 20) (rgE (c + 1 + 6) (nu (c + 1 + 6)) (nu (c + 1 + 4)) (nI 30) (rgE (c + 1 + 4) (nu (c + 1 + 4)) (nI 0) (nI 30) (rgE (c + 1 + 2) (nu (c + 1 + 2)) (nI 0) (nI 60) (nwE (c + 1) m o A))))
theorem eFr_Q {nu : Nat → Int32} {c m : Nat} {o : Option Nat} {A B : Int32 × Int32} (h : EQ2 A B) : EQ2 (eFr nu c m o A) (eFr nu c m o B) := EQ2_rgE (EQ2_rgE (EQ2_rgE (EQ2_nwE h)))
theorem eGu_Q {nu : Nat → Int32} {c m : Nat} {o : Option Nat} {A B : Int32 × Int32} (h : EQ2 A B) : EQ2 (eGu nu c m o A) (eGu nu c m o B) := EQ2_rgE (EQ2_rgE (EQ2_rgE (EQ2_rgE (EQ2_nwE h))))
theorem eFr_err {nu : Nat → Int32} {c m : Nat} {o : Option Nat} {A : Int32 × Int32} (h : A.1 ≠ nI 0) : eFr nu c m o A = A := by
  unfold eFr
  rw [nwE_err h, rgE_err h, rgE_err h, rgE_err h]
theorem eGu_err {nu : Nat → Int32} {c m : Nat} {o : Option Nat} {A : Int32 × Int32} (h : A.1 ≠ nI 0) : eGu nu c m o A = A := by
  unfold eGu
  rw [nwE_err h, rgE_err h, rgE_err h, rgE_err h, rgE_err h]
theorem eFr_J {nu : Nat → Int32} {c m t : Nat} {o : Option Nat} {A : Int32 × Int32} (ht : c + 1 + 9 ≤ t) (h : EJ t A) : EJ t (eFr nu c m o A) := EJ_rgE (EJ_rgE (EJ_rgE (EJ_nwE h (by omega)) (by omega)) (by omega)) (by omega)
theorem eGu_J {nu : Nat → Int32} {c m t : Nat} {o : Option Nat} {A : Int32 × Int32} (ht : c + 1 + 9 ≤ t) (h : EJ t A) : EJ t (eGu nu c m o A) := EJ_rgE (EJ_rgE (EJ_rgE (EJ_rgE (EJ_nwE h (by omega)) (by omega)) (by omega)) (by omega)) (by omega)
theorem eFr_ok {nu : Nat → Int32} {c m : Nat} {o : Option Nat} {A : Int32 × Int32} (h : (eFr nu c m o A).1 = nI 0) : m ≠ 10 ∧ (¬ nu (c + 1 + 4) < nI 1 ∧ ¬ nI 9 < nu (c + 1 + 4)) ∧ (¬ nu (c + 1 + 6) < nI 0 ∧ ¬ nI 60 < nu (c + 1 + 6)) ∧ (¬ nu (c + 1 + 8) < nI 1 ∧ ¬ nI 12 < nu (c + 1 + 8)) := by
  obtain ⟨h, r8⟩ := rgE_ok h
  obtain ⟨h, r6⟩ := rgE_ok h
  obtain ⟨h, r4⟩ := rgE_ok h
  exact ⟨(nwE_ok h).2, r4, r6, r8⟩
theorem eGu_ok {nu : Nat → Int32} {c m : Nat} {o : Option Nat} {A : Int32 × Int32} (h : (eGu nu c m o A).1 = nI 0) : m ≠ 10 ∧ (¬ nu (c + 1 + 2) < nI 0 ∧ ¬ nI 60 < nu (c + 1 + 2)) := by
  obtain ⟨h, -⟩ := rgE_ok h
  obtain ⟨h, -⟩ := rgE_ok h
  obtain ⟨h, -⟩ := rgE_ok h
  obtain ⟨h, r2⟩ := rgE_ok h
  exact ⟨(nwE_ok h).2, r2⟩
theorem FRk_congr {F F' : bX2} {T T' : bX13} {k : Nat} (e1 : X2_warm F' k = X2_warm F k) (e2 : X2_force F' k = X2_force F k) (e3 : X2_from F' k = X2_from F k) (e4 : X2_hours F' k = X2_hours F k) (g1 : X13_warm T' k = X13_warm T k) (g2 : X13_force T' k = X13_force T k) (g3 : X13_comes T' k = X13_comes T k) (g4 : X13_stays T' k = X13_stays T k) (h : FRk F T k) : FRk F' T' k := by
  unfold FRk
  rw [e1, e2, e3, e4, g1, g2, g3, g4]
  exact h
theorem GRk_congr {F F' : bX4} {T T' : bX13} {k : Nat} (e1 : X4_from F' k = X4_from F k) (e2 : X4_weakest F' k = X4_weakest F k) (e3 : X4_strongest F' k = X4_strongest F k) (e4 : X4_nerve F' k = X4_nerve F k) (g1 : X13_sits T' k = X13_sits T k) (g2 : X13_low T' k = X13_low T k) (g3 : X13_high T' k = X13_high T k) (g4 : X13_nerve T' k = X13_nerve T k) (h : GRk F T k) : GRk F' T' k := by
  unfold GRk
  rw [e1, e2, e3, e4, g1, g2, g3, g4]
  exact h
theorem kfn_grow {vT : Nat → Int64} {a a' : Nat → Nat} {m m' j : Nat} (hm : m ≤ m') (ha : ∀ k, k < m → a' k = a k) (h : kfn vT a m j ≠ -nI 1) : kfn vT a' m' j = kfn vT a m j := by
  unfold kfn at h ⊢
  cases q : fnd (fun k => decide (vT (a k) = vT j)) m with
  | none =>
    rw [q] at h
    exact absurd rfl h
  | some k =>
    have q2 : fnd (fun k => decide (vT (a' k) = vT j)) m = some k := by
      rw [← q]
      exact fnd_congr (fun i hi => by rw [ha i hi])
    rw [fnd_mono q2 hm]
theorem vp_same (f : Nat → Int64) (k : Nat) (x : Int64) : vp_updL f k x k = x := if_pos rfl
theorem vp_else (f : Nat → Int64) {k j : Nat} (x : Int64) (h : j ≠ k) : vp_updL f k x j = f j := if_neg h
section P53
variable {n : Nat} {pf pg pO nd : Int32} {pw pc px py ps pl ph pn pd pW pF pT pt so le ri : Nat → Int32} {K : Nat → Nat} {sT : Nat → Int32} {vT : Nat → Int64} {t : Nat} {e1 e2 : Int32} {oA : Nat → Nat} {oB oC oD : Nat → Int32} {oE : Int32}
variable {kd nu fn gn : Nat → Int32} {er et : Int32} {s c no m g w i : Nat} {a b : Nat → Nat} {cu eB : Int32} {B1 : bX2} {B2 : bX4} {V : Nat → Int64} {F : bX2} {G : bX4} {O : bX6} {E : Int32 × Int32}
theorem ck_pls (ht : t ≤ 400) (hn : 1000 < n) (hi : i ≤ t) (hk : K i < 51 ∧ K i ≠ 0 ∧ K i ≠ 7 ∧ K i ≠ 11 ∧ K i ≠ 12 ∧ K i ≠ 13 ∧ K i ≠ 14 ∧ K i ≠ 23 ∧ K i ≠ 24 ∧ K i ≠ 25 ∧ K i ≠ 26) (h : CKX n K sT vT t cu eB B1 B2 E w i V F G) : CKX n K sT vT t cu eB B1 B2 E w (i + 1) V F G := by
  rcases h with ⟨q1, q2⟩ | h
  · exact Or.inl ⟨q1, ck_pl ht hi hn hk q2⟩
  · exact Or.inr h
set_option maxHeartbeats 1000000 in
theorem ckl_front_lt (hK : TKO K kd t) (hn : 1000 < n) (hnu : ∀ j, j < t → K j = 48 → (vT j).toInt32 = nu j) (hl : c + 1 + 9 ≤ t) (h : K c = 0) (h0 : K (c + 1) = 47) (h1 : K (c + 1 + 1) = 1) (h2 : (K (c + 1 + 2) = 2 ∨ K (c + 1 + 2) = 3)) (h3 : K (c + 1 + 3) = 6) (h4 : K (c + 1 + 4) = 48) (h5 : K (c + 1 + 5) = 4) (h6 : K (c + 1 + 6) = 48) (h7 : K (c + 1 + 7) = 5) (h8 : K (c + 1 + 8) = 48) (h9 : K (c + 1 + 9) = 36) (hm : m < 10) (hN : NMS vT a b m g F G) (hV : ∀ j, c ≤ j → V j = vT j) {E2 : Int32} (hA : CKA n K sT vT t cu eB B1 B2 w c V E2 F G) : CKX n K sT vT t cu eB B1 B2 (eFr nu c m (fnd (fun k => decide (vT (a k) = vT (c + 1))) m) (nI 0, E2)) w (c + 1 + 9 + 1) V (vp_updL F.1 m (V (c + 1)), upd F.2.1 m (if K (c + 1 + 2) = 2 then nI 1 else nI 0), upd F.2.2.1 m (nu (c + 1 + 4)), upd F.2.2.2.1 m (nu (c + 1 + 6)), upd F.2.2.2.2.1 m (nu (c + 1 + 8)), nI (m + 1)) G := by
  have h0' := hK.1
  have hlt : c + 1 + 9 < t := lt_of_K hK hl (by omega)
  have hc := cs_front (n := n) (K := K) (sT := sT) (V := V) (vT := vT) (cu := cu) (e2 := E2) (oi := nI w) (F := F) (G := G) (eA := nI 0) (eB := eB) (B1 := B1) (B2 := B2) h0' (i := c) (by omega) (by omega) hm hN.2.2.1 h (by rcases h2 with q | q <;> omega)
  have v4 : Int64.toInt32 (V (c + 1 + 4)) = nu (c + 1 + 4) := by rw [hV _ (by omega), hnu _ (by omega) (by omega)]
  have v6 : Int64.toInt32 (V (c + 1 + 6)) = nu (c + 1 + 6) := by rw [hV _ (by omega), hnu _ (by omega) (by omega)]
  have v8 : Int64.toInt32 (V (c + 1 + 8)) = nu (c + 1 + 8) := by rw [hV _ (by omega), hnu _ (by omega) (by omega)]
  rw [v4, v6, v8, fn_F hN (hV _ (by omega))] at hc
  have hx : CKX n K sT vT t cu eB B1 B2 (eFr nu c m (fnd (fun k => decide (vT (a k) = vT (c + 1))) m) (nI 0, E2)) w (c + 1) V (vp_updL F.1 m (V (c + 1)), upd F.2.1 m (if K (c + 1 + 2) = 2 then nI 1 else nI 0), upd F.2.2.1 m (nu (c + 1 + 4)), upd F.2.2.2.1 m (nu (c + 1 + 6)), upd F.2.2.2.2.1 m (nu (c + 1 + 8)), nI (m + 1)) G := ck_x hA (by omega) hc
  have hx := ck_pls (i := c + 1) h0' hn (by omega) (by omega) hx
  have hx := ck_pls (i := c + 1 + 1) h0' hn (by omega) (by omega) hx
  have hx := ck_pls (i := c + 1 + 2) h0' hn (by omega) (by rcases h2 with q | q <;> omega) hx
  have hx := ck_pls (i := c + 1 + 3) h0' hn (by omega) (by omega) hx
  have hx := ck_pls (i := c + 1 + 4) h0' hn (by omega) (by omega) hx
  have hx := ck_pls (i := c + 1 + 5) h0' hn (by omega) (by omega) hx
  have hx := ck_pls (i := c + 1 + 6) h0' hn (by omega) (by omega) hx
  have hx := ck_pls (i := c + 1 + 7) h0' hn (by omega) (by omega) hx
  have hx := ck_pls (i := c + 1 + 8) h0' hn (by omega) (by omega) hx
  have hx := ck_pls (i := c + 1 + 9) h0' hn (by omega) (by omega) hx
  exact hx
set_option maxHeartbeats 1000000 in
theorem ckl_front_10 (hK : TKO K kd t) (hn : 1000 < n) (hnu : ∀ j, j < t → K j = 48 → (vT j).toInt32 = nu j) (hl : c + 1 + 9 ≤ t) (h : K c = 0) (h0 : K (c + 1) = 47) (h1 : K (c + 1 + 1) = 1) (h2 : (K (c + 1 + 2) = 2 ∨ K (c + 1 + 2) = 3)) (h3 : K (c + 1 + 3) = 6) (h4 : K (c + 1 + 4) = 48) (h5 : K (c + 1 + 5) = 4) (h6 : K (c + 1 + 6) = 48) (h7 : K (c + 1 + 7) = 5) (h8 : K (c + 1 + 8) = 48) (h9 : K (c + 1 + 9) = 36) (hm : m = 10) (hN : NMS vT a b m g F G) (hV : ∀ j, c ≤ j → V j = vT j) {E2 : Int32} (hA : CKA n K sT vT t cu eB B1 B2 w c V E2 F G) : CKX n K sT vT t cu eB B1 B2 (eFr nu c m (fnd (fun k => decide (vT (a k) = vT (c + 1))) m) (nI 0, E2)) w (c + 1 + 9 + 1) V F G := by
  have h0' := hK.1
  have hlt : c + 1 + 9 < t := lt_of_K hK hl (by omega)
  have hc := cs_front10 (n := n) (K := K) (sT := sT) (V := V) (vT := vT) (cu := cu) (e2 := E2) (oi := nI w) (F := F) (G := G) (eA := nI 0) (eB := eB) (B1 := B1) (B2 := B2) h0' (i := c) (by omega) (by omega) hm hN.2.2.1 h (by rcases h2 with q | q <;> omega)
  have v4 : Int64.toInt32 (V (c + 1 + 4)) = nu (c + 1 + 4) := by rw [hV _ (by omega), hnu _ (by omega) (by omega)]
  have v6 : Int64.toInt32 (V (c + 1 + 6)) = nu (c + 1 + 6) := by rw [hV _ (by omega), hnu _ (by omega) (by omega)]
  have v8 : Int64.toInt32 (V (c + 1 + 8)) = nu (c + 1 + 8) := by rw [hV _ (by omega), hnu _ (by omega) (by omega)]
  rw [v4, v6, v8, fn_F hN (hV _ (by omega))] at hc
  have hx : CKX n K sT vT t cu eB B1 B2 (eFr nu c m (fnd (fun k => decide (vT (a k) = vT (c + 1))) m) (nI 0, E2)) w (c + 1) V F G := ck_x hA (by omega) hc
  have hx := ck_pls (i := c + 1) h0' hn (by omega) (by omega) hx
  have hx := ck_pls (i := c + 1 + 1) h0' hn (by omega) (by omega) hx
  have hx := ck_pls (i := c + 1 + 2) h0' hn (by omega) (by rcases h2 with q | q <;> omega) hx
  have hx := ck_pls (i := c + 1 + 3) h0' hn (by omega) (by omega) hx
  have hx := ck_pls (i := c + 1 + 4) h0' hn (by omega) (by omega) hx
  have hx := ck_pls (i := c + 1 + 5) h0' hn (by omega) (by omega) hx
  have hx := ck_pls (i := c + 1 + 6) h0' hn (by omega) (by omega) hx
  have hx := ck_pls (i := c + 1 + 7) h0' hn (by omega) (by omega) hx
  have hx := ck_pls (i := c + 1 + 8) h0' hn (by omega) (by omega) hx
  have hx := ck_pls (i := c + 1 + 9) h0' hn (by omega) (by omega) hx
  exact hx
set_option maxHeartbeats 1000000 in
theorem iv_front (hK : TKO K kd t) (hn : 1000 < n) (hnu : ∀ j, j < t → K j = 48 → (vT j).toInt32 = nu j) (hl : c + 1 + 9 ≤ t) (h : K c = 0) (h0 : K (c + 1) = 47) (h1 : K (c + 1 + 1) = 1) (h2 : (K (c + 1 + 2) = 2 ∨ K (c + 1 + 2) = 3)) (h3 : K (c + 1 + 3) = 6) (h4 : K (c + 1 + 4) = 48) (h5 : K (c + 1 + 5) = 4) (h6 : K (c + 1 + 6) = 48) (h7 : K (c + 1 + 7) = 5) (h8 : K (c + 1 + 8) = 48) (h9 : K (c + 1 + 9) = 36) (hI : IV n K sT vT t cu eB B1 B2 a b c s no m g fn gn er et O (nI m, pw, pc, px, py, nI g, ps, pl, ph, pn, nI no, pd, pW, pF, pT, pt, nI s, so, le, ri)) : ∃ a' : Nat → Nat, IV n K sT vT t cu eB B1 B2 a' b (c + 1 + 9 + 1) s no (min 10 (m + 1)) g (if m = 10 then fn else upd fn m (nI (c + 1))) gn (eFr nu c m (fnd (fun k => decide (vT (a k) = vT (c + 1))) m) (er, et)).1 (eFr nu c m (fnd (fun k => decide (vT (a k) = vT (c + 1))) m) (er, et)).2 O (nI (min 10 (m + 1)), upd pw m (if K (c + 1 + 2) = 2 then nI 1 else nI 0), upd pc m (nu (c + 1 + 4)), upd px m (nu (c + 1 + 6)), upd py m (nu (c + 1 + 8)), nI g, ps, pl, ph, pn, nI no, pd, pW, pF, pT, pt, nI s, so, le, ri) := by
  obtain ⟨i1, i2, i3, i4, i5, i6, i7, hE⟩ := hI
  have h0' := hK.1
  have hlt : c + 1 + 9 < t := lt_of_K hK hl (by omega)
  have hq : ∀ E2, er = nI 0 → EQ2 (eFr nu c m (fnd (fun k => decide (vT (a k) = vT (c + 1))) m) (er, et)) (eFr nu c m (fnd (fun k => decide (vT (a k) = vT (c + 1))) m) (nI 0, E2)) := fun E2 q0 => eFr_Q ⟨q0, fun z => absurd q0 z⟩
  have hJ : er = nI 0 → EJ t (eFr nu c m (fnd (fun k => decide (vT (a k) = vT (c + 1))) m) (er, et)) := fun q0 => eFr_J (by omega) (Or.inl q0)
  by_cases hm : m = 10
  · have e1 : min 10 (m + 1) = m := by omega
    rw [e1, if_pos hm]
    refine ⟨a, by omega, by omega, i3, i4, i5, i6, i7, ?_⟩
    rcases hE with ⟨q0, V, e2', F, G, z1, z2, z3, z4, z5, z6, z7, z8⟩ | ⟨q0, z⟩
    · rcases ckl_front_10 hK hn hnu hl h h0 h1 h2 h3 h4 h5 h6 h7 h8 h9 hm z2 z3 z1 with ⟨y1, y2⟩ | ⟨y1, y2⟩
      · exact absurd hm (eFr_ok y1).1
      · have y3 : (eFr nu c m (fnd (fun k => decide (vT (a k) = vT (c + 1))) m) (er, et)).1 ≠ nI 0 := by rw [(hq e2' q0).1]; exact y1
        refine Or.inr ⟨y3, ?_⟩
        rw [← (hq e2' q0).2 y3] at y2
        exact ⟨y2, ((hJ q0).resolve_left y3)⟩
    · rw [show (eFr nu c m (fnd (fun k => decide (vT (a k) = vT (c + 1))) m) (er, et)) = (er, et) from eFr_err (A := (er, et)) q0]
      exact Or.inr ⟨q0, z⟩
  · have hm' : m < 10 := by omega
    have e1 : min 10 (m + 1) = m + 1 := by omega
    rw [e1, if_neg hm]
    have hnew : ∀ k, k < m + 1 → upd fn m (nI (c + 1)) k = nI ((va_up a m (c + 1)) k) ∧ (va_up a m (c + 1)) k < t ∧ K ((va_up a m (c + 1)) k) = 47 := by
      intro k hk
      by_cases e : k = m
      · rw [e, upd_same, va_up_same]
        exact ⟨rfl, by omega, h0⟩
      · rw [upd_else _ _ e, va_up_else _ _ e]
        exact i6 k (by omega)
    refine ⟨(va_up a m (c + 1)), by omega, by omega, i3, by omega, i5, hnew, i7, ?_⟩
    rcases hE with ⟨q0, V, e2', F, G, z1, z2, z3, z4, z5, z6, z7, z8⟩ | ⟨q0, z⟩
    case inr =>
      rw [show (eFr nu c m (fnd (fun k => decide (vT (a k) = vT (c + 1))) m) (er, et)) = (er, et) from eFr_err (A := (er, et)) q0]
      exact Or.inr ⟨q0, z⟩
    rcases ckl_front_lt hK hn hnu hl h h0 h1 h2 h3 h4 h5 h6 h7 h8 h9 hm' z2 z3 z1 with ⟨y1, y2⟩ | ⟨y1, y2⟩
    case inr =>
      have y3 : (eFr nu c m (fnd (fun k => decide (vT (a k) = vT (c + 1))) m) (er, et)).1 ≠ nI 0 := by rw [(hq e2' q0).1]; exact y1
      refine Or.inr ⟨y3, ?_⟩
      rw [← (hq e2' q0).2 y3] at y2
      exact ⟨y2, ((hJ q0).resolve_left y3)⟩
    have y3 : (eFr nu c m (fnd (fun k => decide (vT (a k) = vT (c + 1))) m) (er, et)).1 = nI 0 := (hq e2' q0).1.trans y1
    obtain ⟨n1, n2, n3, n4, n5, n6⟩ := z2
    have hk11 : ∀ j, c ≤ j → j < c + 1 + 9 + 1 → ¬ (K j = 11 ∨ K j = 24 ∨ K j = 26) ∧ ¬ (K j = 14 ∨ K j = 23 ∨ K j = 25) := by
      intro j p q
      rcases (show j = c ∨ j = c + 1 ∨ j = c + 1 + 1 ∨ j = c + 1 + 2 ∨ j = c + 1 + 3 ∨ j = c + 1 + 4 ∨ j = c + 1 + 5 ∨ j = c + 1 + 6 ∨ j = c + 1 + 7 ∨ j = c + 1 + 8 ∨ j = c + 1 + 9 by omega) with e | e | e | e | e | e | e | e | e | e | e <;> rw [e] <;> omega
    have hR : RFS K vT (va_up a m (c + 1)) b (m + 1) g (c + 1 + 9 + 1) V := by
      intro j hj
      rcases Nat.lt_or_ge j c with p | p
      · obtain ⟨r1, r2⟩ := z5 j p
        refine ⟨fun q => ?_, r2⟩
        obtain ⟨r3, r4⟩ := r1 q
        have e := kfn_grow (a' := (va_up a m (c + 1))) (m' := m + 1) (Nat.le_succ m) (fun k hk => va_up_else _ _ (by omega)) r4
        rw [e]
        exact ⟨r3, r4⟩
      · exact ⟨fun q => absurd q (hk11 j p hj).1, fun q => absurd q (hk11 j p hj).2⟩
    obtain ⟨-, b4, b6, b8⟩ := eFr_ok y3
    refine Or.inl ⟨y3, V, _, (vp_updL F.1 m (V (c + 1)), upd F.2.1 m (if K (c + 1 + 2) = 2 then nI 1 else nI 0), upd F.2.2.1 m (nu (c + 1 + 4)), upd F.2.2.2.1 m (nu (c + 1 + 6)), upd F.2.2.2.2.1 m (nu (c + 1 + 8)), nI (m + 1)), G, y2, ⟨by omega, n2, rfl, n4, ?_, n6⟩, fun j hj => z3 j (by omega), z4, hR, ?_, ?_, fun k hk => ORk_mono (Nat.le_succ m) (Nat.le_refl _) (by omega) (Nat.le_refl _) (fun j _ => rfl) rfl rfl rfl rfl rfl rfl rfl rfl rfl (fun i _ => ⟨rfl, rfl, rfl, rfl, rfl⟩) (z8 k hk)⟩
    · intro k hk
      by_cases e : k = m
      · rw [e, va_up_same]
        exact (vp_same _ _ _).trans (z3 _ (by omega))
      · rw [va_up_else _ _ e]
        refine (vp_else _ _ e).trans ?_
        exact n5 k (by omega)
    · intro k hk
      by_cases e : k = m
      · rw [e]
        have w : ((if K (c + 1 + 2) = 2 then nI 1 else nI 0) : Int32) = nI 0 ∨ ((if K (c + 1 + 2) = 2 then nI 1 else nI 0) : Int32) = nI 1 := by
          by_cases q : K (c + 1 + 2) = 2
          · exact Or.inr (if_pos q)
          · exact Or.inl (if_neg q)
        have u1 : ∀ (f : Nat → Int32) (x : Int32), upd f m x m = x := fun f x => upd_same f m x
        unfold FRk
        refine ⟨?_, (u1 _ _).trans (u1 _ _).symm, (u1 _ _).trans (u1 _ _).symm, ?_, (u1 _ _).trans (u1 _ _).symm, ?_, (u1 _ _).trans (u1 _ _).symm, ?_⟩
        · rw [show X2_warm (vp_updL F.1 m (V (c + 1)), upd F.2.1 m (if K (c + 1 + 2) = 2 then nI 1 else nI 0), upd F.2.2.1 m (nu (c + 1 + 4)), upd F.2.2.2.1 m (nu (c + 1 + 6)), upd F.2.2.2.2.1 m (nu (c + 1 + 8)), nI (m + 1)) m = _ from u1 _ _]; exact w
        · rw [show X2_force (vp_updL F.1 m (V (c + 1)), upd F.2.1 m (if K (c + 1 + 2) = 2 then nI 1 else nI 0), upd F.2.2.1 m (nu (c + 1 + 4)), upd F.2.2.2.1 m (nu (c + 1 + 6)), upd F.2.2.2.2.1 m (nu (c + 1 + 8)), nI (m + 1)) m = _ from u1 _ _]; exact b4
        · rw [show X2_from (vp_updL F.1 m (V (c + 1)), upd F.2.1 m (if K (c + 1 + 2) = 2 then nI 1 else nI 0), upd F.2.2.1 m (nu (c + 1 + 4)), upd F.2.2.2.1 m (nu (c + 1 + 6)), upd F.2.2.2.2.1 m (nu (c + 1 + 8)), nI (m + 1)) m = _ from u1 _ _]; exact b6
        · rw [show X2_hours (vp_updL F.1 m (V (c + 1)), upd F.2.1 m (if K (c + 1 + 2) = 2 then nI 1 else nI 0), upd F.2.2.1 m (nu (c + 1 + 4)), upd F.2.2.2.1 m (nu (c + 1 + 6)), upd F.2.2.2.2.1 m (nu (c + 1 + 8)), nI (m + 1)) m = _ from u1 _ _]; exact b8
      · exact FRk_congr (upd_else _ _ e) (upd_else _ _ e) (upd_else _ _ e) (upd_else _ _ e) (upd_else _ _ e) (upd_else _ _ e) (upd_else _ _ e) (upd_else _ _ e) (z6 k (by omega))
    · exact fun k hk => GRk_congr rfl rfl rfl rfl rfl rfl rfl rfl (z7 k hk)
set_option maxHeartbeats 1000000 in
theorem ckl_guest_lt (hK : TKO K kd t) (hn : 1000 < n) (hnu : ∀ j, j < t → K j = 48 → (vT j).toInt32 = nu j) (hl : c + 1 + 9 ≤ t) (h : K c = 7) (h0 : K (c + 1) = 47) (h1 : K (c + 1 + 1) = 4) (h2 : K (c + 1 + 2) = 48) (h3 : K (c + 1 + 3) = 8) (h4 : K (c + 1 + 4) = 48) (h5 : K (c + 1 + 5) = 9) (h6 : K (c + 1 + 6) = 48) (h7 : K (c + 1 + 7) = 10) (h8 : K (c + 1 + 8) = 48) (h9 : K (c + 1 + 9) = 36) (hm : g < 10) (hN : NMS vT a b m g F G) (hV : ∀ j, c ≤ j → V j = vT j) {E2 : Int32} (hA : CKA n K sT vT t cu eB B1 B2 w c V E2 F G) : CKX n K sT vT t cu eB B1 B2 (eGu nu c g (fnd (fun k => decide (vT (b k) = vT (c + 1))) g) (nI 0, E2)) w (c + 1 + 9 + 1) V F (vp_updL G.1 g (V (c + 1)), upd G.2.1 g (nu (c + 1 + 2)), upd G.2.2.1 g (nu (c + 1 + 4)), upd G.2.2.2.1 g (nu (c + 1 + 6)), upd G.2.2.2.2.1 g (nu (c + 1 + 8)), nI (g + 1)) := by
  have h0' := hK.1
  have hlt : c + 1 + 9 < t := lt_of_K hK hl (by omega)
  have hc := cs_guest (n := n) (K := K) (sT := sT) (V := V) (vT := vT) (cu := cu) (e2 := E2) (oi := nI w) (F := F) (G := G) (eA := nI 0) (eB := eB) (B1 := B1) (B2 := B2) h0' (i := c) (by omega) (by omega) hm hN.2.2.2.1 h
  have v2 : Int64.toInt32 (V (c + 1 + 2)) = nu (c + 1 + 2) := by rw [hV _ (by omega), hnu _ (by omega) (by omega)]
  have v4 : Int64.toInt32 (V (c + 1 + 4)) = nu (c + 1 + 4) := by rw [hV _ (by omega), hnu _ (by omega) (by omega)]
  have v6 : Int64.toInt32 (V (c + 1 + 6)) = nu (c + 1 + 6) := by rw [hV _ (by omega), hnu _ (by omega) (by omega)]
  have v8 : Int64.toInt32 (V (c + 1 + 8)) = nu (c + 1 + 8) := by rw [hV _ (by omega), hnu _ (by omega) (by omega)]
  rw [v2, v4, v6, v8, fn_G hN (hV _ (by omega))] at hc
  have hx : CKX n K sT vT t cu eB B1 B2 (eGu nu c g (fnd (fun k => decide (vT (b k) = vT (c + 1))) g) (nI 0, E2)) w (c + 1) V F (vp_updL G.1 g (V (c + 1)), upd G.2.1 g (nu (c + 1 + 2)), upd G.2.2.1 g (nu (c + 1 + 4)), upd G.2.2.2.1 g (nu (c + 1 + 6)), upd G.2.2.2.2.1 g (nu (c + 1 + 8)), nI (g + 1)) := ck_x hA (by omega) hc
  have hx := ck_pls (i := c + 1) h0' hn (by omega) (by omega) hx
  have hx := ck_pls (i := c + 1 + 1) h0' hn (by omega) (by omega) hx
  have hx := ck_pls (i := c + 1 + 2) h0' hn (by omega) (by omega) hx
  have hx := ck_pls (i := c + 1 + 3) h0' hn (by omega) (by omega) hx
  have hx := ck_pls (i := c + 1 + 4) h0' hn (by omega) (by omega) hx
  have hx := ck_pls (i := c + 1 + 5) h0' hn (by omega) (by omega) hx
  have hx := ck_pls (i := c + 1 + 6) h0' hn (by omega) (by omega) hx
  have hx := ck_pls (i := c + 1 + 7) h0' hn (by omega) (by omega) hx
  have hx := ck_pls (i := c + 1 + 8) h0' hn (by omega) (by omega) hx
  have hx := ck_pls (i := c + 1 + 9) h0' hn (by omega) (by omega) hx
  exact hx
set_option maxHeartbeats 1000000 in
theorem ckl_guest_10 (hK : TKO K kd t) (hn : 1000 < n) (hnu : ∀ j, j < t → K j = 48 → (vT j).toInt32 = nu j) (hl : c + 1 + 9 ≤ t) (h : K c = 7) (h0 : K (c + 1) = 47) (h1 : K (c + 1 + 1) = 4) (h2 : K (c + 1 + 2) = 48) (h3 : K (c + 1 + 3) = 8) (h4 : K (c + 1 + 4) = 48) (h5 : K (c + 1 + 5) = 9) (h6 : K (c + 1 + 6) = 48) (h7 : K (c + 1 + 7) = 10) (h8 : K (c + 1 + 8) = 48) (h9 : K (c + 1 + 9) = 36) (hm : g = 10) (hN : NMS vT a b m g F G) (hV : ∀ j, c ≤ j → V j = vT j) {E2 : Int32} (hA : CKA n K sT vT t cu eB B1 B2 w c V E2 F G) : CKX n K sT vT t cu eB B1 B2 (eGu nu c g (fnd (fun k => decide (vT (b k) = vT (c + 1))) g) (nI 0, E2)) w (c + 1 + 9 + 1) V F G := by
  have h0' := hK.1
  have hlt : c + 1 + 9 < t := lt_of_K hK hl (by omega)
  have hc := cs_guest10 (n := n) (K := K) (sT := sT) (V := V) (vT := vT) (cu := cu) (e2 := E2) (oi := nI w) (F := F) (G := G) (eA := nI 0) (eB := eB) (B1 := B1) (B2 := B2) h0' (i := c) (by omega) (by omega) hm hN.2.2.2.1 h
  have v2 : Int64.toInt32 (V (c + 1 + 2)) = nu (c + 1 + 2) := by rw [hV _ (by omega), hnu _ (by omega) (by omega)]
  have v4 : Int64.toInt32 (V (c + 1 + 4)) = nu (c + 1 + 4) := by rw [hV _ (by omega), hnu _ (by omega) (by omega)]
  have v6 : Int64.toInt32 (V (c + 1 + 6)) = nu (c + 1 + 6) := by rw [hV _ (by omega), hnu _ (by omega) (by omega)]
  have v8 : Int64.toInt32 (V (c + 1 + 8)) = nu (c + 1 + 8) := by rw [hV _ (by omega), hnu _ (by omega) (by omega)]
  rw [v2, v4, v6, v8, fn_G hN (hV _ (by omega))] at hc
  have hx : CKX n K sT vT t cu eB B1 B2 (eGu nu c g (fnd (fun k => decide (vT (b k) = vT (c + 1))) g) (nI 0, E2)) w (c + 1) V F G := ck_x hA (by omega) hc
  have hx := ck_pls (i := c + 1) h0' hn (by omega) (by omega) hx
  have hx := ck_pls (i := c + 1 + 1) h0' hn (by omega) (by omega) hx
  have hx := ck_pls (i := c + 1 + 2) h0' hn (by omega) (by omega) hx
  have hx := ck_pls (i := c + 1 + 3) h0' hn (by omega) (by omega) hx
  have hx := ck_pls (i := c + 1 + 4) h0' hn (by omega) (by omega) hx
  have hx := ck_pls (i := c + 1 + 5) h0' hn (by omega) (by omega) hx
  have hx := ck_pls (i := c + 1 + 6) h0' hn (by omega) (by omega) hx
  have hx := ck_pls (i := c + 1 + 7) h0' hn (by omega) (by omega) hx
  have hx := ck_pls (i := c + 1 + 8) h0' hn (by omega) (by omega) hx
  have hx := ck_pls (i := c + 1 + 9) h0' hn (by omega) (by omega) hx
  exact hx
set_option maxHeartbeats 1000000 in
theorem iv_guest (hK : TKO K kd t) (hn : 1000 < n) (hnu : ∀ j, j < t → K j = 48 → (vT j).toInt32 = nu j) (hl : c + 1 + 9 ≤ t) (h : K c = 7) (h0 : K (c + 1) = 47) (h1 : K (c + 1 + 1) = 4) (h2 : K (c + 1 + 2) = 48) (h3 : K (c + 1 + 3) = 8) (h4 : K (c + 1 + 4) = 48) (h5 : K (c + 1 + 5) = 9) (h6 : K (c + 1 + 6) = 48) (h7 : K (c + 1 + 7) = 10) (h8 : K (c + 1 + 8) = 48) (h9 : K (c + 1 + 9) = 36) (hI : IV n K sT vT t cu eB B1 B2 a b c s no m g fn gn er et O (nI m, pw, pc, px, py, nI g, ps, pl, ph, pn, nI no, pd, pW, pF, pT, pt, nI s, so, le, ri)) : ∃ b' : Nat → Nat, IV n K sT vT t cu eB B1 B2 a b' (c + 1 + 9 + 1) s no m (min 10 (g + 1)) fn (if g = 10 then gn else upd gn g (nI (c + 1))) (eGu nu c g (fnd (fun k => decide (vT (b k) = vT (c + 1))) g) (er, et)).1 (eGu nu c g (fnd (fun k => decide (vT (b k) = vT (c + 1))) g) (er, et)).2 O (nI m, pw, pc, px, py, nI (min 10 (g + 1)), upd ps g (nu (c + 1 + 2)), upd pl g (nu (c + 1 + 4)), upd ph g (nu (c + 1 + 6)), upd pn g (nu (c + 1 + 8)), nI no, pd, pW, pF, pT, pt, nI s, so, le, ri) := by
  obtain ⟨i1, i2, i3, i4, i5, i6, i7, hE⟩ := hI
  have h0' := hK.1
  have hlt : c + 1 + 9 < t := lt_of_K hK hl (by omega)
  have hq : ∀ E2, er = nI 0 → EQ2 (eGu nu c g (fnd (fun k => decide (vT (b k) = vT (c + 1))) g) (er, et)) (eGu nu c g (fnd (fun k => decide (vT (b k) = vT (c + 1))) g) (nI 0, E2)) := fun E2 q0 => eGu_Q ⟨q0, fun z => absurd q0 z⟩
  have hJ : er = nI 0 → EJ t (eGu nu c g (fnd (fun k => decide (vT (b k) = vT (c + 1))) g) (er, et)) := fun q0 => eGu_J (by omega) (Or.inl q0)
  by_cases hm : g = 10
  · have e1 : min 10 (g + 1) = g := by omega
    rw [e1, if_pos hm]
    refine ⟨b, by omega, by omega, i3, i4, i5, i6, i7, ?_⟩
    rcases hE with ⟨q0, V, e2', F, G, z1, z2, z3, z4, z5, z6, z7, z8⟩ | ⟨q0, z⟩
    · rcases ckl_guest_10 hK hn hnu hl h h0 h1 h2 h3 h4 h5 h6 h7 h8 h9 hm z2 z3 z1 with ⟨y1, y2⟩ | ⟨y1, y2⟩
      · exact absurd hm (eGu_ok y1).1
      · have y3 : (eGu nu c g (fnd (fun k => decide (vT (b k) = vT (c + 1))) g) (er, et)).1 ≠ nI 0 := by rw [(hq e2' q0).1]; exact y1
        refine Or.inr ⟨y3, ?_⟩
        rw [← (hq e2' q0).2 y3] at y2
        exact ⟨y2, ((hJ q0).resolve_left y3)⟩
    · rw [show (eGu nu c g (fnd (fun k => decide (vT (b k) = vT (c + 1))) g) (er, et)) = (er, et) from eGu_err (A := (er, et)) q0]
      exact Or.inr ⟨q0, z⟩
  · have hm' : g < 10 := by omega
    have e1 : min 10 (g + 1) = g + 1 := by omega
    rw [e1, if_neg hm]
    have hnew : ∀ k, k < g + 1 → upd gn g (nI (c + 1)) k = nI ((va_up b g (c + 1)) k) ∧ (va_up b g (c + 1)) k < t ∧ K ((va_up b g (c + 1)) k) = 47 := by
      intro k hk
      by_cases e : k = g
      · rw [e, upd_same, va_up_same]
        exact ⟨rfl, by omega, h0⟩
      · rw [upd_else _ _ e, va_up_else _ _ e]
        exact i7 k (by omega)
    refine ⟨(va_up b g (c + 1)), by omega, by omega, i3, i4, by omega, i6, hnew, ?_⟩
    rcases hE with ⟨q0, V, e2', F, G, z1, z2, z3, z4, z5, z6, z7, z8⟩ | ⟨q0, z⟩
    case inr =>
      rw [show (eGu nu c g (fnd (fun k => decide (vT (b k) = vT (c + 1))) g) (er, et)) = (er, et) from eGu_err (A := (er, et)) q0]
      exact Or.inr ⟨q0, z⟩
    rcases ckl_guest_lt hK hn hnu hl h h0 h1 h2 h3 h4 h5 h6 h7 h8 h9 hm' z2 z3 z1 with ⟨y1, y2⟩ | ⟨y1, y2⟩
    case inr =>
      have y3 : (eGu nu c g (fnd (fun k => decide (vT (b k) = vT (c + 1))) g) (er, et)).1 ≠ nI 0 := by rw [(hq e2' q0).1]; exact y1
      refine Or.inr ⟨y3, ?_⟩
      rw [← (hq e2' q0).2 y3] at y2
      exact ⟨y2, ((hJ q0).resolve_left y3)⟩
    have y3 : (eGu nu c g (fnd (fun k => decide (vT (b k) = vT (c + 1))) g) (er, et)).1 = nI 0 := (hq e2' q0).1.trans y1
    obtain ⟨n1, n2, n3, n4, n5, n6⟩ := z2
    have hk11 : ∀ j, c ≤ j → j < c + 1 + 9 + 1 → ¬ (K j = 11 ∨ K j = 24 ∨ K j = 26) ∧ ¬ (K j = 14 ∨ K j = 23 ∨ K j = 25) := by
      intro j p q
      rcases (show j = c ∨ j = c + 1 ∨ j = c + 1 + 1 ∨ j = c + 1 + 2 ∨ j = c + 1 + 3 ∨ j = c + 1 + 4 ∨ j = c + 1 + 5 ∨ j = c + 1 + 6 ∨ j = c + 1 + 7 ∨ j = c + 1 + 8 ∨ j = c + 1 + 9 by omega) with e | e | e | e | e | e | e | e | e | e | e <;> rw [e] <;> omega
    have hR : RFS K vT a (va_up b g (c + 1)) m (g + 1) (c + 1 + 9 + 1) V := by
      intro j hj
      rcases Nat.lt_or_ge j c with p | p
      · obtain ⟨r1, r2⟩ := z5 j p
        refine ⟨r1, fun q => ?_⟩
        obtain ⟨r3, r4⟩ := r2 q
        have e := kfn_grow (a' := (va_up b g (c + 1))) (m' := g + 1) (Nat.le_succ g) (fun k hk => va_up_else _ _ (by omega)) r4
        rw [e]
        exact ⟨r3, r4⟩
      · exact ⟨fun q => absurd q (hk11 j p hj).1, fun q => absurd q (hk11 j p hj).2⟩
    obtain ⟨-, b2⟩ := eGu_ok y3
    refine Or.inl ⟨y3, V, _, F, (vp_updL G.1 g (V (c + 1)), upd G.2.1 g (nu (c + 1 + 2)), upd G.2.2.1 g (nu (c + 1 + 4)), upd G.2.2.2.1 g (nu (c + 1 + 6)), upd G.2.2.2.2.1 g (nu (c + 1 + 8)), nI (g + 1)), y2, ⟨n1, by omega, n3, rfl, n5, ?_⟩, fun j hj => z3 j (by omega), z4, hR, ?_, ?_, fun k hk => ORk_mono (Nat.le_refl _) (Nat.le_succ g) (by omega) (Nat.le_refl _) (fun j _ => rfl) rfl rfl rfl rfl rfl rfl rfl rfl rfl (fun i _ => ⟨rfl, rfl, rfl, rfl, rfl⟩) (z8 k hk)⟩
    · intro k hk
      by_cases e : k = g
      · rw [e, va_up_same]
        exact (vp_same _ _ _).trans (z3 _ (by omega))
      · rw [va_up_else _ _ e]
        refine (vp_else _ _ e).trans ?_
        exact n6 k (by omega)
    · exact fun k hk => FRk_congr rfl rfl rfl rfl rfl rfl rfl rfl (z6 k hk)
    · intro k hk
      by_cases e : k = g
      · rw [e]
        have u1 : ∀ (f : Nat → Int32) (x : Int32), upd f g x g = x := fun f x => upd_same f g x
        unfold GRk
        refine ⟨(u1 _ _).trans (u1 _ _).symm, ?_, (u1 _ _).trans (u1 _ _).symm, (u1 _ _).trans (u1 _ _).symm, (u1 _ _).trans (u1 _ _).symm⟩
        rw [show X4_from (vp_updL G.1 g (V (c + 1)), upd G.2.1 g (nu (c + 1 + 2)), upd G.2.2.1 g (nu (c + 1 + 4)), upd G.2.2.2.1 g (nu (c + 1 + 6)), upd G.2.2.2.2.1 g (nu (c + 1 + 8)), nI (g + 1)) g = _ from u1 _ _]; exact b2
      · exact GRk_congr (upd_else _ _ e) (upd_else _ _ e) (upd_else _ _ e) (upd_else _ _ e) (upd_else _ _ e) (upd_else _ _ e) (upd_else _ _ e) (upd_else _ _ e) (z7 k (by omega))
end P53
