/-! the checker, along the tokens of a test -/
section P50
variable {n : Nat} {K : Nat → Nat} {kd sT : Nat → Int32} {V vT : Nat → Int64} {t : Nat} {cu e2 : Int32} {F F' : bX2} {G G' : bX4} {i c m g w w' : Nat} {eB : Int32} {B1 : bX2} {B2 : bX4} {V' : Nat → Int64} {a b : Nat → Nat}
theorem ck_24 (ht : t ≤ 400) (hi : i + 1 ≤ t) (hn : 1000 < n) (hN : NMS vT a b m g F G) (hV : V (i + 1) = vT (i + 1)) (hk : K i = 24) (h : CKA n K sT vT t cu eB B1 B2 w i V e2 F G) : CKX n K sT vT t cu eB B1 B2 (mkK K (kfn vT a m) (kfn vT b g) i (nI 0, e2)) w (i + 1) (V1 K (kfn vT a m) (kfn vT b g) V i) F G := by
  have hc := cs_24 (n := n) (K := K) (sT := sT) (V := V) (vT := vT) (cu := cu) (e2 := e2) (oi := nI w) (F := F) (G := G) (eA := nI 0) (eB := eB) (B1 := B1) (B2 := B2) ht (by omega) hi (by omega) hN.1 hN.2.2.1 hk
  rw [fn_F hN hV, nm_F (K := K) (kF := (kfn vT a m)) (kG := (kfn vT b g)) (by omega) rfl (fnd_k hN.1)] at hc
  have hv : V1 K (kfn vT a m) (kfn vT b g) V i = vp_updL V (i + 1) (Int32.toInt64 (fI (fnd (fun k => decide (vT (a k) = vT (i + 1))) m))) := by
    unfold V1
    rw [if_pos (by omega)]; rfl
  rw [hv]
  exact ck_x h (by omega) hc
theorem ck_26 (ht : t ≤ 400) (hi : i + 1 ≤ t) (hn : 1000 < n) (hN : NMS vT a b m g F G) (hV : V (i + 1) = vT (i + 1)) (hk : K i = 26) (h : CKA n K sT vT t cu eB B1 B2 w i V e2 F G) : CKX n K sT vT t cu eB B1 B2 (mkK K (kfn vT a m) (kfn vT b g) i (nI 0, e2)) w (i + 1) (V1 K (kfn vT a m) (kfn vT b g) V i) F G := by
  have hc := cs_26 (n := n) (K := K) (sT := sT) (V := V) (vT := vT) (cu := cu) (e2 := e2) (oi := nI w) (F := F) (G := G) (eA := nI 0) (eB := eB) (B1 := B1) (B2 := B2) ht (by omega) hi (by omega) hN.1 hN.2.2.1 hk
  rw [fn_F hN hV, nm_F (K := K) (kF := (kfn vT a m)) (kG := (kfn vT b g)) (by omega) rfl (fnd_k hN.1)] at hc
  have hv : V1 K (kfn vT a m) (kfn vT b g) V i = vp_updL V (i + 1) (Int32.toInt64 (fI (fnd (fun k => decide (vT (a k) = vT (i + 1))) m))) := by
    unfold V1
    rw [if_pos (by omega)]; rfl
  rw [hv]
  exact ck_x h (by omega) hc
theorem ck_23 (ht : t ≤ 400) (hi : i + 1 ≤ t) (hn : 1000 < n) (hN : NMS vT a b m g F G) (hV : V (i + 1) = vT (i + 1)) (hk : K i = 23) (h : CKA n K sT vT t cu eB B1 B2 w i V e2 F G) : CKX n K sT vT t cu eB B1 B2 (mkK K (kfn vT a m) (kfn vT b g) i (nI 0, e2)) w (i + 1) (V1 K (kfn vT a m) (kfn vT b g) V i) F G := by
  have hc := cs_23 (n := n) (K := K) (sT := sT) (V := V) (vT := vT) (cu := cu) (e2 := e2) (oi := nI w) (F := F) (G := G) (eA := nI 0) (eB := eB) (B1 := B1) (B2 := B2) ht (by omega) hi (by omega) hN.2.1 hN.2.2.2.1 hk
  rw [fn_G hN hV, nm_G (K := K) (kF := (kfn vT a m)) (kG := (kfn vT b g)) (by omega) rfl (fnd_k hN.2.1)] at hc
  have hv : V1 K (kfn vT a m) (kfn vT b g) V i = vp_updL V (i + 1) (Int32.toInt64 (fI (fnd (fun k => decide (vT (b k) = vT (i + 1))) g))) := by
    unfold V1
    rw [if_neg (by omega), if_pos (by omega)]; rfl
  rw [hv]
  exact ck_x h (by omega) hc
theorem ck_25 (ht : t ≤ 400) (hi : i + 1 ≤ t) (hn : 1000 < n) (hN : NMS vT a b m g F G) (hV : V (i + 1) = vT (i + 1)) (hk : K i = 25) (h : CKA n K sT vT t cu eB B1 B2 w i V e2 F G) : CKX n K sT vT t cu eB B1 B2 (mkK K (kfn vT a m) (kfn vT b g) i (nI 0, e2)) w (i + 1) (V1 K (kfn vT a m) (kfn vT b g) V i) F G := by
  have hc := cs_25 (n := n) (K := K) (sT := sT) (V := V) (vT := vT) (cu := cu) (e2 := e2) (oi := nI w) (F := F) (G := G) (eA := nI 0) (eB := eB) (B1 := B1) (B2 := B2) ht (by omega) hi (by omega) hN.2.1 hN.2.2.2.1 hk
  rw [fn_G hN hV, nm_G (K := K) (kF := (kfn vT a m)) (kG := (kfn vT b g)) (by omega) rfl (fnd_k hN.2.1)] at hc
  have hv : V1 K (kfn vT a m) (kfn vT b g) V i = vp_updL V (i + 1) (Int32.toInt64 (fI (fnd (fun k => decide (vT (b k) = vT (i + 1))) g))) := by
    unfold V1
    rw [if_neg (by omega), if_pos (by omega)]; rfl
  rw [hv]
  exact ck_x h (by omega) hc
theorem ck_pl (ht : t ≤ 400) (hi : i ≤ t) (hn : 1000 < n) (hk : K i < 51 ∧ K i ≠ 0 ∧ K i ≠ 7 ∧ K i ≠ 11 ∧ K i ≠ 12 ∧ K i ≠ 13 ∧ K i ≠ 14 ∧ K i ≠ 23 ∧ K i ≠ 24 ∧ K i ≠ 25 ∧ K i ≠ 26) (h : CKA n K sT vT t cu eB B1 B2 w i V e2 F G) : CKA n K sT vT t cu eB B1 B2 w (i + 1) V e2 F G := by
  have hc := cs_no (n := n) (K := K) (sT := sT) (V := V) (vT := vT) (cu := cu) (e2 := e2) (oi := nI w) (F := F) (G := G) (eA := nI 0) (eB := eB) (B1 := B1) (B2 := B2) ht hi hk
  have hx := ck_x (E := (nI 0, e2)) h (by omega) hc
  rcases hx with ⟨-, q⟩ | ⟨q, -⟩
  · exact q
  · exact absurd rfl q
theorem ck_tok (hK : TKO K kd t) (hi : i < t) (hn : 1000 < n) (hN : NMS vT a b m g F G) (hV : V (i + 1) = vT (i + 1)) (hk : ttk (K i)) (h : CKA n K sT vT t cu eB B1 B2 w i V e2 F G) : CKX n K sT vT t cu eB B1 B2 (mkK K (kfn vT a m) (kfn vT b g) i (nI 0, e2)) w (i + 1) (V1 K (kfn vT a m) (kfn vT b g) V i) F G := by
  have ht := hK.1
  obtain ⟨q1, q2, q3, q4, q5, q6⟩ := hk
  have hlt := (hK.2.1 i (by omega)).1
  by_cases h24 : K i = 24
  · exact ck_24 ht hi hn hN hV h24 h
  by_cases h26 : K i = 26
  · exact ck_26 ht hi hn hN hV h26 h
  by_cases h23 : K i = 23
  · exact ck_23 ht hi hn hN hV h23 h
  by_cases h25 : K i = 25
  · exact ck_25 ht hi hn hN hV h25 h
  rw [mkK_no ⟨q3, h24, h26, q6, h23, h25⟩]
  have hv : V1 K (kfn vT a m) (kfn vT b g) V i = V := by
    unfold V1
    rw [if_neg (by omega), if_neg (by omega)]
  rw [hv]
  exact Or.inl ⟨rfl, ck_pl ht (by omega) hn ⟨hlt, q1, q2, q3, q4, q5, q6, h23, h24, h25, h26⟩ h⟩
theorem ck_fold (hK : TKO K kd t) (hn : 1000 < n) (hN : NMS vT a b m g F G) {c1 : Nat} {E : Int32 × Int32} (hV : ∀ j, c1 < j → V j = vT j) (h : CKX n K sT vT t cu eB B1 B2 E w c1 V F G) : ∀ l : Nat, c1 + l ≤ t → (∀ j, c1 ≤ j → j < c1 + l → ttk (K j)) → CKX n K sT vT t cu eB B1 B2 (mkR K (kfn vT a m) (kfn vT b g) c1 l E) w (c1 + l) (VV K (kfn vT a m) (kfn vT b g) V c1 l) F G
  | 0, _, _ => h
  | l + 1, hl, hk => by
    show CKX n K sT vT t cu eB B1 B2 (mkK K (kfn vT a m) (kfn vT b g) (c1 + l) (mkR K (kfn vT a m) (kfn vT b g) c1 l E)) w (c1 + l + 1) (V1 K (kfn vT a m) (kfn vT b g) (VV K (kfn vT a m) (kfn vT b g) V c1 l) (c1 + l)) F G
    rcases ck_fold hK hn hN hV h l (by omega) (fun j p q => hk j p (by omega)) with ⟨q1, q2⟩ | ⟨q1, q2⟩
    · have hV2 : VV K (kfn vT a m) (kfn vT b g) V c1 l (c1 + l + 1) = vT (c1 + l + 1) := by rw [VV_else (by omega), hV _ (by omega)]
      have hx := ck_tok hK (by omega) hn hN hV2 (hk (c1 + l) (by omega) (by omega)) q2
      rw [← q1] at hx
      exact hx
    · rw [mkK_err q1]
      exact Or.inr ⟨q1, q2⟩
theorem ck_11 (ht : t ≤ 400) (hi : i + 1 ≤ t) (hn : 1000 < n) (hw : w ≤ 16) (hN : NMS vT a b m g F G) (hV : V (i + 1) = vT (i + 1)) (hk : K i = 11) (h : CKA n K sT vT t cu eB B1 B2 w i V e2 F G) : CKX n K sT vT t cu eB B1 B2 (mkK K (kfn vT a m) (kfn vT b g) i (e4 w i (nI 0, e2))) (w + 1) (i + 1) (V1 K (kfn vT a m) (kfn vT b g) V i) F G := by
  have hc := cs_11 (n := n) (K := K) (sT := sT) (V := V) (vT := vT) (cu := cu) (e2 := e2) (oi := nI w) (F := F) (G := G) (eA := nI 0) (eB := eB) (B1 := B1) (B2 := B2) ht (by omega) (w := w) rfl (by omega) hi (by omega) hN.1 hN.2.2.1 hk
  have h4 : (if 16 < w + 1 then mkx (nI 4) i (nI 0, e2) else (nI 0, e2)) = e4 w i (nI 0, e2) := by
    unfold e4
    by_cases q : w = 16
    · rw [if_pos q, if_pos (by omega)]
    · rw [if_neg q, if_neg (by omega)]
  rw [h4, fn_F hN hV, nm_F (K := K) (kF := (kfn vT a m)) (kG := (kfn vT b g)) (by omega) rfl (fnd_k hN.1)] at hc
  have hv : V1 K (kfn vT a m) (kfn vT b g) V i = vp_updL V (i + 1) (Int32.toInt64 (fI (fnd (fun k => decide (vT (a k) = vT (i + 1))) m))) := by
    unfold V1
    rw [if_pos (by omega)]; rfl
  rw [hv]
  exact ck_x h (by omega) hc
theorem ck_14 (ht : t ≤ 400) (hi : i + 1 ≤ t) (hn : 1000 < n) (hw : w ≤ 16) (hN : NMS vT a b m g F G) (hV : V (i + 1) = vT (i + 1)) (hk : K i = 14) (h : CKA n K sT vT t cu eB B1 B2 w i V e2 F G) : CKX n K sT vT t cu eB B1 B2 (mkK K (kfn vT a m) (kfn vT b g) i (e4 w i (nI 0, e2))) (w + 1) (i + 1) (V1 K (kfn vT a m) (kfn vT b g) V i) F G := by
  have hc := cs_14 (n := n) (K := K) (sT := sT) (V := V) (vT := vT) (cu := cu) (e2 := e2) (oi := nI w) (F := F) (G := G) (eA := nI 0) (eB := eB) (B1 := B1) (B2 := B2) ht (by omega) (w := w) rfl (by omega) hi (by omega) hN.2.1 hN.2.2.2.1 hk
  have h4 : (if 16 < w + 1 then mkx (nI 4) i (nI 0, e2) else (nI 0, e2)) = e4 w i (nI 0, e2) := by
    unfold e4
    by_cases q : w = 16
    · rw [if_pos q, if_pos (by omega)]
    · rw [if_neg q, if_neg (by omega)]
  rw [h4, fn_G hN hV, nm_G (K := K) (kF := (kfn vT a m)) (kG := (kfn vT b g)) (by omega) rfl (fnd_k hN.2.1)] at hc
  have hv : V1 K (kfn vT a m) (kfn vT b g) V i = vp_updL V (i + 1) (Int32.toInt64 (fI (fnd (fun k => decide (vT (b k) = vT (i + 1))) g))) := by
    unfold V1
    rw [if_neg (by omega), if_pos (by omega)]; rfl
  rw [hv]
  exact ck_x h (by omega) hc
theorem ck_12 (ht : t ≤ 400) (hi : i + 1 ≤ t) (hn : 1000 < n) (hw : w ≤ 16) (hk : K i = 12) (h : CKA n K sT vT t cu eB B1 B2 w i V e2 F G) : CKX n K sT vT t cu eB B1 B2 (mkK K (kfn vT a m) (kfn vT b g) i (e4 w i (nI 0, e2))) (w + 1) (i + 1) (V1 K (kfn vT a m) (kfn vT b g) V i) F G := by
  have hc := cs_12 (n := n) (K := K) (sT := sT) (V := V) (vT := vT) (cu := cu) (e2 := e2) (oi := nI w) (F := F) (G := G) (eA := nI 0) (eB := eB) (B1 := B1) (B2 := B2) ht (by omega) (w := w) rfl (by omega) hk
  have h4 : (if 16 < w + 1 then mkx (nI 4) i (nI 0, e2) else (nI 0, e2)) = e4 w i (nI 0, e2) := by
    unfold e4
    by_cases q : w = 16
    · rw [if_pos q, if_pos (by omega)]
    · rw [if_neg q, if_neg (by omega)]
  rw [h4] at hc
  have hv : V1 K (kfn vT a m) (kfn vT b g) V i = V := by
    unfold V1
    rw [if_neg (by omega), if_neg (by omega)]
  rw [hv, mkK_no (by omega)]
  exact ck_x h (by omega) hc
theorem ck_13 (ht : t ≤ 400) (hi : i + 1 ≤ t) (hn : 1000 < n) (hw : w ≤ 16) (hk : K i = 13) (h : CKA n K sT vT t cu eB B1 B2 w i V e2 F G) : CKX n K sT vT t cu eB B1 B2 (mkK K (kfn vT a m) (kfn vT b g) i (e4 w i (nI 0, e2))) (w + 1) (i + 1) (V1 K (kfn vT a m) (kfn vT b g) V i) F G := by
  have hc := cs_13 (n := n) (K := K) (sT := sT) (V := V) (vT := vT) (cu := cu) (e2 := e2) (oi := nI w) (F := F) (G := G) (eA := nI 0) (eB := eB) (B1 := B1) (B2 := B2) ht (by omega) (w := w) rfl (by omega) hk
  have h4 : (if 16 < w + 1 then mkx (nI 4) i (nI 0, e2) else (nI 0, e2)) = e4 w i (nI 0, e2) := by
    unfold e4
    by_cases q : w = 16
    · rw [if_pos q, if_pos (by omega)]
    · rw [if_neg q, if_neg (by omega)]
  rw [h4] at hc
  have hv : V1 K (kfn vT a m) (kfn vT b g) V i = V := by
    unfold V1
    rw [if_neg (by omega), if_neg (by omega)]
  rw [hv, mkK_no (by omega)]
  exact ck_x h (by omega) hc
/-- the checker over an order's line -/
theorem ck_order (hK : TKO K kd t) (hc : c ≤ t) (hn : 1000 < n) (hw : w ≤ 16) (hN : NMS vT a b m g F G) (hV : ∀ j, c < j → V j = vT j) (hk : K c = 11 ∨ K c = 12 ∨ K c = 13 ∨ K c = 14) {c' : Nat} (h1 : c < c') (h2 : c' ≤ t) (ht : ∀ j, c + 1 ≤ j → j < c' → ttk (K j)) (h : CKA n K sT vT t cu eB B1 B2 w c V e2 F G) : CKX n K sT vT t cu eB B1 B2 (mkR K (kfn vT a m) (kfn vT b g) c (c' - c) (e4 w c (nI 0, e2))) (w + 1) c' (VV K (kfn vT a m) (kfn vT b g) V c (c' - c)) F G := by
  have h0 := hK.1
  have hd : CKX n K sT vT t cu eB B1 B2 (mkK K (kfn vT a m) (kfn vT b g) c (e4 w c (nI 0, e2))) (w + 1) (c + 1) (V1 K (kfn vT a m) (kfn vT b g) V c) F G := by
    rcases hk with hk | hk | hk | hk
    · exact ck_11 h0 (by omega) hn hw hN (hV _ (by omega)) hk h
    · exact ck_12 h0 (by omega) hn hw hk h
    · exact ck_13 h0 (by omega) hn hw hk h
    · exact ck_14 h0 (by omega) hn hw hN (hV _ (by omega)) hk h
  have hf := ck_fold hK hn hN (fun j q => by rw [V1_else (by omega)]; exact hV j (by omega)) hd (c' - (c + 1)) (by omega) (fun j p q => ht j p (by omega))
  have e1 : c' - c = 1 + (c' - (c + 1)) := by omega
  have e22 : c + 1 + (c' - (c + 1)) = c' := by omega
  have e3 : mkR K (kfn vT a m) (kfn vT b g) c (c' - c) (e4 w c (nI 0, e2)) = mkR K (kfn vT a m) (kfn vT b g) (c + 1) (c' - (c + 1)) (mkK K (kfn vT a m) (kfn vT b g) c (e4 w c (nI 0, e2))) := by
    rw [e1, mkR_app]
    rfl
  have e4' : ∀ l, VV K (kfn vT a m) (kfn vT b g) V c (1 + l) = VV K (kfn vT a m) (kfn vT b g) (V1 K (kfn vT a m) (kfn vT b g) V c) (c + 1) l := by
    intro l
    induction l with
    | zero => rfl
    | succ l ih =>
      show V1 K (kfn vT a m) (kfn vT b g) (VV K (kfn vT a m) (kfn vT b g) V c (1 + l)) (c + (1 + l)) = V1 K (kfn vT a m) (kfn vT b g) (VV K (kfn vT a m) (kfn vT b g) (V1 K (kfn vT a m) (kfn vT b g) V c) (c + 1) l) (c + 1 + l)
      rw [ih, Nat.add_assoc]
  rw [e3, e1, e4' (c' - (c + 1))]
  rw [e22] at hf
  exact hf
end P50
