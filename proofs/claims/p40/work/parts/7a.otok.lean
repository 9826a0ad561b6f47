/-! the trees that are made can be told; their texts are short -/
theorem decL_len6 {v : Nat} (h : v < 1000000) : (decL v).length ≤ 6 := by
  unfold decL
  repeat' split
  all_goals (try exact Nat.le_of_ble_eq_true rfl)
theorem wrd_len : ∀ j, j < 7 → (ltx (wrdK j)).length ≤ 8 := by decide +kernel
theorem sgn_len : ∀ j, j < 9 → (ltx (sgnK j)).length ≤ 2 := by decide +kernel
theorem S0_tx {nf h : Nat} {t : Nd (h + 1)} (hnf : nf ≤ 8) (H : S0 nf h t) : TxOk (h + 1) t ∧ (ntx (h + 1) t).length ≤ 11 := by
  obtain ⟨H, -⟩ := H
  have c27 : (ltx 27).length = 0 := rfl
  have c28 : (ltx 28).length = 10 := rfl
  rcases H with ⟨h1, h2⟩ | ⟨h1, h2⟩ | ⟨h1, h2⟩
  · refine ⟨Or.inl ⟨h1, h2⟩, ?_⟩
    have := decL_len6 h2
    rw [ntx_s, if_pos h1]
    simp only [List.length_append, List.length_nil]
    omega
  · refine ⟨Or.inr (Or.inl ⟨h1, h2⟩), ?_⟩
    have := wrd_len _ h2
    rw [ntx_s, if_neg (show ¬ t.1 = 0 by omega), if_pos h1]
    omega
  · refine ⟨Or.inr (Or.inr (Or.inl ⟨h1, by omega⟩)), ?_⟩
    have := decL_len1 (v := t.2.1) (by omega)
    rw [ntx_s, if_neg (show ¬ t.1 = 0 by omega), if_neg (show ¬ t.1 = 1 by omega), if_pos h1]
    simp only [List.length_append, List.length_nil]
    omega
theorem one_tx {α : Type} {P P' : α → Prop} {f : α → List Nat} {N : Nat} {o : Option α} (h : one P o) (hf : ∀ x, P x → P' x ∧ (f x).length ≤ N) : one P' o ∧ (oT f o).length ≤ N := by
  obtain ⟨x, rfl, hx⟩ := h
  exact ⟨⟨x, rfl, (hf x hx).1⟩, (hf x hx).2⟩
theorem ntx_lo {h : Nat} {t : Nd (h + 1)} (h6 : 6 ≤ t.1) (h9 : t.1 < 10) : ntx (h + 1) t = ((((([] ++ ltx 43) ++ oT (ntx h) t.2.2.1) ++ ltx (sgnK (t.1 - 6))) ++ oT (ntx h) t.2.2.2) ++ ltx 32) := by
  rw [ntx_s, if_neg (show ¬ t.1 = 0 by omega), if_neg (show ¬ t.1 = 1 by omega), if_neg (show ¬ t.1 = 2 by omega), if_neg (show ¬ t.1 = 3 by omega), if_neg (show ¬ t.1 = 4 by omega), if_neg (show ¬ t.1 = 5 by omega), if_neg (show ¬ t.1 = 15 by omega), if_neg (show ¬ t.1 = 16 by omega), if_neg (show ¬ t.1 = 17 by omega), if_neg (show ¬ t.1 = 18 by omega), if_neg (show ¬ t.1 = 19 by omega), if_neg (show ¬ t.1 = 20 by omega), if_pos (show t.1 < 10 by omega)]
theorem ntx_hi {h : Nat} {t : Nd (h + 1)} (h6 : 10 ≤ t.1) (h9 : t.1 < 15) : ntx (h + 1) t = ((([] ++ oT (ntx h) t.2.2.1) ++ ltx (sgnK (t.1 - 6))) ++ oT (ntx h) t.2.2.2) := by
  rw [ntx_s, if_neg (show ¬ t.1 = 0 by omega), if_neg (show ¬ t.1 = 1 by omega), if_neg (show ¬ t.1 = 2 by omega), if_neg (show ¬ t.1 = 3 by omega), if_neg (show ¬ t.1 = 4 by omega), if_neg (show ¬ t.1 = 5 by omega), if_neg (show ¬ t.1 = 15 by omega), if_neg (show ¬ t.1 = 16 by omega), if_neg (show ¬ t.1 = 17 by omega), if_neg (show ¬ t.1 = 18 by omega), if_neg (show ¬ t.1 = 19 by omega), if_neg (show ¬ t.1 = 20 by omega), if_neg (show ¬ t.1 < 10 by omega)]
theorem S1_tx {nf h : Nat} {t : Nd (h + 2)} (hnf : nf ≤ 8) (H : S1 nf h t) : TxOk (h + 2) t ∧ (ntx (h + 2) t).length ≤ 30 := by
  rcases H with H | ⟨h1, ha, -⟩ | ⟨h1, h2, ha, hb⟩
  · have := S0_tx hnf H
    exact ⟨this.1, Nat.le_trans this.2 (by decide)⟩
  · obtain ⟨a1, a2⟩ := one_tx (f := ntx (h + 1)) ha (fun x hx => S0_tx hnf hx)
    refine ⟨Or.inr (Or.inr (Or.inr (Or.inl ⟨h1, a1⟩))), ?_⟩
    have c : (ltx 29).length = 1 := rfl
    rw [ntx_s, if_neg (show ¬ t.1 = 0 by omega), if_neg (show ¬ t.1 = 1 by omega), if_neg (show ¬ t.1 = 2 by omega), if_pos h1]
    simp only [List.length_append, List.length_nil]
    omega
  · obtain ⟨a1, a2⟩ := one_tx (f := ntx (h + 1)) ha (fun x hx => S0_tx hnf hx)
    obtain ⟨b1, b2⟩ := one_tx (f := ntx (h + 1)) hb (fun x hx => S0_tx hnf hx)
    have c30 : (ltx 30).length = 4 := rfl
    have c31 : (ltx 31).length = 1 := rfl
    have c32 : (ltx 32).length = 1 := rfl
    have c33 : (ltx 33).length = 4 := rfl
    have c34 : (ltx 34).length = 3 := rfl
    have c43 : (ltx 43).length = 1 := rfl
    by_cases h4 : t.1 = 4
    · refine ⟨Or.inr (Or.inr (Or.inr (Or.inr (Or.inl ⟨h4, a1, b1⟩)))), ?_⟩
      rw [ntx_s, if_neg (show ¬ t.1 = 0 by omega), if_neg (show ¬ t.1 = 1 by omega), if_neg (show ¬ t.1 = 2 by omega), if_neg (show ¬ t.1 = 3 by omega), if_pos h4]
      simp only [List.length_append, List.length_nil]
      omega
    by_cases h5 : t.1 = 5
    · refine ⟨Or.inr (Or.inr (Or.inr (Or.inr (Or.inr (Or.inl ⟨h5, a1, b1⟩))))), ?_⟩
      rw [ntx_s, if_neg (show ¬ t.1 = 0 by omega), if_neg (show ¬ t.1 = 1 by omega), if_neg (show ¬ t.1 = 2 by omega), if_neg (show ¬ t.1 = 3 by omega), if_neg (show ¬ t.1 = 4 by omega), if_pos h5]
      simp only [List.length_append, List.length_nil]
      omega
    refine ⟨Or.inr (Or.inr (Or.inr (Or.inr (Or.inr (Or.inr (Or.inr (Or.inr (Or.inr (Or.inr (Or.inr (Or.inr (Or.inl ⟨by omega, h2, a1, b1⟩)))))))))))), ?_⟩
    have := sgn_len (t.1 - 6) (by omega)
    rw [ntx_lo (by omega) h2]
    simp only [List.length_append, List.length_nil]
    omega
theorem T0_tx {nf ng h : Nat} {t : Nd (h + 3)} (hnf : nf ≤ 8) (hng : ng ≤ 8) (H : T0 nf ng h t) : TxOk (h + 3) t ∧ (ntx (h + 3) t).length ≤ 43 := by
  have c35 : (ltx 35).length = 6 := rfl
  have c36 : (ltx 36).length = 8 := rfl
  have c37 : (ltx 37).length = 9 := rfl
  rcases H with ⟨h1, h2, -⟩ | ⟨h1, h2, -⟩ | ⟨h1, h2, ha, hb⟩
  · have := decL_len1 (v := t.2.1) (by omega)
    refine ⟨Or.inr (Or.inr (Or.inr (Or.inr (Or.inr (Or.inr (Or.inl ⟨h1, by omega⟩)))))), ?_⟩
    rw [ntx_s, if_neg (show ¬ t.1 = 0 by omega), if_neg (show ¬ t.1 = 1 by omega), if_neg (show ¬ t.1 = 2 by omega), if_neg (show ¬ t.1 = 3 by omega), if_neg (show ¬ t.1 = 4 by omega), if_neg (show ¬ t.1 = 5 by omega), if_pos h1]
    simp only [List.length_append, List.length_nil]
    omega
  · have := decL_len1 (v := t.2.1) (by omega)
    rcases h1 with h1 | h1
    · refine ⟨Or.inr (Or.inr (Or.inr (Or.inr (Or.inr (Or.inr (Or.inr (Or.inl ⟨h1, by omega⟩))))))), ?_⟩
      rw [ntx_s, if_neg (show ¬ t.1 = 0 by omega), if_neg (show ¬ t.1 = 1 by omega), if_neg (show ¬ t.1 = 2 by omega), if_neg (show ¬ t.1 = 3 by omega), if_neg (show ¬ t.1 = 4 by omega), if_neg (show ¬ t.1 = 5 by omega), if_neg (show ¬ t.1 = 15 by omega), if_pos h1]
      simp only [List.length_append, List.length_nil]
      omega
    · refine ⟨Or.inr (Or.inr (Or.inr (Or.inr (Or.inr (Or.inr (Or.inr (Or.inr (Or.inl ⟨h1, by omega⟩)))))))), ?_⟩
      rw [ntx_s, if_neg (show ¬ t.1 = 0 by omega), if_neg (show ¬ t.1 = 1 by omega), if_neg (show ¬ t.1 = 2 by omega), if_neg (show ¬ t.1 = 3 by omega), if_neg (show ¬ t.1 = 4 by omega), if_neg (show ¬ t.1 = 5 by omega), if_neg (show ¬ t.1 = 15 by omega), if_neg (show ¬ t.1 = 16 by omega), if_pos h1]
      simp only [List.length_append, List.length_nil]
      omega
  · obtain ⟨a1, a2⟩ := one_tx (f := ntx (h + 2)) ha (fun x hx => S1_tx hnf hx)
    obtain ⟨b1, b2⟩ := one_tx (f := ntx (h + 2)) hb (fun x hx => S0_tx hnf hx)
    have := sgn_len (t.1 - 6) (by omega)
    refine ⟨Or.inr (Or.inr (Or.inr (Or.inr (Or.inr (Or.inr (Or.inr (Or.inr (Or.inr (Or.inr (Or.inr (Or.inr (Or.inr ⟨h1, h2, a1, b1⟩)))))))))))), ?_⟩
    rw [ntx_hi h1 h2]
    simp only [List.length_append, List.length_nil]
    omega
theorem T1_tx {nf ng h : Nat} {t : Nd (h + 4)} (hnf : nf ≤ 8) (hng : ng ≤ 8) (H : T1 nf ng h t) : TxOk (h + 4) t ∧ (ntx (h + 4) t).length ≤ 93 := by
  have c38 : (ltx 38).length = 4 := rfl
  have c39 : (ltx 39).length = 1 := rfl
  have c40 : (ltx 40).length = 5 := rfl
  have c41 : (ltx 41).length = 1 := rfl
  have c42 : (ltx 42).length = 4 := rfl
  rcases H with H | ⟨h1, ha, -⟩ | ⟨h1, ha, hb⟩
  · have := T0_tx hnf hng H
    exact ⟨this.1, Nat.le_trans this.2 (by decide)⟩
  · obtain ⟨a1, a2⟩ := one_tx (f := ntx (h + 3)) ha (fun x hx => T0_tx hnf hng hx)
    refine ⟨Or.inr (Or.inr (Or.inr (Or.inr (Or.inr (Or.inr (Or.inr (Or.inr (Or.inr (Or.inl ⟨h1, a1⟩))))))))), ?_⟩
    rw [ntx_s, if_neg (show ¬ t.1 = 0 by omega), if_neg (show ¬ t.1 = 1 by omega), if_neg (show ¬ t.1 = 2 by omega), if_neg (show ¬ t.1 = 3 by omega), if_neg (show ¬ t.1 = 4 by omega), if_neg (show ¬ t.1 = 5 by omega), if_neg (show ¬ t.1 = 15 by omega), if_neg (show ¬ t.1 = 16 by omega), if_neg (show ¬ t.1 = 17 by omega), if_pos h1]
    simp only [List.length_append, List.length_nil]
    omega
  · obtain ⟨a1, a2⟩ := one_tx (f := ntx (h + 3)) ha (fun x hx => T0_tx hnf hng hx)
    obtain ⟨b1, b2⟩ := one_tx (f := ntx (h + 3)) hb (fun x hx => T0_tx hnf hng hx)
    rcases h1 with h1 | h1
    · refine ⟨Or.inr (Or.inr (Or.inr (Or.inr (Or.inr (Or.inr (Or.inr (Or.inr (Or.inr (Or.inr (Or.inl ⟨h1, a1, b1⟩)))))))))), ?_⟩
      rw [ntx_s, if_neg (show ¬ t.1 = 0 by omega), if_neg (show ¬ t.1 = 1 by omega), if_neg (show ¬ t.1 = 2 by omega), if_neg (show ¬ t.1 = 3 by omega), if_neg (show ¬ t.1 = 4 by omega), if_neg (show ¬ t.1 = 5 by omega), if_neg (show ¬ t.1 = 15 by omega), if_neg (show ¬ t.1 = 16 by omega), if_neg (show ¬ t.1 = 17 by omega), if_neg (show ¬ t.1 = 18 by omega), if_pos h1]
      simp only [List.length_append, List.length_nil]
      omega
    · refine ⟨Or.inr (Or.inr (Or.inr (Or.inr (Or.inr (Or.inr (Or.inr (Or.inr (Or.inr (Or.inr (Or.inr (Or.inl ⟨h1, a1, b1⟩))))))))))), ?_⟩
      rw [ntx_s, if_neg (show ¬ t.1 = 0 by omega), if_neg (show ¬ t.1 = 1 by omega), if_neg (show ¬ t.1 = 2 by omega), if_neg (show ¬ t.1 = 3 by omega), if_neg (show ¬ t.1 = 4 by omega), if_neg (show ¬ t.1 = 5 by omega), if_neg (show ¬ t.1 = 15 by omega), if_neg (show ¬ t.1 = 16 by omega), if_neg (show ¬ t.1 = 17 by omega), if_neg (show ¬ t.1 = 18 by omega), if_neg (show ¬ t.1 = 19 by omega), if_pos h1]
      simp only [List.length_append, List.length_nil]
      omega
theorem Od_tx {nf ng : Nat} {o : Od} (hnf : nf ≤ 8) (hng : ng ≤ 8) (H : OdOk nf ng o) : o.1 < 4 ∧ OtOk o ∧ (otx o).length ≤ 108 := by
  obtain ⟨H1, H2⟩ := H
  have h4 : o.1 < 4 ∧ o.2.1 < 8 := by omega
  have hw := decL_len1 (v := o.2.1) (by omega)
  have l1 : (otx1 o).length ≤ 8 := by
    have c44 : (ltx 44).length = 7 := rfl
    have c45 : (ltx 45).length = 7 := rfl
    have c46 : (ltx 46).length = 5 := rfl
    have c47 : (ltx 47).length = 6 := rfl
    unfold otx1
    repeat' split
    all_goals (try simp only [List.length_append, List.length_nil])
    all_goals omega
  have hT : ∀ t, o.2.2 = some t → TxOk 4 t ∧ (ntx 4 t).length ≤ 93 := fun t ht => by
    rcases H2 with h | ⟨x, h, hx⟩
    · rw [h] at ht; cases ht
    · rw [h] at ht
      cases ht
      exact T1_tx hnf hng hx
  have l2 : (otx2 o).length ≤ 100 := by
    have c48 : (ltx 48).length = 1 := rfl
    have c49 : (ltx 49).length = 6 := rfl
    unfold otx2
    split
    · omega
    · rename_i t ht
      have := (hT t ht).2
      simp only [List.length_append, List.length_nil]
      omega
  refine ⟨h4.1, ⟨by omega, fun t ht => (hT t ht).1⟩, ?_⟩
  unfold otx
  simp only [List.length_append, List.length_nil]
  omega
theorem otxs_snoc (t : List Nat) (os : List Od) (o : Od) : otxs t (os ++ [o]) = otxs t os ++ otx o := by
  unfold otxs
  rw [List.foldl_append]
  rfl
theorem otxs_len {nf ng : Nat} (hnf : nf ≤ 8) (hng : ng ≤ 8) : ∀ (os : List Od) (t : List Nat), (∀ o ∈ os, OdOk nf ng o) → (otxs t os).length ≤ t.length + 108 * os.length := by
  intro os
  induction os with
  | nil => intro t _; exact Nat.le_refl _
  | cons o os ih =>
    intro t h
    have h1 := ih (t ++ otx o) (fun q hq => h q (List.mem_cons_of_mem _ hq))
    have h2 := (Od_tx hnf hng (h o List.mem_cons_self)).2.2
    show (otxs (t ++ otx o) os).length ≤ _
    rw [List.length_append] at h1
    rw [List.length_cons]
    omega
