/-! THE PLAN AS TOKENS -/
/-- the letters of the kinds, as they are written -/
def kwL : List (List Nat) := [[102, 114, 111, 110, 116], [105, 115], [119, 97, 114, 109], [99, 111, 108, 100], [97, 116], [102, 111, 114], [102, 111, 114, 99, 101], [103, 117, 101, 115, 116], [108, 105, 107, 101, 115], [116, 111], [110, 101, 114, 118, 101], [115, 116, 101, 101, 112], [108, 101, 109, 111, 110], [115, 97, 117, 99, 101, 114], [115, 101, 114, 118, 101], [119, 104, 101, 110], [104, 111, 117, 114], [119, 97, 114, 109, 116, 104], [115, 116, 114, 101, 110, 103, 116, 104], [99, 104, 97, 114, 103, 101], [108, 101, 109, 111, 110, 115], [115, 97, 117, 99, 101, 114, 115], [115, 116, 111, 114, 109, 115], [115, 101, 97, 116, 101, 100], [111, 118, 101, 114], [99, 111, 110, 116, 101, 110, 116], [111, 102], [110, 111, 116], [97, 110, 100], [111, 114], [109, 105, 110], [109, 97, 120], [40], [41], [91], [93], [59], [44], [43], [45], [42], [47], [60], [62], [61], [60, 61], [62, 61]]
def kw (k : Nat) : List Nat := kwL.getD k []
theorem kw_kd : ∀ k, k < 47 → kdL (kw k) = k := by decide +kernel
theorem kw_wd : ∀ k, k < 32 → 0 < (kw k).length ∧ blk (at6 (kw k) 0) = false ∧ ltr (at6 (kw k) 0) = true ∧ ∀ i, i < (kw k).length → wrd (at6 (kw k) i) = true := by decide +kernel
theorem kw_sg : ∀ k, k < 47 → 32 ≤ k → 0 < (kw k).length ∧ blk (at6 (kw k) 0) = false ∧ ltr (at6 (kw k) 0) = false ∧ dig (at6 (kw k) 0) = false ∧ ((k = 42 ∨ k = 43) ∨ ((kw k).length = 1 ∧ ¬ (at6 (kw k) 0 = 60 ∨ at6 (kw k) 0 = 62)) ∨ ((kw k).length = 2 ∧ (at6 (kw k) 0 = 60 ∨ at6 (kw k) 0 = 62) ∧ at6 (kw k) 1 = 61)) := by decide +kernel
theorem kw_w {k nx : Nat} (hk : k < 32) (hn : wrd nx = false) : TokOk (kw k) nx := by
  obtain ⟨h1, h2, h3, h4⟩ := kw_wd k hk
  exact ⟨h1, by rw [kw_kd k (by omega)]; omega, h2, Or.inl ⟨h3, h4, hn⟩⟩
theorem kw_s {k nx : Nat} (hk : k < 47) (h32 : 32 ≤ k) (hn : k = 42 ∨ k = 43 → nx ≠ 61) : TokOk (kw k) nx := by
  obtain ⟨h1, h2, h3, h4, h5⟩ := kw_sg k hk h32
  refine ⟨h1, by rw [kw_kd k hk]; omega, h2, Or.inr (Or.inr ⟨h3, h4, ?_⟩)⟩
  rcases h5 with h5 | ⟨h5, h6⟩ | h5
  · exact Or.inl ⟨by rcases h5 with rfl | rfl <;> decide, fun z => hn h5 z.2⟩
  · exact Or.inl ⟨h5, fun z => h6 z.1⟩
  · exact Or.inr h5
/-! numbers -/
theorem dec_dig {v : Nat} (hv : v < 1000000) : (∀ x ∈ decL v, dig x = true ∧ x < 128) ∧ 0 < (decL v).length := by
  have D : ∀ d, d < 10 → dig (48 + d) = true ∧ 48 + d < 128 := by decide
  unfold decL
  refine ⟨?_, ?_⟩
  · repeat' split
    all_goals (intro x hx; simp only [List.mem_cons, List.not_mem_nil, or_false] at hx)
    all_goals (first
      | (rcases hx with rfl; exact D _ (by omega))
      | (rcases hx with rfl | rfl <;> exact D _ (by omega))
      | (rcases hx with rfl | rfl | rfl <;> exact D _ (by omega))
      | (rcases hx with rfl | rfl | rfl | rfl <;> exact D _ (by omega))
      | (rcases hx with rfl | rfl | rfl | rfl | rfl <;> exact D _ (by omega))
      | (rcases hx with rfl | rfl | rfl | rfl | rfl | rfl <;> exact D _ (by omega)))
  · repeat' split
    all_goals exact Nat.succ_pos _
theorem dig_nb {x : Nat} (h : dig x = true) : blk x = false := by
  unfold dig at h
  unfold blk
  simp only [Bool.and_eq_true, decide_eq_true_eq] at h
  simp only [Bool.or_eq_false_iff, decide_eq_false_iff_not]
  omega
theorem wrd_dig {x : Nat} (h : wrd x = false) : dig x = false := (wrd_or.1 h).2
theorem num_tok {v nx : Nat} (hv : v < 1000000) (hn : wrd nx = false) : TokOk (decL v) nx ∧ kdL (decL v) = 48 := by
  obtain ⟨h1, h2⟩ := dec_dig hv
  have h6 := decL_len6 hv
  have h0 : dig (at6 (decL v) 0) = true := (h1 _ (at6_mem h2)).1
  have hk : kdL (decL v) = 48 := by
    unfold kdL kdC
    rw [if_pos h0, if_pos h6]
  exact ⟨⟨h2, by rw [hk]; decide, dig_nb h0, Or.inr (Or.inl ⟨h0, fun i hi => (h1 _ (at6_mem hi)).1, wrd_dig hn⟩)⟩, hk⟩
/-! names -/
def nmL (c j : Nat) : List Nat := c :: decL j
theorem nm_f : ∀ c, c = 102 ∨ c = 103 → ∀ j, j < 10 → kdL (nmL c j) = 47 ∧ 0 < (nmL c j).length ∧ blk (at6 (nmL c j) 0) = false ∧ ltr (at6 (nmL c j) 0) = true ∧ ∀ i, i < (nmL c j).length → wrd (at6 (nmL c j) i) = true := by
  intro c hc
  rcases hc with rfl | rfl
  · exact (by decide +kernel : ∀ j, j < 10 → kdL (nmL 102 j) = 47 ∧ 0 < (nmL 102 j).length ∧ blk (at6 (nmL 102 j) 0) = false ∧ ltr (at6 (nmL 102 j) 0) = true ∧ ∀ i, i < (nmL 102 j).length → wrd (at6 (nmL 102 j) i) = true)
  · exact (by decide +kernel : ∀ j, j < 10 → kdL (nmL 103 j) = 47 ∧ 0 < (nmL 103 j).length ∧ blk (at6 (nmL 103 j) 0) = false ∧ ltr (at6 (nmL 103 j) 0) = true ∧ ∀ i, i < (nmL 103 j).length → wrd (at6 (nmL 103 j) i) = true)
theorem nm_tok {c j nx : Nat} (hc : c = 102 ∨ c = 103) (hj : j < 10) (hn : wrd nx = false) : TokOk (nmL c j) nx := by
  obtain ⟨h1, h2, h3, h4, h5⟩ := nm_f c hc j hj
  exact ⟨h2, by rw [h1]; decide, h3, Or.inl ⟨h4, h5, hn⟩⟩
/-! the tokens of a tree; b: the blanks behind it -/
def ntk : (h : Nat) → Nd h → List Nat → List Tk
  | 0, _ => fun _ => []
  | h + 1, t => fun b => if t.1 = 0 then [(decL t.2.1, b)] else if t.1 = 1 then [(kw (16 + t.2.1), b)] else if t.1 = 2 then [(kw 6, [32]), (kw 26, [32]), (nmL 102 t.2.1, b)] else if t.1 = 3 then (kw 39, []) :: oL (fun x => ntk h x b) t.2.2.1 else if t.1 = 4 then (kw 30, []) :: (kw 32, []) :: (oL (fun x => ntk h x []) t.2.2.1 ++ ((kw 37, []) :: (oL (fun x => ntk h x []) t.2.2.2 ++ [(kw 33, b)]))) else if t.1 = 5 then (kw 31, []) :: (kw 32, []) :: (oL (fun x => ntk h x [32]) t.2.2.1 ++ ((kw 37, [32]) :: (oL (fun x => ntk h x []) t.2.2.2 ++ [(kw 33, b)]))) else if t.1 = 15 then [(kw 24, [32]), (nmL 102 t.2.1, b)] else if t.1 = 16 then [(kw 23, [32]), (nmL 103 t.2.1, b)] else if t.1 = 17 then [(kw 25, [32]), (nmL 103 t.2.1, b)] else if t.1 = 18 then (kw 27, [32]) :: oL (fun x => ntk h x b) t.2.2.1 else if t.1 = 19 then (kw 34, []) :: (oL (fun x => ntk h x [32]) t.2.2.1 ++ ((kw 28, [32]) :: (oL (fun x => ntk h x []) t.2.2.2 ++ [(kw 35, b)]))) else if t.1 = 20 then (kw 34, []) :: (oL (fun x => ntk h x [32]) t.2.2.1 ++ ((kw 29, [32]) :: (oL (fun x => ntk h x []) t.2.2.2 ++ [(kw 35, b)]))) else if t.1 < 10 then (kw 32, []) :: (oL (fun x => ntk h x []) t.2.2.1 ++ ((kw (32 + t.1), []) :: (oL (fun x => ntk h x []) t.2.2.2 ++ [(kw 33, b)]))) else oL (fun x => ntk h x []) t.2.2.1 ++ ((kw (32 + t.1), []) :: oL (fun x => ntk h x b) t.2.2.2)
theorem ntk_s (h : Nat) (t : Nd (h + 1)) (b : List Nat) : ntk (h + 1) t b = if t.1 = 0 then [(decL t.2.1, b)] else if t.1 = 1 then [(kw (16 + t.2.1), b)] else if t.1 = 2 then [(kw 6, [32]), (kw 26, [32]), (nmL 102 t.2.1, b)] else if t.1 = 3 then (kw 39, []) :: oL (fun x => ntk h x b) t.2.2.1 else if t.1 = 4 then (kw 30, []) :: (kw 32, []) :: (oL (fun x => ntk h x []) t.2.2.1 ++ ((kw 37, []) :: (oL (fun x => ntk h x []) t.2.2.2 ++ [(kw 33, b)]))) else if t.1 = 5 then (kw 31, []) :: (kw 32, []) :: (oL (fun x => ntk h x [32]) t.2.2.1 ++ ((kw 37, [32]) :: (oL (fun x => ntk h x []) t.2.2.2 ++ [(kw 33, b)]))) else if t.1 = 15 then [(kw 24, [32]), (nmL 102 t.2.1, b)] else if t.1 = 16 then [(kw 23, [32]), (nmL 103 t.2.1, b)] else if t.1 = 17 then [(kw 25, [32]), (nmL 103 t.2.1, b)] else if t.1 = 18 then (kw 27, [32]) :: oL (fun x => ntk h x b) t.2.2.1 else if t.1 = 19 then (kw 34, []) :: (oL (fun x => ntk h x [32]) t.2.2.1 ++ ((kw 28, [32]) :: (oL (fun x => ntk h x []) t.2.2.2 ++ [(kw 35, b)]))) else if t.1 = 20 then (kw 34, []) :: (oL (fun x => ntk h x [32]) t.2.2.1 ++ ((kw 29, [32]) :: (oL (fun x => ntk h x []) t.2.2.2 ++ [(kw 35, b)]))) else if t.1 < 10 then (kw 32, []) :: (oL (fun x => ntk h x []) t.2.2.1 ++ ((kw (32 + t.1), []) :: (oL (fun x => ntk h x []) t.2.2.2 ++ [(kw 33, b)]))) else oL (fun x => ntk h x []) t.2.2.1 ++ ((kw (32 + t.1), []) :: oL (fun x => ntk h x b) t.2.2.2) := rfl
theorem flt_app (ts us : List Tk) : flt (ts ++ us) = flt ts ++ flt us := by
  induction ts with
  | nil => rfl
  | cons t r ih =>
    show t.1 ++ (t.2 ++ flt (r ++ us)) = (t.1 ++ (t.2 ++ flt r)) ++ flt us
    rw [ih, List.append_assoc, List.append_assoc]
theorem sg_kw : ∀ j, j < 9 → ltx (sgnK j) = kw (38 + j) := by decide +kernel
theorem wd_kw : ∀ j, j < 7 → ltx (wrdK j) = kw (16 + j) := by decide +kernel
theorem ntk_tx : ∀ (h : Nat) (t : Nd h) (b : List Nat), TxOk h t → flt (ntk h t b) = ntx h t ++ b := by
  intro h
  induction h with
  | zero => intro t; exact t.elim
  | succ h ih =>
    intro t b ht
    have F1 : ∀ (l m : List Nat) (r : List Tk), flt ((l, m) :: r) = l ++ (m ++ flt r) := fun _ _ _ => rfl
    have F0 : flt [] = [] := rfl
    rw [ntx_s]
    unfold ntk
    rcases ht with ⟨hs, hn⟩ | ⟨hs, hn⟩ | ⟨hs, hn⟩ | ⟨hs, x, hx, hxo⟩ | ⟨hs, ⟨x, hx, hxo⟩, y, hy, hyo⟩ | ⟨hs, ⟨x, hx, hxo⟩, y, hy, hyo⟩ | ⟨hs, hn⟩ | ⟨hs, hn⟩ | ⟨hs, hn⟩ | ⟨hs, x, hx, hxo⟩ | ⟨hs, ⟨x, hx, hxo⟩, y, hy, hyo⟩ | ⟨hs, ⟨x, hx, hxo⟩, y, hy, hyo⟩ | ⟨h6, h9, ⟨x, hx, hxo⟩, y, hy, hyo⟩ | ⟨h6, h9, ⟨x, hx, hxo⟩, y, hy, hyo⟩
    · rw [if_pos hs, if_pos hs, F1, F0]
      show decL t.2.1 ++ (b ++ []) = (([] ++ []) ++ decL t.2.1) ++ b
      simp only [List.append_nil, List.nil_append]
    · rw [hs]
      show flt [(kw (16 + t.2.1), b)] = ltx (wrdK t.2.1) ++ b
      rw [F1, F0, wd_kw _ hn, List.append_nil]
    · rw [hs]
      show flt [(kw 6, [32]), (kw 26, [32]), (nmL 102 t.2.1, b)] = (([] ++ ltx 28) ++ decL t.2.1) ++ b
      rw [F1, F1, F1, F0, show ltx 28 = kw 6 ++ ([32] ++ (kw 26 ++ ([32] ++ [102]))) from rfl, show nmL 102 t.2.1 = [102] ++ decL t.2.1 from rfl]
      simp only [List.append_nil, List.nil_append, List.append_assoc]
    · rw [hs, hx]
      show flt ((kw 39, []) :: ntk h x b) = (([] ++ ltx 29) ++ ntx h x) ++ b
      rw [F1, ih x b hxo, show ltx 29 = kw 39 from rfl]
      simp only [List.nil_append, List.append_assoc]
    · rw [hs, hx, hy]
      show flt ((kw 30, []) :: (kw 32, []) :: (ntk h x [] ++ ((kw 37, []) :: (ntk h y [] ++ [(kw 33, b)])))) = ((((([] ++ ltx 30) ++ ntx h x) ++ ltx 31) ++ ntx h y) ++ ltx 32) ++ b
      rw [F1, F1, flt_app, F1, flt_app, F1, F0, ih x [] hxo, ih y [] hyo, show ltx 30 = kw 30 ++ kw 32 from rfl, show ltx 31 = kw 37 from rfl, show ltx 32 = kw 33 from rfl]
      simp only [List.append_nil, List.nil_append, List.append_assoc]
    · rw [hs, hx, hy]
      show flt ((kw 31, []) :: (kw 32, []) :: (ntk h x [32] ++ ((kw 37, [32]) :: (ntk h y [] ++ [(kw 33, b)])))) = ((((([] ++ ltx 33) ++ ntx h x) ++ ltx 34) ++ ntx h y) ++ ltx 32) ++ b
      rw [F1, F1, flt_app, F1, flt_app, F1, F0, ih x [32] hxo, ih y [] hyo, show ltx 33 = kw 31 ++ kw 32 from rfl, show ltx 34 = [32] ++ (kw 37 ++ [32]) from rfl, show ltx 32 = kw 33 from rfl]
      simp only [List.append_nil, List.nil_append, List.append_assoc]
    · rw [hs]
      show flt [(kw 24, [32]), (nmL 102 t.2.1, b)] = (([] ++ ltx 35) ++ decL t.2.1) ++ b
      rw [F1, F1, F0, show ltx 35 = kw 24 ++ ([32] ++ [102]) from rfl, show nmL 102 t.2.1 = [102] ++ decL t.2.1 from rfl]
      simp only [List.append_nil, List.nil_append, List.append_assoc]
    · rw [hs]
      show flt [(kw 23, [32]), (nmL 103 t.2.1, b)] = (([] ++ ltx 36) ++ decL t.2.1) ++ b
      rw [F1, F1, F0, show ltx 36 = kw 23 ++ ([32] ++ [103]) from rfl, show nmL 103 t.2.1 = [103] ++ decL t.2.1 from rfl]
      simp only [List.append_nil, List.nil_append, List.append_assoc]
    · rw [hs]
      show flt [(kw 25, [32]), (nmL 103 t.2.1, b)] = (([] ++ ltx 37) ++ decL t.2.1) ++ b
      rw [F1, F1, F0, show ltx 37 = kw 25 ++ ([32] ++ [103]) from rfl, show nmL 103 t.2.1 = [103] ++ decL t.2.1 from rfl]
      simp only [List.append_nil, List.nil_append, List.append_assoc]
    · rw [hs, hx]
      show flt ((kw 27, [32]) :: ntk h x b) = (([] ++ ltx 38) ++ ntx h x) ++ b
      rw [F1, ih x b hxo, show ltx 38 = kw 27 ++ [32] from rfl]
      simp only [List.nil_append, List.append_assoc]
    · rw [hs, hx, hy]
      show flt ((kw 34, []) :: (ntk h x [32] ++ ((kw 28, [32]) :: (ntk h y [] ++ [(kw 35, b)])))) = ((((([] ++ ltx 39) ++ ntx h x) ++ ltx 40) ++ ntx h y) ++ ltx 41) ++ b
      rw [F1, flt_app, F1, flt_app, F1, F0, ih x [32] hxo, ih y [] hyo, show ltx 39 = kw 34 from rfl, show ltx 40 = [32] ++ (kw 28 ++ [32]) from rfl, show ltx 41 = kw 35 from rfl]
      simp only [List.append_nil, List.nil_append, List.append_assoc]
    · rw [hs, hx, hy]
      show flt ((kw 34, []) :: (ntk h x [32] ++ ((kw 29, [32]) :: (ntk h y [] ++ [(kw 35, b)])))) = ((((([] ++ ltx 39) ++ ntx h x) ++ ltx 42) ++ ntx h y) ++ ltx 41) ++ b
      rw [F1, flt_app, F1, flt_app, F1, F0, ih x [32] hxo, ih y [] hyo, show ltx 39 = kw 34 from rfl, show ltx 42 = [32] ++ (kw 29 ++ [32]) from rfl, show ltx 41 = kw 35 from rfl]
      simp only [List.append_nil, List.nil_append, List.append_assoc]
    · rw [← ntx_s h t, ntx_lo h6 h9, if_neg (show ¬ t.1 = 0 by omega), if_neg (show ¬ t.1 = 1 by omega), if_neg (show ¬ t.1 = 2 by omega), if_neg (show ¬ t.1 = 3 by omega), if_neg (show ¬ t.1 = 4 by omega), if_neg (show ¬ t.1 = 5 by omega), if_neg (show ¬ t.1 = 15 by omega), if_neg (show ¬ t.1 = 16 by omega), if_neg (show ¬ t.1 = 17 by omega), if_neg (show ¬ t.1 = 18 by omega), if_neg (show ¬ t.1 = 19 by omega), if_neg (show ¬ t.1 = 20 by omega), if_pos h9, hx, hy]
      show flt ((kw 32, []) :: (ntk h x [] ++ ((kw (32 + t.1), []) :: (ntk h y [] ++ [(kw 33, b)])))) = ((((([] ++ ltx 43) ++ ntx h x) ++ ltx (sgnK (t.1 - 6))) ++ ntx h y) ++ ltx 32) ++ b
      rw [F1, flt_app, F1, flt_app, F1, F0, ih x [] hxo, ih y [] hyo, sg_kw _ (by omega), show 38 + (t.1 - 6) = 32 + t.1 by omega, show ltx 43 = kw 32 from rfl, show ltx 32 = kw 33 from rfl]
      simp only [List.append_nil, List.nil_append, List.append_assoc]
    · rw [← ntx_s h t, ntx_hi h6 h9, if_neg (show ¬ t.1 = 0 by omega), if_neg (show ¬ t.1 = 1 by omega), if_neg (show ¬ t.1 = 2 by omega), if_neg (show ¬ t.1 = 3 by omega), if_neg (show ¬ t.1 = 4 by omega), if_neg (show ¬ t.1 = 5 by omega), if_neg (show ¬ t.1 = 15 by omega), if_neg (show ¬ t.1 = 16 by omega), if_neg (show ¬ t.1 = 17 by omega), if_neg (show ¬ t.1 = 18 by omega), if_neg (show ¬ t.1 = 19 by omega), if_neg (show ¬ t.1 = 20 by omega), if_neg (show ¬ t.1 < 10 by omega), hx, hy]
      show flt (ntk h x [] ++ ((kw (32 + t.1), []) :: ntk h y b)) = ((([] ++ ntx h x) ++ ltx (sgnK (t.1 - 6))) ++ ntx h y) ++ b
      rw [flt_app, F1, ih x [] hxo, ih y b hyo, sg_kw _ (by omega), show 38 + (t.1 - 6) = 32 + t.1 by omega]
      simp only [List.append_nil, List.nil_append, List.append_assoc]
