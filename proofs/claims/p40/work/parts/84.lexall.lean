/-! THE PLAN'S TOKENS are read one by one; how many; letters below 128 -/
theorem lx_n1 {v : Nat} {r : List Tk} (hv : v < 1000000) (hr : LexOk r) : LexOk ((decL v, [32]) :: r) := lx_nu hv bl1 bl_nw hr
theorem lx_m1 {c j : Nat} {r : List Tk} (hc : c = 102 ∨ c = 103) (hj : j < 10) (hr : LexOk r) : LexOk ((nmL c j, [32]) :: r) := lx_nm hc hj bl1 bl_nw hr
theorem ftk_lex {j : Nat} {x : Nat × Nat × Nat × Nat} {r : List Tk} (hj : j < 10) (hx : FrOk x) (hr : LexOk r) : LexOk (ftk j x ++ r) := by
  obtain ⟨h1, h2, h3, h4, h5, h6⟩ := hx
  exact lx_k1 (by decide) (lx_m1 (Or.inl rfl) hj (lx_k1 (by decide) (lx_k1 (by split <;> decide) (lx_k1 (by decide) (lx_n1 (by omega) (lx_k1 (by decide) (lx_n1 (by omega) (lx_k1 (by decide) (lx_nu (by omega) bl0 (sg_nw (by decide) (by decide)) (lx_s (by decide) (by decide) bl0 (by decide) (by decide) hr))))))))))
theorem gtk_lex {j : Nat} {x : Nat × Nat × Nat × Nat} {r : List Tk} (hj : j < 10) (hx : GuOk x) (hr : LexOk r) : LexOk (gtk j x ++ r) := by
  obtain ⟨h1, h2, h3, h4, h5⟩ := hx
  exact lx_k1 (by decide) (lx_m1 (Or.inr rfl) hj (lx_k1 (by decide) (lx_n1 (by omega) (lx_k1 (by decide) (lx_n1 (by omega) (lx_k1 (by decide) (lx_n1 (by omega) (lx_k1 (by decide) (lx_nu (by omega) bl0 (sg_nw (by decide) (by decide)) (lx_s (by decide) (by decide) (by split <;> decide) (by decide) (by decide) hr))))))))))
theorem wtk_lex {nf ng : Nat} (hnf : nf ≤ 10) (hng : ng ≤ 10) {o : Od} {r : List Tk} (ho : OdOk nf ng o) (hr : LexOk r) : LexOk (wtk o ++ r) ∧ (∀ x ∈ otb o, blk x = true) ∧ wrd (at6 (otb o ++ flt (wtk o ++ r)) 0) = false := by
  unfold wtk otb
  rcases ho.2 with h | ⟨t, h, ht⟩
  · rw [h]
    exact ⟨lx_s (by decide) (by decide) bl0 (by decide) (by decide) hr, bl0, sg_nw (by decide) (by decide)⟩
  · rw [h]
    refine ⟨?_, bl1, bl_nw⟩
    show LexOk ((kw 15, [32]) :: ((ntk 4 t [] ++ [(kw 36, [])]) ++ r))
    rw [List.append_assoc]
    exact lx_k1 (by decide) (ntk_lex hnf hng 4 t [] _ (T1_gr ht).1 (lx_s (by decide) (by decide) bl0 (by decide) (by decide) hr) bl0 (sg_nw (by decide) (by decide)))
theorem otk_lex {nf ng : Nat} (hnf : nf ≤ 10) (hng : ng ≤ 10) {o : Od} {r : List Tk} (ho : OdOk nf ng o) (hr : LexOk r) : LexOk (otk o ++ r) := by
  obtain ⟨w1, w2, w3⟩ := wtk_lex hnf hng ho hr
  obtain ⟨h0, -⟩ := ho
  unfold otk
  by_cases q0 : o.1 = 0
  · rw [if_pos q0]
    exact lx_k1 (by decide) (lx_nm (Or.inl rfl) (by omega) w2 w3 w1)
  rw [if_neg q0]
  by_cases q1 : o.1 = 1
  · rw [if_pos q1]
    exact lx_k1 (by decide) (lx_nm (Or.inr rfl) (by omega) w2 w3 w1)
  rw [if_neg q1]
  by_cases q2 : o.1 = 2
  · rw [if_pos q2]
    exact lx_kw (by decide) w2 w3 w1
  · rw [if_neg q2]
    exact lx_kw (by decide) w2 w3 w1
theorem ftks_lex (fr : Nat → Nat × Nat × Nat × Nat) : ∀ i, i ≤ 10 → (∀ j, j < i → FrOk (fr j)) → ∀ r, LexOk r → LexOk (ftks fr i ++ r) := by
  intro i
  induction i with
  | zero => intro _ _ r hr; exact hr
  | succ i ih =>
    intro hi hf r hr
    show LexOk ((ftks fr i ++ ftk i (fr i)) ++ r)
    rw [List.append_assoc]
    exact ih (by omega) (fun j hj => hf j (by omega)) _ (ftk_lex (by omega) (hf i (Nat.lt_succ_self i)) hr)
theorem gtks_lex (gu : Nat → Nat × Nat × Nat × Nat) : ∀ i, i ≤ 10 → (∀ j, j < i → GuOk (gu j)) → ∀ r, LexOk r → LexOk (gtks gu i ++ r) := by
  intro i
  induction i with
  | zero => intro _ _ r hr; exact hr
  | succ i ih =>
    intro hi hf r hr
    show LexOk ((gtks gu i ++ gtk i (gu i)) ++ r)
    rw [List.append_assoc]
    exact ih (by omega) (fun j hj => hf j (by omega)) _ (gtk_lex (by omega) (hf i (Nat.lt_succ_self i)) hr)
theorem otks_lex {nf ng : Nat} (hnf : nf ≤ 10) (hng : ng ≤ 10) : ∀ (os : List Od), (∀ o ∈ os, OdOk nf ng o) → LexOk (otks os) := by
  intro os
  induction os with
  | nil => intro _; exact trivial
  | cons o r ih =>
    intro h
    exact otk_lex hnf hng (h o List.mem_cons_self) (ih (fun q hq => h q (List.mem_cons_of_mem _ hq)))
theorem ptk_lex {P : Pl} (hP : PlOk P) : LexOk (ptk P) := by
  obtain ⟨h1, h2, h3, h4, h5, h6⟩ := hP
  exact ftks_lex P.fr P.nf (by omega) h3 _ (gtks_lex P.gu P.ng (by omega) h4 _ (otks_lex (nf := P.nf) (ng := P.ng) (by omega) (by omega) P.os h6))
/-! letters -/
theorem ftxs_128 {fr : Nat → Nat × Nat × Nat × Nat} : ∀ i, i ≤ 10 → (∀ j, j < i → FrOk (fr j)) → ∀ x ∈ ftxs fr i, x < 128 := by
  intro i
  induction i with
  | zero => intro _ _; exact nil_128
  | succ i ih =>
    intro hi hf
    obtain ⟨h1, h2, h3, h4, h5, h6⟩ := hf i (Nat.lt_succ_self i)
    exact app_128 (app_128 (app_128 (app_128 (app_128 (app_128 (app_128 (app_128 (app_128 (ih (by omega) (fun j hj => hf j (by omega))) (ltx_128 0 (by decide))) (decL_128 (by omega))) (ltx_128 _ (by split <;> decide))) (decL_128 (by omega))) (ltx_128 3 (by decide))) (decL_128 (by omega))) (ltx_128 4 (by decide))) (decL_128 (by omega))) (ltx_128 5 (by decide))
theorem gtxs_128 {t : List Nat} (ht : ∀ x ∈ t, x < 128) {gu : Nat → Nat × Nat × Nat × Nat} : ∀ i, i ≤ 10 → (∀ j, j < i → GuOk (gu j)) → ∀ x ∈ gtxs t gu i, x < 128 := by
  intro i
  induction i with
  | zero => intro _ _; exact ht
  | succ i ih =>
    intro hi hf
    obtain ⟨h1, h2, h3, h4, h5⟩ := hf i (Nat.lt_succ_self i)
    exact app_128 (app_128 (app_128 (app_128 (app_128 (app_128 (app_128 (app_128 (app_128 (app_128 (app_128 (ih (by omega) (fun j hj => hf j (by omega))) (ltx_128 6 (by decide))) (decL_128 (by omega))) (ltx_128 3 (by decide))) (decL_128 (by omega))) (ltx_128 7 (by decide))) (decL_128 (by omega))) (ltx_128 8 (by decide))) (decL_128 (by omega))) (ltx_128 9 (by decide))) (decL_128 (by omega))) (ltx_128 _ (by split <;> decide))
theorem otxs_128 {nf ng : Nat} (hnf : nf ≤ 8) (hng : ng ≤ 8) : ∀ (os : List Od) (t : List Nat), (∀ x ∈ t, x < 128) → (∀ o ∈ os, OdOk nf ng o) → ∀ x ∈ otxs t os, x < 128 := by
  intro os
  induction os with
  | nil => intro t ht _; exact ht
  | cons o r ih => intro t ht h; exact ih _ (app_128 ht (otx_128 (Od_tx hnf hng (h o List.mem_cons_self)).2.1)) (fun q hq => h q (List.mem_cons_of_mem _ hq))
theorem ptx_128 {P : Pl} (hP : PlOk P) : ∀ x ∈ ptx P, x < 128 := by
  obtain ⟨h1, h2, h3, h4, h5, h6⟩ := hP
  exact otxs_128 (nf := P.nf) (ng := P.ng) (by omega) (by omega) _ _ (gtxs_128 (ftxs_128 P.nf (by omega) h3) P.ng (by omega) h4) h6
theorem ptx_len {P : Pl} (hP : PlOk P) : (ptx P).length ≤ 1100 := by
  obtain ⟨h1, h2, h3, h4, h5, h6⟩ := hP
  have a1 := ftxs_len P.nf h1 h3
  have a2 := gtxs_len (t := ftxs P.fr P.nf) P.ng (by omega) h4
  have a3 := otxs_len (nf := P.nf) (ng := P.ng) (by omega) (by omega) P.os (gtxs (ftxs P.fr P.nf) P.gu P.ng) h6
  show (otxs (gtxs (ftxs P.fr P.nf) P.gu P.ng) P.os).length ≤ _
  omega
/-! how many tokens -/
theorem flt_many {ts : List Tk} (h : LexOk ts) : ts.length ≤ (flt ts).length := by
  induction ts with
  | nil => exact Nat.le_refl _
  | cons t r ih =>
    have h1 := h.1.1
    have h2 := ih h.2.2
    show r.length + 1 ≤ (t.1 ++ (t.2 ++ flt r)).length
    rw [List.length_append, List.length_append]
    omega
theorem oL_len {α β : Type} {P : α → Prop} {f : α → List β} {N : Nat} {o : Option α} (h : one P o) (hf : ∀ x, P x → (f x).length ≤ N) : (oL f o).length ≤ N := by
  obtain ⟨x, rfl, hx⟩ := h
  exact hf x hx
theorem S0_cnt {nf h : Nat} {t : Nd (h + 1)} (b : List Nat) (H : S0 nf h t) : (ntk (h + 1) t b).length ≤ 3 := by
  obtain ⟨⟨h1, h2⟩ | ⟨h1, h2⟩ | ⟨h1, h2⟩, hl⟩ := H
  · rw [ntk_0 h1]; exact Nat.le_of_ble_eq_true rfl
  · rw [ntk_1 h1]; exact Nat.le_of_ble_eq_true rfl
  · rw [ntk_2 h1]; exact Nat.le_of_ble_eq_true rfl
theorem S1_cnt {nf h : Nat} {t : Nd (h + 2)} (b : List Nat) (H : S1 nf h t) : (ntk (h + 2) t b).length ≤ 10 := by
  rcases H with H | ⟨h1, ha, hn⟩ | ⟨h1, h2, ha, hb⟩
  · exact Nat.le_trans (S0_cnt b H) (by decide)
  · have := oL_len (f := fun x => ntk (h + 1) x b) ha (fun x hx => S0_cnt b hx)
    rw [ntk_3 h1, List.length_cons]
    omega
  · have a1 := oL_len (f := fun x => ntk (h + 1) x []) ha (fun x hx => S0_cnt [] hx)
    have a2 := oL_len (f := fun x => ntk (h + 1) x [32]) ha (fun x hx => S0_cnt [32] hx)
    have a3 := oL_len (f := fun x => ntk (h + 1) x []) hb (fun x hx => S0_cnt [] hx)
    by_cases q4 : t.1 = 4
    · rw [ntk_4 q4]
      simp only [List.length_cons, List.length_append, List.length_nil]
      omega
    by_cases q5 : t.1 = 5
    · rw [ntk_5 q5]
      simp only [List.length_cons, List.length_append, List.length_nil]
      omega
    rw [ntk_lo (by omega) h2]
    simp only [List.length_cons, List.length_append, List.length_nil]
    omega
theorem T0_cnt {nf ng h : Nat} {t : Nd (h + 3)} (b : List Nat) (H : T0 nf ng h t) : (ntk (h + 3) t b).length ≤ 14 := by
  rcases H with ⟨h1, h2, -⟩ | ⟨h1, h2, -⟩ | ⟨h1, h2, ha, hb⟩
  · rw [ntk_15 h1]; exact Nat.le_of_ble_eq_true rfl
  · rcases h1 with h1 | h1
    · rw [ntk_16 h1]; exact Nat.le_of_ble_eq_true rfl
    · rw [ntk_17 h1]; exact Nat.le_of_ble_eq_true rfl
  · have a1 := oL_len (f := fun x => ntk (h + 2) x []) ha (fun x hx => S1_cnt [] hx)
    have a3 := oL_len (f := fun x => ntk (h + 2) x b) hb (fun x hx => S0_cnt b hx)
    rw [ntk_hi h1 h2]
    simp only [List.length_cons, List.length_append]
    omega
theorem T1_cnt {nf ng h : Nat} {t : Nd (h + 4)} (b : List Nat) (H : T1 nf ng h t) : (ntk (h + 4) t b).length ≤ 31 := by
  rcases H with H | ⟨h1, ha, hn⟩ | ⟨h1, ha, hb⟩
  · exact Nat.le_trans (T0_cnt b H) (by decide)
  · have := oL_len (f := fun x => ntk (h + 3) x b) ha (fun x hx => T0_cnt b hx)
    rw [ntk_18 h1, List.length_cons]
    omega
  · have a2 := oL_len (f := fun x => ntk (h + 3) x [32]) ha (fun x hx => T0_cnt [32] hx)
    have a3 := oL_len (f := fun x => ntk (h + 3) x []) hb (fun x hx => T0_cnt [] hx)
    rcases h1 with h1 | h1
    · rw [ntk_19 h1]
      simp only [List.length_cons, List.length_append, List.length_nil]
      omega
    · rw [ntk_20 h1]
      simp only [List.length_cons, List.length_append, List.length_nil]
      omega
theorem otk_cnt {nf ng : Nat} {o : Od} (ho : OdOk nf ng o) : (otk o).length ≤ 35 := by
  have hw : (wtk o).length ≤ 33 := by
    unfold wtk
    rcases ho.2 with h | ⟨t, h, ht⟩
    · rw [h]; exact Nat.le_of_ble_eq_true rfl
    · rw [h]
      have : (ntk 4 t []).length ≤ 31 := T1_cnt [] ht
      show ((kw 15, [32]) :: (ntk 4 t [] ++ [(kw 36, [])])).length ≤ 33
      simp only [List.length_cons, List.length_append, List.length_nil]
      omega
  unfold otk
  split
  · simp only [List.length_cons]; omega
  · split
    · simp only [List.length_cons]; omega
    · split
      · simp only [List.length_cons]; omega
      · simp only [List.length_cons]; omega
theorem ftks_cnt (fr : Nat → Nat × Nat × Nat × Nat) : ∀ i, (ftks fr i).length = 11 * i := by
  intro i
  induction i with
  | zero => rfl
  | succ i ih =>
    show (ftks fr i ++ ftk i (fr i)).length = _
    rw [List.length_append, ih]
    show 11 * i + 11 = 11 * (i + 1)
    omega
theorem gtks_cnt (gu : Nat → Nat × Nat × Nat × Nat) : ∀ i, (gtks gu i).length = 11 * i := by
  intro i
  induction i with
  | zero => rfl
  | succ i ih =>
    show (gtks gu i ++ gtk i (gu i)).length = _
    rw [List.length_append, ih]
    show 11 * i + 11 = 11 * (i + 1)
    omega
theorem otks_cnt {nf ng : Nat} : ∀ (os : List Od), (∀ o ∈ os, OdOk nf ng o) → (otks os).length ≤ 35 * os.length := by
  intro os
  induction os with
  | nil => intro _; exact Nat.le_refl _
  | cons o r ih =>
    intro h
    have h1 := otk_cnt (h o List.mem_cons_self)
    have h2 := ih (fun q hq => h q (List.mem_cons_of_mem _ hq))
    show (otk o ++ otks r).length ≤ 35 * (r.length + 1)
    rw [List.length_append]
    omega
theorem ptk_cnt {P : Pl} (hP : PlOk P) : (ptk P).length ≤ 305 := by
  obtain ⟨h1, h2, h3, h4, h5, h6⟩ := hP
  have a := otks_cnt P.os h6
  unfold ptk
  rw [List.length_append, List.length_append, ftks_cnt, gtks_cnt]
  omega
/-- the tape of the plan's text, read -/
theorem plan_read {P : Pl} (hP : PlOk P) {n : Nat} (hn : 2100 < n) {bh : bX11} {B : Nat → Int32} (hB : ∀ j, j < (ptx P).length → B j = nI ((ptx P).getD j 0)) : ∃ K' sT' vT', f_X11_readAll n bh (B, nI (ptx P).length) = some (K', sT', vT', nI ((ptk P).length + 1), 0, 0, 0) ∧ (∀ j t, (ptk P)[j]? = some t → K' j = kdL t.1 ∧ vT' j = vlL t.1) ∧ K' (ptk P).length = 49 := by
  have e := ptk_tx hP
  have h1 := ptx_len hP
  have h2 := ptx_128 hP
  have h3 := ptk_cnt hP
  rw [← e] at hB h1 h2 ⊢
  exact read_ok (ptk_lex hP) (by omega) h2 (by omega) hn hB
