/-! THE PLAN'S TEXT is a text of tokens -/
def small : (h : Nat) → Nd h → Prop
  | 0, _ => False
  | _ + 1, t => t.1 < 10
/-- trees that the grammar reads -/
def GrOk (nf ng : Nat) : (h : Nat) → Nd h → Prop
  | 0, _ => False
  | h + 1, t => (t.1 = 0 ∧ t.2.1 < 1000000 ∧ t.2.2 = (none, none)) ∨ (t.1 = 1 ∧ t.2.1 < 7 ∧ t.2.2 = (none, none)) ∨ (t.1 = 2 ∧ t.2.1 < nf ∧ t.2.2 = (none, none)) ∨ (t.1 = 3 ∧ one (fun x => GrOk nf ng h x ∧ small h x) t.2.2.1 ∧ t.2.2.2 = none) ∨ ((4 ≤ t.1 ∧ t.1 < 10) ∧ one (fun x => GrOk nf ng h x ∧ small h x) t.2.2.1 ∧ one (fun x => GrOk nf ng h x ∧ small h x) t.2.2.2) ∨ ((10 ≤ t.1 ∧ t.1 < 15) ∧ one (fun x => GrOk nf ng h x ∧ small h x) t.2.2.1 ∧ one (fun x => GrOk nf ng h x ∧ small h x) t.2.2.2) ∨ (t.1 = 15 ∧ t.2.1 < nf ∧ t.2.2 = (none, none)) ∨ ((t.1 = 16 ∨ t.1 = 17) ∧ t.2.1 < ng ∧ t.2.2 = (none, none)) ∨ (t.1 = 18 ∧ one (fun x => GrOk nf ng h x ∧ big h x) t.2.2.1 ∧ t.2.2.2 = none) ∨ ((t.1 = 19 ∨ t.1 = 20) ∧ one (fun x => GrOk nf ng h x ∧ big h x) t.2.2.1 ∧ one (fun x => GrOk nf ng h x ∧ big h x) t.2.2.2)
theorem S0_gr {nf ng h : Nat} {t : Nd (h + 1)} (H : S0 nf h t) : GrOk nf ng (h + 1) t ∧ small (h + 1) t := by
  obtain ⟨⟨h1, h2⟩ | ⟨h1, h2⟩ | ⟨h1, h2⟩, hl⟩ := H
  · exact ⟨Or.inl ⟨h1, h2, hl⟩, by show t.1 < 10; omega⟩
  · exact ⟨Or.inr (Or.inl ⟨h1, h2, hl⟩), by show t.1 < 10; omega⟩
  · exact ⟨Or.inr (Or.inr (Or.inl ⟨h1, h2, hl⟩)), by show t.1 < 10; omega⟩
theorem S1_gr {nf ng h : Nat} {t : Nd (h + 2)} (H : S1 nf h t) : GrOk nf ng (h + 2) t ∧ small (h + 2) t := by
  rcases H with H | ⟨h1, ha, hn⟩ | ⟨h1, h2, ha, hb⟩
  · exact S0_gr H
  · exact ⟨Or.inr (Or.inr (Or.inr (Or.inl ⟨h1, one_mono ha (fun x hx => S0_gr hx), hn⟩))), by show t.1 < 10; omega⟩
  · exact ⟨Or.inr (Or.inr (Or.inr (Or.inr (Or.inl ⟨⟨h1, h2⟩, one_mono ha (fun x hx => S0_gr hx), one_mono hb (fun x hx => S0_gr hx)⟩)))), h2⟩
theorem T0_gr {nf ng h : Nat} {t : Nd (h + 3)} (H : T0 nf ng h t) : GrOk nf ng (h + 3) t ∧ big (h + 3) t := by
  rcases H with ⟨h1, h2, hl⟩ | ⟨h1, h2, hl⟩ | ⟨h1, h2, ha, hb⟩
  · exact ⟨Or.inr (Or.inr (Or.inr (Or.inr (Or.inr (Or.inr (Or.inl ⟨h1, h2, hl⟩)))))), by show 10 ≤ t.1; omega⟩
  · exact ⟨Or.inr (Or.inr (Or.inr (Or.inr (Or.inr (Or.inr (Or.inr (Or.inl ⟨h1, h2, hl⟩))))))), by show 10 ≤ t.1; omega⟩
  · exact ⟨Or.inr (Or.inr (Or.inr (Or.inr (Or.inr (Or.inl ⟨⟨h1, h2⟩, one_mono ha (fun x hx => S1_gr hx), one_mono hb (fun x hx => S0_gr hx)⟩))))), h1⟩
theorem T1_gr {nf ng h : Nat} {t : Nd (h + 4)} (H : T1 nf ng h t) : GrOk nf ng (h + 4) t ∧ big (h + 4) t := by
  rcases H with H | ⟨h1, ha, hn⟩ | ⟨h1, ha, hb⟩
  · exact T0_gr H
  · exact ⟨Or.inr (Or.inr (Or.inr (Or.inr (Or.inr (Or.inr (Or.inr (Or.inr (Or.inl ⟨h1, one_mono ha (fun x hx => T0_gr hx), hn⟩)))))))), by show 10 ≤ t.1; omega⟩
  · exact ⟨Or.inr (Or.inr (Or.inr (Or.inr (Or.inr (Or.inr (Or.inr (Or.inr (Or.inr ⟨h1, one_mono ha (fun x hx => T0_gr hx), one_mono hb (fun x hx => T0_gr hx)⟩)))))))), by show 10 ≤ t.1; omega⟩
theorem kw_hd : ∀ k, k < 47 → k ≠ 44 → 0 < (kw k).length ∧ at6 (kw k) 0 ≠ 61 := by decide +kernel
theorem hd_l {l m : List Nat} (h : 0 < l.length ∧ at6 l 0 ≠ 61) : at6 (l ++ m) 0 ≠ 61 := by
  rw [at6_l h.1]
  exact h.2
theorem hd_kw {k : Nat} {b : List Nat} {r : List Tk} (hk : k < 47) (h44 : k ≠ 44) : at6 (flt ((kw k, b) :: r)) 0 ≠ 61 := hd_l (kw_hd k hk h44)
theorem hd_num {v : Nat} {b : List Nat} {r : List Tk} (hv : v < 1000000) : at6 (flt ((decL v, b) :: r)) 0 ≠ 61 := by
  obtain ⟨h1, h2⟩ := dec_dig hv
  refine hd_l ⟨h2, fun z => ?_⟩
  have := (h1 _ (at6_mem h2)).1
  rw [z] at this
  exact absurd this (by decide)
/-- the names of a tree's sorts of one part or two -/
theorem ntk_lo {h : Nat} {t : Nd (h + 1)} (h6 : 6 ≤ t.1) (h9 : t.1 < 10) (b : List Nat) : ntk (h + 1) t b = (kw 32, []) :: (oL (fun x => ntk h x []) t.2.2.1 ++ ((kw (32 + t.1), []) :: (oL (fun x => ntk h x []) t.2.2.2 ++ [(kw 33, b)]))) := by
  rw [ntk_s, if_neg (show ¬ t.1 = 0 by omega), if_neg (show ¬ t.1 = 1 by omega), if_neg (show ¬ t.1 = 2 by omega), if_neg (show ¬ t.1 = 3 by omega), if_neg (show ¬ t.1 = 4 by omega), if_neg (show ¬ t.1 = 5 by omega), if_neg (show ¬ t.1 = 15 by omega), if_neg (show ¬ t.1 = 16 by omega), if_neg (show ¬ t.1 = 17 by omega), if_neg (show ¬ t.1 = 18 by omega), if_neg (show ¬ t.1 = 19 by omega), if_neg (show ¬ t.1 = 20 by omega), if_pos h9]
theorem ntk_hi {h : Nat} {t : Nd (h + 1)} (h6 : 10 ≤ t.1) (h9 : t.1 < 15) (b : List Nat) : ntk (h + 1) t b = oL (fun x => ntk h x []) t.2.2.1 ++ ((kw (32 + t.1), []) :: oL (fun x => ntk h x b) t.2.2.2) := by
  rw [ntk_s, if_neg (show ¬ t.1 = 0 by omega), if_neg (show ¬ t.1 = 1 by omega), if_neg (show ¬ t.1 = 2 by omega), if_neg (show ¬ t.1 = 3 by omega), if_neg (show ¬ t.1 = 4 by omega), if_neg (show ¬ t.1 = 5 by omega), if_neg (show ¬ t.1 = 15 by omega), if_neg (show ¬ t.1 = 16 by omega), if_neg (show ¬ t.1 = 17 by omega), if_neg (show ¬ t.1 = 18 by omega), if_neg (show ¬ t.1 = 19 by omega), if_neg (show ¬ t.1 = 20 by omega), if_neg (show ¬ t.1 < 10 by omega)]
theorem ntk_0 {h : Nat} {t : Nd (h + 1)} (hs : t.1 = 0) (b : List Nat) : ntk (h + 1) t b = [(decL t.2.1, b)] := by rw [ntk_s, hs]; rfl
theorem ntk_1 {h : Nat} {t : Nd (h + 1)} (hs : t.1 = 1) (b : List Nat) : ntk (h + 1) t b = [(kw (16 + t.2.1), b)] := by rw [ntk_s, hs]; rfl
theorem ntk_2 {h : Nat} {t : Nd (h + 1)} (hs : t.1 = 2) (b : List Nat) : ntk (h + 1) t b = [(kw 6, [32]), (kw 26, [32]), (nmL 102 t.2.1, b)] := by rw [ntk_s, hs]; rfl
theorem ntk_3 {h : Nat} {t : Nd (h + 1)} (hs : t.1 = 3) (b : List Nat) : ntk (h + 1) t b = (kw 39, []) :: oL (fun x => ntk h x b) t.2.2.1 := by rw [ntk_s, hs]; rfl
theorem ntk_4 {h : Nat} {t : Nd (h + 1)} (hs : t.1 = 4) (b : List Nat) : ntk (h + 1) t b = (kw 30, []) :: (kw 32, []) :: (oL (fun x => ntk h x []) t.2.2.1 ++ ((kw 37, []) :: (oL (fun x => ntk h x []) t.2.2.2 ++ [(kw 33, b)]))) := by rw [ntk_s, hs]; rfl
theorem ntk_5 {h : Nat} {t : Nd (h + 1)} (hs : t.1 = 5) (b : List Nat) : ntk (h + 1) t b = (kw 31, []) :: (kw 32, []) :: (oL (fun x => ntk h x [32]) t.2.2.1 ++ ((kw 37, [32]) :: (oL (fun x => ntk h x []) t.2.2.2 ++ [(kw 33, b)]))) := by rw [ntk_s, hs]; rfl
theorem ntk_15 {h : Nat} {t : Nd (h + 1)} (hs : t.1 = 15) (b : List Nat) : ntk (h + 1) t b = [(kw 24, [32]), (nmL 102 t.2.1, b)] := by rw [ntk_s, hs]; rfl
theorem ntk_16 {h : Nat} {t : Nd (h + 1)} (hs : t.1 = 16) (b : List Nat) : ntk (h + 1) t b = [(kw 23, [32]), (nmL 103 t.2.1, b)] := by rw [ntk_s, hs]; rfl
theorem ntk_17 {h : Nat} {t : Nd (h + 1)} (hs : t.1 = 17) (b : List Nat) : ntk (h + 1) t b = [(kw 25, [32]), (nmL 103 t.2.1, b)] := by rw [ntk_s, hs]; rfl
theorem ntk_18 {h : Nat} {t : Nd (h + 1)} (hs : t.1 = 18) (b : List Nat) : ntk (h + 1) t b = (kw 27, [32]) :: oL (fun x => ntk h x b) t.2.2.1 := by rw [ntk_s, hs]; rfl
theorem ntk_19 {h : Nat} {t : Nd (h + 1)} (hs : t.1 = 19) (b : List Nat) : ntk (h + 1) t b = (kw 34, []) :: (oL (fun x => ntk h x [32]) t.2.2.1 ++ ((kw 28, [32]) :: (oL (fun x => ntk h x []) t.2.2.2 ++ [(kw 35, b)]))) := by rw [ntk_s, hs]; rfl
theorem ntk_20 {h : Nat} {t : Nd (h + 1)} (hs : t.1 = 20) (b : List Nat) : ntk (h + 1) t b = (kw 34, []) :: (oL (fun x => ntk h x [32]) t.2.2.1 ++ ((kw 29, [32]) :: (oL (fun x => ntk h x []) t.2.2.2 ++ [(kw 35, b)]))) := by rw [ntk_s, hs]; rfl
theorem bl0 : ∀ x ∈ ([] : List Nat), blk x = true := fun _ h => absurd h List.not_mem_nil
theorem bl1 : ∀ x ∈ [32], blk x = true := by decide
theorem bl_nw {l : List Nat} : wrd (at6 ([32] ++ l) 0) = false := by rw [at6_l (by decide)]; rfl
theorem lx_kw {k : Nat} {b : List Nat} {r : List Tk} (hk : k < 32) (hb : ∀ x ∈ b, blk x = true) (hw : wrd (at6 (b ++ flt r) 0) = false) (hr : LexOk r) : LexOk ((kw k, b) :: r) := ⟨kw_w hk hw, hb, hr⟩
theorem lx_k1 {k : Nat} {r : List Tk} (hk : k < 32) (hr : LexOk r) : LexOk ((kw k, [32]) :: r) := ⟨kw_w hk bl_nw, bl1, hr⟩
theorem lx_sg {k : Nat} {b : List Nat} {r : List Tk} (hk : k < 47) (h32 : 32 ≤ k) (hb : ∀ x ∈ b, blk x = true) (hn : k = 42 ∨ k = 43 → at6 (b ++ flt r) 0 ≠ 61) (hr : LexOk r) : LexOk ((kw k, b) :: r) := ⟨kw_s hk h32 hn, hb, hr⟩
theorem lx_s {k : Nat} {b : List Nat} {r : List Tk} (hk : k < 47) (h32 : 32 ≤ k) (hb : ∀ x ∈ b, blk x = true) (h42 : k ≠ 42) (h43 : k ≠ 43) (hr : LexOk r) : LexOk ((kw k, b) :: r) := lx_sg hk h32 hb (fun z => by omega) hr
theorem lx_nm {c j : Nat} {b : List Nat} {r : List Tk} (hc : c = 102 ∨ c = 103) (hj : j < 10) (hb : ∀ x ∈ b, blk x = true) (hw : wrd (at6 (b ++ flt r) 0) = false) (hr : LexOk r) : LexOk ((nmL c j, b) :: r) := ⟨nm_tok hc hj hw, hb, hr⟩
theorem lx_nu {v : Nat} {b : List Nat} {r : List Tk} (hv : v < 1000000) (hb : ∀ x ∈ b, blk x = true) (hw : wrd (at6 (b ++ flt r) 0) = false) (hr : LexOk r) : LexOk ((decL v, b) :: r) := ⟨(num_tok hv hw).1, hb, hr⟩
theorem sg_nw {k : Nat} {b : List Nat} {r : List Tk} (hk : k < 47) (h32 : 32 ≤ k) : wrd (at6 (flt ((kw k, b) :: r)) 0) = false := by
  obtain ⟨h1, -, h3, h4, -⟩ := kw_sg k hk h32
  show wrd (at6 (kw k ++ (b ++ flt r)) 0) = false
  rw [at6_l h1, wrd_or]
  exact ⟨h3, h4⟩
theorem ntk_hd {nf ng : Nat} : ∀ (h : Nat) (t : Nd h) (b : List Nat) (r : List Tk), GrOk nf ng h t → at6 (flt (ntk h t b ++ r)) 0 ≠ 61 := by
  intro h
  induction h with
  | zero => intro t _ _ H; exact H.elim
  | succ h ih =>
    intro t b r H
    rcases H with ⟨hs, hn, -⟩ | ⟨hs, hn, -⟩ | ⟨hs, hn, -⟩ | ⟨hs, -, -⟩ | ⟨⟨h4, h9⟩, -, -⟩ | ⟨⟨h6, h9⟩, ⟨x, hx, hxo, -⟩, -⟩ | ⟨hs, hn, -⟩ | ⟨hs | hs, hn, -⟩ | ⟨hs, -, -⟩ | ⟨hs | hs, -, -⟩
    · rw [ntk_0 hs]; exact hd_num hn
    · rw [ntk_1 hs]; exact hd_kw (by omega) (by omega)
    · rw [ntk_2 hs]; exact hd_kw (by decide) (by decide)
    · rw [ntk_3 hs]; exact hd_kw (by decide) (by decide)
    · by_cases q4 : t.1 = 4
      · rw [ntk_4 q4]; exact hd_kw (by decide) (by decide)
      by_cases q5 : t.1 = 5
      · rw [ntk_5 q5]; exact hd_kw (by decide) (by decide)
      rw [ntk_lo (by omega) h9]; exact hd_kw (by decide) (by decide)
    · rw [ntk_hi h6 h9, hx, List.append_assoc]
      exact ih x [] _ hxo
    · rw [ntk_15 hs]; exact hd_kw (by decide) (by decide)
    · rw [ntk_16 hs]; exact hd_kw (by decide) (by decide)
    · rw [ntk_17 hs]; exact hd_kw (by decide) (by decide)
    · rw [ntk_18 hs]; exact hd_kw (by decide) (by decide)
    · rw [ntk_19 hs]; exact hd_kw (by decide) (by decide)
    · rw [ntk_20 hs]; exact hd_kw (by decide) (by decide)
theorem ntk_lex {nf ng : Nat} (hnf : nf ≤ 10) (hng : ng ≤ 10) : ∀ (h : Nat) (t : Nd h) (b : List Nat) (r : List Tk), GrOk nf ng h t → LexOk r → (∀ x ∈ b, blk x = true) → wrd (at6 (b ++ flt r) 0) = false → LexOk (ntk h t b ++ r) := by
  intro h
  induction h with
  | zero => intro t _ _ H; exact H.elim
  | succ h ih =>
    intro t b r H hr hb hw
    rcases H with ⟨hs, hn, -⟩ | ⟨hs, hn, -⟩ | ⟨hs, hn, -⟩ | ⟨hs, ⟨x, hx, hxo, -⟩, -⟩ | ⟨⟨h4, h9⟩, ⟨x, hx, hxo, -⟩, y, hy, hyo, -⟩ | ⟨⟨h6, h9⟩, ⟨x, hx, hxo, -⟩, y, hy, hyo, -⟩ | ⟨hs, hn, -⟩ | ⟨hs | hs, hn, -⟩ | ⟨hs, ⟨x, hx, hxo, -⟩, -⟩ | ⟨hs | hs, ⟨x, hx, hxo, -⟩, y, hy, hyo, -⟩
    · rw [ntk_0 hs]; exact lx_nu hn hb hw hr
    · rw [ntk_1 hs]; exact lx_kw (by omega) hb hw hr
    · rw [ntk_2 hs]; exact lx_k1 (by decide) (lx_k1 (by decide) (lx_nm (Or.inl rfl) (by omega) hb hw hr))
    · rw [ntk_3 hs, hx]; exact lx_s (by decide) (by decide) bl0 (by decide) (by decide) (ih x b r hxo hr hb hw)
    · by_cases q4 : t.1 = 4
      · rw [ntk_4 q4, hx, hy]
        show LexOk ((kw 30, []) :: (kw 32, []) :: ((ntk h x [] ++ ((kw 37, []) :: (ntk h y [] ++ [(kw 33, b)]))) ++ r))
        rw [List.append_assoc, List.cons_append, List.append_assoc]
        exact lx_kw (by decide) bl0 (sg_nw (by decide) (by decide)) (lx_s (by decide) (by decide) bl0 (by decide) (by decide) (ih x [] _ hxo (lx_s (by decide) (by decide) bl0 (by decide) (by decide) (ih y [] _ hyo (lx_s (by decide) (by decide) hb (by decide) (by decide) hr) bl0 (sg_nw (by decide) (by decide)))) bl0 (sg_nw (by decide) (by decide))))
      by_cases q5 : t.1 = 5
      · rw [ntk_5 q5, hx, hy]
        show LexOk ((kw 31, []) :: (kw 32, []) :: ((ntk h x [32] ++ ((kw 37, [32]) :: (ntk h y [] ++ [(kw 33, b)]))) ++ r))
        rw [List.append_assoc, List.cons_append, List.append_assoc]
        exact lx_kw (by decide) bl0 (sg_nw (by decide) (by decide)) (lx_s (by decide) (by decide) bl0 (by decide) (by decide) (ih x [32] _ hxo (lx_s (by decide) (by decide) bl1 (by decide) (by decide) (ih y [] _ hyo (lx_s (by decide) (by decide) hb (by decide) (by decide) hr) bl0 (sg_nw (by decide) (by decide)))) bl1 bl_nw))
      rw [ntk_lo (by omega) h9, hx, hy]
      show LexOk ((kw 32, []) :: ((ntk h x [] ++ ((kw (32 + t.1), []) :: (ntk h y [] ++ [(kw 33, b)]))) ++ r))
      rw [List.append_assoc, List.cons_append, List.append_assoc]
      exact lx_s (by decide) (by decide) bl0 (by decide) (by decide) (ih x [] _ hxo (lx_s (by omega) (by omega) bl0 (by omega) (by omega) (ih y [] _ hyo (lx_s (by decide) (by decide) hb (by decide) (by decide) hr) bl0 (sg_nw (by decide) (by decide)))) bl0 (sg_nw (by omega) (by omega)))
    · rw [ntk_hi h6 h9, hx, hy]
      show LexOk ((ntk h x [] ++ ((kw (32 + t.1), []) :: ntk h y b)) ++ r)
      rw [List.append_assoc, List.cons_append]
      exact ih x [] _ hxo (lx_sg (by omega) (by omega) bl0 (fun _ => ntk_hd h y b r hyo) (ih y b r hyo hr hb hw)) bl0 (sg_nw (by omega) (by omega))
    · rw [ntk_15 hs]; exact lx_k1 (by decide) (lx_nm (Or.inl rfl) (by omega) hb hw hr)
    · rw [ntk_16 hs]; exact lx_k1 (by decide) (lx_nm (Or.inr rfl) (by omega) hb hw hr)
    · rw [ntk_17 hs]; exact lx_k1 (by decide) (lx_nm (Or.inr rfl) (by omega) hb hw hr)
    · rw [ntk_18 hs, hx]; exact lx_k1 (by decide) (ih x b r hxo hr hb hw)
    · rw [ntk_19 hs, hx, hy]
      show LexOk ((kw 34, []) :: ((ntk h x [32] ++ ((kw 28, [32]) :: (ntk h y [] ++ [(kw 35, b)]))) ++ r))
      rw [List.append_assoc, List.cons_append, List.append_assoc]
      exact lx_s (by decide) (by decide) bl0 (by decide) (by decide) (ih x [32] _ hxo (lx_k1 (by decide) (ih y [] _ hyo (lx_s (by decide) (by decide) hb (by decide) (by decide) hr) bl0 (sg_nw (by decide) (by decide)))) bl1 bl_nw)
    · rw [ntk_20 hs, hx, hy]
      show LexOk ((kw 34, []) :: ((ntk h x [32] ++ ((kw 29, [32]) :: (ntk h y [] ++ [(kw 35, b)]))) ++ r))
      rw [List.append_assoc, List.cons_append, List.append_assoc]
      exact lx_s (by decide) (by decide) bl0 (by decide) (by decide) (ih x [32] _ hxo (lx_k1 (by decide) (ih y [] _ hyo (lx_s (by decide) (by decide) hb (by decide) (by decide) hr) bl0 (sg_nw (by decide) (by decide)))) bl1 bl_nw)
/-! fronts, guests, orders -/
abbrev sc : Tk := (kw 36, [])
def ftk (j : Nat) (x : Nat × Nat × Nat × Nat) : List Tk := [(kw 0, [32]), (nmL 102 j, [32]), (kw 1, [32]), (kw (if x.1 = 0 then 3 else 2), [32]), (kw 6, [32]), (decL x.2.1, [32]), (kw 4, [32]), (decL x.2.2.1, [32]), (kw 5, [32]), (decL x.2.2.2, []), (kw 36, [])]
def gtk (j : Nat) (x : Nat × Nat × Nat × Nat) : List Tk := [(kw 7, [32]), (nmL 103 j, [32]), (kw 4, [32]), (decL x.1, [32]), (kw 8, [32]), (decL x.2.1, [32]), (kw 9, [32]), (decL x.2.2.1, [32]), (kw 10, [32]), (decL x.2.2.2, []), (kw 36, if j % 3 = 0 then [10] else [])]
def wtk (o : Od) : List Tk := match o.2.2 with
  | none => [(kw 36, [])]
  | some t => (kw 15, [32]) :: (ntk 4 t [] ++ [(kw 36, [])])
def otb (o : Od) : List Nat := match o.2.2 with
  | none => []
  | some _ => [32]
def otk (o : Od) : List Tk := if o.1 = 0 then (kw 11, [32]) :: (nmL 102 o.2.1, otb o) :: wtk o else if o.1 = 1 then (kw 14, [32]) :: (nmL 103 o.2.1, otb o) :: wtk o else if o.1 = 2 then (kw 12, otb o) :: wtk o else (kw 13, otb o) :: wtk o
def ftks (fr : Nat → Nat × Nat × Nat × Nat) : Nat → List Tk
  | 0 => []
  | i + 1 => ftks fr i ++ ftk i (fr i)
def gtks (gu : Nat → Nat × Nat × Nat × Nat) : Nat → List Tk
  | 0 => []
  | i + 1 => gtks gu i ++ gtk i (gu i)
def otks : List Od → List Tk
  | [] => []
  | o :: r => otk o ++ otks r
def ptk (P : Pl) : List Tk := ftks P.fr P.nf ++ (gtks P.gu P.ng ++ otks P.os)
theorem ftk_tx (t : List Nat) (j : Nat) (x : Nat × Nat × Nat × Nat) : ftx t j x = t ++ flt (ftk j x) := by
  have F1 : ∀ (l m : List Nat) (r : List Tk), flt ((l, m) :: r) = l ++ (m ++ flt r) := fun _ _ _ => rfl
  have F0 : flt [] = [] := rfl
  have e : ltx (if x.1 = 0 then 2 else 1) = [32] ++ (kw 1 ++ ([32] ++ (kw (if x.1 = 0 then 3 else 2) ++ ([32] ++ (kw 6 ++ [32]))))) := by split <;> rfl
  unfold ftx ftk
  rw [e, show ltx 0 = kw 0 ++ ([32] ++ [102]) from rfl, show ltx 3 = [32] ++ (kw 4 ++ [32]) from rfl, show ltx 4 = [32] ++ (kw 5 ++ [32]) from rfl, show ltx 5 = kw 36 from rfl, show nmL 102 j = [102] ++ decL j from rfl]
  simp only [F1, F0, List.append_nil, List.nil_append, List.append_assoc]
theorem gtk_tx (t : List Nat) (j : Nat) (x : Nat × Nat × Nat × Nat) : gtx t j x = t ++ flt (gtk j x) := by
  have F1 : ∀ (l m : List Nat) (r : List Tk), flt ((l, m) :: r) = l ++ (m ++ flt r) := fun _ _ _ => rfl
  have F0 : flt [] = [] := rfl
  have e : ltx (if j % 3 = 0 then 10 else 5) = kw 36 ++ (if j % 3 = 0 then [10] else []) := by split <;> rfl
  unfold gtx gtk
  rw [e, show ltx 6 = kw 7 ++ ([32] ++ [103]) from rfl, show ltx 3 = [32] ++ (kw 4 ++ [32]) from rfl, show ltx 7 = [32] ++ (kw 8 ++ [32]) from rfl, show ltx 8 = [32] ++ (kw 9 ++ [32]) from rfl, show ltx 9 = [32] ++ (kw 10 ++ [32]) from rfl, show nmL 103 j = [103] ++ decL j from rfl]
  simp only [F1, F0, List.append_nil, List.nil_append, List.append_assoc]
theorem otk_tx {nf ng : Nat} {o : Od} (hnf : nf ≤ 8) (hng : ng ≤ 8) (ho : OdOk nf ng o) : flt (otk o) = otx o := by
  have F1 : ∀ (l m : List Nat) (r : List Tk), flt ((l, m) :: r) = l ++ (m ++ flt r) := fun _ _ _ => rfl
  have F0 : flt [] = [] := rfl
  have hw : otb o ++ flt (wtk o) = otx2 o := by
    unfold otb wtk otx2
    rcases ho.2 with h | ⟨t, h, ht⟩
    · rw [h]; rfl
    · rw [h]
      show [32] ++ flt ((kw 15, [32]) :: (ntk 4 t [] ++ [(kw 36, [])])) = (([] ++ ltx 49) ++ ntx 4 t) ++ ltx 48
      rw [F1, flt_app, F1, F0, ntk_tx 4 t [] (T1_tx (by omega) (by omega) ht).1, show ltx 49 = [32] ++ (kw 15 ++ [32]) from rfl, show ltx 48 = kw 36 from rfl]
      simp only [List.append_nil, List.nil_append, List.append_assoc]
  unfold otk otx otx1
  by_cases h0 : o.1 = 0
  · rw [if_pos h0, if_pos h0, F1, F1, hw, show ltx 44 = kw 11 ++ ([32] ++ [102]) from rfl, show nmL 102 o.2.1 = [102] ++ decL o.2.1 from rfl]
    simp only [List.nil_append, List.append_assoc]
  rw [if_neg h0, if_neg h0]
  by_cases h1 : o.1 = 1
  · rw [if_pos h1, if_pos h1, F1, F1, hw, show ltx 45 = kw 14 ++ ([32] ++ [103]) from rfl, show nmL 103 o.2.1 = [103] ++ decL o.2.1 from rfl]
    simp only [List.nil_append, List.append_assoc]
  rw [if_neg h1, if_neg h1]
  by_cases h2 : o.1 = 2
  · rw [if_pos h2, if_pos h2, F1, hw]; rfl
  · rw [if_neg h2, if_neg h2, F1, hw]; rfl
theorem ftks_tx (fr : Nat → Nat × Nat × Nat × Nat) : ∀ i, flt (ftks fr i) = ftxs fr i := by
  intro i
  induction i with
  | zero => rfl
  | succ i ih =>
    show flt (ftks fr i ++ ftk i (fr i)) = ftx (ftxs fr i) i (fr i)
    rw [flt_app, ih, ftk_tx]
theorem gtks_tx (t : List Nat) (gu : Nat → Nat × Nat × Nat × Nat) : ∀ i, t ++ flt (gtks gu i) = gtxs t gu i := by
  intro i
  induction i with
  | zero => exact List.append_nil t
  | succ i ih =>
    show t ++ flt (gtks gu i ++ gtk i (gu i)) = gtx (gtxs t gu i) i (gu i)
    rw [flt_app, ← List.append_assoc, ih, gtk_tx]
theorem otks_tx {nf ng : Nat} (hnf : nf ≤ 8) (hng : ng ≤ 8) : ∀ (os : List Od) (t : List Nat), (∀ o ∈ os, OdOk nf ng o) → t ++ flt (otks os) = otxs t os := by
  intro os
  induction os with
  | nil => intro t _; exact List.append_nil t
  | cons o r ih =>
    intro t h
    show t ++ flt (otk o ++ otks r) = otxs (t ++ otx o) r
    rw [flt_app, otk_tx hnf hng (h o List.mem_cons_self), ← List.append_assoc, ih _ (fun q hq => h q (List.mem_cons_of_mem _ hq))]
theorem ptk_tx {P : Pl} (hP : PlOk P) : flt (ptk P) = ptx P := by
  obtain ⟨h1, h2, -, -, -, h6⟩ := hP
  unfold ptk ptx
  rw [flt_app, flt_app, ftks_tx, ← List.append_assoc, gtks_tx, otks_tx (nf := P.nf) (ng := P.ng) (by omega) (by omega) _ _ h6]
