/-! THE GRAMMAR READS A TEST -/
def smQ (k : Nat) : Prop := k < 52 ∧ smap k ≠ nI 1 ∧ smap k ≠ nI 2 ∧ smap k ≠ nI 3 ∧ smap k ≠ nI 4 ∧ smap k ≠ nI 5
theorem smQ_all : (smQ 48 ∧ smQ 6 ∧ smQ 39 ∧ smQ 30 ∧ smQ 31 ∧ smQ 32) ∧ ∀ k, k < 23 → 16 ≤ k → smQ k := by
  unfold smQ
  refine ⟨⟨?_, ?_, ?_, ?_, ?_, ?_⟩, ?_⟩ <;> decide +kernel
theorem sm_hd {nf ng : Nat} (h : Nat) (t : Nd h) (b : List Nat) (r : List Tk) (K : Nat → Nat) (c : Nat) (H : GrOk nf ng h t) (hs10 : small h t) (hT : Tks K c (ntk h t b ++ r)) : smQ (K c) := by
  obtain ⟨⟨a1, a2, a3, a4, a5, a6⟩, aw⟩ := smQ_all
  cases h with
  | zero => exact H.elim
  | succ h =>
    have hs10 : t.1 < 10 := hs10
    rcases H with ⟨hs, hv, -⟩ | ⟨hs, hv, -⟩ | ⟨hs, hv, -⟩ | ⟨hs, -, -⟩ | ⟨⟨q4, q9⟩, -, -⟩ | ⟨⟨q, -⟩, -⟩ | ⟨q, -⟩ | ⟨q | q, -⟩ | ⟨q, -⟩ | ⟨q | q, -⟩
    · rw [ntk_0 hs] at hT
      rw [(Tks_h hT).1.trans (num_tok (nx := 0) hv (by decide)).2]; exact a1
    · rw [ntk_1 hs] at hT
      rw [(Tks_h hT).1.trans (kw_kd _ (show 16 + t.2.1 < 47 by omega))]; exact aw _ (by omega) (by omega)
    · rw [ntk_2 hs] at hT
      rw [(Tks_h hT).1.trans (kw_kd 6 (by decide))]; exact a2
    · rw [ntk_3 hs] at hT
      rw [(Tks_h hT).1.trans (kw_kd 39 (by decide))]; exact a3
    · by_cases q : t.1 = 4
      · rw [ntk_4 q] at hT
        rw [(Tks_h hT).1.trans (kw_kd 30 (by decide))]; exact a4
      by_cases q : t.1 = 5
      · rw [ntk_5 q] at hT
        rw [(Tks_h hT).1.trans (kw_kd 31 (by decide))]; exact a5
      rw [ntk_lo (by omega) q9] at hT
      rw [(Tks_h hT).1.trans (kw_kd 32 (by decide))]; exact a6
    all_goals exfalso; omega
theorem nlen_w {h : Nat} {t : Nd (h + 1)} (hs : t.1 = 15 ∨ t.1 = 16 ∨ t.1 = 17) : nlen (h + 1) t = 2 := by
  unfold nlen
  rcases hs with hs | hs | hs
  · rw [ntk_15 hs]; rfl
  · rw [ntk_16 hs]; rfl
  · rw [ntk_17 hs]; rfl
theorem nlen_18 {h : Nat} {t : Nd (h + 1)} {x : Nd h} (hs : t.1 = 18) (hx : t.2.2.1 = some x) : nlen (h + 1) t = nlen h x + 1 := by unfold nlen; rw [ntk_18 hs, hx]; rfl
theorem nlen_19 {h : Nat} {t : Nd (h + 1)} {x y : Nd h} (hs : t.1 = 19 ∨ t.1 = 20) (hx : t.2.2.1 = some x) (hy : t.2.2.2 = some y) : nlen (h + 1) t = nlen h x + 1 + nlen h y + 2 := by
  unfold nlen
  rcases hs with hs | hs
  · rw [ntk_19 hs, hx, hy]
    show (ntk h x [32] ++ (_ :: (ntk h y [] ++ [_]))).length + 1 = _
    rw [List.length_append, List.length_cons, List.length_append, ntk_len h x [32]]
    show nlen h x + ((ntk h y []).length + 1 + 1) + 1 = _
    unfold nlen
    omega
  · rw [ntk_20 hs, hx, hy]
    show (ntk h x [32] ++ (_ :: (ntk h y [] ++ [_]))).length + 1 = _
    rw [List.length_append, List.length_cons, List.length_append, ntk_len h x [32]]
    show nlen h x + ((ntk h y []).length + 1 + 1) + 1 = _
    unfold nlen
    omega
theorem bg_read {nf ng n : Nat} (hn : 1 < n) (hnf : nf ≤ 10) (hng : ng ≤ 10) : ∀ (h : Nat) (t : Nd h) (b : List Nat) (d x c cnt : Nat) (K : Nat → Nat), GrOk nf ng h t → big h t → Tks K c (ntk h t b) → c + nlen h t < cnt → cnt ≤ 401 → x + h ≤ 9 → 7 * h ≤ d → ∀ kk, K (c + nlen h t) = kk → kk < 52 → (kk ≠ 38 ∧ kk ≠ 39 ∧ kk ≠ 40 ∧ kk ≠ 41) → Rds n d 2 x K cnt c (nlen h t) (stp h t c) := by
  intro h
  induction h with
  | zero => intro t _ _ _ _ _ _ H; exact H.elim
  | succ h ih =>
    intro t b d' x c cnt K H hs10 hT hc h4 hx9 hd kk hE hE1 hE2
    obtain ⟨d, rfl⟩ : ∃ d, d' = d + 4 := ⟨d' - 4, by omega⟩
    have hs10 : 10 ≤ t.1 := hs10
    have hpos : ∀ y : Nd h, GrOk nf ng h y → x < 8 := fun y hy => by
      cases h with
      | zero => exact hy.elim
      | succ k => omega
    rcases H with ⟨q, -⟩ | ⟨q, -⟩ | ⟨q, -⟩ | ⟨q, -⟩ | ⟨⟨-, q⟩, -⟩ | ⟨⟨q10, q15⟩, ⟨y, hy, hyo, hys⟩, z, hz, hzo, hzs⟩ | ⟨hs, hv, -⟩ | ⟨hs | hs, hv, -⟩ | ⟨hs, ⟨y, hy, hyo, hys⟩, hz⟩ | ⟨hs, ⟨y, hy, hyo, hys⟩, z, hz, hzo, hzs⟩
    · exfalso; omega
    · exfalso; omega
    · exfalso; omega
    · exfalso; omega
    · exfalso; omega
    · rw [nlen_hi q10 q15 hy hz] at hc hE ⊢
      rw [stp_2 (show 3 ≤ t.1 by omega) (by omega) hy hz (show c = _ by rw [if_neg (by omega), if_pos ⟨q10, q15⟩]), ndK_32 (by omega) q15]
      rw [ntk_hi q10 q15, hy, hz] at hT
      have hT : Tks K c (ntk h y [] ++ ((kw (32 + t.1), []) :: ntk h z b)) := hT
      obtain ⟨g0, g1, g2, g3, g4, g5⟩ := sm_hd h y [] _ K c hyo hys hT
      obtain ⟨hA, hT⟩ := Tks_a hT
      rw [ntk_len] at hT
      obtain ⟨k2, hB⟩ := Tks_h hT
      have k2 := k2.trans (kw_kd (32 + t.1) (by omega))
      have hR := lift64 (by omega) (sm_read hn hnf h y [] d x c cnt K hyo hys hA (by omega) h4 (by omega) (by omega)) (by omega) h4 k2 (by omega) (by omega)
      have hS := lift64 (by omega) (sm_read hn hnf h z b d x (c + nlen h y + 1) cnt K hzo hzs hB (by omega) h4 (by omega) (by omega)) (by omega) h4 (show K (c + nlen h y + 1 + nlen h z) = kk by rw [← hE]; exact congrArg K (by omega)) hE1 hE2
      exact lift2 (comp3 hR k2 (by omega) hS (by omega) h4) (by omega) h4 g0 (eq_false g1) (eq_false g2) (eq_false g3) (eq_false g4) (eq_false g5)
    · rw [nlen_w (Or.inl hs)] at hc ⊢
      rw [ntk_15 hs] at hT
      obtain ⟨k0, hT⟩ := Tks_h hT
      have k2 := (Tks_h hT).1.trans (nm_f 102 (Or.inl rfl) t.2.1 (by omega)).1
      rw [stp_s, if_neg (show ¬ t.1 ≤ 1 by omega), if_neg (show ¬ t.1 = 2 by omega), if_pos (Or.inl hs), hs]
      exact word2_24 (k0.trans (kw_kd 24 (by decide))) k2 (by omega) h4
    · rw [nlen_w (Or.inr (Or.inl hs))] at hc ⊢
      rw [ntk_16 hs] at hT
      obtain ⟨k0, hT⟩ := Tks_h hT
      have k2 := (Tks_h hT).1.trans (nm_f 103 (Or.inr rfl) t.2.1 (by omega)).1
      rw [stp_s, if_neg (show ¬ t.1 ≤ 1 by omega), if_neg (show ¬ t.1 = 2 by omega), if_pos (Or.inr (Or.inl hs)), hs]
      exact word2_23 (k0.trans (kw_kd 23 (by decide))) k2 (by omega) h4
    · rw [nlen_w (Or.inr (Or.inr hs))] at hc ⊢
      rw [ntk_17 hs] at hT
      obtain ⟨k0, hT⟩ := Tks_h hT
      have k2 := (Tks_h hT).1.trans (nm_f 103 (Or.inr rfl) t.2.1 (by omega)).1
      rw [stp_s, if_neg (show ¬ t.1 ≤ 1 by omega), if_neg (show ¬ t.1 = 2 by omega), if_pos (Or.inr (Or.inr hs)), hs]
      exact word2_25 (k0.trans (kw_kd 25 (by decide))) k2 (by omega) h4
    · rw [nlen_18 hs hy] at hc hE ⊢
      rw [ntk_18 hs, hy] at hT
      obtain ⟨k0, hT⟩ := Tks_h hT
      rw [stp_1 (Or.inr hs) hy hz, hs]
      exact not2 (k0.trans (kw_kd 27 (by decide))) (hpos y hyo) (ih y b (d + 3) (x + 1) (c + 1) cnt K hyo hys hT (by omega) h4 (by omega) (by omega) kk (by rw [← hE]; exact congrArg K (by omega)) hE1 hE2) (by omega) h4
    · rw [nlen_19 hs hy hz] at hc ⊢
      rw [stp_2 (show 3 ≤ t.1 by omega) (by omega) hy hz (show c + 1 = _ by rw [if_neg (by omega), if_neg (by omega)])]
      have hX : ∃ k, (k = 28 ∨ k = 29) ∧ ndK t.1 t.2.1 = k ∧ Tks K c ((kw 34, []) :: (ntk h y [32] ++ ((kw k, [32]) :: (ntk h z [] ++ [(kw 35, b)])))) := by
        rcases hs with hs | hs
        · rw [ntk_19 hs, hy, hz] at hT
          exact ⟨28, Or.inl rfl, by rw [hs]; rfl, hT⟩
        · rw [ntk_20 hs, hy, hz] at hT
          exact ⟨29, Or.inr rfl, by rw [hs]; rfl, hT⟩
      obtain ⟨k, hk, hnd, hT⟩ := hX
      rw [hnd]
      obtain ⟨k0, hT⟩ := Tks_h hT
      obtain ⟨hA, hT⟩ := Tks_a hT
      rw [ntk_len] at hT
      obtain ⟨k2, hT⟩ := Tks_h hT
      obtain ⟨hB, hT⟩ := Tks_a hT
      rw [ntk_len] at hT
      obtain ⟨k3, -⟩ := Tks_h hT
      have k2 := k2.trans (kw_kd k (by omega))
      have k3 := k3.trans (kw_kd 35 (by decide))
      have k0 := k0.trans (kw_kd 34 (by decide))
      have hR := ih y [32] (d + 1) (x + 1) (c + 1) cnt K hyo hys hA (by omega) h4 (by omega) (by omega) k k2 (by omega) (by omega)
      have hS := ih z [] (d + 1) (x + 1) (c + 1 + nlen h y + 1) cnt K hzo hzs hB (by omega) h4 (by omega) (by omega) 35 k3 (by decide) (by decide)
      have e3 : K (c + 1 + (nlen h y + 1 + nlen h z)) = 35 := by rw [show c + 1 + (nlen h y + 1 + nlen h z) = c + 1 + nlen h y + 1 + nlen h z by omega]; exact k3
      refine par2 k0 (hpos y hyo) (len := nlen h y + 1 + nlen h z) ?_ e3 (by omega) h4
      rcases hk with rfl | rfl
      · exact lift0 (by omega) (comb1 hn hR k2 hS (by omega) h4 (by omega) (by omega)) (by omega) h4 (by omega) (by omega)
      · exact comb0 hn (lift1 (by omega) hR (by omega) h4 (by omega) (by omega)) k2 (lift1 (by omega) hS (by omega) h4 (by omega) (by omega)) (by omega) h4 (by omega) (by omega)
