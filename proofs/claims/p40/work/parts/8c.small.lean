/-! THE GRAMMAR READS A SMALL TREE -/
theorem ndK_32 {s n : Nat} (h6 : 6 ≤ s) (h15 : s < 15) : ndK s n = 32 + s := by
  unfold ndK
  rw [if_neg (show ¬ s = 0 by omega), if_neg (show ¬ s = 1 by omega), if_neg (show ¬ s = 2 by omega), if_neg (show ¬ s = 3 by omega), if_neg (show ¬ s = 4 by omega), if_neg (show ¬ s = 5 by omega), if_pos h15]
section
variable {n d x : Nat} {K : Nat → Nat} {cnt c len : Nat} {l : List (Nat × Nat)}
theorem val6_w {k : Nat} (h1 : 16 ≤ k) (h2 : k < 23) (hk : K c = k) (hc : c < cnt) (h4 : cnt ≤ 401) : Rds n (d + 1) 6 x K cnt c 1 [(k, c)] := by
  have q : k = 16 ∨ k = 17 ∨ k = 18 ∨ k = 19 ∨ k = 20 ∨ k = 21 ∨ k = 22 := by omega
  rcases q with rfl | rfl | rfl | rfl | rfl | rfl | rfl
  · exact val6_16 hk hc h4
  · exact val6_17 hk hc h4
  · exact val6_18 hk hc h4
  · exact val6_19 hk hc h4
  · exact val6_20 hk hc h4
  · exact val6_21 hk hc h4
  · exact val6_22 hk hc h4
theorem lift64 (hn : 0 < n) (h : Rds n d 6 x K cnt c len l) (hc : c + len < cnt) (h4 : cnt ≤ 401) {kk : Nat} (hk : K (c + len) = kk) (k1 : kk < 52) (k2 : kk ≠ 38 ∧ kk ≠ 39 ∧ kk ≠ 40 ∧ kk ≠ 41) : Rds n (d + 2) 4 x K cnt c len l :=
  lift4 hn (lift5 hn h hc h4 (by omega) (by omega) (by omega)) hc h4 (by omega) (by omega) (by omega)
end
theorem sm_read {nf ng n : Nat} (hn : 1 < n) (hnf : nf ≤ 10) : ∀ (h : Nat) (t : Nd h) (b : List Nat) (d x c cnt : Nat) (K : Nat → Nat), GrOk nf ng h t → small h t → Tks K c (ntk h t b) → c + nlen h t < cnt → cnt ≤ 401 → x + h ≤ 9 → 3 * h ≤ d → Rds n d 6 x K cnt c (nlen h t) (stp h t c) := by
  intro h
  induction h with
  | zero => intro t _ _ _ _ _ _ H; exact H.elim
  | succ h ih =>
    intro t b d' x c cnt K H hs10 hT hc h4 hx9 hd
    obtain ⟨d, rfl⟩ : ∃ d, d' = d + 3 := ⟨d' - 3, by omega⟩
    have hs10 : t.1 < 10 := hs10
    have hpos : ∀ y : Nd h, GrOk nf ng h y → x < 8 := fun y hy => by
      cases h with
      | zero => exact hy.elim
      | succ k => omega
    rcases H with ⟨hs, hv, -⟩ | ⟨hs, hv, -⟩ | ⟨hs, hv, -⟩ | ⟨hs, ⟨y, hy, hyo, hys⟩, hz⟩ | ⟨⟨q4, q9⟩, ⟨y, hy, hyo, hys⟩, z, hz, hzo, hzs⟩ | ⟨⟨q, -⟩, -⟩ | ⟨q, -⟩ | ⟨q | q, -⟩ | ⟨q, -⟩ | ⟨q | q, -⟩
    · rw [ntk_0 hs] at hT
      have hk := (Tks_h hT).1.trans (num_tok (nx := 0) hv (by decide)).2
      rw [nlen_0 hs] at hc ⊢
      rw [stp_s, if_pos (show t.1 ≤ 1 by omega), hs]
      exact val6_48 hk (by omega) h4
    · rw [ntk_1 hs] at hT
      have hk := (Tks_h hT).1.trans (kw_kd _ (show 16 + t.2.1 < 47 by omega))
      rw [nlen_1 hs] at hc ⊢
      rw [stp_s, if_pos (show t.1 ≤ 1 by omega), hs, show ndK 1 t.2.1 = 16 + t.2.1 from rfl]
      exact val6_w (show 16 ≤ 16 + t.2.1 by omega) (by omega) hk (by omega) h4
    · rw [ntk_2 hs] at hT
      obtain ⟨k0, hT⟩ := Tks_h hT
      obtain ⟨k1, hT⟩ := Tks_h hT
      have k2 := (Tks_h hT).1.trans (nm_f 102 (Or.inl rfl) t.2.1 (by omega)).1
      rw [nlen_2 hs] at hc ⊢
      rw [stp_s, if_neg (show ¬ t.1 ≤ 1 by omega), if_pos hs]
      exact force6 (k0.trans (kw_kd 6 (by decide))) (k1.trans (kw_kd 26 (by decide))) k2 (by omega) h4
    · rw [ntk_3 hs, hy] at hT
      obtain ⟨k0, hT⟩ := Tks_h hT
      rw [nlen_3 hs hy] at hc ⊢
      rw [stp_1 (Or.inl hs) hy hz, hs]
      exact neg6 (k0.trans (kw_kd 39 (by decide))) (hpos y hyo) (ih y b (d + 2) (x + 1) (c + 1) cnt K hyo hys hT (by omega) h4 (by omega) (by omega)) (by omega) h4
    · by_cases q45 : t.1 = 4 ∨ t.1 = 5
      · rw [nlen_45 q45 hy hz] at hc ⊢
        rw [stp_2 (show 3 ≤ t.1 by omega) (by omega) hy hz (show c + 2 = _ by rw [if_pos q45])]
        have hX : ∃ k b1 b2 b3, (k = 30 ∨ k = 31) ∧ ndK t.1 t.2.1 = k ∧ Tks K c ((kw k, []) :: (kw 32, []) :: (ntk h y b1 ++ ((kw 37, b2) :: (ntk h z b3 ++ [(kw 33, b)])))) := by
          rcases q45 with hs | hs
          · rw [ntk_4 hs, hy, hz] at hT
            exact ⟨30, [], [], [], Or.inl rfl, by rw [hs]; rfl, hT⟩
          · rw [ntk_5 hs, hy, hz] at hT
            exact ⟨31, [32], [32], [], Or.inr rfl, by rw [hs]; rfl, hT⟩
        obtain ⟨k, b1, b2, b3, hk, hnd, hT⟩ := hX
        rw [hnd]
        obtain ⟨k0, hT⟩ := Tks_h hT
        obtain ⟨k1, hT⟩ := Tks_h hT
        obtain ⟨hA, hT⟩ := Tks_a hT
        rw [ntk_len] at hT
        obtain ⟨k2, hT⟩ := Tks_h hT
        obtain ⟨hB, hT⟩ := Tks_a hT
        rw [ntk_len] at hT
        obtain ⟨k3, -⟩ := Tks_h hT
        have k2 := k2.trans (kw_kd 37 (by decide))
        have k3 := k3.trans (kw_kd 33 (by decide))
        have k1 := k1.trans (kw_kd 32 (by decide))
        have k0 := k0.trans (kw_kd k (by omega))
        have hR := lift64 (by omega) (ih y b1 d (x + 1) (c + 1 + 1) cnt K hyo hys hA (by omega) h4 (by omega) (by omega)) (by omega) h4 k2 (by decide) (by decide)
        have hS := lift64 (by omega) (ih z b3 d (x + 1) (c + 1 + 1 + nlen h y + 1) cnt K hzo hzs hB (by omega) h4 (by omega) (by omega)) (by omega) h4 k3 (by decide) (by decide)
        rcases hk with rfl | rfl
        · exact mm6_30 k0 (hpos y hyo) k1 hR k2 hS k3 (by omega) h4
        · exact mm6_31 k0 (hpos y hyo) k1 hR k2 hS k3 (by omega) h4
      · have h6 : 6 ≤ t.1 := by omega
        rw [nlen_lo h6 q9 hy hz] at hc ⊢
        rw [stp_2 (show 3 ≤ t.1 by omega) (by omega) hy hz (show c + 1 = _ by rw [if_neg q45, if_neg (by omega)]), ndK_32 h6 (by omega)]
        rw [ntk_lo h6 q9, hy, hz] at hT
        have hT : Tks K c ((kw 32, []) :: (ntk h y [] ++ ((kw (32 + t.1), []) :: (ntk h z [] ++ [(kw 33, b)])))) := hT
        obtain ⟨k0, hT⟩ := Tks_h hT
        obtain ⟨hA, hT⟩ := Tks_a hT
        rw [ntk_len] at hT
        obtain ⟨k2, hT⟩ := Tks_h hT
        obtain ⟨hB, hT⟩ := Tks_a hT
        rw [ntk_len] at hT
        obtain ⟨k3, -⟩ := Tks_h hT
        have k2 := k2.trans (kw_kd (32 + t.1) (by omega))
        have k3 := k3.trans (kw_kd 33 (by decide))
        have k0 := k0.trans (kw_kd 32 (by decide))
        have hR := ih y [] d (x + 1) (c + 1) cnt K hyo hys hA (by omega) h4 (by omega) (by omega)
        have hS := ih z [] d (x + 1) (c + 1 + nlen h y + 1) cnt K hzo hzs hB (by omega) h4 (by omega) (by omega)
        refine par6 k0 (hpos y hyo) (len := nlen h y + 1 + nlen h z) ?_ (by rw [show c + 1 + (nlen h y + 1 + nlen h z) = c + 1 + nlen h y + 1 + nlen h z by omega]; exact k3) (by omega) h4
        by_cases q7 : t.1 < 8
        · exact comb4 hn (lift5 (by omega) hR (by omega) h4 (by omega) (by omega) (by omega)) k2 (by omega) (lift5 (by omega) hS (by omega) h4 (by omega) (by omega) (by omega)) (by omega) h4 (by omega) (by omega) (by omega)
        · have e3 : K (c + 1 + (nlen h y + 1 + nlen h z)) = 33 := by rw [show c + 1 + (nlen h y + 1 + nlen h z) = c + 1 + nlen h y + 1 + nlen h z by omega]; exact k3
          exact lift4 (by omega) (comb5 hn hR k2 (by omega) hS (by omega) h4 (by omega) (by omega) (by omega)) (by omega) h4 (by omega) (by omega) (by omega)
    · exfalso; omega
    · exfalso; omega
    · exfalso; omega
    · exfalso; omega
    · exfalso; omega
    · exfalso; omega
    · exfalso; omega
