/-! THE CHECKER goes over a plan's tokens: orders -/
abbrev key (k : Nat) : Prop := k = 11 ∨ k = 14 ∨ k = 23 ∨ k = 24 ∨ k = 25 ∨ k = 26
/-- which front or guest a name's number is -/
def idN (v : Int64) : Nat := (fnd (fun k => decide (vlL (nmL 102 k) = v ∨ vlL (nmL 103 k) = v)) 10).getD 0
theorem idN_ok {c j : Nat} (hc : c = 102 ∨ c = 103) (hj : j < 10) : idN (vlL (nmL c j)) = j := by
  unfold idN
  have h0 : fnd (fun k => decide (vlL (nmL 102 k) = vlL (nmL c j) ∨ vlL (nmL 103 k) = vlL (nmL c j))) j = none := fnd_none (fun k hk => decide_eq_false (fun q => by
    rcases q with q | q
    · have := (nm_inj 102 c (Or.inl rfl) hc k (by omega) j hj q).2
      omega
    · have := (nm_inj 103 c (Or.inr rfl) hc k (by omega) j hj q).2
      omega))
  have h1 : (fun k => decide (vlL (nmL 102 k) = vlL (nmL c j) ∨ vlL (nmL 103 k) = vlL (nmL c j))) j = true := decide_eq_true (by
    rcases hc with rfl | rfl
    · exact Or.inl rfl
    · exact Or.inr rfl)
  rw [fnd_hit h0 h1 hj]
  rfl
def finV (K : Nat → Nat) (V : Nat → Int64) (c j : Nat) : Int64 := if c < j ∧ key (K (j - 1)) then Int32.toInt64 (nI (idN (V j))) else V j
def VF (K : Nat → Nat) (V : Nat → Int64) (c m : Nat) : Nat → Int64 := fun j => if j ≤ c + m then finV K V c j else V j
theorem VF_0 (K : Nat → Nat) (V : Nat → Int64) (c : Nat) : VF K V c 0 = V := by
  funext j
  unfold VF finV
  by_cases q : j ≤ c + 0
  · rw [if_pos q, if_neg (by omega)]
  · rw [if_neg q]
theorem VF_no {K : Nat → Nat} {V : Nat → Int64} {c m : Nat} (h : ¬ key (K (c + m))) : VF K V c m = VF K V c (m + 1) := by
  funext j
  unfold VF
  by_cases q : j ≤ c + m
  · rw [if_pos q, if_pos (by omega)]
  · rw [if_neg q]
    by_cases r : j ≤ c + (m + 1)
    · have e : j = c + m + 1 := by omega
      rw [if_pos r]
      unfold finV
      rw [if_neg]
      rw [e]
      exact fun z => h z.2
    · rw [if_neg r]
theorem VF_up {K : Nat → Nat} {V : Nat → Int64} {c m j : Nat} (h : key (K (c + m))) (hj : idN (V (c + m + 1)) = j) : vp_updL (VF K V c m) (c + m + 1) (Int32.toInt64 (nI j)) = VF K V c (m + 1) := by
  funext i
  unfold vp_updL
  by_cases e : i = c + m + 1
  · rw [if_pos e]
    unfold VF finV
    rw [if_pos (by omega), e, if_pos ⟨by omega, h⟩, hj]
  · rw [if_neg e]
    unfold VF
    by_cases q : i ≤ c + m
    · rw [if_pos q, if_pos (by omega)]
    · rw [if_neg q, if_neg (by omega)]
theorem VF_nx (K : Nat → Nat) (V : Nat → Int64) (c m : Nat) : VF K V c m (c + m + 1) = V (c + m + 1) := if_neg (by omega)
def isO (k : Nat) : Nat := if 11 ≤ k ∧ k ≤ 14 then 1 else 0
def ocn (K : Nat → Nat) (c : Nat) : Nat → Nat
  | 0 => 0
  | m + 1 => ocn K c m + isO (K (c + m))
theorem ocn_le (K : Nat → Nat) (c : Nat) {m M : Nat} (h : m ≤ M) : ocn K c m ≤ ocn K c M := by
  induction M with
  | zero => rw [show m = 0 by omega]; exact Nat.le_refl _
  | succ M ih =>
    by_cases q : m = M + 1
    · rw [q]; exact Nat.le_refl _
    · exact Nat.le_trans (ih (by omega)) (Nat.le_add_right _ _)
def LocK (nf ng : Nat) (K : Nat → Nat) (V : Nat → Int64) (t i : Nat) : Prop := (K i = 11 ∨ K i = 24 ∨ K i = 26 → i + 1 ≤ t ∧ ∃ j, j < nf ∧ V (i + 1) = vlL (nmL 102 j)) ∧ (K i = 14 ∨ K i = 23 ∨ K i = 25 → i + 1 ≤ t ∧ ∃ j, j < ng ∧ V (i + 1) = vlL (nmL 103 j)) ∧ K i ≠ 0 ∧ K i ≠ 7 ∧ K i < 51
section
variable {n : Nat} {K : Nat → Nat} {sT : Nat → Int32} {V vT : Nat → Int64} {t c i nf ng : Nat} {cu e2 eA eB : Int32} {F : bX2} {G : bX4} {B1 : bX2} {B2 : bX4} {fr gu : Nat → Nat × Nat × Nat × Nat}
theorem nmE_s (j k : Nat) (e : Int32 × Int32) : nmE j (some k) e = e := by
  unfold nmE
  rw [if_neg (fun q => by cases q)]
theorem run_o (ht : t ≤ 400) (hn : 20 < n) (hnf : nf ≤ 10) (hng : ng ≤ 10) (hF : RFrN fr nf F) (hG : RGuN gu ng G) {M : Nat} (hM : c + M ≤ t + 1) (hO : ocn K c M ≤ 16) (hL : ∀ i, c ≤ i → i < c + M → LocK nf ng K V t i) : ∀ m, m ≤ M → Run (ckB n (K, sT, vT, nI (t + 1), cu, eA, eB) B1 B2) m (ckS 0 c V e2 F G) (ckS (ocn K c m) (c + m) (VF K V c m) e2 F G) := by
  intro m
  induction m with
  | zero => intro _; rw [VF_0]; exact Run_0 _
  | succ m ih =>
    intro hm
    refine Run_t (ih (by omega)) (Run_1 ?_)
    obtain ⟨l1, l2, l3, l4, l5⟩ := hL (c + m) (by omega) (by omega)
    have hw : ocn K c (m + 1) ≤ 16 := Nat.le_trans (ocn_le K c hm) hO
    have hw' : ocn K c m + isO (K (c + m)) ≤ 16 := hw
    show f_X1_check_L4 n (K, sT, vT, nI (t + 1), cu, eA, eB) B1 B2 (nI (ocn K c m)) (nI (c + m)) (VF K V c m) (nI 0) e2 F.1 F.2.1 F.2.2.1 F.2.2.2.1 F.2.2.2.2.1 F.2.2.2.2.2 G.1 G.2.1 G.2.2.1 G.2.2.2.1 G.2.2.2.2.1 G.2.2.2.2.2 = some (.inl (nI (ocn K c m + isO (K (c + m))), nI (c + m + 1), VF K V c (m + 1), nI 0, e2, F.1, F.2.1, F.2.2.1, F.2.2.2.1, F.2.2.2.2.1, F.2.2.2.2.2, G.1, G.2.1, G.2.2.1, G.2.2.2.1, G.2.2.2.2.1, G.2.2.2.2.2))
    by_cases k11 : K (c + m) = 11
    · obtain ⟨h1, j, hj, hv⟩ := l1 (Or.inl k11)
      have := cs_11 (n := n) (sT := sT) (vT := vT) (cu := cu) (e2 := e2) (eA := eA) (eB := eB) (F := F) (G := G) (B1 := B1) (B2 := B2) (V := VF K V c m) ht (by omega) (w := ocn K c m) rfl (by omega) h1 hn hnf hF.1 k11
      rw [this, VF_nx, fnd_n2 hF hnf hj hv, nmE_s]
      have e : isO (K (c + m)) = 1 := by rw [k11]; rfl
      rw [e] at hw' ⊢
      rw [if_neg (by omega), show fI (some j) = nI j from rfl, VF_up (by rw [k11]; exact Or.inl rfl) (by rw [hv]; exact idN_ok (Or.inl rfl) (by omega))]
      all_goals rfl
    by_cases k14 : K (c + m) = 14
    · obtain ⟨h1, j, hj, hv⟩ := l2 (Or.inl k14)
      have := cs_14 (n := n) (sT := sT) (vT := vT) (cu := cu) (e2 := e2) (eA := eA) (eB := eB) (F := F) (G := G) (B1 := B1) (B2 := B2) (V := VF K V c m) ht (by omega) (w := ocn K c m) rfl (by omega) h1 hn hng hG.1 k14
      rw [this, VF_nx, fnd_n4 hG hng hj hv, nmE_s]
      have e : isO (K (c + m)) = 1 := by rw [k14]; rfl
      rw [e] at hw' ⊢
      rw [if_neg (by omega), show fI (some j) = nI j from rfl, VF_up (by rw [k14]; exact Or.inr (Or.inl rfl)) (by rw [hv]; exact idN_ok (Or.inr rfl) (by omega))]
      all_goals rfl
    by_cases k12 : K (c + m) = 12
    · have := cs_12 (n := n) (sT := sT) (vT := vT) (cu := cu) (e2 := e2) (eA := eA) (eB := eB) (F := F) (G := G) (B1 := B1) (B2 := B2) (V := VF K V c m) ht (show c + m ≤ t by omega) (w := ocn K c m) rfl (by omega) k12
      have e : isO (K (c + m)) = 1 := by rw [k12]; rfl
      rw [e] at hw' ⊢
      rw [this, if_neg (by omega), VF_no (by rw [k12]; unfold key; omega)]
      all_goals rfl
    by_cases k13 : K (c + m) = 13
    · have := cs_13 (n := n) (sT := sT) (vT := vT) (cu := cu) (e2 := e2) (eA := eA) (eB := eB) (F := F) (G := G) (B1 := B1) (B2 := B2) (V := VF K V c m) ht (show c + m ≤ t by omega) (w := ocn K c m) rfl (by omega) k13
      have e : isO (K (c + m)) = 1 := by rw [k13]; rfl
      rw [e] at hw' ⊢
      rw [this, if_neg (by omega), VF_no (by rw [k13]; unfold key; omega)]
      all_goals rfl
    have e : isO (K (c + m)) = 0 := by unfold isO; rw [if_neg (by omega)]
    rw [e]
    by_cases k24 : K (c + m) = 24
    · obtain ⟨h1, j, hj, hv⟩ := l1 (by omega)
      have := cs_24 (n := n) (sT := sT) (vT := vT) (cu := cu) (e2 := e2) (eA := eA) (eB := eB) (F := F) (G := G) (B1 := B1) (B2 := B2) (V := VF K V c m) (oi := nI (ocn K c m)) ht (by omega) h1 hn hnf hF.1 k24
      rw [this, VF_nx, fnd_n2 hF hnf hj hv, nmE_s]
      rw [show fI (some j) = nI j from rfl, VF_up (by rw [k24]; unfold key; omega) (by rw [hv]; exact idN_ok (Or.inl rfl) (by omega))]
      all_goals rfl
    by_cases k26 : K (c + m) = 26
    · obtain ⟨h1, j, hj, hv⟩ := l1 (by omega)
      have := cs_26 (n := n) (sT := sT) (vT := vT) (cu := cu) (e2 := e2) (eA := eA) (eB := eB) (F := F) (G := G) (B1 := B1) (B2 := B2) (V := VF K V c m) (oi := nI (ocn K c m)) ht (by omega) h1 hn hnf hF.1 k26
      rw [this, VF_nx, fnd_n2 hF hnf hj hv, nmE_s]
      rw [show fI (some j) = nI j from rfl, VF_up (by rw [k26]; unfold key; omega) (by rw [hv]; exact idN_ok (Or.inl rfl) (by omega))]
      all_goals rfl
    by_cases k23 : K (c + m) = 23
    · obtain ⟨h1, j, hj, hv⟩ := l2 (by omega)
      have := cs_23 (n := n) (sT := sT) (vT := vT) (cu := cu) (e2 := e2) (eA := eA) (eB := eB) (F := F) (G := G) (B1 := B1) (B2 := B2) (V := VF K V c m) (oi := nI (ocn K c m)) ht (by omega) h1 hn hng hG.1 k23
      rw [this, VF_nx, fnd_n4 hG hng hj hv, nmE_s]
      rw [show fI (some j) = nI j from rfl, VF_up (by rw [k23]; unfold key; omega) (by rw [hv]; exact idN_ok (Or.inr rfl) (by omega))]
      all_goals rfl
    by_cases k25 : K (c + m) = 25
    · obtain ⟨h1, j, hj, hv⟩ := l2 (by omega)
      have := cs_25 (n := n) (sT := sT) (vT := vT) (cu := cu) (e2 := e2) (eA := eA) (eB := eB) (F := F) (G := G) (B1 := B1) (B2 := B2) (V := VF K V c m) (oi := nI (ocn K c m)) ht (by omega) h1 hn hng hG.1 k25
      rw [this, VF_nx, fnd_n4 hG hng hj hv, nmE_s]
      rw [show fI (some j) = nI j from rfl, VF_up (by rw [k25]; unfold key; omega) (by rw [hv]; exact idN_ok (Or.inr rfl) (by omega))]
      all_goals rfl
    have := cs_no (n := n) (sT := sT) (vT := vT) (cu := cu) (e2 := e2) (eA := eA) (eB := eB) (F := F) (G := G) (B1 := B1) (B2 := B2) (V := VF K V c m) (oi := nI (ocn K c m)) ht (show c + m ≤ t by omega) ⟨l5, l3, l4, k11, k12, k13, k14, k23, k24, k25, k26⟩
    rw [this, VF_no (by unfold key; omega)]
    all_goals rfl
theorem cs_fin {oi : Int32} : f_X1_check_L4 n (K, sT, vT, nI (t + 1), cu, eA, eB) B1 B2 oi (nI (t + 1)) V (nI 0) e2 F.1 F.2.1 F.2.2.1 F.2.2.2.1 F.2.2.2.2.1 F.2.2.2.2.2 G.1 G.2.1 G.2.2.1 G.2.2.2.1 G.2.2.2.2.1 G.2.2.2.2.2 = some (.inr (V, nI 0, e2, F.1, F.2.1, F.2.2.1, F.2.2.2.1, F.2.2.2.2.1, F.2.2.2.2.2, G.1, G.2.1, G.2.2.1, G.2.2.2.1, G.2.2.2.2.1, G.2.2.2.2.2)) := by
  unfold f_X1_check_L4
  rw [if_pos (show X11_count (K, sT, vT, nI (t + 1), cu, eA, eB) ≤ nI (t + 1) from Int32.le_refl _)]
end
