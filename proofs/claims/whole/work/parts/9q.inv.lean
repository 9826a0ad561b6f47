/-! what holds between two lines -/
/-- the same error; without one, nothing is said of its token -/
def EQ2 (A B : Int32 × Int32) : Prop := A.1 = B.1 ∧ (A.1 ≠ nI 0 → A = B)
theorem EQ2_mkx {A B : Int32 × Int32} (h : EQ2 A B) (x : Int32) (j : Nat) : EQ2 (mkx x j A) (mkx x j B) := by
  unfold mkx
  by_cases q : A.1 = nI 0
  · rw [if_pos q, if_pos (h.1.symm.trans q)]
    exact ⟨rfl, fun _ => rfl⟩
  · rw [if_neg q, if_neg (fun z => q (h.1.trans z))]
    exact h
theorem EQ2_mkK {K : Nat → Nat} {kF kG : Nat → Int32} {i : Nat} {A B : Int32 × Int32} (h : EQ2 A B) : EQ2 (mkK K kF kG i A) (mkK K kF kG i B) := by
  unfold mkK
  by_cases q : (K i = 11 ∨ K i = 24 ∨ K i = 26) ∧ kF (i + 1) = -nI 1
  · rw [if_pos q, if_pos q]
    exact EQ2_mkx h _ _
  · rw [if_neg q, if_neg q]
    by_cases q : (K i = 14 ∨ K i = 23 ∨ K i = 25) ∧ kG (i + 1) = -nI 1
    · rw [if_pos q, if_pos q]
      exact EQ2_mkx h _ _
    · rw [if_neg q, if_neg q]
      exact h
theorem EQ2_mkR {K : Nat → Nat} {kF kG : Nat → Int32} {c : Nat} {A B : Int32 × Int32} (h : EQ2 A B) : ∀ l : Nat, EQ2 (mkR K kF kG c l A) (mkR K kF kG c l B)
  | 0 => h
  | l + 1 => EQ2_mkK (EQ2_mkR h l)
theorem EQ2_e4 {no c : Nat} {A B : Int32 × Int32} (h : EQ2 A B) : EQ2 (e4 no c A) (e4 no c B) := by
  unfold e4
  by_cases q : no = 16
  · rw [if_pos q, if_pos q]
    exact EQ2_mkx h _ _
  · rw [if_neg q, if_neg q]
    exact h
theorem EQ2_rgE {j : Nat} {v lo hi : Int32} {A B : Int32 × Int32} (h : EQ2 A B) : EQ2 (rgE j v lo hi A) (rgE j v lo hi B) := by
  unfold rgE
  by_cases q : v < lo ∨ hi < v
  · rw [if_pos q, if_pos q]
    exact EQ2_mkx h _ _
  · rw [if_neg q, if_neg q]
    exact h
theorem EQ2_nwE {j m : Nat} {o : Option Nat} {A B : Int32 × Int32} (h : EQ2 A B) : EQ2 (nwE j m o A) (nwE j m o B) := by
  unfold nwE
  have h2 : EQ2 (if o = none then A else mkx (nI 2) j A) (if o = none then B else mkx (nI 2) j B) := by
    by_cases q : o = none
    · rw [if_pos q, if_pos q]; exact h
    · rw [if_neg q, if_neg q]; exact EQ2_mkx h _ _
  by_cases q : m = 10
  · rw [if_pos q, if_pos q]
    exact EQ2_mkx h2 _ _
  · rw [if_neg q, if_neg q]
    exact h2
theorem mkx_ne {x : Int32} {j : Nat} {E : Int32 × Int32} (hx : x ≠ nI 0) : (mkx x j E).1 ≠ nI 0 := by
  unfold mkx
  by_cases q : E.1 = nI 0
  · rw [if_pos q]; exact hx
  · rw [if_neg q]; exact q
theorem mkx_err {x : Int32} {j : Nat} {E : Int32 × Int32} (h : E.1 ≠ nI 0) : mkx x j E = E := if_neg h
theorem mkR_err {K : Nat → Nat} {kF kG : Nat → Int32} {c : Nat} {E : Int32 × Int32} (h : E.1 ≠ nI 0) : ∀ l : Nat, mkR K kF kG c l E = E
  | 0 => rfl
  | l + 1 => by
    show mkK K kF kG (c + l) (mkR K kF kG c l E) = E
    rw [mkR_err h l, mkK_err h]
theorem e4_err {no c : Nat} {E : Int32 × Int32} (h : E.1 ≠ nI 0) : e4 no c E = E := by
  unfold e4
  by_cases q : no = 16
  · rw [if_pos q, mkx_err h]
  · rw [if_neg q]
theorem rgE_err {j : Nat} {v lo hi : Int32} {E : Int32 × Int32} (h : E.1 ≠ nI 0) : rgE j v lo hi E = E := by
  unfold rgE
  by_cases q : v < lo ∨ hi < v
  · rw [if_pos q, mkx_err h]
  · rw [if_neg q]
theorem nwE_err {j m : Nat} {o : Option Nat} {E : Int32 × Int32} (h : E.1 ≠ nI 0) : nwE j m o E = E := by
  have h2 : (if o = none then E else mkx (nI 2) j E) = E := by
    by_cases q : o = none
    · rw [if_pos q]
    · rw [if_neg q, mkx_err h]
  unfold nwE
  rw [h2]
  by_cases q : m = 10
  · rw [if_pos q, mkx_err h]
  · rw [if_neg q]
theorem ne20 : (nI 2 : Int32) ≠ nI 0 := by decide
theorem ne30 : (nI 3 : Int32) ≠ nI 0 := by decide
theorem ne40 : (nI 4 : Int32) ≠ nI 0 := by decide
theorem ne50 : (nI 5 : Int32) ≠ nI 0 := by decide
theorem mkK_ok {K : Nat → Nat} {kF kG : Nat → Int32} {i : Nat} {E : Int32 × Int32} (h : (mkK K kF kG i E).1 = nI 0) : E.1 = nI 0 ∧ ((K i = 11 ∨ K i = 24 ∨ K i = 26) → kF (i + 1) ≠ -nI 1) ∧ ((K i = 14 ∨ K i = 23 ∨ K i = 25) → kG (i + 1) ≠ -nI 1) := by
  unfold mkK at h
  by_cases q : (K i = 11 ∨ K i = 24 ∨ K i = 26) ∧ kF (i + 1) = -nI 1
  · rw [if_pos q] at h
    exact absurd h (mkx_ne ne30)
  · rw [if_neg q] at h
    by_cases q2 : (K i = 14 ∨ K i = 23 ∨ K i = 25) ∧ kG (i + 1) = -nI 1
    · rw [if_pos q2] at h
      exact absurd h (mkx_ne ne30)
    · rw [if_neg q2] at h
      exact ⟨h, fun a b => q ⟨a, b⟩, fun a b => q2 ⟨a, b⟩⟩
theorem mkR_ok {K : Nat → Nat} {kF kG : Nat → Int32} {c : Nat} {E : Int32 × Int32} : ∀ l : Nat, (mkR K kF kG c l E).1 = nI 0 → E.1 = nI 0 ∧ ∀ j, c ≤ j → j < c + l → ((K j = 11 ∨ K j = 24 ∨ K j = 26) → kF (j + 1) ≠ -nI 1) ∧ ((K j = 14 ∨ K j = 23 ∨ K j = 25) → kG (j + 1) ≠ -nI 1)
  | 0, h => ⟨h, fun j a b => by omega⟩
  | l + 1, h => by
    obtain ⟨h1, h2⟩ := mkK_ok (E := mkR K kF kG c l E) (i := c + l) h
    obtain ⟨h3, h4⟩ := mkR_ok l h1
    refine ⟨h3, fun j a b => ?_⟩
    rcases Nat.lt_or_ge j (c + l) with q | q
    · exact h4 j a q
    · have e : j = c + l := by omega
      rw [e]
      exact h2
theorem e4_ok {no c : Nat} {E : Int32 × Int32} (h : (e4 no c E).1 = nI 0) : E.1 = nI 0 ∧ no ≠ 16 := by
  unfold e4 at h
  by_cases q : no = 16
  · rw [if_pos q] at h
    exact absurd h (mkx_ne ne40)
  · rw [if_neg q] at h
    exact ⟨h, q⟩
theorem rgE_ok {j : Nat} {v lo hi : Int32} {E : Int32 × Int32} (h : (rgE j v lo hi E).1 = nI 0) : E.1 = nI 0 ∧ ¬ v < lo ∧ ¬ hi < v := by
  unfold rgE at h
  by_cases q : v < lo ∨ hi < v
  · rw [if_pos q] at h
    exact absurd h (mkx_ne ne50)
  · rw [if_neg q] at h
    exact ⟨h, fun z => q (Or.inl z), fun z => q (Or.inr z)⟩
theorem nwE_ok {j m : Nat} {o : Option Nat} {E : Int32 × Int32} (h : (nwE j m o E).1 = nI 0) : E.1 = nI 0 ∧ m ≠ 10 := by
  unfold nwE at h
  by_cases q : m = 10
  · rw [if_pos q] at h
    exact absurd h (mkx_ne ne40)
  · rw [if_neg q] at h
    by_cases q2 : o = none
    · rw [if_pos q2] at h
      exact ⟨h, q⟩
    · rw [if_neg q2] at h
      exact absurd h (mkx_ne ne20)
/-- an error's token is one of the tape's -/
def EJ (t : Nat) (E : Int32 × Int32) : Prop := E.1 = nI 0 ∨ ∃ j, j ≤ t ∧ E.2 = nI j
theorem EJ_mkx {t j : Nat} {x : Int32} {E : Int32 × Int32} (h : EJ t E) (hj : j ≤ t) : EJ t (mkx x j E) := by
  unfold mkx
  by_cases q : E.1 = nI 0
  · rw [if_pos q]
    exact Or.inr ⟨j, hj, rfl⟩
  · rw [if_neg q]
    exact h
theorem EJ_mkR {K : Nat → Nat} {kF kG : Nat → Int32} {c t : Nat} {E : Int32 × Int32} (h : EJ t E) : ∀ l : Nat, c + l ≤ t → EJ t (mkR K kF kG c l E)
  | 0, _ => h
  | l + 1, hl => by
    show EJ t (mkK K kF kG (c + l) (mkR K kF kG c l E))
    have ih := EJ_mkR (K := K) (kF := kF) (kG := kG) (c := c) h l (by omega)
    unfold mkK
    by_cases q : (K (c + l) = 11 ∨ K (c + l) = 24 ∨ K (c + l) = 26) ∧ kF (c + l + 1) = -nI 1
    · rw [if_pos q]
      exact EJ_mkx ih (by omega)
    · rw [if_neg q]
      by_cases q : (K (c + l) = 14 ∨ K (c + l) = 23 ∨ K (c + l) = 25) ∧ kG (c + l + 1) = -nI 1
      · rw [if_pos q]
        exact EJ_mkx ih (by omega)
      · rw [if_neg q]
        exact ih
theorem EJ_e4 {no c t : Nat} {E : Int32 × Int32} (h : EJ t E) (hc : c ≤ t) : EJ t (e4 no c E) := by
  unfold e4
  by_cases q : no = 16
  · rw [if_pos q]
    exact EJ_mkx h hc
  · rw [if_neg q]
    exact h
theorem EJ_rgE {j t : Nat} {v lo hi : Int32} {E : Int32 × Int32} (h : EJ t E) (hj : j ≤ t) : EJ t (rgE j v lo hi E) := by
  unfold rgE
  by_cases q : v < lo ∨ hi < v
  · rw [if_pos q]
    exact EJ_mkx h hj
  · rw [if_neg q]
    exact h
theorem EJ_nwE {j m t : Nat} {o : Option Nat} {E : Int32 × Int32} (h : EJ t E) (hj : j ≤ t) : EJ t (nwE j m o E) := by
  have h2 : EJ t (if o = none then E else mkx (nI 2) j E) := by
    by_cases q : o = none
    · rw [if_pos q]
      exact h
    · rw [if_neg q]
      exact EJ_mkx h hj
  unfold nwE
  by_cases q : m = 10
  · rw [if_pos q]
    exact EJ_mkx h2 hj
  · rw [if_neg q]
    exact h2
/-- a front, a guest, told alike -/
def FRk (F : bX2) (T : bX13) (k : Nat) : Prop := (X2_warm F k = nI 0 ∨ X2_warm F k = nI 1) ∧ X13_warm T k = X2_warm F k ∧ X13_force T k = X2_force F k ∧ (¬ X2_force F k < nI 1 ∧ ¬ nI 9 < X2_force F k) ∧ X13_comes T k = X2_from F k ∧ (¬ X2_from F k < nI 0 ∧ ¬ nI 60 < X2_from F k) ∧ X13_stays T k = X2_hours F k ∧ (¬ X2_hours F k < nI 1 ∧ ¬ nI 12 < X2_hours F k)
def GRk (G : bX4) (T : bX13) (k : Nat) : Prop := X13_sits T k = X4_from G k ∧ (¬ X4_from G k < nI 0 ∧ ¬ nI 60 < X4_from G k) ∧ X13_low T k = X4_weakest G k ∧ X13_high T k = X4_strongest G k ∧ X13_nerve T k = X4_nerve G k
/-- what stands for itself in a test, by the tokens' values -/
def lqI (V : Nat → Int64) (m c : Nat) (sk : Nat → Nat) (sv so le : Nat → Int32) (i : Nat) : Prop := (sk i = 48 ∧ so i = nI 41 ∧ ∃ j, j < c ∧ sv i = nI j ∧ (V j).toInt32 = le i) ∨ (sk i = 22 ∧ so i = nI 24) ∨ (∃ w, w < 6 ∧ sk i = 16 + w ∧ so i = nI (16 + w)) ∨ (sk i = 6 ∧ so i = nI 6 ∧ ∃ j, j < c ∧ sv i = nI j ∧ ∃ f, f < m ∧ (V j).toInt32 = nI f ∧ le i = nI f)
def lqB (V : Nat → Int64) (m g c : Nat) (sk : Nat → Nat) (sv so le : Nat → Int32) (i : Nat) : Prop := (sk i = 24 ∧ so i = nI 23 ∧ ∃ j, j < c ∧ sv i = nI j ∧ ∃ f, f < m ∧ (V j).toInt32 = nI f ∧ le i = nI f) ∨ (sk i = 23 ∧ so i = nI 22 ∧ ∃ j, j < c ∧ sv i = nI j ∧ ∃ f, f < g ∧ (V j).toInt32 = nI f ∧ le i = nI f) ∨ (sk i = 25 ∧ so i = nI 25 ∧ ∃ j, j < c ∧ sv i = nI j ∧ ∃ f, f < g ∧ (V j).toInt32 = nI f ∧ le i = nI f)
theorem lqI_mono {V V' : Nat → Int64} {m m' c c' : Nat} {sk sk' : Nat → Nat} {sv so le sv' so' le' : Nat → Int32} {i : Nat} (hm : m ≤ m') (hc : c ≤ c') (hV : ∀ j, j < c → V' j = V j) (e1 : sk' i = sk i) (e2 : sv' i = sv i) (e3 : so' i = so i) (e4 : le' i = le i) (h : lqI V m c sk sv so le i) : lqI V' m' c' sk' sv' so' le' i := by
  unfold lqI at h ⊢
  rw [e1, e2, e3, e4]
  rcases h with ⟨p, q, j, r1, r2, r3⟩ | h | h | ⟨p, q, j, r1, r2, f, r3, r4, r5⟩
  · exact Or.inl ⟨p, q, j, by omega, r2, by rw [hV j r1]; exact r3⟩
  · exact Or.inr (Or.inl h)
  · exact Or.inr (Or.inr (Or.inl h))
  · exact Or.inr (Or.inr (Or.inr ⟨p, q, j, by omega, r2, f, by omega, by rw [hV j r1]; exact r4, r5⟩))
theorem lqB_mono {V V' : Nat → Int64} {m m' g g' c c' : Nat} {sk sk' : Nat → Nat} {sv so le sv' so' le' : Nat → Int32} {i : Nat} (hm : m ≤ m') (hg : g ≤ g') (hc : c ≤ c') (hV : ∀ j, j < c → V' j = V j) (e1 : sk' i = sk i) (e2 : sv' i = sv i) (e3 : so' i = so i) (e4 : le' i = le i) (h : lqB V m g c sk sv so le i) : lqB V' m' g' c' sk' sv' so' le' i := by
  unfold lqB at h ⊢
  rw [e1, e2, e3, e4]
  rcases h with ⟨p, q, j, r1, r2, f, r3, r4, r5⟩ | ⟨p, q, j, r1, r2, f, r3, r4, r5⟩ | ⟨p, q, j, r1, r2, f, r3, r4, r5⟩
  · exact Or.inl ⟨p, q, j, by omega, r2, f, by omega, by rw [hV j r1]; exact r4, r5⟩
  · exact Or.inr (Or.inl ⟨p, q, j, by omega, r2, f, by omega, by rw [hV j r1]; exact r4, r5⟩)
  · exact Or.inr (Or.inr ⟨p, q, j, by omega, r2, f, by omega, by rw [hV j r1]; exact r4, r5⟩)
/-- an order, told alike, but for what its tokens stand for -/
def ORk (V : Nat → Int64) (m g c st : Nat) (O : bX6) (T : bX13) (k : Nat) : Prop := ∃ s e, s ≤ e ∧ e ≤ st ∧ X6_firstSteps O k = nI s ∧ X6_endSteps O k = nI e ∧ X13_from T k = nI s ∧ X13_to T k = nI e ∧
  ((s = e ∧ X13_test T k = -nI 1) ∨ (X13_test T k = nI (e - 1) ∧ Ex (lqI V m c (X6_stepKinds O) (X6_stepValues O) (X13_sort T) (X13_left T)) (lqB V m g c (X6_stepKinds O) (X6_stepValues O) (X13_sort T) (X13_left T)) (X6_stepKinds O) (X13_sort T) (X13_left T) (X13_right T) 1 s e)) ∧
  ((X6_deeds O k = 11 ∧ X13_does T k = nI 11 ∧ ∃ j, j < c ∧ X6_targets O k = nI j ∧ ∃ f, f < m ∧ (V j).toInt32 = nI f ∧ X13_whom T k = nI f) ∨ (X6_deeds O k = 12 ∧ X13_does T k = nI 12) ∨ (X6_deeds O k = 13 ∧ X13_does T k = nI 13) ∨ (X6_deeds O k = 14 ∧ X13_does T k = nI 14 ∧ ∃ j, j < c ∧ X6_targets O k = nI j ∧ ∃ f, f < g ∧ (V j).toInt32 = nI f ∧ X13_whom T k = nI f))
theorem ORk_mono {V V' : Nat → Int64} {m m' g g' c c' st st' k : Nat} {O O' : bX6} {T T' : bX13} (hm : m ≤ m') (hg : g ≤ g') (hc : c ≤ c') (hst : st ≤ st') (hV : ∀ j, j < c → V' j = V j)
    (h1 : X6_firstSteps O' k = X6_firstSteps O k) (h2 : X6_endSteps O' k = X6_endSteps O k) (h3 : X6_deeds O' k = X6_deeds O k) (h4 : X6_targets O' k = X6_targets O k) (h5 : X13_from T' k = X13_from T k) (h6 : X13_to T' k = X13_to T k) (h7 : X13_test T' k = X13_test T k) (h8 : X13_does T' k = X13_does T k) (h9 : X13_whom T' k = X13_whom T k)
    (hs : ∀ i, i < st → X6_stepKinds O' i = X6_stepKinds O i ∧ X6_stepValues O' i = X6_stepValues O i ∧ X13_sort T' i = X13_sort T i ∧ X13_left T' i = X13_left T i ∧ X13_right T' i = X13_right T i) (h : ORk V m g c st O T k) : ORk V' m' g' c' st' O' T' k := by
  obtain ⟨s, e, q1, q2, q3, q4, q5, q6, q7, q8⟩ := h
  refine ⟨s, e, q1, by omega, h1.trans q3, h2.trans q4, h5.trans q5, h6.trans q6, ?_, ?_⟩
  · rw [h7]
    rcases q7 with q7 | ⟨q7, q9⟩
    · exact Or.inl q7
    · refine Or.inr ⟨q7, Ex_mono q9 fun i a b => ?_⟩
      obtain ⟨r1, r2, r3, r4, r5⟩ := hs i (by omega)
      exact ⟨lqI_mono hm hc hV r1 r2 r3 r4, lqB_mono hm hg hc hV r1 r2 r3 r4, r1, r3, r4, r5⟩
  · rw [h3, h4, h8, h9]
    rcases q8 with ⟨p1, p2, j, p3, p4, f, p5, p6, p7⟩ | q8 | q8 | ⟨p1, p2, j, p3, p4, f, p5, p6, p7⟩
    · exact Or.inl ⟨p1, p2, j, by omega, p4, f, by omega, by rw [hV j p3]; exact p6, p7⟩
    · exact Or.inr (Or.inl q8)
    · exact Or.inr (Or.inr (Or.inl q8))
    · exact Or.inr (Or.inr (Or.inr ⟨p1, p2, j, by omega, p4, f, by omega, by rw [hV j p3]; exact p6, p7⟩))
/-- what the names behind keywords stand for, ahead of the token c -/
def RFS (K : Nat → Nat) (vT : Nat → Int64) (a b : Nat → Nat) (m g c : Nat) (V : Nat → Int64) : Prop := ∀ j, j < c → ((K j = 11 ∨ K j = 24 ∨ K j = 26) → V (j + 1) = Int32.toInt64 (kfn vT a m (j + 1)) ∧ kfn vT a m (j + 1) ≠ -nI 1) ∧ ((K j = 14 ∨ K j = 23 ∨ K j = 25) → V (j + 1) = Int32.toInt64 (kfn vT b g (j + 1)) ∧ kfn vT b g (j + 1) ≠ -nI 1)
theorem lFx_nI {q : Nat} (hq : q < 1000) : lFx (nI q) = nI q := by
  unfold lFx
  by_cases h : q = 0
  · subst h
    rw [if_neg (by rw [nJ_lt (by omega) (by omega)]; omega)]
  · rw [if_pos (by rw [nJ_lt (by omega) (by omega)]; omega)]
theorem kfn_some {vT : Nat → Int64} {a : Nat → Nat} {m j : Nat} (h : kfn vT a m j ≠ -nI 1) : ∃ i, i < m ∧ kfn vT a m j = nI i := by
  rcases kfn_or (vT := vT) (a := a) (m := m) (j := j) with q | q
  · exact absurd q h
  · exact q
section P51
variable {K : Nat → Nat} {vT V : Nat → Int64} {nu : Nat → Int32} {a b : Nat → Nat} {m g c : Nat} {sk : Nat → Nat} {sv so le : Nat → Int32} {i : Nat}
theorem rf_val {kk : Int32} {m j : Nat} (hm : m ≤ 10) (h : V j = Int32.toInt64 (kfn vT a m j)) (hn : kfn vT a m j ≠ -nI 1) : ∃ f, f < m ∧ (V j).toInt32 = nI f ∧ lFx (kfn vT a m j) = nI f := by
  obtain ⟨f, h1, h2⟩ := kfn_some hn
  exact ⟨f, h1, by rw [h, h2, Int32.toInt32_toInt64], by rw [h2, lFx_nI (by omega)]⟩
theorem lp_lqI (hm : m ≤ 10) (hR : RFS K vT a b m g c V) (hv : ∀ j, K j = 48 → V j = vT j) (hnu : ∀ j, j < c → K j = 48 → (vT j).toInt32 = nu j) (h : lpI K nu (kfn vT a m) c sk sv so le i) : lqI V m c sk sv so le i := by
  rcases h with ⟨p, q, j, r1, r2, r3, r4⟩ | h | h | ⟨p, q, j, r1, r2, r3, r4, r5, r6⟩
  · exact Or.inl ⟨p, q, j, r1, r3, by rw [hv j r2, hnu j r1 r2, r4]⟩
  · exact Or.inr (Or.inl h)
  · exact Or.inr (Or.inr (Or.inl h))
  · have e : j - 1 + 1 = j := by omega
    have hr := (hR (j - 1) (by omega)).1 (by omega)
    rw [e] at hr
    obtain ⟨f, f1, f2, f3⟩ := rf_val (kk := 0) hm hr.1 hr.2
    exact Or.inr (Or.inr (Or.inr ⟨p, q, j, r1, r5, f, f1, f2, r6.trans f3⟩))
theorem lp_lqB (hm : m ≤ 10) (hg : g ≤ 10) (hR : RFS K vT a b m g c V) (h : lpB K (kfn vT a m) (kfn vT b g) c sk sv so le i) : lqB V m g c sk sv so le i := by
  rcases h with ⟨p, q, j, r1, r2, r3, r4, r5, r6⟩ | ⟨p, q, j, r1, r2, r3, r4, r5, r6⟩ | ⟨p, q, j, r1, r2, r3, r4, r5, r6⟩
  · have e : j - 1 + 1 = j := by omega
    have hr := (hR (j - 1) (by omega)).1 (by omega)
    rw [e] at hr
    obtain ⟨f, f1, f2, f3⟩ := rf_val (kk := 0) hm hr.1 hr.2
    exact Or.inl ⟨p, q, j, r1, r5, f, f1, f2, r6.trans f3⟩
  · have e : j - 1 + 1 = j := by omega
    have hr := (hR (j - 1) (by omega)).2 (by omega)
    rw [e] at hr
    obtain ⟨f, f1, f2, f3⟩ := rf_val (kk := 0) hg hr.1 hr.2
    exact Or.inr (Or.inl ⟨p, q, j, r1, r5, f, f1, f2, r6.trans f3⟩)
  · have e : j - 1 + 1 = j := by omega
    have hr := (hR (j - 1) (by omega)).2 (by omega)
    rw [e] at hr
    obtain ⟨f, f1, f2, f3⟩ := rf_val (kk := 0) hg hr.1 hr.2
    exact Or.inr (Or.inr ⟨p, q, j, r1, r5, f, f1, f2, r6.trans f3⟩)
end P51
/-- between two lines -/
def IV (n : Nat) (K : Nat → Nat) (sT : Nat → Int32) (vT : Nat → Int64) (t : Nat) (cu eB : Int32) (B1 : bX2) (B2 : bX4) (a b : Nat → Nat) (c s no m g : Nat) (fn gn : Nat → Int32) (er et : Int32) (O : bX6) (T : bX13) : Prop :=
  c ≤ t ∧ s ≤ c ∧ no ≤ 16 ∧ m ≤ 10 ∧ g ≤ 10 ∧ (∀ k, k < m → fn k = nI (a k) ∧ a k < t ∧ K (a k) = 47) ∧ (∀ k, k < g → gn k = nI (b k) ∧ b k < t ∧ K (b k) = 47) ∧
  ((er = nI 0 ∧ ∃ (V : Nat → Int64) (e2 : Int32) (F : bX2) (G : bX4), CKA n K sT vT t cu eB B1 B2 no c V e2 F G ∧ NMS vT a b m g F G ∧ (∀ j, c ≤ j → V j = vT j) ∧ (∀ j, K j = 48 → V j = vT j) ∧ RFS K vT a b m g c V ∧ (∀ k, k < m → FRk F T k) ∧ (∀ k, k < g → GRk G T k) ∧ (∀ k, k < no → ORk V m g c s O T k)) ∨
   (er ≠ nI 0 ∧ CKF n K sT vT t cu eB B1 B2 (er, et) ∧ ∃ j, j ≤ t ∧ et = nI j))
