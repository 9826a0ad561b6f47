/-! small numbers as ints; loops run to their ends -/
theorem iter_inl {S R : Type} {body : S → Option (S ⊕ R)} {n : Nat} {s s' : S} (h : body s = some (.inl s')) : iter body (n + 1) s = iter body n s' := by
  rw [iter, h]
theorem iter_inr {S R : Type} {body : S → Option (S ⊕ R)} {n : Nat} {s : S} {r : R} (h : body s = some (.inr r)) : iter body (n + 1) s = some r := by
  rw [iter, h]
theorem iter_inv {S R : Type} (body : S → Option (S ⊕ R)) (I : Nat → S → Prop) (Q : R → Prop) (N : Nat)
    (step : ∀ (i : Nat) (s : S), i ≤ N → I i s → (∃ s', body s = some (.inl s') ∧ i < N ∧ I (i + 1) s') ∨ (∃ r, body s = some (.inr r) ∧ Q r)) :
    ∀ (n i : Nat) (s : S), i ≤ N → N - i < n → I i s → ∃ r, iter body n s = some r ∧ Q r := by
  intro n
  induction n with
  | zero => intro i s _ h _; omega
  | succ n ih =>
    intro i s hi hn hI
    rcases step i s hi hI with ⟨s', h1, h2, h3⟩ | ⟨r, h1, h2⟩
    · obtain ⟨r, h4, h5⟩ := ih (i + 1) s' (by omega) (by omega) h3
      exact ⟨r, by rw [iter_inl h1]; exact h4, h5⟩
    · exact ⟨r, iter_inr h1, h2⟩
/-- a loop that counts: its states are st 0, st 1 .. st N -/
theorem iter_count {S R : Type} (body : S → Option (S ⊕ R)) (st : Nat → S) (N : Nat) (r : R) (hs : ∀ i, i < N → body (st i) = some (.inl (st (i + 1)))) (he : body (st N) = some (.inr r)) {n : Nat} (hn : N < n) : iter body n (st 0) = some r := by
  obtain ⟨r', h1, h2⟩ := iter_inv body (fun i s => s = st i) (fun q => q = r) N (fun i s hi h => by
    subst h
    by_cases e : i < N
    · exact Or.inl ⟨_, hs i e, e, rfl⟩
    · have : i = N := by omega
      subst this
      exact Or.inr ⟨_, he, rfl⟩) n 0 (st 0) (by omega) (by omega) rfl
  rw [h1, h2]
theorem nJ_eq {a b : Nat} (ha : a < 2147483648) (hb : b < 2147483648) : (nI a = nI b) = (a = b) := propext (nI_eq ha hb)
theorem nJ_le {a b : Nat} (ha : a < 2147483648) (hb : b < 2147483648) : (nI a ≤ nI b) = (a ≤ b) := propext (nI_leI ha hb)
theorem nJ_lt {a b : Nat} (ha : a < 2147483648) (hb : b < 2147483648) : (nI a < nI b) = (a < b) := propext (nI_ltI ha hb)
theorem nJ_clamp {a : Nat} (ha : a < 2147483648) : (nI a).toNatClampNeg = a := nI_clamp ha
theorem nJ_add (a b : Nat) : nI a + nI b = nI (a + b) := nI_add a b
theorem nJ_sub {a b : Nat} (h : b ≤ a) : nI a - nI b = nI (a - b) := by
  obtain ⟨c, rfl⟩ := Nat.exists_eq_add_of_le h
  have e : b + c - b = c := by omega
  rw [e, ← nI_add]
  rw [Int32.add_comm (nI b) (nI c)]
  exact Int32.add_sub_cancel (nI c) (nI b)
theorem nJ_neg (a : Nat) (ha : a < 2147483648) : (nI a < nI 0) = False := by
  rw [nJ_lt ha (by decide)]
  exact eq_false (by omega)
theorem nL_0 : (0 : Int32) = nI 0 := rfl
theorem nL_1 : (1 : Int32) = nI 1 := rfl
theorem nL_2 : (2 : Int32) = nI 2 := rfl
theorem nL_3 : (3 : Int32) = nI 3 := rfl
theorem nL_4 : (4 : Int32) = nI 4 := rfl
theorem nL_5 : (5 : Int32) = nI 5 := rfl
theorem nL_6 : (6 : Int32) = nI 6 := rfl
theorem nL_7 : (7 : Int32) = nI 7 := rfl
theorem nL_8 : (8 : Int32) = nI 8 := rfl
theorem nL_9 : (9 : Int32) = nI 9 := rfl
theorem nL_10 : (10 : Int32) = nI 10 := rfl
theorem nL_11 : (11 : Int32) = nI 11 := rfl
theorem nL_12 : (12 : Int32) = nI 12 := rfl
theorem nL_13 : (13 : Int32) = nI 13 := rfl
theorem nL_14 : (14 : Int32) = nI 14 := rfl
theorem nL_15 : (15 : Int32) = nI 15 := rfl
theorem nL_16 : (16 : Int32) = nI 16 := rfl
theorem nL_17 : (17 : Int32) = nI 17 := rfl
theorem nL_18 : (18 : Int32) = nI 18 := rfl
theorem nL_20 : (20 : Int32) = nI 20 := rfl
theorem nL_21 : (21 : Int32) = nI 21 := rfl
theorem nL_28 : (28 : Int32) = nI 28 := rfl
theorem nL_30 : (30 : Int32) = nI 30 := rfl
theorem nL_38 : (38 : Int32) = nI 38 := rfl
theorem nL_40 : (40 : Int32) = nI 40 := rfl
theorem nL_48 : (48 : Int32) = nI 48 := rfl
theorem nL_58 : (58 : Int32) = nI 58 := rfl
theorem nL_60 : (60 : Int32) = nI 60 := rfl
theorem nL_400 : (400 : Int32) = nI 400 := rfl
theorem nL_2000 : (2000 : Int32) = nI 2000 := rfl
theorem nJ_div {a b : Nat} (ha : a < 2147483648) (hb : b < 2147483648) (h0 : 0 < b) : nI a / nI b = nI (a / b) := by
  apply Int32.toInt_inj.mp
  rw [Int32.toInt_div, nI_toInt ha, nI_toInt hb, nI_toInt (Nat.lt_of_le_of_lt (Nat.div_le_self a b) ha)]
  have e : ((a : Int).tdiv (b : Int)) = ((a / b : Nat) : Int) := rfl
  rw [e]
  have hlt : a / b < 2147483648 := Nat.lt_of_le_of_lt (Nat.div_le_self a b) ha
  generalize a / b = q at hlt
  have h2 : (2 : Int) ^ 32 = 4294967296 := by decide
  rw [Int.bmod_eq_of_le] <;> omega
theorem nJ_of (a : Nat) : Int32.ofNat a = nI a := rfl
theorem m1_int : (-nI 1).toInt = -1 := by decide
theorem nJ_nm1 {a : Nat} (ha : a < 2147483648) : (nI a = -nI 1) = False := by
  refine eq_false (fun e => ?_)
  have h := congrArg Int32.toInt e
  rw [nI_toInt ha, m1_int] at h
  omega
theorem nJ_lem1 {a : Nat} (ha : a < 2147483648) : (nI a ≤ -nI 1) = False := by
  refine eq_false (fun e => ?_)
  rw [Int32.le_iff_toInt_le, nI_toInt ha, m1_int] at e
  omega
theorem upd_same (N : Nat → Int32) (k : Nat) (x : Int32) : upd N k x k = x := by
  unfold upd
  rw [if_pos rfl]
theorem upd_else (N : Nat → Int32) {k j : Nat} (x : Int32) (h : j ≠ k) : upd N k x j = N j := by
  unfold upd
  rw [if_neg h]
theorem upd_back (N : Nat → Int32) (k : Nat) (x : Int32) : upd (upd N k x) k (N k) = N := by
  funext j
  by_cases h : j = k
  · subst h
    rw [upd_same]
  · rw [upd_else _ _ h, upd_else _ _ h]
def sumN (f : Nat → Nat) : Nat → Nat
  | 0 => 0
  | i + 1 => sumN f i + f i
theorem sumN_le {f : Nat → Nat} {c : Nat} : ∀ {n : Nat}, (∀ i, i < n → f i ≤ c) → sumN f n ≤ c * n
  | 0, _ => Nat.zero_le _
  | n + 1, h => by
    have h1 := sumN_le (f := f) (c := c) (n := n) (fun i hi => h i (by omega))
    have h2 := h n (by omega)
    rw [sumN, Nat.mul_succ]
    omega
theorem nL_19 : (19 : Int32) = nI 19 := rfl
theorem nL_22 : (22 : Int32) = nI 22 := rfl
theorem nL_23 : (23 : Int32) = nI 23 := rfl
theorem nL_24 : (24 : Int32) = nI 24 := rfl
theorem nL_25 : (25 : Int32) = nI 25 := rfl
theorem nL_26 : (26 : Int32) = nI 26 := rfl
theorem nL_27 : (27 : Int32) = nI 27 := rfl
theorem nL_29 : (29 : Int32) = nI 29 := rfl
theorem nL_31 : (31 : Int32) = nI 31 := rfl
theorem nL_32 : (32 : Int32) = nI 32 := rfl
theorem nL_33 : (33 : Int32) = nI 33 := rfl
theorem nL_34 : (34 : Int32) = nI 34 := rfl
theorem nL_35 : (35 : Int32) = nI 35 := rfl
theorem nL_36 : (36 : Int32) = nI 36 := rfl
theorem nL_37 : (37 : Int32) = nI 37 := rfl
theorem nL_39 : (39 : Int32) = nI 39 := rfl
theorem nL_41 : (41 : Int32) = nI 41 := rfl
theorem nL_42 : (42 : Int32) = nI 42 := rfl
theorem nL_43 : (43 : Int32) = nI 43 := rfl
theorem nL_44 : (44 : Int32) = nI 44 := rfl
theorem nL_45 : (45 : Int32) = nI 45 := rfl
theorem nL_46 : (46 : Int32) = nI 46 := rfl
theorem nL_47 : (47 : Int32) = nI 47 := rfl
theorem nL_49 : (49 : Int32) = nI 49 := rfl
theorem nL_50 : (50 : Int32) = nI 50 := rfl
theorem nL_51 : (51 : Int32) = nI 51 := rfl
theorem nL_52 : (52 : Int32) = nI 52 := rfl
theorem nL_53 : (53 : Int32) = nI 53 := rfl
theorem nL_54 : (54 : Int32) = nI 54 := rfl
theorem nL_55 : (55 : Int32) = nI 55 := rfl
theorem nL_56 : (56 : Int32) = nI 56 := rfl
theorem nL_57 : (57 : Int32) = nI 57 := rfl
theorem nL_59 : (59 : Int32) = nI 59 := rfl
theorem nL_61 : (61 : Int32) = nI 61 := rfl
theorem nL_62 : (62 : Int32) = nI 62 := rfl
theorem nL_63 : (63 : Int32) = nI 63 := rfl
theorem nL_64 : (64 : Int32) = nI 64 := rfl
theorem nL_65 : (65 : Int32) = nI 65 := rfl
theorem nL_66 : (66 : Int32) = nI 66 := rfl
theorem nL_67 : (67 : Int32) = nI 67 := rfl
theorem nL_68 : (68 : Int32) = nI 68 := rfl
theorem nL_69 : (69 : Int32) = nI 69 := rfl
theorem nL_70 : (70 : Int32) = nI 70 := rfl
theorem nL_402 : (402 : Int32) = nI 402 := rfl
theorem nL_800 : (800 : Int32) = nI 800 := rfl
theorem sm_0 : smap 0 = nI 19 := rfl
theorem sm_1 : smap 1 = nI 0 := rfl
theorem sm_2 : smap 2 = nI 0 := rfl
theorem sm_3 : smap 3 = nI 0 := rfl
theorem sm_4 : smap 4 = nI 0 := rfl
theorem sm_5 : smap 5 = nI 0 := rfl
theorem sm_6 : smap 6 = nI 14 := rfl
theorem sm_7 : smap 7 = nI 20 := rfl
theorem sm_8 : smap 8 = nI 0 := rfl
theorem sm_9 : smap 9 = nI 0 := rfl
theorem sm_10 : smap 10 = nI 0 := rfl
theorem sm_11 : smap 11 = nI 21 := rfl
theorem sm_12 : smap 12 = nI 35 := rfl
theorem sm_13 : smap 13 = nI 36 := rfl
theorem sm_14 : smap 14 = nI 23 := rfl
theorem sm_15 : smap 15 = nI 0 := rfl
theorem sm_16 : smap 16 = nI 7 := rfl
theorem sm_17 : smap 17 = nI 8 := rfl
theorem sm_18 : smap 18 = nI 9 := rfl
theorem sm_19 : smap 19 = nI 10 := rfl
theorem sm_20 : smap 20 = nI 11 := rfl
theorem sm_21 : smap 21 = nI 12 := rfl
theorem sm_22 : smap 22 = nI 13 := rfl
theorem sm_23 : smap 23 = nI 4 := rfl
theorem sm_24 : smap 24 = nI 3 := rfl
theorem sm_25 : smap 25 = nI 5 := rfl
theorem sm_26 : smap 26 = nI 22 := rfl
theorem sm_27 : smap 27 = nI 1 := rfl
theorem sm_28 : smap 28 = nI 33 := rfl
theorem sm_29 : smap 29 = nI 34 := rfl
theorem sm_30 : smap 30 = nI 17 := rfl
theorem sm_31 : smap 31 = nI 18 := rfl
theorem sm_32 : smap 32 = nI 16 := rfl
theorem sm_33 : smap 33 = nI 0 := rfl
theorem sm_34 : smap 34 = nI 2 := rfl
theorem sm_35 : smap 35 = nI 0 := rfl
theorem sm_36 : smap 36 = nI 0 := rfl
theorem sm_37 : smap 37 = nI 0 := rfl
theorem sm_38 : smap 38 = nI 25 := rfl
theorem sm_39 : smap 39 = nI 15 := rfl
theorem sm_40 : smap 40 = nI 26 := rfl
theorem sm_41 : smap 41 = nI 27 := rfl
theorem sm_42 : smap 42 = nI 28 := rfl
theorem sm_43 : smap 43 = nI 29 := rfl
theorem sm_44 : smap 44 = nI 30 := rfl
theorem sm_45 : smap 45 = nI 31 := rfl
theorem sm_46 : smap 46 = nI 32 := rfl
theorem sm_47 : smap 47 = nI 0 := rfl
theorem sm_48 : smap 48 = nI 6 := rfl
theorem sm_49 : smap 49 = nI 0 := rfl
theorem sm_50 : smap 50 = nI 0 := rfl
theorem sm_51 : smap 51 = nI 24 := rfl
