/-! small numbers as ints; loops run to their ends -/
theorem iter_inl {S R : Type} {body : S → Option (S ⊕ R)} {n : Nat} {s s' : S} (h : body s = some (.inl s')) : iter body (n + 1) s = iter body n s' := by
  rw [iter, h]
theorem iter_inr {S R : Type} {body : S → Option (S ⊕ R)} {n : Nat} {s : S} {r : R} (h : body s = some (.inr r)) : iter body (n + 1) s = some r := by
  rw [iter, h]
theorem iter_inv {S R : Type} (body : S → Option (S ⊕ R)) (I : Nat → S → Prop) (Q : R → Prop) (N : Nat)
    (step : ∀ (i : Nat) (s : S), i ≤ N → I i s → (∃ s', body s = some (.inl s') ∧ i < N ∧ I (i + 1) s') ∨ (∃ r, body s = some (.inr r) ∧ Q r)) :
    ∀ (n i : Nat) (s : S), i ≤ N → N - i < n → I i s → ∃ r, iter body n s = some r ∧ Q r := by
  intro n
  induction n with
  | zero => intro i s _ h _; omega
  | succ n ih =>
    intro i s hi hn hI
    rcases step i s hi hI with ⟨s', h1, h2, h3⟩ | ⟨r, h1, h2⟩
    · obtain ⟨r, h4, h5⟩ := ih (i + 1) s' (by omega) (by omega) h3
      exact ⟨r, by rw [iter_inl h1]; exact h4, h5⟩
    · exact ⟨r, iter_inr h1, h2⟩
/-- a loop that counts: its states are st 0, st 1 .. st N -/
theorem iter_count {S R : Type} (body : S → Option (S ⊕ R)) (st : Nat → S) (N : Nat) (r : R) (hs : ∀ i, i < N → body (st i) = some (.inl (st (i + 1)))) (he : body (st N) = some (.inr r)) {n : Nat} (hn : N < n) : iter body n (st 0) = some r := by
  obtain ⟨r', h1, h2⟩ := iter_inv body (fun i s => s = st i) (fun q => q = r) N (fun i s hi h => by
    subst h
    by_cases e : i < N
    · exact Or.inl ⟨_, hs i e, e, rfl⟩
    · have : i = N := by omega
      subst this
      exact Or.inr ⟨_, he, rfl⟩) n 0 (st 0) (by omega) (by omega) rfl
  rw [h1, h2]
theorem nJ_eq {a b : Nat} (ha : a < 2147483648) (hb : b < 2147483648) : (nI a = nI b) = (a = b) := propext (nI_eq ha hb)
theorem nJ_le {a b : Nat} (ha : a < 2147483648) (hb : b < 2147483648) : (nI a ≤ nI b) = (a ≤ b) := propext (nI_leI ha hb)
theorem nJ_lt {a b : Nat} (ha : a < 2147483648) (hb : b < 2147483648) : (nI a < nI b) = (a < b) := propext (nI_ltI ha hb)
theorem nJ_clamp {a : Nat} (ha : a < 2147483648) : (nI a).toNatClampNeg = a := nI_clamp ha
theorem nJ_add (a b : Nat) : nI a + nI b = nI (a + b) := nI_add a b
theorem nJ_sub {a b : Nat} (h : b ≤ a) : nI a - nI b = nI (a - b) := by
  obtain ⟨c, rfl⟩ := Nat.exists_eq_add_of_le h
  have e : b + c - b = c := by omega
  rw [e, ← nI_add]
  rw [Int32.add_comm (nI b) (nI c)]
  exact Int32.add_sub_cancel (nI c) (nI b)
theorem nJ_neg (a : Nat) (ha : a < 2147483648) : (nI a < nI 0) = False := by
  rw [nJ_lt ha (by decide)]
  exact eq_false (by omega)
theorem nL_0 : (0 : Int32) = nI 0 := rfl
theorem nL_1 : (1 : Int32) = nI 1 := rfl
theorem nL_2 : (2 : Int32) = nI 2 := rfl
theorem nL_3 : (3 : Int32) = nI 3 := rfl
theorem nL_4 : (4 : Int32) = nI 4 := rfl
theorem nL_5 : (5 : Int32) = nI 5 := rfl
theorem nL_6 : (6 : Int32) = nI 6 := rfl
theorem nL_7 : (7 : Int32) = nI 7 := rfl
theorem nL_8 : (8 : Int32) = nI 8 := rfl
theorem nL_9 : (9 : Int32) = nI 9 := rfl
theorem nL_10 : (10 : Int32) = nI 10 := rfl
theorem nL_11 : (11 : Int32) = nI 11 := rfl
theorem nL_12 : (12 : Int32) = nI 12 := rfl
theorem nL_13 : (13 : Int32) = nI 13 := rfl
theorem nL_14 : (14 : Int32) = nI 14 := rfl
theorem nL_15 : (15 : Int32) = nI 15 := rfl
theorem nL_16 : (16 : Int32) = nI 16 := rfl
theorem nL_17 : (17 : Int32) = nI 17 := rfl
theorem nL_18 : (18 : Int32) = nI 18 := rfl
theorem nL_20 : (20 : Int32) = nI 20 := rfl
theorem nL_21 : (21 : Int32) = nI 21 := rfl
theorem nL_28 : (28 : Int32) = nI 28 := rfl
theorem nL_30 : (30 : Int32) = nI 30 := rfl
theorem nL_38 : (38 : Int32) = nI 38 := rfl
theorem nL_40 : (40 : Int32) = nI 40 := rfl
theorem nL_48 : (48 : Int32) = nI 48 := rfl
theorem nL_58 : (58 : Int32) = nI 58 := rfl
theorem nL_60 : (60 : Int32) = nI 60 := rfl
theorem nL_400 : (400 : Int32) = nI 400 := rfl
theorem nL_2000 : (2000 : Int32) = nI 2000 := rfl
theorem nJ_div {a b : Nat} (ha : a < 2147483648) (hb : b < 2147483648) (h0 : 0 < b) : nI a / nI b = nI (a / b) := by
  apply Int32.toInt_inj.mp
  rw [Int32.toInt_div, nI_toInt ha, nI_toInt hb, nI_toInt (Nat.lt_of_le_of_lt (Nat.div_le_self a b) ha)]
  have e : ((a : Int).tdiv (b : Int)) = ((a / b : Nat) : Int) := rfl
  rw [e]
  have hlt : a / b < 2147483648 := Nat.lt_of_le_of_lt (Nat.div_le_self a b) ha
  generalize a / b = q at hlt
  have h2 : (2 : Int) ^ 32 = 4294967296 := by decide
  rw [Int.bmod_eq_of_le] <;> omega
theorem nJ_of (a : Nat) : Int32.ofNat a = nI a := rfl
theorem m1_int : (-nI 1).toInt = -1 := by decide
theorem nJ_nm1 {a : Nat} (ha : a < 2147483648) : (nI a = -nI 1) = False := by
  refine eq_false (fun e => ?_)
  have h := congrArg Int32.toInt e
  rw [nI_toInt ha, m1_int] at h
  omega
theorem nJ_lem1 {a : Nat} (ha : a < 2147483648) : (nI a ≤ -nI 1) = False := by
  refine eq_false (fun e => ?_)
  rw [Int32.le_iff_toInt_le, nI_toInt ha, m1_int] at e
  omega
theorem upd_same (N : Nat → Int32) (k : Nat) (x : Int32) : upd N k x k = x := by
  unfold upd
  rw [if_pos rfl]
theorem upd_else (N : Nat → Int32) {k j : Nat} (x : Int32) (h : j ≠ k) : upd N k x j = N j := by
  unfold upd
  rw [if_neg h]
theorem upd_back (N : Nat → Int32) (k : Nat) (x : Int32) : upd (upd N k x) k (N k) = N := by
  funext j
  by_cases h : j = k
  · subst h
    rw [upd_same]
  · rw [upd_else _ _ h, upd_else _ _ h]
def sumN (f : Nat → Nat) : Nat → Nat
  | 0 => 0
  | i + 1 => sumN f i + f i
theorem sumN_le {f : Nat → Nat} {c : Nat} : ∀ {n : Nat}, (∀ i, i < n → f i ≤ c) → sumN f n ≤ c * n
  | 0, _ => Nat.zero_le _
  | n + 1, h => by
    have h1 := sumN_le (f := f) (c := c) (n := n) (fun i hi => h i (by omega))
    have h2 := h n (by omega)
    rw [sumN, Nat.mul_succ]
    omega
