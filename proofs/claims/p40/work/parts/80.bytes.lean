/-! BYTES AND TOKENS of the tape, as the code reads them (the rows of whole that speak of the code alone) -/
theorem bd {α β : Type} {x : Option α} {a : α} (h : x = some a) (k : α → Option β) : x.bind k = k a := by rw [h]; rfl
/-! the first that fits -/
def fnd (p : Nat → Bool) : Nat → Option Nat
  | 0 => none
  | m + 1 => match fnd p m with
    | some k => some k
    | none => bif p m then some m else none
theorem fnd_some {p : Nat → Bool} : ∀ {m k : Nat}, fnd p m = some k → k < m ∧ p k = true
  | 0, k, h => by cases h
  | m + 1, k, h => by
    unfold fnd at h
    cases e : fnd p m with
    | some q =>
      rw [e] at h
      cases h
      have := fnd_some e
      exact ⟨by omega, this.2⟩
    | none =>
      rw [e] at h
      cases e2 : p m with
      | true =>
        rw [e2] at h
        cases h
        exact ⟨by omega, e2⟩
      | false =>
        rw [e2] at h
        cases h
theorem fnd_hit {p : Nat → Bool} {i m : Nat} (h : fnd p i = none) (hp : p i = true) (hi : i < m) : fnd p m = some i := by
  induction m with
  | zero => omega
  | succ m ih =>
    unfold fnd
    by_cases e : i = m
    · subst e
      rw [h, hp]
      rfl
    · rw [ih (by omega)]
theorem fnd_mono {p : Nat → Bool} {i m k : Nat} (h : fnd p i = some k) (hi : i ≤ m) : fnd p m = some k := by
  induction m with
  | zero =>
    have : i = 0 := by omega
    subst this
    exact h
  | succ m ih =>
    by_cases e : i = m + 1
    · subst e
      exact h
    · unfold fnd
      rw [ih (by omega)]
theorem fnd_miss {p : Nat → Bool} {m : Nat} (h : fnd p m = none) (hp : p m = false) : fnd p (m + 1) = none := by
  unfold fnd
  rw [h, hp]
  rfl
theorem fnd_congr {p q : Nat → Bool} : ∀ {m : Nat}, (∀ k, k < m → p k = q k) → fnd p m = fnd q m
  | 0, _ => rfl
  | m + 1, h => by
    unfold fnd
    rw [fnd_congr (fun k hk => h k (by omega)), h m (by omega)]
/-! bytes of the tape, both readers -/
def sx (v : Nat) : Int32 := if v < 128 then nI v else nI v - nI 256
def cb (v : Nat) : Int32 := if v < 256 then sx v else nI 0
def ltr (v : Nat) : Bool := decide (97 ≤ v) && decide (v ≤ 122)
def dig (v : Nat) : Bool := decide (48 ≤ v) && decide (v ≤ 57)
def wrd (v : Nat) : Bool := ltr v || dig v
def blk (v : Nat) : Bool := decide (v = 32) || decide (v = 10)
def b1 (b : Bool) : Int32 := bif b then nI 1 else nI 0
theorem cb_ltr : ∀ v : Nat, v < 257 → f_X11_isLetter (cb v) = some (b1 (ltr v)) := by decide +kernel
theorem cb_dig : ∀ v : Nat, v < 257 → f_X11_isDigit (cb v) = some (b1 (dig v)) := by decide +kernel
theorem cb_eqs : ∀ v : Nat, v < 257 → ((cb v = nI 32) ↔ v = 32) ∧ ((cb v = nI 10) ↔ v = 10) ∧ ((cb v = nI 61) ↔ v = 61) ∧ ((cb v = nI 60) ↔ v = 60) ∧ ((cb v = nI 62) ↔ v = 62) := by decide +kernel
def TPE (Y : Nat → Nat) (len : Nat) (bT ta : Nat → Int32) : Prop := len ≤ 2000 ∧ (∀ i, i < len → Y i < 256 ∧ bT i = sx (Y i) ∧ ta i = nI (Y i)) ∧ (∀ i, len ≤ i → Y i = 256)
theorem TPE_lt {Y : Nat → Nat} {len : Nat} {bT ta : Nat → Int32} (h : TPE Y len bT ta) (i : Nat) : Y i < 257 := by
  rcases Nat.lt_or_ge i len with q | q
  · have := (h.2.1 i q).1
    omega
  · rw [h.2.2 i q]
    omega
section P58
variable {Y : Nat → Nat} {len : Nat} {bT : Nat → Int32} {ta : Nat → Int32}
variable {N : Nat → Int32} {i : Nat}
theorem c_byte (h : TPE Y len bT ta) (hi : i < 1000000) : f_X10_byteAt (nI i) (bT, nI len) = some (cb (Y i)) := by
  have h0 := h.1
  unfold f_X10_byteAt
  rcases Nat.lt_or_ge i len with q | q
  · obtain ⟨h1, h2, -⟩ := h.2.1 i q
    have e : cb (Y i) = bT i := by rw [h2]; exact if_pos h1
    simp (disch := omega) only [X10_length, X10_bytes, e, ↓reduceIte, ↓if_pos, ↓if_neg, Nat.reduceEqDiff, Nat.reduceLeDiff, Nat.reduceLT, and_true, true_and, and_false, false_and, true_or, or_true, false_or, or_false, eq_self, sb, nJ_of, nJ_lt, nJ_le, nJ_eq, nJ_clamp, nJ_add, nJ_sub, if_pos, if_neg, if_true, if_false, nL_0, nL_1, nL_2, nL_3, nL_4, nL_5, nL_6, nL_7, nL_8, nL_9, nL_10, nL_11, nL_12, nL_13, nL_14, nL_15, nL_16, nL_17, nL_18, nL_19, nL_20, nL_21, nL_22, nL_23, nL_24, nL_25, nL_26, nL_27, nL_28, nL_29, nL_30, nL_31, nL_32, nL_33, nL_34, nL_35, nL_36, nL_37, nL_38, nL_39, nL_40, nL_41, nL_42, nL_43, nL_44, nL_45, nL_46, nL_47, nL_48, nL_49, nL_50, nL_51, nL_52, nL_53, nL_54, nL_55, nL_56, nL_57, nL_58, nL_59, nL_60, nL_61, nL_62, nL_63, nL_64, nL_65, nL_66, nL_67, nL_68, nL_69, nL_70, nL_400, nL_402, nL_800, nL_2000]
  · have e : cb (Y i) = nI 0 := by rw [h.2.2 i q]; rfl
    simp (disch := omega) only [X10_length, X10_bytes, e, ↓reduceIte, ↓if_pos, ↓if_neg, Nat.reduceEqDiff, Nat.reduceLeDiff, Nat.reduceLT, and_true, true_and, and_false, false_and, true_or, or_true, false_or, or_false, eq_self, sb, nJ_of, nJ_lt, nJ_le, nJ_eq, nJ_clamp, nJ_add, nJ_sub, if_pos, if_neg, if_true, if_false, nL_0, nL_1, nL_2, nL_3, nL_4, nL_5, nL_6, nL_7, nL_8, nL_9, nL_10, nL_11, nL_12, nL_13, nL_14, nL_15, nL_16, nL_17, nL_18, nL_19, nL_20, nL_21, nL_22, nL_23, nL_24, nL_25, nL_26, nL_27, nL_28, nL_29, nL_30, nL_31, nL_32, nL_33, nL_34, nL_35, nL_36, nL_37, nL_38, nL_39, nL_40, nL_41, nL_42, nL_43, nL_44, nL_45, nL_46, nL_47, nL_48, nL_49, nL_50, nL_51, nL_52, nL_53, nL_54, nL_55, nL_56, nL_57, nL_58, nL_59, nL_60, nL_61, nL_62, nL_63, nL_64, nL_65, nL_66, nL_67, nL_68, nL_69, nL_70, nL_400, nL_402, nL_800, nL_2000]
end P58
def RUN (p : Nat → Bool) (Y : Nat → Nat) (i e : Nat) : Prop := i ≤ e ∧ (∀ j, i ≤ j → j < e → p (Y j) = true) ∧ p (Y e) = false
theorem RUN_ex {p : Nat → Bool} {Y : Nat → Nat} {len : Nat} (h : ∀ i, len ≤ i → Y i = 256) (hp : p 256 = false) : ∀ (d i : Nat), len - i ≤ d → ∃ e, RUN p Y i e ∧ (i ≤ len → e ≤ len)
  | 0, i, hd => ⟨i, ⟨Nat.le_refl _, fun j a b => by omega, by rw [h i (by omega)]; exact hp⟩, fun _ => by omega⟩
  | d + 1, i, hd => by
    cases q : p (Y i) with
    | false => exact ⟨i, ⟨Nat.le_refl _, fun j a b => by omega, q⟩, fun z => z⟩
    | true =>
      have hl : i < len := by
        rcases Nat.lt_or_ge i len with z | z
        · exact z
        · rw [h i z, hp] at q
          exact nomatch q
      obtain ⟨e, ⟨h1, h2, h3⟩, h4⟩ := RUN_ex h hp d (i + 1) (by omega)
      refine ⟨e, ⟨by omega, fun j a b => ?_, h3⟩, fun _ => h4 (by omega)⟩
      rcases Nat.lt_or_ge i j with z | z
      · exact h2 j (by omega) b
      · have z2 : j = i := by omega
        rw [z2]
        exact q
theorem it_run {R : Type} (body : Int32 → Option (Int32 ⊕ R)) {i e : Nat} {r : R} (hie : i ≤ e) (hs : ∀ j, i ≤ j → j < e → body (nI j) = some (.inl (nI (j + 1)))) (he : body (nI e) = some (.inr r)) {n : Nat} (hn : e - i < n) : iter body n (nI i) = some r := by
  have h := iter_count body (fun k => nI (i + k)) (e - i) r (fun k hk => hs (i + k) (by omega) (by omega)) (by show body (nI (i + (e - i))) = _; rw [show i + (e - i) = e by omega]; exact he) hn
  exact h
def fE {R : Type} (o : Option Nat) (hit : Nat → R) (miss : R) : R := match o with
  | some k => hit k
  | none => miss
theorem fnd_all {p : Nat → Bool} : ∀ {m : Nat}, fnd p m = none → ∀ k, k < m → p k = false
  | 0, _, k, hk => by omega
  | m + 1, h, k, hk => by
    unfold fnd at h
    cases e : fnd p m with
    | some q =>
      rw [e] at h
      exact nomatch h
    | none =>
      rw [e] at h
      cases e2 : p m with
      | true =>
        rw [e2] at h
        exact nomatch h
      | false =>
        rcases Nat.lt_or_ge k m with q | q
        · exact fnd_all e k q
        · have q2 : k = m := by omega
          rw [q2]
          exact e2
theorem fnd_non {p : Nat → Bool} : ∀ {m : Nat}, (∀ k, k < m → p k = false) → fnd p m = none
  | 0, _ => rfl
  | m + 1, h => fnd_miss (fnd_non (fun k hk => h k (by omega))) (h m (by omega))
theorem fnd_loop {R : Type} (body : Int32 → Option (Int32 ⊕ R)) (p : Nat → Bool) (m : Nat) (hit : Nat → R) (miss : R) (h1 : ∀ i, i < m → p i = true → body (nI i) = some (.inr (hit i))) (h2 : ∀ i, i < m → p i = false → body (nI i) = some (.inl (nI (i + 1)))) (h3 : body (nI m) = some (.inr miss)) : ∀ (d i n : Nat), m - i = d → i ≤ m → fnd p i = none → d < n → iter body n (nI i) = some (fE (fnd p m) hit miss)
  | 0, i, n, hd, hi, hf, hn => by
    have e : i = m := by omega
    obtain ⟨n, rfl⟩ : ∃ q, n = q + 1 := ⟨n - 1, by omega⟩
    rw [e] at hf ⊢
    rw [iter_inr h3, hf]
    rfl
  | d + 1, i, n, hd, hi, hf, hn => by
    obtain ⟨n, rfl⟩ : ∃ q, n = q + 1 := ⟨n - 1, by omega⟩
    cases q : p i with
    | true =>
      rw [iter_inr (h1 i (by omega) q), fnd_hit hf q (by omega)]
      rfl
    | false =>
      rw [iter_inl (h2 i (by omega) q)]
      exact fnd_loop body p m hit miss h1 h2 h3 d (i + 1) n (by omega) (by omega) (fnd_miss hf q) (by omega)

/-! one token, in the class -/
theorem b1_0 {b : Bool} : (b1 b = nI 0) = (b = false) := by cases b <;> decide
theorem blk_256 : blk 256 = false := rfl
theorem wrd_256 : wrd 256 = false := rfl
theorem dig_256 : dig 256 = false := rfl
theorem dig_wrd {v : Nat} (h : dig v = true) : wrd v = true := by unfold wrd; rw [h]; cases ltr v <;> rfl
theorem ltr_wrd {v : Nat} (h : ltr v = true) : wrd v = true := by unfold wrd; rw [h]; rfl
theorem wrd_or {v : Nat} : wrd v = false ↔ ltr v = false ∧ dig v = false := by unfold wrd; cases ltr v <;> cases dig v <;> simp
section P59
variable {Y : Nat → Nat} {len : Nat} {bT : Nat → Int32} {ta : Nat → Int32}
variable {N : Nat → Int32} {n i e a sz : Nat}
theorem run_len {p : Nat → Bool} (h : TPE Y len bT ta) (hp : p 256 = false) {j : Nat} (hj : p (Y j) = true) : j < len := by
  rcases Nat.lt_or_ge j len with z | z
  · exact z
  · rw [h.2.2 j z, hp] at hj
    exact nomatch hj
theorem c_skip (h : TPE Y len bT ta) (hn : 2100 < n) (hi : i ≤ len) (hr : RUN blk Y i e) (he : e ≤ len) : f_X11_behindBlanks n (nI i) (bT, nI len) = some (nI e) := by
  have h0 := h.1
  unfold f_X11_behindBlanks
  refine it_run _ hr.1 (fun j a b => ?_) ?_ (by omega)
  · have hb := hr.2.1 j a b
    have hj := run_len h blk_256 hb
    have hc := c_byte h (i := j) (by omega)
    have hE := cb_eqs (Y j) (TPE_lt h j)
    show f_X11_behindBlanks_L2 n (nI i) (bT, nI len) (nI j) = _
    unfold f_X11_behindBlanks_L2
    by_cases q : Y j = 32
    · have q2 := hE.1.2 q
      simp (disch := omega) only [X10_length, ↓bd hc, bd hc, q2, ↓reduceIte, ↓if_pos, ↓if_neg, Nat.reduceEqDiff, Nat.reduceLeDiff, Nat.reduceLT, and_true, true_and, and_false, false_and, true_or, or_true, false_or, or_false, eq_self, sb, nJ_of, nJ_lt, nJ_le, nJ_eq, nJ_clamp, nJ_add, nJ_sub, if_pos, if_neg, if_true, if_false, nL_0, nL_1, nL_2, nL_3, nL_4, nL_5, nL_6, nL_7, nL_8, nL_9, nL_10, nL_11, nL_12, nL_13, nL_14, nL_15, nL_16, nL_17, nL_18, nL_19, nL_20, nL_21, nL_22, nL_23, nL_24, nL_25, nL_26, nL_27, nL_28, nL_29, nL_30, nL_31, nL_32, nL_33, nL_34, nL_35, nL_36, nL_37, nL_38, nL_39, nL_40, nL_41, nL_42, nL_43, nL_44, nL_45, nL_46, nL_47, nL_48, nL_49, nL_50, nL_51, nL_52, nL_53, nL_54, nL_55, nL_56, nL_57, nL_58, nL_59, nL_60, nL_61, nL_62, nL_63, nL_64, nL_65, nL_66, nL_67, nL_68, nL_69, nL_70, nL_400, nL_402, nL_800, nL_2000]
    · have q3 : Y j = 10 := by
        unfold blk at hb
        simp only [Bool.or_eq_true, decide_eq_true_eq] at hb
        omega
      have q2 := hE.2.1.2 q3
      have q4 : cb (Y j) ≠ nI 32 := fun z => q (hE.1.1 z)
      simp (disch := omega) only [X10_length, ↓bd hc, bd hc, q2, ↓reduceIte, ↓if_pos, ↓if_neg, Nat.reduceEqDiff, Nat.reduceLeDiff, Nat.reduceLT, and_true, true_and, and_false, false_and, true_or, or_true, false_or, or_false, eq_self, sb, nJ_of, nJ_lt, nJ_le, nJ_eq, nJ_clamp, nJ_add, nJ_sub, if_pos, if_neg, if_true, if_false, nL_0, nL_1, nL_2, nL_3, nL_4, nL_5, nL_6, nL_7, nL_8, nL_9, nL_10, nL_11, nL_12, nL_13, nL_14, nL_15, nL_16, nL_17, nL_18, nL_19, nL_20, nL_21, nL_22, nL_23, nL_24, nL_25, nL_26, nL_27, nL_28, nL_29, nL_30, nL_31, nL_32, nL_33, nL_34, nL_35, nL_36, nL_37, nL_38, nL_39, nL_40, nL_41, nL_42, nL_43, nL_44, nL_45, nL_46, nL_47, nL_48, nL_49, nL_50, nL_51, nL_52, nL_53, nL_54, nL_55, nL_56, nL_57, nL_58, nL_59, nL_60, nL_61, nL_62, nL_63, nL_64, nL_65, nL_66, nL_67, nL_68, nL_69, nL_70, nL_400, nL_402, nL_800, nL_2000]
  · show f_X11_behindBlanks_L2 n (nI i) (bT, nI len) (nI e) = _
    unfold f_X11_behindBlanks_L2
    rcases Nat.lt_or_ge e len with z | z
    · have hc := c_byte h (i := e) (by omega)
      have hE := cb_eqs (Y e) (TPE_lt h e)
      have hb := hr.2.2
      unfold blk at hb
      simp only [Bool.or_eq_false_iff, decide_eq_false_iff_not] at hb
      have q2 : cb (Y e) ≠ nI 32 := fun z => hb.1 (hE.1.1 z)
      have q3 : cb (Y e) ≠ nI 10 := fun z => hb.2 (hE.2.1.1 z)
      simp (disch := omega) only [X10_length, ↓bd hc, bd hc, q2, q3, ↓reduceIte, ↓if_pos, ↓if_neg, Nat.reduceEqDiff, Nat.reduceLeDiff, Nat.reduceLT, and_true, true_and, and_false, false_and, true_or, or_true, false_or, or_false, eq_self, sb, nJ_of, nJ_lt, nJ_le, nJ_eq, nJ_clamp, nJ_add, nJ_sub, if_pos, if_neg, if_true, if_false, nL_0, nL_1, nL_2, nL_3, nL_4, nL_5, nL_6, nL_7, nL_8, nL_9, nL_10, nL_11, nL_12, nL_13, nL_14, nL_15, nL_16, nL_17, nL_18, nL_19, nL_20, nL_21, nL_22, nL_23, nL_24, nL_25, nL_26, nL_27, nL_28, nL_29, nL_30, nL_31, nL_32, nL_33, nL_34, nL_35, nL_36, nL_37, nL_38, nL_39, nL_40, nL_41, nL_42, nL_43, nL_44, nL_45, nL_46, nL_47, nL_48, nL_49, nL_50, nL_51, nL_52, nL_53, nL_54, nL_55, nL_56, nL_57, nL_58, nL_59, nL_60, nL_61, nL_62, nL_63, nL_64, nL_65, nL_66, nL_67, nL_68, nL_69, nL_70, nL_400, nL_402, nL_800, nL_2000]
    · simp (disch := omega) only [X10_length, ↓reduceIte, ↓if_pos, ↓if_neg, Nat.reduceEqDiff, Nat.reduceLeDiff, Nat.reduceLT, and_true, true_and, and_false, false_and, true_or, or_true, false_or, or_false, eq_self, sb, nJ_of, nJ_lt, nJ_le, nJ_eq, nJ_clamp, nJ_add, nJ_sub, if_pos, if_neg, if_true, if_false, nL_0, nL_1, nL_2, nL_3, nL_4, nL_5, nL_6, nL_7, nL_8, nL_9, nL_10, nL_11, nL_12, nL_13, nL_14, nL_15, nL_16, nL_17, nL_18, nL_19, nL_20, nL_21, nL_22, nL_23, nL_24, nL_25, nL_26, nL_27, nL_28, nL_29, nL_30, nL_31, nL_32, nL_33, nL_34, nL_35, nL_36, nL_37, nL_38, nL_39, nL_40, nL_41, nL_42, nL_43, nL_44, nL_45, nL_46, nL_47, nL_48, nL_49, nL_50, nL_51, nL_52, nL_53, nL_54, nL_55, nL_56, nL_57, nL_58, nL_59, nL_60, nL_61, nL_62, nL_63, nL_64, nL_65, nL_66, nL_67, nL_68, nL_69, nL_70, nL_400, nL_402, nL_800, nL_2000]
theorem c_sizeW (h : TPE Y len bT ta) (hn : 2100 < n) (ha : a < len) (hl : ltr (Y a) = true) (hr : RUN wrd Y (a + 1) e) (he : e ≤ len) : f_X11_sizeOf n (nI a) (bT, nI len) = some (nI (e - a)) := by
  have h0 := h.1
  have hc := c_byte h (i := a) (by omega)
  have c1 := cb_ltr (Y a) (TPE_lt h a)
  rw [hl] at c1
  have c1' : f_X11_isLetter (cb (Y a)) = some (nI 1) := c1
  have hle := hr.1
  unfold f_X11_sizeOf
  have key : iter (fun s : Int32 => f_X11_sizeOf_L54 n (nI a) (bT, nI len) (nI a) (cb (Y a)) s) n (nI (a + 1)) = some (nI (e - a)) := by
    refine it_run _ hr.1 (fun j p q => ?_) ?_ (by omega)
    · have hb := hr.2.1 j p q
      have hj := run_len h wrd_256 hb
      have hcj := c_byte h (i := j) (by omega)
      have cl := cb_ltr (Y j) (TPE_lt h j)
      have cd := cb_dig (Y j) (TPE_lt h j)
      show f_X11_sizeOf_L54 n (nI a) (bT, nI len) (nI a) (cb (Y a)) (nI j) = _
      unfold f_X11_sizeOf_L54
      cases qd : dig (Y j) with
      | true =>
        rw [qd] at cd
        have cd' : f_X11_isDigit (cb (Y j)) = some (nI 1) := cd
        simp (disch := omega) only [X10_length, ↓bd hcj, bd hcj, ↓bd cd', bd cd', ↓reduceIte, ↓if_pos, ↓if_neg, Nat.reduceEqDiff, Nat.reduceLeDiff, Nat.reduceLT, and_true, true_and, and_false, false_and, true_or, or_true, false_or, or_false, eq_self, sb, nJ_of, nJ_lt, nJ_le, nJ_eq, nJ_clamp, nJ_add, nJ_sub, if_pos, if_neg, if_true, if_false, nL_0, nL_1, nL_2, nL_3, nL_4, nL_5, nL_6, nL_7, nL_8, nL_9, nL_10, nL_11, nL_12, nL_13, nL_14, nL_15, nL_16, nL_17, nL_18, nL_19, nL_20, nL_21, nL_22, nL_23, nL_24, nL_25, nL_26, nL_27, nL_28, nL_29, nL_30, nL_31, nL_32, nL_33, nL_34, nL_35, nL_36, nL_37, nL_38, nL_39, nL_40, nL_41, nL_42, nL_43, nL_44, nL_45, nL_46, nL_47, nL_48, nL_49, nL_50, nL_51, nL_52, nL_53, nL_54, nL_55, nL_56, nL_57, nL_58, nL_59, nL_60, nL_61, nL_62, nL_63, nL_64, nL_65, nL_66, nL_67, nL_68, nL_69, nL_70, nL_400, nL_402, nL_800, nL_2000]
      | false =>
        rw [qd] at cd
        have cd' : f_X11_isDigit (cb (Y j)) = some (nI 0) := cd
        have ql : ltr (Y j) = true := by
          unfold wrd at hb
          rw [qd, Bool.or_false] at hb
          exact hb
        rw [ql] at cl
        have cl' : f_X11_isLetter (cb (Y j)) = some (nI 1) := cl
        simp (disch := omega) only [X10_length, ↓bd hcj, bd hcj, ↓bd cd', bd cd', ↓bd c1', bd c1', ↓bd cl', bd cl', ↓reduceIte, ↓if_pos, ↓if_neg, Nat.reduceEqDiff, Nat.reduceLeDiff, Nat.reduceLT, and_true, true_and, and_false, false_and, true_or, or_true, false_or, or_false, eq_self, sb, nJ_of, nJ_lt, nJ_le, nJ_eq, nJ_clamp, nJ_add, nJ_sub, if_pos, if_neg, if_true, if_false, nL_0, nL_1, nL_2, nL_3, nL_4, nL_5, nL_6, nL_7, nL_8, nL_9, nL_10, nL_11, nL_12, nL_13, nL_14, nL_15, nL_16, nL_17, nL_18, nL_19, nL_20, nL_21, nL_22, nL_23, nL_24, nL_25, nL_26, nL_27, nL_28, nL_29, nL_30, nL_31, nL_32, nL_33, nL_34, nL_35, nL_36, nL_37, nL_38, nL_39, nL_40, nL_41, nL_42, nL_43, nL_44, nL_45, nL_46, nL_47, nL_48, nL_49, nL_50, nL_51, nL_52, nL_53, nL_54, nL_55, nL_56, nL_57, nL_58, nL_59, nL_60, nL_61, nL_62, nL_63, nL_64, nL_65, nL_66, nL_67, nL_68, nL_69, nL_70, nL_400, nL_402, nL_800, nL_2000]
    · show f_X11_sizeOf_L54 n (nI a) (bT, nI len) (nI a) (cb (Y a)) (nI e) = _
      unfold f_X11_sizeOf_L54
      rcases Nat.lt_or_ge e len with z | z
      · have hce := c_byte h (i := e) (by omega)
        obtain ⟨q1, q2⟩ := wrd_or.1 hr.2.2
        have cl := cb_ltr (Y e) (TPE_lt h e)
        have cd := cb_dig (Y e) (TPE_lt h e)
        rw [q1] at cl
        rw [q2] at cd
        have cl' : f_X11_isLetter (cb (Y e)) = some (nI 0) := cl
        have cd' : f_X11_isDigit (cb (Y e)) = some (nI 0) := cd
        simp (disch := omega) only [X10_length, ↓bd hce, bd hce, ↓bd cd', bd cd', ↓bd c1', bd c1', ↓bd cl', bd cl', ↓reduceIte, ↓if_pos, ↓if_neg, Nat.reduceEqDiff, Nat.reduceLeDiff, Nat.reduceLT, and_true, true_and, and_false, false_and, true_or, or_true, false_or, or_false, eq_self, sb, nJ_of, nJ_lt, nJ_le, nJ_eq, nJ_clamp, nJ_add, nJ_sub, if_pos, if_neg, if_true, if_false, nL_0, nL_1, nL_2, nL_3, nL_4, nL_5, nL_6, nL_7, nL_8, nL_9, nL_10, nL_11, nL_12, nL_13, nL_14, nL_15, nL_16, nL_17, nL_18, nL_19, nL_20, nL_21, nL_22, nL_23, nL_24, nL_25, nL_26, nL_27, nL_28, nL_29, nL_30, nL_31, nL_32, nL_33, nL_34, nL_35, nL_36, nL_37, nL_38, nL_39, nL_40, nL_41, nL_42, nL_43, nL_44, nL_45, nL_46, nL_47, nL_48, nL_49, nL_50, nL_51, nL_52, nL_53, nL_54, nL_55, nL_56, nL_57, nL_58, nL_59, nL_60, nL_61, nL_62, nL_63, nL_64, nL_65, nL_66, nL_67, nL_68, nL_69, nL_70, nL_400, nL_402, nL_800, nL_2000]
      · simp (disch := omega) only [X10_length, ↓reduceIte, ↓if_pos, ↓if_neg, Nat.reduceEqDiff, Nat.reduceLeDiff, Nat.reduceLT, and_true, true_and, and_false, false_and, true_or, or_true, false_or, or_false, eq_self, sb, nJ_of, nJ_lt, nJ_le, nJ_eq, nJ_clamp, nJ_add, nJ_sub, if_pos, if_neg, if_true, if_false, nL_0, nL_1, nL_2, nL_3, nL_4, nL_5, nL_6, nL_7, nL_8, nL_9, nL_10, nL_11, nL_12, nL_13, nL_14, nL_15, nL_16, nL_17, nL_18, nL_19, nL_20, nL_21, nL_22, nL_23, nL_24, nL_25, nL_26, nL_27, nL_28, nL_29, nL_30, nL_31, nL_32, nL_33, nL_34, nL_35, nL_36, nL_37, nL_38, nL_39, nL_40, nL_41, nL_42, nL_43, nL_44, nL_45, nL_46, nL_47, nL_48, nL_49, nL_50, nL_51, nL_52, nL_53, nL_54, nL_55, nL_56, nL_57, nL_58, nL_59, nL_60, nL_61, nL_62, nL_63, nL_64, nL_65, nL_66, nL_67, nL_68, nL_69, nL_70, nL_400, nL_402, nL_800, nL_2000]
  simp (disch := omega) only [↓bd hc, bd hc, ↓bd c1', bd c1', key, ↓reduceIte, ↓if_pos, ↓if_neg, Nat.reduceEqDiff, Nat.reduceLeDiff, Nat.reduceLT, and_true, true_and, and_false, false_and, true_or, or_true, false_or, or_false, eq_self, sb, nJ_of, nJ_lt, nJ_le, nJ_eq, nJ_clamp, nJ_add, nJ_sub, if_pos, if_neg, if_true, if_false, nL_0, nL_1, nL_2, nL_3, nL_4, nL_5, nL_6, nL_7, nL_8, nL_9, nL_10, nL_11, nL_12, nL_13, nL_14, nL_15, nL_16, nL_17, nL_18, nL_19, nL_20, nL_21, nL_22, nL_23, nL_24, nL_25, nL_26, nL_27, nL_28, nL_29, nL_30, nL_31, nL_32, nL_33, nL_34, nL_35, nL_36, nL_37, nL_38, nL_39, nL_40, nL_41, nL_42, nL_43, nL_44, nL_45, nL_46, nL_47, nL_48, nL_49, nL_50, nL_51, nL_52, nL_53, nL_54, nL_55, nL_56, nL_57, nL_58, nL_59, nL_60, nL_61, nL_62, nL_63, nL_64, nL_65, nL_66, nL_67, nL_68, nL_69, nL_70, nL_400, nL_402, nL_800, nL_2000]
theorem c_sizeD (h : TPE Y len bT ta) (hn : 2100 < n) (ha : a < len) (hd : dig (Y a) = true) (hr : RUN dig Y (a + 1) e) (he : e ≤ len) : f_X11_sizeOf n (nI a) (bT, nI len) = some (nI (e - a)) := by
  have h0 := h.1
  have hc := c_byte h (i := a) (by omega)
  have c1 := cb_ltr (Y a) (TPE_lt h a)
  have d1 := cb_dig (Y a) (TPE_lt h a)
  have hl : ltr (Y a) = false := by
    unfold dig at hd
    unfold ltr
    simp only [Bool.and_eq_true, decide_eq_true_eq] at hd
    simp only [Bool.and_eq_false_iff, decide_eq_false_iff_not]
    omega
  rw [hl] at c1
  rw [hd] at d1
  have c1' : f_X11_isLetter (cb (Y a)) = some (nI 0) := c1
  have d1' : f_X11_isDigit (cb (Y a)) = some (nI 1) := d1
  have hle := hr.1
  unfold f_X11_sizeOf
  have key : iter (fun s : Int32 => f_X11_sizeOf_L54 n (nI a) (bT, nI len) (nI a) (cb (Y a)) s) n (nI (a + 1)) = some (nI (e - a)) := by
    refine it_run _ hr.1 (fun j p q => ?_) ?_ (by omega)
    · have hb := hr.2.1 j p q
      have hj := run_len h dig_256 hb
      have hcj := c_byte h (i := j) (by omega)
      have cd := cb_dig (Y j) (TPE_lt h j)
      rw [hb] at cd
      have cd' : f_X11_isDigit (cb (Y j)) = some (nI 1) := cd
      show f_X11_sizeOf_L54 n (nI a) (bT, nI len) (nI a) (cb (Y a)) (nI j) = _
      unfold f_X11_sizeOf_L54
      simp (disch := omega) only [X10_length, ↓bd hcj, bd hcj, ↓bd cd', bd cd', ↓reduceIte, ↓if_pos, ↓if_neg, Nat.reduceEqDiff, Nat.reduceLeDiff, Nat.reduceLT, and_true, true_and, and_false, false_and, true_or, or_true, false_or, or_false, eq_self, sb, nJ_of, nJ_lt, nJ_le, nJ_eq, nJ_clamp, nJ_add, nJ_sub, if_pos, if_neg, if_true, if_false, nL_0, nL_1, nL_2, nL_3, nL_4, nL_5, nL_6, nL_7, nL_8, nL_9, nL_10, nL_11, nL_12, nL_13, nL_14, nL_15, nL_16, nL_17, nL_18, nL_19, nL_20, nL_21, nL_22, nL_23, nL_24, nL_25, nL_26, nL_27, nL_28, nL_29, nL_30, nL_31, nL_32, nL_33, nL_34, nL_35, nL_36, nL_37, nL_38, nL_39, nL_40, nL_41, nL_42, nL_43, nL_44, nL_45, nL_46, nL_47, nL_48, nL_49, nL_50, nL_51, nL_52, nL_53, nL_54, nL_55, nL_56, nL_57, nL_58, nL_59, nL_60, nL_61, nL_62, nL_63, nL_64, nL_65, nL_66, nL_67, nL_68, nL_69, nL_70, nL_400, nL_402, nL_800, nL_2000]
    · show f_X11_sizeOf_L54 n (nI a) (bT, nI len) (nI a) (cb (Y a)) (nI e) = _
      unfold f_X11_sizeOf_L54
      rcases Nat.lt_or_ge e len with z | z
      · have hce := c_byte h (i := e) (by omega)
        have cd := cb_dig (Y e) (TPE_lt h e)
        rw [hr.2.2] at cd
        have cd' : f_X11_isDigit (cb (Y e)) = some (nI 0) := cd
        simp (disch := omega) only [X10_length, ↓bd hce, bd hce, ↓bd cd', bd cd', ↓bd c1', bd c1', ↓reduceIte, ↓if_pos, ↓if_neg, Nat.reduceEqDiff, Nat.reduceLeDiff, Nat.reduceLT, and_true, true_and, and_false, false_and, true_or, or_true, false_or, or_false, eq_self, sb, nJ_of, nJ_lt, nJ_le, nJ_eq, nJ_clamp, nJ_add, nJ_sub, if_pos, if_neg, if_true, if_false, nL_0, nL_1, nL_2, nL_3, nL_4, nL_5, nL_6, nL_7, nL_8, nL_9, nL_10, nL_11, nL_12, nL_13, nL_14, nL_15, nL_16, nL_17, nL_18, nL_19, nL_20, nL_21, nL_22, nL_23, nL_24, nL_25, nL_26, nL_27, nL_28, nL_29, nL_30, nL_31, nL_32, nL_33, nL_34, nL_35, nL_36, nL_37, nL_38, nL_39, nL_40, nL_41, nL_42, nL_43, nL_44, nL_45, nL_46, nL_47, nL_48, nL_49, nL_50, nL_51, nL_52, nL_53, nL_54, nL_55, nL_56, nL_57, nL_58, nL_59, nL_60, nL_61, nL_62, nL_63, nL_64, nL_65, nL_66, nL_67, nL_68, nL_69, nL_70, nL_400, nL_402, nL_800, nL_2000]
      · simp (disch := omega) only [X10_length, ↓reduceIte, ↓if_pos, ↓if_neg, Nat.reduceEqDiff, Nat.reduceLeDiff, Nat.reduceLT, and_true, true_and, and_false, false_and, true_or, or_true, false_or, or_false, eq_self, sb, nJ_of, nJ_lt, nJ_le, nJ_eq, nJ_clamp, nJ_add, nJ_sub, if_pos, if_neg, if_true, if_false, nL_0, nL_1, nL_2, nL_3, nL_4, nL_5, nL_6, nL_7, nL_8, nL_9, nL_10, nL_11, nL_12, nL_13, nL_14, nL_15, nL_16, nL_17, nL_18, nL_19, nL_20, nL_21, nL_22, nL_23, nL_24, nL_25, nL_26, nL_27, nL_28, nL_29, nL_30, nL_31, nL_32, nL_33, nL_34, nL_35, nL_36, nL_37, nL_38, nL_39, nL_40, nL_41, nL_42, nL_43, nL_44, nL_45, nL_46, nL_47, nL_48, nL_49, nL_50, nL_51, nL_52, nL_53, nL_54, nL_55, nL_56, nL_57, nL_58, nL_59, nL_60, nL_61, nL_62, nL_63, nL_64, nL_65, nL_66, nL_67, nL_68, nL_69, nL_70, nL_400, nL_402, nL_800, nL_2000]
  simp (disch := omega) only [↓bd hc, bd hc, ↓bd c1', bd c1', ↓bd d1', bd d1', key, ↓reduceIte, ↓if_pos, ↓if_neg, Nat.reduceEqDiff, Nat.reduceLeDiff, Nat.reduceLT, and_true, true_and, and_false, false_and, true_or, or_true, false_or, or_false, eq_self, sb, nJ_of, nJ_lt, nJ_le, nJ_eq, nJ_clamp, nJ_add, nJ_sub, if_pos, if_neg, if_true, if_false, nL_0, nL_1, nL_2, nL_3, nL_4, nL_5, nL_6, nL_7, nL_8, nL_9, nL_10, nL_11, nL_12, nL_13, nL_14, nL_15, nL_16, nL_17, nL_18, nL_19, nL_20, nL_21, nL_22, nL_23, nL_24, nL_25, nL_26, nL_27, nL_28, nL_29, nL_30, nL_31, nL_32, nL_33, nL_34, nL_35, nL_36, nL_37, nL_38, nL_39, nL_40, nL_41, nL_42, nL_43, nL_44, nL_45, nL_46, nL_47, nL_48, nL_49, nL_50, nL_51, nL_52, nL_53, nL_54, nL_55, nL_56, nL_57, nL_58, nL_59, nL_60, nL_61, nL_62, nL_63, nL_64, nL_65, nL_66, nL_67, nL_68, nL_69, nL_70, nL_400, nL_402, nL_800, nL_2000]
def szS (Y : Nat → Nat) (a : Nat) : Nat := if (Y a = 60 ∨ Y a = 62) ∧ Y (a + 1) = 61 then 2 else 1
theorem c_sizeS (h : TPE Y len bT ta) (ha : a < len) (hl : ltr (Y a) = false) (hd : dig (Y a) = false) : f_X11_sizeOf n (nI a) (bT, nI len) = some (nI (szS Y a)) := by
  have h0 := h.1
  have hc := c_byte h (i := a) (by omega)
  have hc2 := c_byte h (i := a + 1) (by omega)
  have c1 := cb_ltr (Y a) (TPE_lt h a)
  have d1 := cb_dig (Y a) (TPE_lt h a)
  rw [hl] at c1
  rw [hd] at d1
  have c1' : f_X11_isLetter (cb (Y a)) = some (nI 0) := c1
  have d1' : f_X11_isDigit (cb (Y a)) = some (nI 0) := d1
  obtain ⟨-, -, -, e60, e62⟩ := cb_eqs (Y a) (TPE_lt h a)
  obtain ⟨-, -, e61, -, -⟩ := cb_eqs (Y (a + 1)) (TPE_lt h (a + 1))
  unfold f_X11_sizeOf f_X11_sizeOf_R32 szS
  by_cases q61 : Y (a + 1) = 61
  · have z61 := e61.2 q61
    by_cases q60 : Y a = 60
    · have z60 := e60.2 q60
      rw [if_pos ⟨Or.inl q60, q61⟩]
      simp (disch := omega) only [↓bd hc, bd hc, ↓bd c1', bd c1', ↓bd d1', bd d1', ↓bd hc2, bd hc2, z60, z61, ↓reduceIte, ↓if_pos, ↓if_neg, Nat.reduceEqDiff, Nat.reduceLeDiff, Nat.reduceLT, and_true, true_and, and_false, false_and, true_or, or_true, false_or, or_false, eq_self, sb, nJ_of, nJ_lt, nJ_le, nJ_eq, nJ_clamp, nJ_add, nJ_sub, if_pos, if_neg, if_true, if_false, nL_0, nL_1, nL_2, nL_3, nL_4, nL_5, nL_6, nL_7, nL_8, nL_9, nL_10, nL_11, nL_12, nL_13, nL_14, nL_15, nL_16, nL_17, nL_18, nL_19, nL_20, nL_21, nL_22, nL_23, nL_24, nL_25, nL_26, nL_27, nL_28, nL_29, nL_30, nL_31, nL_32, nL_33, nL_34, nL_35, nL_36, nL_37, nL_38, nL_39, nL_40, nL_41, nL_42, nL_43, nL_44, nL_45, nL_46, nL_47, nL_48, nL_49, nL_50, nL_51, nL_52, nL_53, nL_54, nL_55, nL_56, nL_57, nL_58, nL_59, nL_60, nL_61, nL_62, nL_63, nL_64, nL_65, nL_66, nL_67, nL_68, nL_69, nL_70, nL_400, nL_402, nL_800, nL_2000]
    · have z60 : ¬ cb (Y a) = nI 60 := fun z => q60 (e60.1 z)
      by_cases q62 : Y a = 62
      · have z62 := e62.2 q62
        rw [if_pos ⟨Or.inr q62, q61⟩]
        simp (disch := omega) only [↓bd hc, bd hc, ↓bd c1', bd c1', ↓bd d1', bd d1', ↓bd hc2, bd hc2, z60, z62, z61, ↓reduceIte, ↓if_pos, ↓if_neg, Nat.reduceEqDiff, Nat.reduceLeDiff, Nat.reduceLT, and_true, true_and, and_false, false_and, true_or, or_true, false_or, or_false, eq_self, sb, nJ_of, nJ_lt, nJ_le, nJ_eq, nJ_clamp, nJ_add, nJ_sub, if_pos, if_neg, if_true, if_false, nL_0, nL_1, nL_2, nL_3, nL_4, nL_5, nL_6, nL_7, nL_8, nL_9, nL_10, nL_11, nL_12, nL_13, nL_14, nL_15, nL_16, nL_17, nL_18, nL_19, nL_20, nL_21, nL_22, nL_23, nL_24, nL_25, nL_26, nL_27, nL_28, nL_29, nL_30, nL_31, nL_32, nL_33, nL_34, nL_35, nL_36, nL_37, nL_38, nL_39, nL_40, nL_41, nL_42, nL_43, nL_44, nL_45, nL_46, nL_47, nL_48, nL_49, nL_50, nL_51, nL_52, nL_53, nL_54, nL_55, nL_56, nL_57, nL_58, nL_59, nL_60, nL_61, nL_62, nL_63, nL_64, nL_65, nL_66, nL_67, nL_68, nL_69, nL_70, nL_400, nL_402, nL_800, nL_2000]
      · have z62 : ¬ cb (Y a) = nI 62 := fun z => q62 (e62.1 z)
        rw [if_neg (fun z => by rcases z.1 with z | z; exact q60 z; exact q62 z)]
        simp (disch := omega) only [↓bd hc, bd hc, ↓bd c1', bd c1', ↓bd d1', bd d1', z60, z62, ↓reduceIte, ↓if_pos, ↓if_neg, Nat.reduceEqDiff, Nat.reduceLeDiff, Nat.reduceLT, and_true, true_and, and_false, false_and, true_or, or_true, false_or, or_false, eq_self, sb, nJ_of, nJ_lt, nJ_le, nJ_eq, nJ_clamp, nJ_add, nJ_sub, if_pos, if_neg, if_true, if_false, nL_0, nL_1, nL_2, nL_3, nL_4, nL_5, nL_6, nL_7, nL_8, nL_9, nL_10, nL_11, nL_12, nL_13, nL_14, nL_15, nL_16, nL_17, nL_18, nL_19, nL_20, nL_21, nL_22, nL_23, nL_24, nL_25, nL_26, nL_27, nL_28, nL_29, nL_30, nL_31, nL_32, nL_33, nL_34, nL_35, nL_36, nL_37, nL_38, nL_39, nL_40, nL_41, nL_42, nL_43, nL_44, nL_45, nL_46, nL_47, nL_48, nL_49, nL_50, nL_51, nL_52, nL_53, nL_54, nL_55, nL_56, nL_57, nL_58, nL_59, nL_60, nL_61, nL_62, nL_63, nL_64, nL_65, nL_66, nL_67, nL_68, nL_69, nL_70, nL_400, nL_402, nL_800, nL_2000]
  · have z61 : ¬ cb (Y (a + 1)) = nI 61 := fun z => q61 (e61.1 z)
    rw [if_neg (fun z => q61 z.2)]
    by_cases q60 : cb (Y a) = nI 60
    · simp (disch := omega) only [↓bd hc, bd hc, ↓bd c1', bd c1', ↓bd d1', bd d1', ↓bd hc2, bd hc2, q60, z61, ↓reduceIte, ↓if_pos, ↓if_neg, Nat.reduceEqDiff, Nat.reduceLeDiff, Nat.reduceLT, and_true, true_and, and_false, false_and, true_or, or_true, false_or, or_false, eq_self, sb, nJ_of, nJ_lt, nJ_le, nJ_eq, nJ_clamp, nJ_add, nJ_sub, if_pos, if_neg, if_true, if_false, nL_0, nL_1, nL_2, nL_3, nL_4, nL_5, nL_6, nL_7, nL_8, nL_9, nL_10, nL_11, nL_12, nL_13, nL_14, nL_15, nL_16, nL_17, nL_18, nL_19, nL_20, nL_21, nL_22, nL_23, nL_24, nL_25, nL_26, nL_27, nL_28, nL_29, nL_30, nL_31, nL_32, nL_33, nL_34, nL_35, nL_36, nL_37, nL_38, nL_39, nL_40, nL_41, nL_42, nL_43, nL_44, nL_45, nL_46, nL_47, nL_48, nL_49, nL_50, nL_51, nL_52, nL_53, nL_54, nL_55, nL_56, nL_57, nL_58, nL_59, nL_60, nL_61, nL_62, nL_63, nL_64, nL_65, nL_66, nL_67, nL_68, nL_69, nL_70, nL_400, nL_402, nL_800, nL_2000]
    · by_cases q62 : cb (Y a) = nI 62
      · simp (disch := omega) only [↓bd hc, bd hc, ↓bd c1', bd c1', ↓bd d1', bd d1', ↓bd hc2, bd hc2, q60, q62, z61, ↓reduceIte, ↓if_pos, ↓if_neg, Nat.reduceEqDiff, Nat.reduceLeDiff, Nat.reduceLT, and_true, true_and, and_false, false_and, true_or, or_true, false_or, or_false, eq_self, sb, nJ_of, nJ_lt, nJ_le, nJ_eq, nJ_clamp, nJ_add, nJ_sub, if_pos, if_neg, if_true, if_false, nL_0, nL_1, nL_2, nL_3, nL_4, nL_5, nL_6, nL_7, nL_8, nL_9, nL_10, nL_11, nL_12, nL_13, nL_14, nL_15, nL_16, nL_17, nL_18, nL_19, nL_20, nL_21, nL_22, nL_23, nL_24, nL_25, nL_26, nL_27, nL_28, nL_29, nL_30, nL_31, nL_32, nL_33, nL_34, nL_35, nL_36, nL_37, nL_38, nL_39, nL_40, nL_41, nL_42, nL_43, nL_44, nL_45, nL_46, nL_47, nL_48, nL_49, nL_50, nL_51, nL_52, nL_53, nL_54, nL_55, nL_56, nL_57, nL_58, nL_59, nL_60, nL_61, nL_62, nL_63, nL_64, nL_65, nL_66, nL_67, nL_68, nL_69, nL_70, nL_400, nL_402, nL_800, nL_2000]
      · simp (disch := omega) only [↓bd hc, bd hc, ↓bd c1', bd c1', ↓bd d1', bd d1', q60, q62, ↓reduceIte, ↓if_pos, ↓if_neg, Nat.reduceEqDiff, Nat.reduceLeDiff, Nat.reduceLT, and_true, true_and, and_false, false_and, true_or, or_true, false_or, or_false, eq_self, sb, nJ_of, nJ_lt, nJ_le, nJ_eq, nJ_clamp, nJ_add, nJ_sub, if_pos, if_neg, if_true, if_false, nL_0, nL_1, nL_2, nL_3, nL_4, nL_5, nL_6, nL_7, nL_8, nL_9, nL_10, nL_11, nL_12, nL_13, nL_14, nL_15, nL_16, nL_17, nL_18, nL_19, nL_20, nL_21, nL_22, nL_23, nL_24, nL_25, nL_26, nL_27, nL_28, nL_29, nL_30, nL_31, nL_32, nL_33, nL_34, nL_35, nL_36, nL_37, nL_38, nL_39, nL_40, nL_41, nL_42, nL_43, nL_44, nL_45, nL_46, nL_47, nL_48, nL_49, nL_50, nL_51, nL_52, nL_53, nL_54, nL_55, nL_56, nL_57, nL_58, nL_59, nL_60, nL_61, nL_62, nL_63, nL_64, nL_65, nL_66, nL_67, nL_68, nL_69, nL_70, nL_400, nL_402, nL_800, nL_2000]
end P59

/-! the kind and the value of a token, in the class -/
def HT (Y : Nat → Nat) (a sz k : Nat) : Bool := decide (kln k = sz) && decide (∀ i, i < sz → cb (Y (a + i)) = kby k i)
section P60
variable {Y : Nat → Nat} {len : Nat} {bT : Nat → Int32} {ta : Nat → Int32}
variable {n i e a sz k : Nat}
theorem c_text (h : TPE Y len bT ta) (hn : 2100 < n) (ha : a < len) (hz : sz ≤ 2000) (hk : k < 52) : f_X10_hasText n (nI a) (nI sz) k (bT, nI len) = some (b1 (HT Y a sz k)) := by
  have h0 := h.1
  have hkl : kln k < 100 := (show ∀ k : Nat, k < 52 → kln k < 100 by decide +kernel) k hk
  unfold f_X10_hasText
  rw [if_pos hk]
  by_cases q : kln k = sz
  · rw [if_pos (by rw [q])]
    have key : ∀ (d i m : Nat), sz - i = d → i ≤ sz → (∀ j, j < i → cb (Y (a + j)) = kby k j) → d < m → iter (fun s : Int32 => f_X10_hasText_L13 n (nI a) (nI sz) k (bT, nI len) (nI a) (nI sz) k s) m (nI i) = some (b1 (HT Y a sz k)) := by
      intro d
      induction d with
      | zero =>
        intro i m hd hi hall hm
        obtain ⟨m, rfl⟩ : ∃ q, m = q + 1 := ⟨m - 1, by omega⟩
        have hT : HT Y a sz k = true := by
          unfold HT
          rw [decide_eq_true q, decide_eq_true (fun j hj => hall j (by omega))]
          rfl
        rw [hT]
        refine iter_inr ?_
        show f_X10_hasText_L13 n (nI a) (nI sz) k (bT, nI len) (nI a) (nI sz) k (nI i) = some (.inr (nI 1))
        unfold f_X10_hasText_L13
        simp (disch := omega) only [↓reduceIte, ↓if_pos, ↓if_neg, Nat.reduceEqDiff, Nat.reduceLeDiff, Nat.reduceLT, and_true, true_and, and_false, false_and, true_or, or_true, false_or, or_false, eq_self, sb, nJ_of, nJ_lt, nJ_le, nJ_eq, nJ_clamp, nJ_add, nJ_sub, if_pos, if_neg, if_true, if_false, nL_0, nL_1, nL_2, nL_3, nL_4, nL_5, nL_6, nL_7, nL_8, nL_9, nL_10, nL_11, nL_12, nL_13, nL_14, nL_15, nL_16, nL_17, nL_18, nL_19, nL_20, nL_21, nL_22, nL_23, nL_24, nL_25, nL_26, nL_27, nL_28, nL_29, nL_30, nL_31, nL_32, nL_33, nL_34, nL_35, nL_36, nL_37, nL_38, nL_39, nL_40, nL_41, nL_42, nL_43, nL_44, nL_45, nL_46, nL_47, nL_48, nL_49, nL_50, nL_51, nL_52, nL_53, nL_54, nL_55, nL_56, nL_57, nL_58, nL_59, nL_60, nL_61, nL_62, nL_63, nL_64, nL_65, nL_66, nL_67, nL_68, nL_69, nL_70, nL_400, nL_402, nL_800, nL_2000]
      | succ d ih =>
        intro i m hd hi hall hm
        obtain ⟨m, rfl⟩ : ∃ q, m = q + 1 := ⟨m - 1, by omega⟩
        have hc := c_byte h (i := a + i) (by omega)
        by_cases w : cb (Y (a + i)) = kby k i
        · rw [iter_inl (s' := nI (i + 1)) ?_]
          · exact ih (i + 1) m (by omega) (by omega) (fun j hj => by
              rcases Nat.lt_or_ge j i with z | z
              · exact hall j z
              · have e : j = i := by omega
                rw [e]
                exact w) (by omega)
          · show f_X10_hasText_L13 n (nI a) (nI sz) k (bT, nI len) (nI a) (nI sz) k (nI i) = _
            unfold f_X10_hasText_L13
            simp (disch := omega) only [↓bd hc, bd hc, q, w, ↓reduceIte, ↓if_pos, ↓if_neg, Nat.reduceEqDiff, Nat.reduceLeDiff, Nat.reduceLT, and_true, true_and, and_false, false_and, true_or, or_true, false_or, or_false, eq_self, sb, nJ_of, nJ_lt, nJ_le, nJ_eq, nJ_clamp, nJ_add, nJ_sub, if_pos, if_neg, if_true, if_false, nL_0, nL_1, nL_2, nL_3, nL_4, nL_5, nL_6, nL_7, nL_8, nL_9, nL_10, nL_11, nL_12, nL_13, nL_14, nL_15, nL_16, nL_17, nL_18, nL_19, nL_20, nL_21, nL_22, nL_23, nL_24, nL_25, nL_26, nL_27, nL_28, nL_29, nL_30, nL_31, nL_32, nL_33, nL_34, nL_35, nL_36, nL_37, nL_38, nL_39, nL_40, nL_41, nL_42, nL_43, nL_44, nL_45, nL_46, nL_47, nL_48, nL_49, nL_50, nL_51, nL_52, nL_53, nL_54, nL_55, nL_56, nL_57, nL_58, nL_59, nL_60, nL_61, nL_62, nL_63, nL_64, nL_65, nL_66, nL_67, nL_68, nL_69, nL_70, nL_400, nL_402, nL_800, nL_2000]
        · have hT : HT Y a sz k = false := by
            unfold HT
            have w2 : ¬ ∀ i, i < sz → cb (Y (a + i)) = kby k i := fun z => w (z i (by omega))
            rw [decide_eq_false w2, Bool.and_false]
          rw [hT]
          refine iter_inr ?_
          show f_X10_hasText_L13 n (nI a) (nI sz) k (bT, nI len) (nI a) (nI sz) k (nI i) = some (.inr (nI 0))
          unfold f_X10_hasText_L13
          simp (disch := omega) only [↓bd hc, bd hc, q, w, ↓reduceIte, ↓if_pos, ↓if_neg, Nat.reduceEqDiff, Nat.reduceLeDiff, Nat.reduceLT, and_true, true_and, and_false, false_and, true_or, or_true, false_or, or_false, eq_self, sb, nJ_of, nJ_lt, nJ_le, nJ_eq, nJ_clamp, nJ_add, nJ_sub, if_pos, if_neg, if_true, if_false, nL_0, nL_1, nL_2, nL_3, nL_4, nL_5, nL_6, nL_7, nL_8, nL_9, nL_10, nL_11, nL_12, nL_13, nL_14, nL_15, nL_16, nL_17, nL_18, nL_19, nL_20, nL_21, nL_22, nL_23, nL_24, nL_25, nL_26, nL_27, nL_28, nL_29, nL_30, nL_31, nL_32, nL_33, nL_34, nL_35, nL_36, nL_37, nL_38, nL_39, nL_40, nL_41, nL_42, nL_43, nL_44, nL_45, nL_46, nL_47, nL_48, nL_49, nL_50, nL_51, nL_52, nL_53, nL_54, nL_55, nL_56, nL_57, nL_58, nL_59, nL_60, nL_61, nL_62, nL_63, nL_64, nL_65, nL_66, nL_67, nL_68, nL_69, nL_70, nL_400, nL_402, nL_800, nL_2000]
    exact key sz 0 n (by omega) (by omega) (fun j hj => by omega) (by omega)
  · rw [if_neg (by rw [nJ_eq (by omega) (by omega)]; exact q)]
    have hT : HT Y a sz k = false := by
      unfold HT
      rw [decide_eq_false q]
      rfl
    rw [hT]
    rfl
theorem c_kinds (h : TPE Y len bT ta) (hn : 2100 < n) (ha : a < len) (hz : sz ≤ 2000) (x1 x2 : Int32) : iter (fun s : Int32 => f_X11_kindOf_L49 n x1 x2 (bT, nI len) (nI a) (nI sz) (cb (Y a)) s) n (nI 0) = some (fE (fnd (HT Y a sz) 52) (fun k => k) (bif ltr (Y a) then 47 else 50)) := by
  refine fnd_loop _ (HT Y a sz) 52 (fun k => k) _ (fun i hi hp => ?_) (fun i hi hp => ?_) ?_ 52 0 n (by omega) (by omega) rfl (by omega)
  · have ht := c_text h hn ha hz hi
    rw [hp] at ht
    have ht' : f_X10_hasText n (nI a) (nI sz) i (bT, nI len) = some (nI 1) := ht
    show f_X11_kindOf_L49 n x1 x2 (bT, nI len) (nI a) (nI sz) (cb (Y a)) (nI i) = _
    unfold f_X11_kindOf_L49
    simp (disch := omega) only [↓bd ht', bd ht', ↓reduceIte, ↓if_pos, ↓if_neg, Nat.reduceEqDiff, Nat.reduceLeDiff, Nat.reduceLT, and_true, true_and, and_false, false_and, true_or, or_true, false_or, or_false, eq_self, sb, nJ_of, nJ_lt, nJ_le, nJ_eq, nJ_clamp, nJ_add, nJ_sub, if_pos, if_neg, if_true, if_false, nL_0, nL_1, nL_2, nL_3, nL_4, nL_5, nL_6, nL_7, nL_8, nL_9, nL_10, nL_11, nL_12, nL_13, nL_14, nL_15, nL_16, nL_17, nL_18, nL_19, nL_20, nL_21, nL_22, nL_23, nL_24, nL_25, nL_26, nL_27, nL_28, nL_29, nL_30, nL_31, nL_32, nL_33, nL_34, nL_35, nL_36, nL_37, nL_38, nL_39, nL_40, nL_41, nL_42, nL_43, nL_44, nL_45, nL_46, nL_47, nL_48, nL_49, nL_50, nL_51, nL_52, nL_53, nL_54, nL_55, nL_56, nL_57, nL_58, nL_59, nL_60, nL_61, nL_62, nL_63, nL_64, nL_65, nL_66, nL_67, nL_68, nL_69, nL_70, nL_400, nL_402, nL_800, nL_2000]
  · have ht := c_text h hn ha hz hi
    rw [hp] at ht
    have ht' : f_X10_hasText n (nI a) (nI sz) i (bT, nI len) = some (nI 0) := ht
    show f_X11_kindOf_L49 n x1 x2 (bT, nI len) (nI a) (nI sz) (cb (Y a)) (nI i) = _
    unfold f_X11_kindOf_L49
    simp (disch := omega) only [↓bd ht', bd ht', ↓reduceIte, ↓if_pos, ↓if_neg, Nat.reduceEqDiff, Nat.reduceLeDiff, Nat.reduceLT, and_true, true_and, and_false, false_and, true_or, or_true, false_or, or_false, eq_self, sb, nJ_of, nJ_lt, nJ_le, nJ_eq, nJ_clamp, nJ_add, nJ_sub, if_pos, if_neg, if_true, if_false, nL_0, nL_1, nL_2, nL_3, nL_4, nL_5, nL_6, nL_7, nL_8, nL_9, nL_10, nL_11, nL_12, nL_13, nL_14, nL_15, nL_16, nL_17, nL_18, nL_19, nL_20, nL_21, nL_22, nL_23, nL_24, nL_25, nL_26, nL_27, nL_28, nL_29, nL_30, nL_31, nL_32, nL_33, nL_34, nL_35, nL_36, nL_37, nL_38, nL_39, nL_40, nL_41, nL_42, nL_43, nL_44, nL_45, nL_46, nL_47, nL_48, nL_49, nL_50, nL_51, nL_52, nL_53, nL_54, nL_55, nL_56, nL_57, nL_58, nL_59, nL_60, nL_61, nL_62, nL_63, nL_64, nL_65, nL_66, nL_67, nL_68, nL_69, nL_70, nL_400, nL_402, nL_800, nL_2000]
  · have c1 := cb_ltr (Y a) (TPE_lt h a)
    show f_X11_kindOf_L49 n x1 x2 (bT, nI len) (nI a) (nI sz) (cb (Y a)) (nI 52) = _
    unfold f_X11_kindOf_L49
    cases q : ltr (Y a) with
    | true =>
      rw [q] at c1
      have c1' : f_X11_isLetter (cb (Y a)) = some (nI 1) := c1
      rw [if_pos (show (52 : Int32) ≤ nI 52 from by decide), bd c1']
      rfl
    | false =>
      rw [q] at c1
      have c1' : f_X11_isLetter (cb (Y a)) = some (nI 0) := c1
      rw [if_pos (show (52 : Int32) ≤ nI 52 from by decide), bd c1']
      rfl
def kdC (Y : Nat → Nat) (a sz : Nat) : Nat := if dig (Y a) = true then (if sz ≤ 6 then 48 else 50) else if ltr (Y a) = true ∧ 10 < sz then 50 else fE (fnd (HT Y a sz) 52) (fun k => k) (bif ltr (Y a) then 47 else 50)
theorem c_kind (h : TPE Y len bT ta) (hn : 2100 < n) (ha : a < len) (hz : sz ≤ 2000) : f_X11_kindOf n (nI a) (nI sz) (bT, nI len) = some (kdC Y a sz) := by
  have h0 := h.1
  have hc := c_byte h (i := a) (by omega)
  have c1 := cb_ltr (Y a) (TPE_lt h a)
  have d1 := cb_dig (Y a) (TPE_lt h a)
  have kk := c_kinds h hn ha hz (nI a) (nI sz)
  unfold f_X11_kindOf kdC
  cases qd : dig (Y a) with
  | true =>
    rw [qd] at d1
    have d1' : f_X11_isDigit (cb (Y a)) = some (nI 1) := d1
    rw [if_pos rfl]
    by_cases z : sz ≤ 6
    · rw [if_pos z]
      simp (disch := omega) only [↓bd hc, bd hc, ↓bd d1', bd d1', ↓reduceIte, ↓if_pos, ↓if_neg, Nat.reduceEqDiff, Nat.reduceLeDiff, Nat.reduceLT, and_true, true_and, and_false, false_and, true_or, or_true, false_or, or_false, eq_self, sb, nJ_of, nJ_lt, nJ_le, nJ_eq, nJ_clamp, nJ_add, nJ_sub, if_pos, if_neg, if_true, if_false, nL_0, nL_1, nL_2, nL_3, nL_4, nL_5, nL_6, nL_7, nL_8, nL_9, nL_10, nL_11, nL_12, nL_13, nL_14, nL_15, nL_16, nL_17, nL_18, nL_19, nL_20, nL_21, nL_22, nL_23, nL_24, nL_25, nL_26, nL_27, nL_28, nL_29, nL_30, nL_31, nL_32, nL_33, nL_34, nL_35, nL_36, nL_37, nL_38, nL_39, nL_40, nL_41, nL_42, nL_43, nL_44, nL_45, nL_46, nL_47, nL_48, nL_49, nL_50, nL_51, nL_52, nL_53, nL_54, nL_55, nL_56, nL_57, nL_58, nL_59, nL_60, nL_61, nL_62, nL_63, nL_64, nL_65, nL_66, nL_67, nL_68, nL_69, nL_70, nL_400, nL_402, nL_800, nL_2000]
    · rw [if_neg z]
      simp (disch := omega) only [↓bd hc, bd hc, ↓bd d1', bd d1', ↓reduceIte, ↓if_pos, ↓if_neg, Nat.reduceEqDiff, Nat.reduceLeDiff, Nat.reduceLT, and_true, true_and, and_false, false_and, true_or, or_true, false_or, or_false, eq_self, sb, nJ_of, nJ_lt, nJ_le, nJ_eq, nJ_clamp, nJ_add, nJ_sub, if_pos, if_neg, if_true, if_false, nL_0, nL_1, nL_2, nL_3, nL_4, nL_5, nL_6, nL_7, nL_8, nL_9, nL_10, nL_11, nL_12, nL_13, nL_14, nL_15, nL_16, nL_17, nL_18, nL_19, nL_20, nL_21, nL_22, nL_23, nL_24, nL_25, nL_26, nL_27, nL_28, nL_29, nL_30, nL_31, nL_32, nL_33, nL_34, nL_35, nL_36, nL_37, nL_38, nL_39, nL_40, nL_41, nL_42, nL_43, nL_44, nL_45, nL_46, nL_47, nL_48, nL_49, nL_50, nL_51, nL_52, nL_53, nL_54, nL_55, nL_56, nL_57, nL_58, nL_59, nL_60, nL_61, nL_62, nL_63, nL_64, nL_65, nL_66, nL_67, nL_68, nL_69, nL_70, nL_400, nL_402, nL_800, nL_2000]
  | false =>
    rw [qd] at d1
    have d1' : f_X11_isDigit (cb (Y a)) = some (nI 0) := d1
    rw [if_neg (show ¬ (false = true) from Bool.false_ne_true)]
    cases ql : ltr (Y a) with
    | true =>
      rw [ql] at c1 kk
      have c1' : f_X11_isLetter (cb (Y a)) = some (nI 1) := c1
      by_cases z : 10 < sz
      · rw [if_pos (show true = true ∧ 10 < sz from ⟨rfl, z⟩)]
        simp (disch := omega) only [↓bd hc, bd hc, ↓bd d1', bd d1', ↓bd c1', bd c1', ↓reduceIte, ↓if_pos, ↓if_neg, Nat.reduceEqDiff, Nat.reduceLeDiff, Nat.reduceLT, and_true, true_and, and_false, false_and, true_or, or_true, false_or, or_false, eq_self, sb, nJ_of, nJ_lt, nJ_le, nJ_eq, nJ_clamp, nJ_add, nJ_sub, if_pos, if_neg, if_true, if_false, nL_0, nL_1, nL_2, nL_3, nL_4, nL_5, nL_6, nL_7, nL_8, nL_9, nL_10, nL_11, nL_12, nL_13, nL_14, nL_15, nL_16, nL_17, nL_18, nL_19, nL_20, nL_21, nL_22, nL_23, nL_24, nL_25, nL_26, nL_27, nL_28, nL_29, nL_30, nL_31, nL_32, nL_33, nL_34, nL_35, nL_36, nL_37, nL_38, nL_39, nL_40, nL_41, nL_42, nL_43, nL_44, nL_45, nL_46, nL_47, nL_48, nL_49, nL_50, nL_51, nL_52, nL_53, nL_54, nL_55, nL_56, nL_57, nL_58, nL_59, nL_60, nL_61, nL_62, nL_63, nL_64, nL_65, nL_66, nL_67, nL_68, nL_69, nL_70, nL_400, nL_402, nL_800, nL_2000]
      · rw [if_neg (show ¬ (true = true ∧ 10 < sz) from fun w => z w.2)]
        simp (disch := omega) only [↓bd hc, bd hc, ↓bd d1', bd d1', ↓bd c1', bd c1', ↓reduceIte, ↓if_pos, ↓if_neg, Nat.reduceEqDiff, Nat.reduceLeDiff, Nat.reduceLT, and_true, true_and, and_false, false_and, true_or, or_true, false_or, or_false, eq_self, sb, nJ_of, nJ_lt, nJ_le, nJ_eq, nJ_clamp, nJ_add, nJ_sub, if_pos, if_neg, if_true, if_false, nL_0, nL_1, nL_2, nL_3, nL_4, nL_5, nL_6, nL_7, nL_8, nL_9, nL_10, nL_11, nL_12, nL_13, nL_14, nL_15, nL_16, nL_17, nL_18, nL_19, nL_20, nL_21, nL_22, nL_23, nL_24, nL_25, nL_26, nL_27, nL_28, nL_29, nL_30, nL_31, nL_32, nL_33, nL_34, nL_35, nL_36, nL_37, nL_38, nL_39, nL_40, nL_41, nL_42, nL_43, nL_44, nL_45, nL_46, nL_47, nL_48, nL_49, nL_50, nL_51, nL_52, nL_53, nL_54, nL_55, nL_56, nL_57, nL_58, nL_59, nL_60, nL_61, nL_62, nL_63, nL_64, nL_65, nL_66, nL_67, nL_68, nL_69, nL_70, nL_400, nL_402, nL_800, nL_2000]
        exact kk
    | false =>
      rw [ql] at c1 kk
      have c1' : f_X11_isLetter (cb (Y a)) = some (nI 0) := c1
      rw [if_neg (show ¬ (false = true ∧ 10 < sz) from fun w => Bool.false_ne_true w.1)]
      simp (disch := omega) only [↓bd hc, bd hc, ↓bd d1', bd d1', ↓bd c1', bd c1', ↓reduceIte, ↓if_pos, ↓if_neg, Nat.reduceEqDiff, Nat.reduceLeDiff, Nat.reduceLT, and_true, true_and, and_false, false_and, true_or, or_true, false_or, or_false, eq_self, sb, nJ_of, nJ_lt, nJ_le, nJ_eq, nJ_clamp, nJ_add, nJ_sub, if_pos, if_neg, if_true, if_false, nL_0, nL_1, nL_2, nL_3, nL_4, nL_5, nL_6, nL_7, nL_8, nL_9, nL_10, nL_11, nL_12, nL_13, nL_14, nL_15, nL_16, nL_17, nL_18, nL_19, nL_20, nL_21, nL_22, nL_23, nL_24, nL_25, nL_26, nL_27, nL_28, nL_29, nL_30, nL_31, nL_32, nL_33, nL_34, nL_35, nL_36, nL_37, nL_38, nL_39, nL_40, nL_41, nL_42, nL_43, nL_44, nL_45, nL_46, nL_47, nL_48, nL_49, nL_50, nL_51, nL_52, nL_53, nL_54, nL_55, nL_56, nL_57, nL_58, nL_59, nL_60, nL_61, nL_62, nL_63, nL_64, nL_65, nL_66, nL_67, nL_68, nL_69, nL_70, nL_400, nL_402, nL_800, nL_2000]
      exact kk
def wsg (u : Int32) : Int32 := bif decide (u < 48) || decide (57 < u) then (u - 97) + 11 else (u - 48) + 1
theorem c_wsg (u : Int32) : f_X11_wordSign u = some (wsg u) := by
  unfold f_X11_wordSign f_X11_isDigit wsg
  by_cases p : u < 48
  · rw [if_pos p, decide_eq_true p]
    rfl
  · rw [if_neg p, decide_eq_false p]
    by_cases q : 57 < u
    · rw [if_pos q, decide_eq_true q]
      rfl
    · rw [if_neg q, decide_eq_false q]
      rfl
def vlI (b : Bool) (Y : Nat → Nat) (a : Nat) : Nat → Int64
  | 0 => 0
  | l + 1 => bif b then vlI b Y a l * 10 + Int32.toInt64 (cb (Y (a + l)) - 48) else vlI b Y a l * 37 + Int32.toInt64 (wsg (cb (Y (a + l))))
theorem c_value (h : TPE Y len bT ta) (hn : 2100 < n) (ha : a < len) (hz : sz ≤ 2000) : f_X11_valueOf n (nI a) (nI sz) (bT, nI len) = some (vlI (dig (Y a)) Y a sz) := by
  have h0 := h.1
  have hc := c_byte h (i := a) (by omega)
  have d1 := cb_dig (Y a) (TPE_lt h a)
  unfold f_X11_valueOf
  rw [bd hc, bd d1]
  refine iter_count _ (fun i => (vlI (dig (Y a)) Y a i, nI i)) sz _ (fun i hi => ?_) ?_ (by omega)
  · have hci := c_byte h (i := a + i) (by omega)
    have hw := c_wsg (cb (Y (a + i)))
    show f_X11_valueOf_L15 n (nI a) (nI sz) (bT, nI len) (nI a) (nI sz) (b1 (dig (Y a))) (vlI (dig (Y a)) Y a i) (nI i) = some (.inl (vlI (dig (Y a)) Y a (i + 1), nI (i + 1)))
    unfold f_X11_valueOf_L15
    cases qd : dig (Y a) with
    | true =>
      have e1 : ((b1 true : Int32) = nI 0) = False := by decide
      have e2 : vlI true Y a (i + 1) = vlI true Y a i * 10 + Int32.toInt64 (cb (Y (a + i)) - 48) := rfl
      rw [e2]
      simp (disch := omega) only [↓bd hci, bd hci, e1, ↓reduceIte, ↓if_pos, ↓if_neg, Nat.reduceEqDiff, Nat.reduceLeDiff, Nat.reduceLT, and_true, true_and, and_false, false_and, true_or, or_true, false_or, or_false, eq_self, sb, nJ_of, nJ_lt, nJ_le, nJ_eq, nJ_clamp, nJ_add, nJ_sub, if_pos, if_neg, if_true, if_false, nL_0, nL_1, nL_2, nL_3, nL_4, nL_5, nL_6, nL_7, nL_8, nL_9, nL_10, nL_11, nL_12, nL_13, nL_14, nL_15, nL_16, nL_17, nL_18, nL_19, nL_20, nL_21, nL_22, nL_23, nL_24, nL_25, nL_26, nL_27, nL_28, nL_29, nL_30, nL_31, nL_32, nL_33, nL_34, nL_35, nL_36, nL_37, nL_38, nL_39, nL_40, nL_41, nL_42, nL_43, nL_44, nL_45, nL_46, nL_47, nL_48, nL_49, nL_50, nL_51, nL_52, nL_53, nL_54, nL_55, nL_56, nL_57, nL_58, nL_59, nL_60, nL_61, nL_62, nL_63, nL_64, nL_65, nL_66, nL_67, nL_68, nL_69, nL_70, nL_400, nL_402, nL_800, nL_2000]
    | false =>
      have e1 : ((b1 false : Int32) = nI 0) = True := by decide
      have e2 : vlI false Y a (i + 1) = vlI false Y a i * 37 + Int32.toInt64 (wsg (cb (Y (a + i)))) := rfl
      rw [e2]
      simp (disch := omega) only [↓bd hci, bd hci, e1, ↓bd hw, bd hw, ↓reduceIte, ↓if_pos, ↓if_neg, Nat.reduceEqDiff, Nat.reduceLeDiff, Nat.reduceLT, and_true, true_and, and_false, false_and, true_or, or_true, false_or, or_false, eq_self, sb, nJ_of, nJ_lt, nJ_le, nJ_eq, nJ_clamp, nJ_add, nJ_sub, if_pos, if_neg, if_true, if_false, nL_0, nL_1, nL_2, nL_3, nL_4, nL_5, nL_6, nL_7, nL_8, nL_9, nL_10, nL_11, nL_12, nL_13, nL_14, nL_15, nL_16, nL_17, nL_18, nL_19, nL_20, nL_21, nL_22, nL_23, nL_24, nL_25, nL_26, nL_27, nL_28, nL_29, nL_30, nL_31, nL_32, nL_33, nL_34, nL_35, nL_36, nL_37, nL_38, nL_39, nL_40, nL_41, nL_42, nL_43, nL_44, nL_45, nL_46, nL_47, nL_48, nL_49, nL_50, nL_51, nL_52, nL_53, nL_54, nL_55, nL_56, nL_57, nL_58, nL_59, nL_60, nL_61, nL_62, nL_63, nL_64, nL_65, nL_66, nL_67, nL_68, nL_69, nL_70, nL_400, nL_402, nL_800, nL_2000]
  · show f_X11_valueOf_L15 n (nI a) (nI sz) (bT, nI len) (nI a) (nI sz) (b1 (dig (Y a))) (vlI (dig (Y a)) Y a sz) (nI sz) = _
    unfold f_X11_valueOf_L15
    simp (disch := omega) only [↓reduceIte, ↓if_pos, ↓if_neg, Nat.reduceEqDiff, Nat.reduceLeDiff, Nat.reduceLT, and_true, true_and, and_false, false_and, true_or, or_true, false_or, or_false, eq_self, sb, nJ_of, nJ_lt, nJ_le, nJ_eq, nJ_clamp, nJ_add, nJ_sub, if_pos, if_neg, if_true, if_false, nL_0, nL_1, nL_2, nL_3, nL_4, nL_5, nL_6, nL_7, nL_8, nL_9, nL_10, nL_11, nL_12, nL_13, nL_14, nL_15, nL_16, nL_17, nL_18, nL_19, nL_20, nL_21, nL_22, nL_23, nL_24, nL_25, nL_26, nL_27, nL_28, nL_29, nL_30, nL_31, nL_32, nL_33, nL_34, nL_35, nL_36, nL_37, nL_38, nL_39, nL_40, nL_41, nL_42, nL_43, nL_44, nL_45, nL_46, nL_47, nL_48, nL_49, nL_50, nL_51, nL_52, nL_53, nL_54, nL_55, nL_56, nL_57, nL_58, nL_59, nL_60, nL_61, nL_62, nL_63, nL_64, nL_65, nL_66, nL_67, nL_68, nL_69, nL_70, nL_400, nL_402, nL_800, nL_2000]
end P60

/-! all tokens, both readers -/
theorem vp_same2 (f : Nat → Int64) (k : Nat) (x : Int64) : vp_updL f k x k = x := if_pos rfl
section P64
variable {Y : Nat → Nat} {len : Nat} {bT : Nat → Int32} {ta : Nat → Int32}
variable {N : Nat → Int32} {n i a e sz k : Nat} {K : Nat → Nat} {sT : Nat → Int32} {vT : Nat → Int64} {bh : bX11} {v : Int64}
theorem c_addt (hi : i ≤ 400) (hk : k < 52) (x : Int32) (v : Int64) : f_X11_add k x v (K, sT, vT, nI i, nI 0, nI 0, nI 0) = some (va_up K i k, upd sT i x, vp_updL vT i v, nI (i + 1)) := by
  unfold f_X11_add
  simp (disch := omega) only [X11_kinds, X11_starts, X11_values, X11_count, X11_cursor, X11_error, X11_errorToken, ↓reduceIte, ↓if_pos, ↓if_neg, Nat.reduceEqDiff, Nat.reduceLeDiff, Nat.reduceLT, and_true, true_and, and_false, false_and, true_or, or_true, false_or, or_false, eq_self, sb, nJ_of, nJ_lt, nJ_le, nJ_eq, nJ_clamp, nJ_add, nJ_sub, if_pos, if_neg, if_true, if_false, nL_0, nL_1, nL_2, nL_3, nL_4, nL_5, nL_6, nL_7, nL_8, nL_9, nL_10, nL_11, nL_12, nL_13, nL_14, nL_15, nL_16, nL_17, nL_18, nL_19, nL_20, nL_21, nL_22, nL_23, nL_24, nL_25, nL_26, nL_27, nL_28, nL_29, nL_30, nL_31, nL_32, nL_33, nL_34, nL_35, nL_36, nL_37, nL_38, nL_39, nL_40, nL_41, nL_42, nL_43, nL_44, nL_45, nL_46, nL_47, nL_48, nL_49, nL_50, nL_51, nL_52, nL_53, nL_54, nL_55, nL_56, nL_57, nL_58, nL_59, nL_60, nL_61, nL_62, nL_63, nL_64, nL_65, nL_66, nL_67, nL_68, nL_69, nL_70, nL_400, nL_402, nL_800, nL_2000]
theorem cR_99 (hl : len ≤ 2000) (hi : i ≤ 400) (ha : a ≤ len) : f_X11_readAll_R99 n bh (bT, nI len) (nI a) K sT vT (nI i) (nI 0) (nI 0) (nI 0) = some (va_up K i (if len ≤ a then 49 else 50), upd sT i (nI a), vp_updL vT i 0, nI (i + 1), nI 0, nI 0, nI 0) := by
  have h1 := c_addt (K := K) (sT := sT) (vT := vT) hi (k := 49) (by omega) (nI a) 0
  have h2 := c_addt (K := K) (sT := sT) (vT := vT) hi (k := 50) (by omega) (nI a) 0
  unfold f_X11_readAll_R99 f_X11_readAll_R117
  by_cases q : len ≤ a
  · rw [if_pos q, if_pos (show (X10_length (bT, nI len)) ≤ nI a from by rw [show X10_length (bT, nI len) = nI len from rfl, nJ_le (by omega) (by omega)]; exact q), bd h1]
  · rw [if_neg q, if_neg (show ¬ (X10_length (bT, nI len)) ≤ nI a from by rw [show X10_length (bT, nI len) = nI len from rfl, nJ_le (by omega) (by omega)]; exact q), bd h2]
theorem cR_end (hl : len ≤ 2000) (hi : i ≤ 400) (ha : a ≤ len) (hq : i = 400 ∨ len ≤ a) : f_X11_readAll_L28 n bh (bT, nI len) (nI a) (nI i) K sT vT (nI i) (nI 0) (nI 0) (nI 0) = some (.inr (va_up K i (if len ≤ a then 49 else 50), upd sT i (nI a), vp_updL vT i 0, nI (i + 1), nI 0, nI 0, nI 0)) := by
  have h9 := cR_99 (n := n) (bh := bh) (bT := bT) (K := K) (sT := sT) (vT := vT) hl hi ha
  unfold f_X11_readAll_L28
  by_cases q : 400 ≤ i
  · rw [if_pos (show (400 : Int32) ≤ nI i from by rw [nL_400, nJ_le (by omega) (by omega)]; exact q), bd h9]
  · rw [if_neg (show ¬ (400 : Int32) ≤ nI i from by rw [nL_400, nJ_le (by omega) (by omega)]; exact q), if_pos (show (X10_length (bT, nI len)) ≤ nI a from by rw [show X10_length (bT, nI len) = nI len from rfl, nJ_le (by omega) (by omega)]; omega), bd h9]
theorem cR_go (hl : len ≤ 2000) (hi : i < 400) (ha : a < len) (hs : a + sz ≤ len) (hk : k < 49) (h1 : f_X11_sizeOf n (nI a) (bT, nI len) = some (nI sz)) (h2 : f_X11_kindOf n (nI a) (nI sz) (bT, nI len) = some k) (h3 : f_X11_valueOf n (nI a) (nI sz) (bT, nI len) = some v) (h4 : f_X11_behindBlanks n (nI (a + sz)) (bT, nI len) = some (nI e)) : f_X11_readAll_L28 n bh (bT, nI len) (nI a) (nI i) K sT vT (nI i) (nI 0) (nI 0) (nI 0) = some (.inl (nI e, nI (i + 1), va_up K i k, upd sT i (nI a), vp_updL vT i v, nI (i + 1))) := by
  have h9 := c_addt (K := K) (sT := sT) (vT := vT) (i := i) (by omega) (k := k) (by omega) (nI a) v
  unfold f_X11_readAll_L28
  rw [if_neg (show ¬ (400 : Int32) ≤ nI i from by rw [nL_400, nJ_le (by omega) (by omega)]; omega), if_neg (show ¬ (X10_length (bT, nI len)) ≤ nI a from by rw [show X10_length (bT, nI len) = nI len from rfl, nJ_le (by omega) (by omega)]; omega), bd h1, bd h2, if_pos (by omega), if_neg (by omega), bd h3, bd h9]
  rw [show nI a + nI sz = nI (a + sz) from nJ_add a sz, bd h4, show nI i + 1 = nI (i + 1) from nJ_add i 1]
variable {kd0 nu0 po0 ln0 : Nat → Int32}

end P64
