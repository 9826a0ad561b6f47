/-! bytes of the tape, both readers -/
/-- a byte as the class has it, as the model has it; 256: behind the end -/
def sx (v : Nat) : Int32 := if v < 128 then nI v else nI v - nI 256
def cb (v : Nat) : Int32 := if v < 256 then sx v else nI 0
def mb (v : Nat) : Int32 := if v < 256 then nI v else -nI 1
def ltr (v : Nat) : Bool := decide (97 ≤ v) && decide (v ≤ 122)
def dig (v : Nat) : Bool := decide (48 ≤ v) && decide (v ≤ 57)
def wrd (v : Nat) : Bool := ltr v || dig v
def blk (v : Nat) : Bool := decide (v = 32) || decide (v = 10)
def b1 (b : Bool) : Int32 := bif b then nI 1 else nI 0
theorem cb_ltr : ∀ v : Nat, v < 257 → f_X11_isLetter (cb v) = some (b1 (ltr v)) := by decide +kernel
theorem cb_dig : ∀ v : Nat, v < 257 → f_X11_isDigit (cb v) = some (b1 (dig v)) := by decide +kernel
theorem mb_ltr : ∀ v : Nat, v < 257 → f_X14_isLetter (mb v) = some (b1 (ltr v)) := by decide +kernel
theorem mb_dig : ∀ v : Nat, v < 257 → f_X14_isDigit (mb v) = some (b1 (dig v)) := by decide +kernel
theorem cb_eqs : ∀ v : Nat, v < 257 → ((cb v = nI 32) ↔ v = 32) ∧ ((cb v = nI 10) ↔ v = 10) ∧ ((cb v = nI 61) ↔ v = 61) ∧ ((cb v = nI 60) ↔ v = 60) ∧ ((cb v = nI 62) ↔ v = 62) := by decide +kernel
theorem mb_eqs : ∀ v : Nat, v < 257 → ((mb v = nI 32) ↔ v = 32) ∧ ((mb v = nI 10) ↔ v = 10) ∧ ((mb v = nI 61) ↔ v = 61) := by decide +kernel
theorem cb_mb : ∀ v : Nat, v < 257 → wrd v = true → cb v = nI v ∧ mb v = nI v := by decide +kernel
/-- the tape, alike -/
def TPE (Y : Nat → Nat) (len : Nat) (bT ta : Nat → Int32) : Prop := len ≤ 2000 ∧ (∀ i, i < len → Y i < 256 ∧ bT i = sx (Y i) ∧ ta i = nI (Y i)) ∧ (∀ i, len ≤ i → Y i = 256)
theorem TPE_lt {Y : Nat → Nat} {len : Nat} {bT ta : Nat → Int32} (h : TPE Y len bT ta) (i : Nat) : Y i < 257 := by
  rcases Nat.lt_or_ge i len with q | q
  · have := (h.2.1 i q).1
    omega
  · rw [h.2.2 i q]
    omega
section P58
variable {Y : Nat → Nat} {len : Nat} {bT : Nat → Int32} {th bs ea tk wr er et dp : Int32} {ta kd nu po ln fn gn va kp : Nat → Int32}
variable {N : Nat → Int32} {i : Nat}
theorem c_byte (h : TPE Y len bT ta) (hi : i < 1000000) : f_X10_byteAt (nI i) (bT, nI len) = some (cb (Y i)) := by
  have h0 := h.1
  unfold f_X10_byteAt
  rcases Nat.lt_or_ge i len with q | q
  · obtain ⟨h1, h2, -⟩ := h.2.1 i q
    have e : cb (Y i) = bT i := by rw [h2]; exact if_pos h1
    simp (disch := omega) only [X10_length, X10_bytes, e, ↓reduceIte, ↓if_pos, ↓if_neg, Nat.reduceEqDiff, Nat.reduceLeDiff, Nat.reduceLT, and_true, true_and, and_false, false_and, true_or, or_true, false_or, or_false, eq_self, sb, nJ_of, nJ_lt, nJ_le, nJ_eq, nJ_clamp, nJ_add, nJ_sub, if_pos, if_neg, if_true, if_false, nL_0, nL_1, nL_2, nL_3, nL_4, nL_5, nL_6, nL_7, nL_8, nL_9, nL_10, nL_11, nL_12, nL_13, nL_14, nL_15, nL_16, nL_17, nL_18, nL_19, nL_20, nL_21, nL_22, nL_23, nL_24, nL_25, nL_26, nL_27, nL_28, nL_29, nL_30, nL_31, nL_32, nL_33, nL_34, nL_35, nL_36, nL_37, nL_38, nL_39, nL_40, nL_41, nL_42, nL_43, nL_44, nL_45, nL_46, nL_47, nL_48, nL_49, nL_50, nL_51, nL_52, nL_53, nL_54, nL_55, nL_56, nL_57, nL_58, nL_59, nL_60, nL_61, nL_62, nL_63, nL_64, nL_65, nL_66, nL_67, nL_68, nL_69, nL_70, nL_400, nL_402, nL_800, nL_2000]
  · have e : cb (Y i) = nI 0 := by rw [h.2.2 i q]; rfl
    simp (disch := omega) only [X10_length, X10_bytes, e, ↓reduceIte, ↓if_pos, ↓if_neg, Nat.reduceEqDiff, Nat.reduceLeDiff, Nat.reduceLT, and_true, true_and, and_false, false_and, true_or, or_true, false_or, or_false, eq_self, sb, nJ_of, nJ_lt, nJ_le, nJ_eq, nJ_clamp, nJ_add, nJ_sub, if_pos, if_neg, if_true, if_false, nL_0, nL_1, nL_2, nL_3, nL_4, nL_5, nL_6, nL_7, nL_8, nL_9, nL_10, nL_11, nL_12, nL_13, nL_14, nL_15, nL_16, nL_17, nL_18, nL_19, nL_20, nL_21, nL_22, nL_23, nL_24, nL_25, nL_26, nL_27, nL_28, nL_29, nL_30, nL_31, nL_32, nL_33, nL_34, nL_35, nL_36, nL_37, nL_38, nL_39, nL_40, nL_41, nL_42, nL_43, nL_44, nL_45, nL_46, nL_47, nL_48, nL_49, nL_50, nL_51, nL_52, nL_53, nL_54, nL_55, nL_56, nL_57, nL_58, nL_59, nL_60, nL_61, nL_62, nL_63, nL_64, nL_65, nL_66, nL_67, nL_68, nL_69, nL_70, nL_400, nL_402, nL_800, nL_2000]
theorem m_byte (h : TPE Y len bT ta) (hi : i < 1000000) : f_X14_byteAt (nI i) (th, ta, nI len, ea, kd, nu, po, ln, tk, wr, er, et, dp, fn, gn, va, N, kp) = some (mb (Y i)) := by
  have h0 := h.1
  unfold f_X14_byteAt
  rcases Nat.lt_or_ge i len with q | q
  · obtain ⟨h1, -, h2⟩ := h.2.1 i q
    have e : mb (Y i) = ta i := by rw [h2]; exact if_pos h1
    simp (disch := omega) only [X14_bytes, X14_tape, e, ↓reduceIte, ↓if_pos, ↓if_neg, Nat.reduceEqDiff, Nat.reduceLeDiff, Nat.reduceLT, and_true, true_and, and_false, false_and, true_or, or_true, false_or, or_false, eq_self, sb, nJ_of, nJ_lt, nJ_le, nJ_eq, nJ_clamp, nJ_add, nJ_sub, if_pos, if_neg, if_true, if_false, nL_0, nL_1, nL_2, nL_3, nL_4, nL_5, nL_6, nL_7, nL_8, nL_9, nL_10, nL_11, nL_12, nL_13, nL_14, nL_15, nL_16, nL_17, nL_18, nL_19, nL_20, nL_21, nL_22, nL_23, nL_24, nL_25, nL_26, nL_27, nL_28, nL_29, nL_30, nL_31, nL_32, nL_33, nL_34, nL_35, nL_36, nL_37, nL_38, nL_39, nL_40, nL_41, nL_42, nL_43, nL_44, nL_45, nL_46, nL_47, nL_48, nL_49, nL_50, nL_51, nL_52, nL_53, nL_54, nL_55, nL_56, nL_57, nL_58, nL_59, nL_60, nL_61, nL_62, nL_63, nL_64, nL_65, nL_66, nL_67, nL_68, nL_69, nL_70, nL_400, nL_402, nL_800, nL_2000]
  · have e : mb (Y i) = -nI 1 := by rw [h.2.2 i q]; rfl
    simp (disch := omega) only [X14_bytes, X14_tape, e, ↓reduceIte, ↓if_pos, ↓if_neg, Nat.reduceEqDiff, Nat.reduceLeDiff, Nat.reduceLT, and_true, true_and, and_false, false_and, true_or, or_true, false_or, or_false, eq_self, sb, nJ_of, nJ_lt, nJ_le, nJ_eq, nJ_clamp, nJ_add, nJ_sub, if_pos, if_neg, if_true, if_false, nL_0, nL_1, nL_2, nL_3, nL_4, nL_5, nL_6, nL_7, nL_8, nL_9, nL_10, nL_11, nL_12, nL_13, nL_14, nL_15, nL_16, nL_17, nL_18, nL_19, nL_20, nL_21, nL_22, nL_23, nL_24, nL_25, nL_26, nL_27, nL_28, nL_29, nL_30, nL_31, nL_32, nL_33, nL_34, nL_35, nL_36, nL_37, nL_38, nL_39, nL_40, nL_41, nL_42, nL_43, nL_44, nL_45, nL_46, nL_47, nL_48, nL_49, nL_50, nL_51, nL_52, nL_53, nL_54, nL_55, nL_56, nL_57, nL_58, nL_59, nL_60, nL_61, nL_62, nL_63, nL_64, nL_65, nL_66, nL_67, nL_68, nL_69, nL_70, nL_400, nL_402, nL_800, nL_2000]
end P58
/-- the signs from i to e - 1 are of a kind, that at e is not -/
def RUN (p : Nat → Bool) (Y : Nat → Nat) (i e : Nat) : Prop := i ≤ e ∧ (∀ j, i ≤ j → j < e → p (Y j) = true) ∧ p (Y e) = false
theorem RUN_ex {p : Nat → Bool} {Y : Nat → Nat} {len : Nat} (h : ∀ i, len ≤ i → Y i = 256) (hp : p 256 = false) : ∀ (d i : Nat), len - i ≤ d → ∃ e, RUN p Y i e ∧ (i ≤ len → e ≤ len)
  | 0, i, hd => ⟨i, ⟨Nat.le_refl _, fun j a b => by omega, by rw [h i (by omega)]; exact hp⟩, fun _ => by omega⟩
  | d + 1, i, hd => by
    cases q : p (Y i) with
    | false => exact ⟨i, ⟨Nat.le_refl _, fun j a b => by omega, q⟩, fun z => z⟩
    | true =>
      have hl : i < len := by
        rcases Nat.lt_or_ge i len with z | z
        · exact z
        · rw [h i z, hp] at q
          exact nomatch q
      obtain ⟨e, ⟨h1, h2, h3⟩, h4⟩ := RUN_ex h hp d (i + 1) (by omega)
      refine ⟨e, ⟨by omega, fun j a b => ?_, h3⟩, fun _ => h4 (by omega)⟩
      rcases Nat.lt_or_ge i j with z | z
      · exact h2 j (by omega) b
      · have z2 : j = i := by omega
        rw [z2]
        exact q
/-- a loop from i to e -/
theorem it_run {R : Type} (body : Int32 → Option (Int32 ⊕ R)) {i e : Nat} {r : R} (hie : i ≤ e) (hs : ∀ j, i ≤ j → j < e → body (nI j) = some (.inl (nI (j + 1)))) (he : body (nI e) = some (.inr r)) {n : Nat} (hn : e - i < n) : iter body n (nI i) = some r := by
  have h := iter_count body (fun k => nI (i + k)) (e - i) r (fun k hk => hs (i + k) (by omega) (by omega)) (by show body (nI (i + (e - i))) = _; rw [show i + (e - i) = e by omega]; exact he) hn
  exact h
/-- the first that fits, in a loop -/
def fE {R : Type} (o : Option Nat) (hit : Nat → R) (miss : R) : R := match o with
  | some k => hit k
  | none => miss
theorem fnd_all {p : Nat → Bool} : ∀ {m : Nat}, fnd p m = none → ∀ k, k < m → p k = false
  | 0, _, k, hk => by omega
  | m + 1, h, k, hk => by
    unfold fnd at h
    cases e : fnd p m with
    | some q =>
      rw [e] at h
      exact nomatch h
    | none =>
      rw [e] at h
      cases e2 : p m with
      | true =>
        rw [e2] at h
        exact nomatch h
      | false =>
        rcases Nat.lt_or_ge k m with q | q
        · exact fnd_all e k q
        · have q2 : k = m := by omega
          rw [q2]
          exact e2
theorem fnd_non {p : Nat → Bool} : ∀ {m : Nat}, (∀ k, k < m → p k = false) → fnd p m = none
  | 0, _ => rfl
  | m + 1, h => fnd_miss (fnd_non (fun k hk => h k (by omega))) (h m (by omega))
theorem fnd_loop {R : Type} (body : Int32 → Option (Int32 ⊕ R)) (p : Nat → Bool) (m : Nat) (hit : Nat → R) (miss : R) (h1 : ∀ i, i < m → p i = true → body (nI i) = some (.inr (hit i))) (h2 : ∀ i, i < m → p i = false → body (nI i) = some (.inl (nI (i + 1)))) (h3 : body (nI m) = some (.inr miss)) : ∀ (d i n : Nat), m - i = d → i ≤ m → fnd p i = none → d < n → iter body n (nI i) = some (fE (fnd p m) hit miss)
  | 0, i, n, hd, hi, hf, hn => by
    have e : i = m := by omega
    obtain ⟨n, rfl⟩ : ∃ q, n = q + 1 := ⟨n - 1, by omega⟩
    rw [e] at hf ⊢
    rw [iter_inr h3, hf]
    rfl
  | d + 1, i, n, hd, hi, hf, hn => by
    obtain ⟨n, rfl⟩ : ∃ q, n = q + 1 := ⟨n - 1, by omega⟩
    cases q : p i with
    | true =>
      rw [iter_inr (h1 i (by omega) q), fnd_hit hf q (by omega)]
      rfl
    | false =>
      rw [iter_inl (h2 i (by omega) q)]
      exact fnd_loop body p m hit miss h1 h2 h3 d (i + 1) n (by omega) (by omega) (fnd_miss hf q) (by omega)
