/-! THE GRAMMAR READS A TREE: one token, one step -/
section
variable {K : Nat → Nat} {sT : Nat → Int32} {vT : Nat → Int64} {cnt c k : Nat} {er et : Int32}
theorem take_yes (hc : c < cnt) (hn : cnt ≤ 401) (hk : k < 52) (e : K c = k) : f_X11_take k (K, sT, vT, nI cnt, nI c, er, et) = some (1, nI (c + 1)) := by
  unfold f_X11_take
  simp (disch := omega) only [X11_count, X11_cursor, X11_kinds, show (cnt ≤ c) = False from eq_false (by omega), show (401 ≤ c) = False from eq_false (by omega), show (c < 0) = False from eq_false (by omega), e, hk, false_or, or_self, sb, nJ_of, nJ_lt, nJ_le, nJ_eq, nJ_clamp, nJ_add, nJ_sub, if_pos, if_neg, if_true, if_false, nL_0, nL_1, nL_2, nL_3, nL_4, nL_5, nL_6, nL_7, nL_8, nL_9, nL_10, nL_11, nL_12, nL_13, nL_14, nL_15, nL_16, nL_17, nL_18, nL_19, nL_20, nL_21, nL_22, nL_23, nL_24, nL_25, nL_26, nL_27, nL_28, nL_29, nL_30, nL_31, nL_32, nL_33, nL_34, nL_35, nL_36, nL_37, nL_38, nL_39, nL_40, nL_41, nL_42, nL_43, nL_44, nL_45, nL_46, nL_47, nL_48, nL_49, nL_50, nL_51, nL_52, nL_53, nL_54, nL_55, nL_56, nL_57, nL_58, nL_59, nL_60, nL_61, nL_62, nL_63, nL_64, nL_65, nL_66, nL_67, nL_68, nL_69, nL_70, nL_400, nL_402, nL_800, nL_2000]
theorem take_no (hc : c < cnt) (hn : cnt ≤ 401) (hk : k < 52) (hK : K c < 52) (e : K c ≠ k) : f_X11_take k (K, sT, vT, nI cnt, nI c, er, et) = some (0, nI c) := by
  unfold f_X11_take
  simp (disch := omega) only [X11_count, X11_cursor, X11_kinds, show (cnt ≤ c) = False from eq_false (by omega), show (401 ≤ c) = False from eq_false (by omega), show (c < 0) = False from eq_false (by omega), e, hk, hK, false_or, or_self, sb, nJ_of, nJ_lt, nJ_le, nJ_eq, nJ_clamp, nJ_add, nJ_sub, if_pos, if_neg, if_true, if_false, nL_0, nL_1, nL_2, nL_3, nL_4, nL_5, nL_6, nL_7, nL_8, nL_9, nL_10, nL_11, nL_12, nL_13, nL_14, nL_15, nL_16, nL_17, nL_18, nL_19, nL_20, nL_21, nL_22, nL_23, nL_24, nL_25, nL_26, nL_27, nL_28, nL_29, nL_30, nL_31, nL_32, nL_33, nL_34, nL_35, nL_36, nL_37, nL_38, nL_39, nL_40, nL_41, nL_42, nL_43, nL_44, nL_45, nL_46, nL_47, nL_48, nL_49, nL_50, nL_51, nL_52, nL_53, nL_54, nL_55, nL_56, nL_57, nL_58, nL_59, nL_60, nL_61, nL_62, nL_63, nL_64, nL_65, nL_66, nL_67, nL_68, nL_69, nL_70, nL_400, nL_402, nL_800, nL_2000]
theorem next_ok (hc : c < cnt) (hn : cnt ≤ 401) : f_X11_next (K, sT, vT, nI cnt, nI c, er, et) = some (K c) := by
  unfold f_X11_next
  simp (disch := omega) only [X11_count, X11_cursor, X11_kinds, show (cnt ≤ c) = False from eq_false (by omega), show (401 ≤ c) = False from eq_false (by omega), show (c < 0) = False from eq_false (by omega), false_or, or_self, sb, nJ_of, nJ_lt, nJ_le, nJ_eq, nJ_clamp, nJ_add, nJ_sub, if_pos, if_neg, if_true, if_false, nL_0, nL_1, nL_2, nL_3, nL_4, nL_5, nL_6, nL_7, nL_8, nL_9, nL_10, nL_11, nL_12, nL_13, nL_14, nL_15, nL_16, nL_17, nL_18, nL_19, nL_20, nL_21, nL_22, nL_23, nL_24, nL_25, nL_26, nL_27, nL_28, nL_29, nL_30, nL_31, nL_32, nL_33, nL_34, nL_35, nL_36, nL_37, nL_38, nL_39, nL_40, nL_41, nL_42, nL_43, nL_44, nL_45, nL_46, nL_47, nL_48, nL_49, nL_50, nL_51, nL_52, nL_53, nL_54, nL_55, nL_56, nL_57, nL_58, nL_59, nL_60, nL_61, nL_62, nL_63, nL_64, nL_65, nL_66, nL_67, nL_68, nL_69, nL_70, nL_400, nL_402, nL_800, nL_2000]
end
theorem step_ok {dd : Nat → Nat} {tg fs es : Nat → Int32} {sk : Nat → Nat} {sv : Nat → Int32} {ct x : Int32} {p k : Nat} (hp : p < 400) (hk : k < 52) : f_X6_addStep k x (dd, tg, fs, es, sk, sv, ct, nI p) = some (1, va_up sk p k, upd sv p x, nI (p + 1)) := by
  unfold f_X6_addStep
  simp (disch := omega) only [X6_steps, X6_stepKinds, X6_stepValues, show (p < 400) = True from eq_true (by omega), show (400 ≤ p) = False from eq_false (by omega), show (p < 0) = False from eq_false (by omega), hk, false_or, or_self, sb, nJ_of, nJ_lt, nJ_le, nJ_eq, nJ_clamp, nJ_add, nJ_sub, if_pos, if_neg, if_true, if_false, nL_0, nL_1, nL_2, nL_3, nL_4, nL_5, nL_6, nL_7, nL_8, nL_9, nL_10, nL_11, nL_12, nL_13, nL_14, nL_15, nL_16, nL_17, nL_18, nL_19, nL_20, nL_21, nL_22, nL_23, nL_24, nL_25, nL_26, nL_27, nL_28, nL_29, nL_30, nL_31, nL_32, nL_33, nL_34, nL_35, nL_36, nL_37, nL_38, nL_39, nL_40, nL_41, nL_42, nL_43, nL_44, nL_45, nL_46, nL_47, nL_48, nL_49, nL_50, nL_51, nL_52, nL_53, nL_54, nL_55, nL_56, nL_57, nL_58, nL_59, nL_60, nL_61, nL_62, nL_63, nL_64, nL_65, nL_66, nL_67, nL_68, nL_69, nL_70, nL_400, nL_402, nL_800, nL_2000]
/-! steps written one behind the other -/
def wK (f : Nat → Nat) (p : Nat) : List (Nat × Nat) → Nat → Nat
  | [] => f
  | s :: r => wK (va_up f p s.1) (p + 1) r
def wV (f : Nat → Int32) (p : Nat) : List (Nat × Nat) → Nat → Int32
  | [] => f
  | s :: r => wV (upd f p (nI s.2)) (p + 1) r
theorem wK_app (l m : List (Nat × Nat)) : ∀ (f : Nat → Nat) (p : Nat), wK f p (l ++ m) = wK (wK f p l) (p + l.length) m := by
  induction l with
  | nil => intro f p; rfl
  | cons s r ih =>
    intro f p
    show wK (va_up f p s.1) (p + 1) (r ++ m) = wK (wK (va_up f p s.1) (p + 1) r) (p + (r.length + 1)) m
    rw [ih, show p + 1 + r.length = p + (r.length + 1) by omega]
theorem wV_app (l m : List (Nat × Nat)) : ∀ (f : Nat → Int32) (p : Nat), wV f p (l ++ m) = wV (wV f p l) (p + l.length) m := by
  induction l with
  | nil => intro f p; rfl
  | cons s r ih =>
    intro f p
    show wV (upd f p (nI s.2)) (p + 1) (r ++ m) = wV (wV (upd f p (nI s.2)) (p + 1) r) (p + (r.length + 1)) m
    rw [ih, show p + 1 + r.length = p + (r.length + 1) by omega]
theorem wK_lo (l : List (Nat × Nat)) : ∀ (f : Nat → Nat) (p j : Nat), j < p → wK f p l j = f j := by
  induction l with
  | nil => intro f p j _; rfl
  | cons s r ih =>
    intro f p j hj
    show wK (va_up f p s.1) (p + 1) r j = f j
    rw [ih _ _ _ (by omega)]
    unfold va_up
    rw [if_neg (by omega)]
theorem wV_lo (l : List (Nat × Nat)) : ∀ (f : Nat → Int32) (p j : Nat), j < p → wV f p l j = f j := by
  induction l with
  | nil => intro f p j _; rfl
  | cons s r ih =>
    intro f p j hj
    show wV (upd f p (nI s.2)) (p + 1) r j = f j
    rw [ih _ _ _ (by omega), upd_else _ _ (by omega)]
theorem wK_at (l : List (Nat × Nat)) : ∀ (f : Nat → Nat) (p i : Nat) (x : Nat × Nat), l[i]? = some x → wK f p l (p + i) = x.1 := by
  induction l with
  | nil => intro f p i x h; exact absurd h (by simp)
  | cons s r ih =>
    intro f p i x h
    cases i with
    | zero =>
      have hs : s = x := Option.some.inj h
      show wK (va_up f p s.1) (p + 1) r (p + 0) = x.1
      rw [wK_lo _ _ _ _ (by omega), hs]
      unfold va_up
      rw [if_pos (by omega)]
    | succ i =>
      show wK (va_up f p s.1) (p + 1) r (p + (i + 1)) = x.1
      rw [show p + (i + 1) = p + 1 + i by omega]
      exact ih _ _ _ _ h
theorem wV_at (l : List (Nat × Nat)) : ∀ (f : Nat → Int32) (p i : Nat) (x : Nat × Nat), l[i]? = some x → wV f p l (p + i) = nI x.2 := by
  induction l with
  | nil => intro f p i x h; exact absurd h (by simp)
  | cons s r ih =>
    intro f p i x h
    cases i with
    | zero =>
      have hs : s = x := Option.some.inj h
      show wV (upd f p (nI s.2)) (p + 1) r (p + 0) = nI x.2
      rw [wV_lo _ _ _ _ (by omega), hs]
      exact upd_same _ _ _
    | succ i =>
      show wV (upd f p (nI s.2)) (p + 1) r (p + (i + 1)) = nI x.2
      rw [show p + (i + 1) = p + 1 + i by omega]
      exact ih _ _ _ _ h
/-- the steps of a tree whose first token is token c: kinds, and the places of the tokens -/
def nlen (h : Nat) (t : Nd h) : Nat := (ntk h t []).length
theorem oL_lq {α : Type} {f g : α → List Tk} {o : Option α} (h : ∀ x, (f x).length = (g x).length) : (oL f o).length = (oL g o).length := by
  cases o with
  | none => rfl
  | some x => exact h x
theorem len_c {α : Type} {x y : α} {a b : List α} (h : a.length = b.length) : (x :: a).length = (y :: b).length := congrArg Nat.succ h
theorem len_a {α : Type} {a b c d : List α} (h : a.length = c.length) (k : b.length = d.length) : (a ++ b).length = (c ++ d).length := by rw [List.length_append, List.length_append, h, k]
theorem len_i {α : Type} {p : Prop} [Decidable p] {a b c d : List α} (h : a.length = c.length) (k : b.length = d.length) : (if p then a else b).length = (if p then c else d).length := by
  by_cases q : p
  · rw [if_pos q, if_pos q]; exact h
  · rw [if_neg q, if_neg q]; exact k
theorem ntk_len : ∀ (h : Nat) (t : Nd h) (b : List Nat), (ntk h t b).length = nlen h t := by
  intro h
  induction h with
  | zero => intro t; exact t.elim
  | succ h ih =>
    intro t b
    have e : ∀ (b b' : List Nat) (o : Option (Nd h)), (oL (fun x => ntk h x b) o).length = (oL (fun x => ntk h x b') o).length := fun b b' o => oL_lq (fun x => by rw [ih x b, ih x b'])
    unfold nlen
    rw [ntk_s, ntk_s]
    repeat' first
      | refine len_i ?_ ?_
      | exact rfl
      | exact e _ _ _
      | apply len_c
      | apply len_a
def stp : (h : Nat) → Nd h → Nat → List (Nat × Nat)
  | 0, _ => fun _ => []
  | h + 1, t => fun c =>
    if t.1 ≤ 1 then [(ndK t.1 t.2.1, c)]
    else if t.1 = 2 then [(6, c + 2)]
    else if t.1 = 15 ∨ t.1 = 16 ∨ t.1 = 17 then [(ndK t.1 t.2.1, c + 1)]
    else (fun d : Nat => oL (fun x => stp h x d) t.2.2.1 ++ (oL (fun x => stp h x (d + (oL (fun y => [nlen h y]) t.2.2.1).sum + 1)) t.2.2.2 ++ [(ndK t.1 t.2.1, 0)])) (if t.1 = 4 ∨ t.1 = 5 then c + 2 else if 10 ≤ t.1 ∧ t.1 < 15 then c else c + 1)
