/-! tests of orders: what the class's stack and the model's row of values come to -/
/-- a value in the steps s .. e - 1 (ty 0: a number, 1: a test); lI, lB: what stands for itself -/
def Ex (lI lB : Nat → Prop) (K : Nat → Nat) (S L R : Nat → Int32) (ty s e : Nat) : Prop := ∀ Pr : Nat → Nat → Nat → Prop,
  (∀ i, lI i → Pr 0 i (i + 1)) → (∀ i, lB i → Pr 1 i (i + 1)) →
  (∀ a m, Pr 1 a m → K m = 27 → S m = nI 26 → L m = nI (m - 1) → Pr 1 a (m + 1)) →
  (∀ a m, Pr 0 a m → K m = 51 → S m = nI 70 → L m = nI (m - 1) → Pr 0 a (m + 1)) →
  (∀ a m b, Pr 0 a m → Pr 0 m b → (K b = 38 ∧ S b = nI 50 ∨ K b = 39 ∧ S b = nI 51 ∨ K b = 40 ∧ S b = nI 52 ∨ K b = 41 ∧ S b = nI 53 ∨ K b = 30 ∧ S b = nI 29 ∨ K b = 31 ∧ S b = nI 30) → L b = nI (m - 1) → R b = nI (b - 1) → Pr 0 a (b + 1)) →
  (∀ a m b, Pr 0 a m → Pr 0 m b → (K b = 42 ∧ S b = nI 54 ∨ K b = 43 ∧ S b = nI 55 ∨ K b = 44 ∧ S b = nI 56 ∨ K b = 45 ∧ S b = nI 57 ∨ K b = 46 ∧ S b = nI 58) → L b = nI (m - 1) → R b = nI (b - 1) → Pr 1 a (b + 1)) →
  (∀ a m b, Pr 1 a m → Pr 1 m b → (K b = 28 ∧ S b = nI 27 ∨ K b = 29 ∧ S b = nI 28) → L b = nI (m - 1) → R b = nI (b - 1) → Pr 1 a (b + 1)) →
  Pr ty s e
theorem Ex_lI {lI lB : Nat → Prop} {K : Nat → Nat} {S L R : Nat → Int32} {i : Nat} (h : lI i) : Ex lI lB K S L R 0 i (i + 1) := fun _ h1 _ _ _ _ _ _ => h1 i h
theorem Ex_lB {lI lB : Nat → Prop} {K : Nat → Nat} {S L R : Nat → Int32} {i : Nat} (h : lB i) : Ex lI lB K S L R 1 i (i + 1) := fun _ _ h2 _ _ _ _ _ => h2 i h
theorem Ex_not {lI lB : Nat → Prop} {K : Nat → Nat} {S L R : Nat → Int32} {a m : Nat} (h : Ex lI lB K S L R 1 a m) (e1 : K m = 27) (e2 : S m = nI 26) (e3 : L m = nI (m - 1)) : Ex lI lB K S L R 1 a (m + 1) := fun Pr h1 h2 h3 h4 h5 h6 h7 => h3 a m (h Pr h1 h2 h3 h4 h5 h6 h7) e1 e2 e3
theorem Ex_neg {lI lB : Nat → Prop} {K : Nat → Nat} {S L R : Nat → Int32} {a m : Nat} (h : Ex lI lB K S L R 0 a m) (e1 : K m = 51) (e2 : S m = nI 70) (e3 : L m = nI (m - 1)) : Ex lI lB K S L R 0 a (m + 1) := fun Pr h1 h2 h3 h4 h5 h6 h7 => h4 a m (h Pr h1 h2 h3 h4 h5 h6 h7) e1 e2 e3
theorem Ex_ar {lI lB : Nat → Prop} {K : Nat → Nat} {S L R : Nat → Int32} {a m b : Nat} (g : Ex lI lB K S L R 0 a m) (h : Ex lI lB K S L R 0 m b) (e1 : K b = 38 ∧ S b = nI 50 ∨ K b = 39 ∧ S b = nI 51 ∨ K b = 40 ∧ S b = nI 52 ∨ K b = 41 ∧ S b = nI 53 ∨ K b = 30 ∧ S b = nI 29 ∨ K b = 31 ∧ S b = nI 30) (e2 : L b = nI (m - 1)) (e3 : R b = nI (b - 1)) : Ex lI lB K S L R 0 a (b + 1) := fun Pr h1 h2 h3 h4 h5 h6 h7 => h5 a m b (g Pr h1 h2 h3 h4 h5 h6 h7) (h Pr h1 h2 h3 h4 h5 h6 h7) e1 e2 e3
theorem Ex_cm {lI lB : Nat → Prop} {K : Nat → Nat} {S L R : Nat → Int32} {a m b : Nat} (g : Ex lI lB K S L R 0 a m) (h : Ex lI lB K S L R 0 m b) (e1 : K b = 42 ∧ S b = nI 54 ∨ K b = 43 ∧ S b = nI 55 ∨ K b = 44 ∧ S b = nI 56 ∨ K b = 45 ∧ S b = nI 57 ∨ K b = 46 ∧ S b = nI 58) (e2 : L b = nI (m - 1)) (e3 : R b = nI (b - 1)) : Ex lI lB K S L R 1 a (b + 1) := fun Pr h1 h2 h3 h4 h5 h6 h7 => h6 a m b (g Pr h1 h2 h3 h4 h5 h6 h7) (h Pr h1 h2 h3 h4 h5 h6 h7) e1 e2 e3
theorem Ex_lo {lI lB : Nat → Prop} {K : Nat → Nat} {S L R : Nat → Int32} {a m b : Nat} (g : Ex lI lB K S L R 1 a m) (h : Ex lI lB K S L R 1 m b) (e1 : K b = 28 ∧ S b = nI 27 ∨ K b = 29 ∧ S b = nI 28) (e2 : L b = nI (m - 1)) (e3 : R b = nI (b - 1)) : Ex lI lB K S L R 1 a (b + 1) := fun Pr h1 h2 h3 h4 h5 h6 h7 => h7 a m b (g Pr h1 h2 h3 h4 h5 h6 h7) (h Pr h1 h2 h3 h4 h5 h6 h7) e1 e2 e3
theorem Ex_len {lI lB : Nat → Prop} {K : Nat → Nat} {S L R : Nat → Int32} {ty s e : Nat} (h : Ex lI lB K S L R ty s e) : s < e := by
  refine h (fun _ a b => a < b) ?_ ?_ ?_ ?_ ?_ ?_ ?_ <;> intros <;> omega
/-- other rows that say the same there -/
theorem Ex_mono {lI lB lI' lB' : Nat → Prop} {K K' : Nat → Nat} {S L R S' L' R' : Nat → Int32} {ty s e : Nat} (h : Ex lI lB K S L R ty s e) (q : ∀ i, s ≤ i → i < e → (lI i → lI' i) ∧ (lB i → lB' i) ∧ K' i = K i ∧ S' i = S i ∧ L' i = L i ∧ R' i = R i) : Ex lI' lB' K' S' L' R' ty s e := by
  have key : s < e ∧ (s ≤ s → e ≤ e → Ex lI' lB' K' S' L' R' ty s e) := by
    refine h (fun t a b => a < b ∧ (s ≤ a → b ≤ e → Ex lI' lB' K' S' L' R' t a b)) (fun i hi => ⟨by omega, fun u v => Ex_lI ((q i u (by omega)).1 hi)⟩) (fun i hi => ⟨by omega, fun u v => Ex_lB ((q i u (by omega)).2.1 hi)⟩) (fun a m g e1 e2 e3 => ⟨by omega, fun u v => ?_⟩) (fun a m g e1 e2 e3 => ⟨by omega, fun u v => ?_⟩) (fun a m b g g' e1 e2 e3 => ⟨by omega, fun u v => ?_⟩) (fun a m b g g' e1 e2 e3 => ⟨by omega, fun u v => ?_⟩) (fun a m b g g' e1 e2 e3 => ⟨by omega, fun u v => ?_⟩)
    · obtain ⟨-, -, k1, k2, k3, k4⟩ := q m (by omega) (by omega)
      exact Ex_not (g.2 u (by omega)) (k1.trans e1) (k2.trans e2) (k3.trans e3)
    · obtain ⟨-, -, k1, k2, k3, k4⟩ := q m (by omega) (by omega)
      exact Ex_neg (g.2 u (by omega)) (k1.trans e1) (k2.trans e2) (k3.trans e3)
    · obtain ⟨-, -, k1, k2, k3, k4⟩ := q b (by omega) (by omega)
      exact Ex_ar (g.2 u (by omega)) (g'.2 (by omega) (by omega)) (by rw [k1, k2]; exact e1) (k3.trans e2) (k4.trans e3)
    · obtain ⟨-, -, k1, k2, k3, k4⟩ := q b (by omega) (by omega)
      exact Ex_cm (g.2 u (by omega)) (g'.2 (by omega) (by omega)) (by rw [k1, k2]; exact e1) (k3.trans e2) (k4.trans e3)
    · obtain ⟨-, -, k1, k2, k3, k4⟩ := q b (by omega) (by omega)
      exact Ex_lo (g.2 u (by omega)) (g'.2 (by omega) (by omega)) (by rw [k1, k2]; exact e1) (k3.trans e2) (k4.trans e3)
  exact key.2 (by omega) (by omega)
def foldO {X : Type} (f : Nat → X → Option X) (s : Nat) : Nat → X → Option X
  | 0, x => some x
  | l + 1, x => (foldO f s l x).bind (f (s + l))
theorem foldO_app {X : Type} {f : Nat → X → Option X} {s l x y} : ∀ {l2 : Nat}, foldO f s l x = some y → foldO f s (l + l2) x = foldO f (s + l) l2 y
  | 0, h => h
  | l2 + 1, h => by
    show (foldO f s (l + l2) x).bind (f (s + (l + l2))) = (foldO f (s + l) l2 y).bind (f (s + l + l2))
    rw [foldO_app h, Nat.add_assoc]
theorem foldO_s {X : Type} {f : Nat → X → Option X} {s l : Nat} {x y : X} (h : foldO f s l x = some y) : foldO f s (l + 1) x = f (s + l) y := by
  show (foldO f s l x).bind (f (s + l)) = _
  rw [h]
  rfl
/-- the value of a front's number, a guest's number, a word -/
def lfI (K : Nat → Nat) (V S L : Nat → Int32) (nf : Nat) (i : Nat) : Prop := (K i = 48 ∧ S i = nI 41 ∧ V i = L i) ∨ (K i = 22 ∧ S i = nI 24) ∨ (∃ w, w < 6 ∧ K i = 16 + w ∧ S i = nI (16 + w)) ∨ (K i = 6 ∧ S i = nI 6 ∧ ∃ f, f < nf ∧ V i = nI f ∧ L i = nI f)
def lfB (K : Nat → Nat) (V S L : Nat → Int32) (nf ng : Nat) (i : Nat) : Prop := (K i = 24 ∧ S i = nI 23 ∧ ∃ f, f < nf ∧ V i = nI f ∧ L i = nI f) ∨ (K i = 23 ∧ S i = nI 22 ∧ ∃ g, g < ng ∧ V i = nI g ∧ L i = nI g) ∨ (K i = 25 ∧ S i = nI 25 ∧ ∃ g, g < ng ∧ V i = nI g ∧ L i = nI g)
section P9
variable {F : bX2} {G : bX4} {T : bX13} {nf ng : Nat} {fo fr hr gr : Nat → Nat} {N : Nat → Int32} {h n : Nat} {th bs ea tk wr er et dp : Int32} {ta kd nu po ln fn gn va kp : Nat → Int32}
variable {ho wa sr ch lm sa co sm : Int32} {fs gs gt : Nat → Int32}
abbrev stpC (K : Nat → Nat) (V : Nat → Int32) (P : bX8) (F : bX2) (G : bX4) (i : Nat) (x : (Nat → Int32) × Int32) : Option ((Nat → Int32) × Int32) := f_X9_step (K i) (V i) x P F G
abbrev stpM (S L R : Nat → Int32) (B : bX14) (T : bX13) (i : Nat) (x : Nat → Int32) : Option (Nat → Int32) := (f_X14_reckon (S i) (L i) (R i) (X14_thrown B, X14_tape B, X14_bytes B, X14_errorAt B, X14_kind B, X14_number B, X14_position B, X14_length B, X14_token B, X14_isWrong B, X14_error B, X14_errorToken B, X14_deep B, X14_frontName B, X14_guestName B, x, X14_now B, X14_kept B) T).bind fun u => some (upd x i u)
/-- class and model come to the same -/
def Sem (K : Nat → Nat) (V S L R : Nat → Int32) (P : bX8) (F : bX2) (G : bX4) (B : bX14) (T : bX13) (ty s e : Nat) : Prop := s < e ∧ (e ≤ 400 → ∀ (k : Nat) (stk va : Nat → Int32), k + (e - s) ≤ 400 → ∃ (stk' va' : Nat → Int32) (v : Int32),
  foldO (stpC K V P F G) s (e - s) (stk, nI k) = some (stk', nI (k + 1)) ∧ foldO (stpM S L R B T) s (e - s) va = some va' ∧ stk' k = v ∧ (∀ j, j < k → stk' j = stk j) ∧ va' (e - 1) = v ∧ (∀ j, j < s ∨ e ≤ j → va' j = va j) ∧ (ty = 1 → v = nI 0 ∨ v = nI 1))
theorem k_push {stk : Nat → Int32} {k : Nat} (hk : k < 400) (x : Int32) : f_X9_push x (stk, nI k) = some (upd stk k x, nI (k + 1)) := by
  unfold f_X9_push
  simp (disch := omega) only [X9_height, X9_stack, sb, nJ_of, nJ_lt, nJ_le, nJ_eq, nJ_clamp, nJ_add, nJ_sub, if_pos, if_neg, if_true, if_false, nL_0, nL_1, nL_2, nL_3, nL_4, nL_5, nL_6, nL_7, nL_8, nL_9, nL_10, nL_11, nL_12, nL_13, nL_14, nL_15, nL_16, nL_17, nL_18, nL_19, nL_20, nL_21, nL_22, nL_23, nL_24, nL_25, nL_26, nL_27, nL_28, nL_29, nL_30, nL_31, nL_32, nL_33, nL_34, nL_35, nL_36, nL_37, nL_38, nL_39, nL_40, nL_41, nL_42, nL_43, nL_44, nL_45, nL_46, nL_47, nL_48, nL_49, nL_50, nL_51, nL_52, nL_53, nL_54, nL_55, nL_56, nL_57, nL_58, nL_59, nL_60, nL_61, nL_62, nL_63, nL_64, nL_65, nL_66, nL_67, nL_68, nL_69, nL_70, nL_400, nL_402, nL_800, nL_2000]
theorem k_pop {stk : Nat → Int32} {k : Nat} (hk : k < 400) : f_X9_pop (stk, nI (k + 1)) = some (stk k, nI k) := by
  unfold f_X9_pop
  simp (disch := omega) only [X9_height, X9_stack, Nat.add_sub_cancel, sb, nJ_of, nJ_lt, nJ_le, nJ_eq, nJ_clamp, nJ_add, nJ_sub, if_pos, if_neg, if_true, if_false, nL_0, nL_1, nL_2, nL_3, nL_4, nL_5, nL_6, nL_7, nL_8, nL_9, nL_10, nL_11, nL_12, nL_13, nL_14, nL_15, nL_16, nL_17, nL_18, nL_19, nL_20, nL_21, nL_22, nL_23, nL_24, nL_25, nL_26, nL_27, nL_28, nL_29, nL_30, nL_31, nL_32, nL_33, nL_34, nL_35, nL_36, nL_37, nL_38, nL_39, nL_40, nL_41, nL_42, nL_43, nL_44, nL_45, nL_46, nL_47, nL_48, nL_49, nL_50, nL_51, nL_52, nL_53, nL_54, nL_55, nL_56, nL_57, nL_58, nL_59, nL_60, nL_61, nL_62, nL_63, nL_64, nL_65, nL_66, nL_67, nL_68, nL_69, nL_70, nL_400, nL_402, nL_800, nL_2000]
theorem k_isIn {a b c : Nat} (ha : a < 1000000) (hb : b < 1000000) (hc : c < 1000000) : f_X14_isIn (nI a) (nI b) (nI c) = some (if b ≤ a ∧ a ≤ c then nI 1 else nI 0) := by
  unfold f_X14_isIn
  by_cases d : a < b
  · simp (disch := omega) only [sb, nJ_of, nJ_lt, nJ_le, nJ_eq, nJ_clamp, nJ_add, nJ_sub, if_pos, if_neg, if_true, if_false, nL_0, nL_1, nL_2, nL_3, nL_4, nL_5, nL_6, nL_7, nL_8, nL_9, nL_10, nL_11, nL_12, nL_13, nL_14, nL_15, nL_16, nL_17, nL_18, nL_19, nL_20, nL_21, nL_22, nL_23, nL_24, nL_25, nL_26, nL_27, nL_28, nL_29, nL_30, nL_31, nL_32, nL_33, nL_34, nL_35, nL_36, nL_37, nL_38, nL_39, nL_40, nL_41, nL_42, nL_43, nL_44, nL_45, nL_46, nL_47, nL_48, nL_49, nL_50, nL_51, nL_52, nL_53, nL_54, nL_55, nL_56, nL_57, nL_58, nL_59, nL_60, nL_61, nL_62, nL_63, nL_64, nL_65, nL_66, nL_67, nL_68, nL_69, nL_70, nL_400, nL_402, nL_800, nL_2000]
  · by_cases e : c < a
    · simp (disch := omega) only [sb, nJ_of, nJ_lt, nJ_le, nJ_eq, nJ_clamp, nJ_add, nJ_sub, if_pos, if_neg, if_true, if_false, nL_0, nL_1, nL_2, nL_3, nL_4, nL_5, nL_6, nL_7, nL_8, nL_9, nL_10, nL_11, nL_12, nL_13, nL_14, nL_15, nL_16, nL_17, nL_18, nL_19, nL_20, nL_21, nL_22, nL_23, nL_24, nL_25, nL_26, nL_27, nL_28, nL_29, nL_30, nL_31, nL_32, nL_33, nL_34, nL_35, nL_36, nL_37, nL_38, nL_39, nL_40, nL_41, nL_42, nL_43, nL_44, nL_45, nL_46, nL_47, nL_48, nL_49, nL_50, nL_51, nL_52, nL_53, nL_54, nL_55, nL_56, nL_57, nL_58, nL_59, nL_60, nL_61, nL_62, nL_63, nL_64, nL_65, nL_66, nL_67, nL_68, nL_69, nL_70, nL_400, nL_402, nL_800, nL_2000]
    · simp (disch := omega) only [sb, nJ_of, nJ_lt, nJ_le, nJ_eq, nJ_clamp, nJ_add, nJ_sub, if_pos, if_neg, if_true, if_false, nL_0, nL_1, nL_2, nL_3, nL_4, nL_5, nL_6, nL_7, nL_8, nL_9, nL_10, nL_11, nL_12, nL_13, nL_14, nL_15, nL_16, nL_17, nL_18, nL_19, nL_20, nL_21, nL_22, nL_23, nL_24, nL_25, nL_26, nL_27, nL_28, nL_29, nL_30, nL_31, nL_32, nL_33, nL_34, nL_35, nL_36, nL_37, nL_38, nL_39, nL_40, nL_41, nL_42, nL_43, nL_44, nL_45, nL_46, nL_47, nL_48, nL_49, nL_50, nL_51, nL_52, nL_53, nL_54, nL_55, nL_56, nL_57, nL_58, nL_59, nL_60, nL_61, nL_62, nL_63, nL_64, nL_65, nL_66, nL_67, nL_68, nL_69, nL_70, nL_400, nL_402, nL_800, nL_2000]
/-- one leaf -/
theorem sem_leaf {K : Nat → Nat} {V S L R : Nat → Int32} {P : bX8} {F : bX2} {G : bX4} {B : bX14} {T : bX13} {ty i : Nat} (v : Int32) (hC : ∀ (k : Nat) (stk : Nat → Int32), k < 400 → f_X9_step (K i) (V i) (stk, nI k) P F G = some (upd stk k v, nI (k + 1))) (hM : ∀ va : Nat → Int32, i < 400 → stpM S L R B T i va = some (upd va i v)) (hv : ty = 1 → v = nI 0 ∨ v = nI 1) : Sem K V S L R P F G B T ty i (i + 1) := by
  refine ⟨by omega, fun he k stk va hk => ⟨upd stk k v, upd va i v, v, ?_, ?_, upd_same _ _ _, fun j hj => upd_else _ _ (by omega), ?_, fun j hj => upd_else _ _ (by omega), hv⟩⟩
  · rw [Nat.add_sub_cancel_left]
    show f_X9_step (K i) (V i) (stk, nI k) P F G = _
    exact hC k stk (by omega)
  · rw [Nat.add_sub_cancel_left]
    show stpM S L R B T i va = _
    exact hM va (by omega)
  · rw [Nat.add_sub_cancel]
    exact upd_same _ _ _
end P9
