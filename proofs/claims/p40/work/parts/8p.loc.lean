/-! WHERE NAMES STAND in a plan's tokens; what the steps of a test tell -/
def LocT (nf ng : Nat) (l : List Tk) : Prop := ∀ i t, l[i]? = some t → ((kdL t.1 = 11 ∨ kdL t.1 = 24 ∨ kdL t.1 = 26) → ∃ j b, j < nf ∧ l[i + 1]? = some (nmL 102 j, b)) ∧ ((kdL t.1 = 14 ∨ kdL t.1 = 23 ∨ kdL t.1 = 25) → ∃ j b, j < ng ∧ l[i + 1]? = some (nmL 103 j, b)) ∧ kdL t.1 ≠ 0 ∧ kdL t.1 ≠ 7 ∧ kdL t.1 < 51
theorem get_l {α : Type} {a b : List α} {i : Nat} {x : α} (h : a[i]? = some x) : (a ++ b)[i]? = some x := by
  rw [List.getElem?_append_left (List.getElem?_eq_some_iff.mp h).1]; exact h
theorem get_r {α : Type} {a b : List α} {i : Nat} {x : α} (h : b[i]? = some x) : (a ++ b)[a.length + i]? = some x := by
  rw [List.getElem?_append_right (Nat.le_add_right _ _), Nat.add_sub_cancel_left]; exact h
theorem LocT_a {nf ng : Nat} {a b : List Tk} (ha : LocT nf ng a) (hb : LocT nf ng b) : LocT nf ng (a ++ b) := by
  intro i t h
  by_cases q : i < a.length
  · rw [List.getElem?_append_left q] at h
    obtain ⟨h1, h2, h3⟩ := ha i t h
    refine ⟨fun z => ?_, fun z => ?_, h3⟩
    · obtain ⟨j, b', hj, e⟩ := h1 z
      exact ⟨j, b', hj, get_l e⟩
    · obtain ⟨j, b', hj, e⟩ := h2 z
      exact ⟨j, b', hj, get_l e⟩
  · rw [List.getElem?_append_right (by omega)] at h
    obtain ⟨h1, h2, h3⟩ := hb _ t h
    have ei : a.length + (i - a.length + 1) = i + 1 := by omega
    refine ⟨fun z => ?_, fun z => ?_, h3⟩
    · obtain ⟨j, b', hj, e⟩ := h1 z
      have e := get_r (a := a) e
      rw [ei] at e
      exact ⟨j, b', hj, e⟩
    · obtain ⟨j, b', hj, e⟩ := h2 z
      have e := get_r (a := a) e
      rw [ei] at e
      exact ⟨j, b', hj, e⟩
def ocL : List Tk → Nat
  | [] => 0
  | t :: r => isO (kdL t.1) + ocL r
theorem ocL_a (a b : List Tk) : ocL (a ++ b) = ocL a + ocL b := by
  induction a with
  | nil => exact (Nat.zero_add _).symm
  | cons t r ih =>
    show isO _ + ocL (r ++ b) = isO _ + ocL r + ocL b
    rw [ih, Nat.add_assoc]
theorem ocn_a (K : Nat → Nat) (c a : Nat) : ∀ b, ocn K c (a + b) = ocn K c a + ocn K (c + a) b := by
  intro b
  induction b with
  | zero => rfl
  | succ b ih =>
    show ocn K c (a + b) + isO (K (c + (a + b))) = ocn K c a + (ocn K (c + a) b + isO (K (c + a + b)))
    rw [ih, show c + (a + b) = c + a + b by omega, Nat.add_assoc]
theorem ocn_L {K : Nat → Nat} : ∀ (l : List Tk) (c : Nat), Tks K c l → ocn K c l.length = ocL l := by
  intro l
  induction l with
  | nil => intro c _; rfl
  | cons t r ih =>
    intro c h
    obtain ⟨h1, h2⟩ := Tks_h h
    rw [List.length_cons, show r.length + 1 = 1 + r.length by omega, ocn_a, ih (c + 1) h2]
    show 0 + isO (K (c + 0)) + ocL r = isO (kdL t.1) + ocL r
    rw [Nat.zero_add, Nat.add_zero, h1]
/-- no order begins in it, and each name is one that was told -/
def QL (nf ng : Nat) (l : List Tk) : Prop := LocT nf ng l ∧ ocL l = 0
theorem QL_a {nf ng : Nat} {a b : List Tk} (ha : QL nf ng a) (hb : QL nf ng b) : QL nf ng (a ++ b) := ⟨LocT_a ha.1 hb.1, by rw [ocL_a, ha.2, hb.2]⟩
theorem LocT_1 {nf ng : Nat} {t : Tk} (h : quiet (kdL t.1)) : QL nf ng [t] := by
  obtain ⟨q0, q1, q2, q3, q4, q5, q6, q7, q8, q9, q10⟩ := h
  refine ⟨fun i s hs => ?_, ?_⟩
  · cases i with
    | zero =>
      have e : t = s := Option.some.inj hs
      subst e
      exact ⟨fun z => by omega, fun z => by omega, q1, q2, q0⟩
    | succ i => exact absurd hs (by rw [List.getElem?_cons_succ, List.getElem?_nil]; intro z; cases z)
  · show isO (kdL t.1) + 0 = 0
    unfold isO
    rw [if_neg (by omega)]
theorem QL_c {nf ng : Nat} {t : Tk} {r : List Tk} (h : quiet (kdL t.1)) (hr : QL nf ng r) : QL nf ng (t :: r) := QL_a (LocT_1 h) hr
theorem QL_k {nf ng k : Nat} {b : List Nat} {r : List Tk} (hk : k < 47) (hq : quiet k) (hr : QL nf ng r) : QL nf ng ((kw k, b) :: r) := QL_c (by rw [kw_kd k hk]; exact hq) hr
theorem QL_n {nf ng v : Nat} {b : List Nat} (hv : v < 1000000) : QL nf ng [(decL v, b)] := LocT_1 (by rw [(num_tok (nx := 32) hv (by decide)).2]; unfold quiet; omega)
theorem LocT_2 {nf ng k c j : Nat} {b b' : List Nat} (hk : k < 47) (hc : c = 102 ∨ c = 103) (hj : j < 10) (h0 : k ≠ 0) (h7 : k ≠ 7) (h1 : (k = 11 ∨ k = 24 ∨ k = 26) → c = 102 ∧ j < nf) (h2 : (k = 14 ∨ k = 23 ∨ k = 25) → c = 103 ∧ j < ng) : LocT nf ng [(kw k, b), (nmL c j, b')] := by
  intro i s hs
  have en := (nm_f c hc j hj).1
  rcases (show i = 0 ∨ i = 1 ∨ 2 ≤ i by omega) with rfl | rfl | q
  · have e : (kw k, b) = s := Option.some.inj hs
    subst e
    show (kdL (kw k) = 11 ∨ _ → _) ∧ _
    have e : kdL (kw k, b).1 = k := kw_kd k hk
    rw [show kdL (kw k) = k from e]
    refine ⟨fun z => ?_, fun z => ?_, h0, h7, by omega⟩
    · obtain ⟨rfl, hj'⟩ := h1 z
      exact ⟨j, b', hj', rfl⟩
    · obtain ⟨rfl, hj'⟩ := h2 z
      exact ⟨j, b', hj', rfl⟩
  · have e : (nmL c j, b') = s := Option.some.inj hs
    subst e
    have e : kdL (nmL c j, b').1 = 47 := en
    rw [e]
    exact ⟨fun z => by omega, fun z => by omega, by omega, by omega, by omega⟩
  · rw [List.getElem?_eq_none (show [(kw k, b), (nmL c j, b')].length ≤ i from q)] at hs
    cases hs
theorem QL_2 {nf ng k c j : Nat} {b b' : List Nat} (hk : k < 47) (hc : c = 102 ∨ c = 103) (hj : j < 10) (h0 : k = 24 ∨ k = 26 ∨ k = 23 ∨ k = 25) (h1 : (k = 24 ∨ k = 26) → c = 102 ∧ j < nf) (h2 : (k = 23 ∨ k = 25) → c = 103 ∧ j < ng) : QL nf ng [(kw k, b), (nmL c j, b')] := by
  refine ⟨LocT_2 hk hc hj (by omega) (by omega) (fun z => h1 (by omega)) (fun z => h2 (by omega)), ?_⟩
  show isO (kdL (kw k)) + (isO (kdL (nmL c j)) + 0) = 0
  rw [kw_kd k hk, (nm_f c hc j hj).1]
  unfold isO
  rw [if_neg (by omega), if_neg (by omega)]
theorem QL_0 {nf ng : Nat} : QL nf ng [] := ⟨fun i t h => (by rw [List.getElem?_nil] at h; cases h), rfl⟩
theorem ntk_ql {nf ng : Nat} (hnf : nf ≤ 10) (hng : ng ≤ 10) : ∀ (h : Nat) (t : Nd h) (b : List Nat), GrOk nf ng h t → QL nf ng (ntk h t b) := by
  intro h
  induction h with
  | zero => intro t _ H; exact H.elim
  | succ h ih =>
    intro t b H
    rcases H with ⟨hs, hn, -⟩ | ⟨hs, hn, -⟩ | ⟨hs, hn, -⟩ | ⟨hs, ⟨x, hx, hxo, -⟩, -⟩ | ⟨⟨h4, h9⟩, ⟨x, hx, hxo, -⟩, y, hy, hyo, -⟩ | ⟨⟨h6, h9⟩, ⟨x, hx, hxo, -⟩, y, hy, hyo, -⟩ | ⟨hs, hn, -⟩ | ⟨hs | hs, hn, -⟩ | ⟨hs, ⟨x, hx, hxo, -⟩, -⟩ | ⟨hs | hs, ⟨x, hx, hxo, -⟩, y, hy, hyo, -⟩
    · rw [ntk_0 hs]; exact QL_n hn
    · rw [ntk_1 hs]; exact QL_k (by omega) (by unfold quiet; omega) QL_0
    · rw [ntk_2 hs]
      exact QL_k (by omega) (by unfold quiet; omega) (QL_2 (by omega) (Or.inl rfl) (by omega) (by omega) (fun _ => ⟨rfl, hn⟩) (fun z => by omega))
    · rw [ntk_3 hs, hx]; exact QL_k (by omega) (by unfold quiet; omega) (ih x b hxo)
    · by_cases q4 : t.1 = 4
      · rw [ntk_4 q4, hx, hy]
        exact QL_k (by omega) (by unfold quiet; omega) (QL_k (by omega) (by unfold quiet; omega) (QL_a (ih x [] hxo) (QL_k (by omega) (by unfold quiet; omega) (QL_a (ih y [] hyo) (QL_k (by omega) (by unfold quiet; omega) QL_0)))))
      by_cases q5 : t.1 = 5
      · rw [ntk_5 q5, hx, hy]
        exact QL_k (by omega) (by unfold quiet; omega) (QL_k (by omega) (by unfold quiet; omega) (QL_a (ih x [32] hxo) (QL_k (by omega) (by unfold quiet; omega) (QL_a (ih y [] hyo) (QL_k (by omega) (by unfold quiet; omega) QL_0)))))
      rw [ntk_lo (by omega) h9, hx, hy]
      exact QL_k (by omega) (by unfold quiet; omega) (QL_a (ih x [] hxo) (QL_k (by omega) (by unfold quiet; omega) (QL_a (ih y [] hyo) (QL_k (by omega) (by unfold quiet; omega) QL_0))))
    · rw [ntk_hi h6 h9, hx, hy]
      exact QL_a (ih x [] hxo) (QL_k (by omega) (by unfold quiet; omega) (ih y b hyo))
    · rw [ntk_15 hs]; exact QL_2 (by omega) (Or.inl rfl) (by omega) (by omega) (fun _ => ⟨rfl, hn⟩) (fun z => by omega)
    · rw [ntk_16 hs]; exact QL_2 (by omega) (Or.inr rfl) (by omega) (by omega) (fun z => by omega) (fun _ => ⟨rfl, hn⟩)
    · rw [ntk_17 hs]; exact QL_2 (by omega) (Or.inr rfl) (by omega) (by omega) (fun z => by omega) (fun _ => ⟨rfl, hn⟩)
    · rw [ntk_18 hs, hx]; exact QL_k (by omega) (by unfold quiet; omega) (ih x b hxo)
    · rw [ntk_19 hs, hx, hy]
      exact QL_k (by omega) (by unfold quiet; omega) (QL_a (ih x [32] hxo) (QL_k (by omega) (by unfold quiet; omega) (QL_a (ih y [] hyo) (QL_k (by omega) (by unfold quiet; omega) QL_0))))
    · rw [ntk_20 hs, hx, hy]
      exact QL_k (by omega) (by unfold quiet; omega) (QL_a (ih x [32] hxo) (QL_k (by omega) (by unfold quiet; omega) (QL_a (ih y [] hyo) (QL_k (by omega) (by unfold quiet; omega) QL_0))))
theorem wtk_ql {nf ng : Nat} (hnf : nf ≤ 10) (hng : ng ≤ 10) {o : Od} (ho : OdOk nf ng o) : QL nf ng (wtk o) := by
  unfold wtk
  rcases ho.2 with h | ⟨t, h, ht⟩
  · rw [h]; exact QL_k (by omega) (by unfold quiet; omega) QL_0
  · rw [h]
    exact QL_k (by omega) (by unfold quiet; omega) (QL_a (ntk_ql hnf hng 4 t [] (T1_gr ht).1) (QL_k (by omega) (by unfold quiet; omega) QL_0))
theorem otk_loc {nf ng : Nat} (hnf : nf ≤ 10) (hng : ng ≤ 10) {o : Od} (ho : OdOk nf ng o) : LocT nf ng (otk o) ∧ ocL (otk o) = 1 := by
  obtain ⟨w1, w2⟩ := wtk_ql hnf hng ho
  have one : ∀ k b (r : List Tk), k < 47 → isO k = 1 → k ≠ 0 → k ≠ 7 → ocL r = 0 → ocL ((kw k, b) :: r) = 1 := fun k b r hk h1 _ _ h2 => by
    show isO (kdL (kw k)) + ocL r = 1
    rw [kw_kd k hk, h1, h2]
  have nm : ∀ c j b, (c = 102 ∨ c = 103) → j < 10 → ocL ((nmL c j, b) :: wtk o) = 0 := fun c j b hc hj => by
    show isO (kdL (nmL c j)) + ocL (wtk o) = 0
    rw [(nm_f c hc j hj).1, w2]
    rfl
  have loc1 : ∀ k b, (k = 12 ∨ k = 13) → LocT nf ng [(kw k, b)] := fun k b hk i s hs => by
    cases i with
    | zero =>
      have e : (kw k, b) = s := Option.some.inj hs
      subst e
      have e : kdL (kw k, b).1 = k := kw_kd k (by omega)
      rw [e]
      exact ⟨fun z => by omega, fun z => by omega, by omega, by omega, by omega⟩
    | succ i => exact absurd hs (by rw [List.getElem?_cons_succ, List.getElem?_nil]; intro z; cases z)
  unfold otk
  rcases ho.1 with ⟨h0, hw⟩ | ⟨h1, hw⟩ | ⟨h2 | h2, hw⟩
  · rw [if_pos h0]
    exact ⟨LocT_a (LocT_2 (by omega) (Or.inl rfl) (by omega) (by omega) (by omega) (fun _ => ⟨rfl, hw⟩) (fun z => by omega)) w1, one 11 _ _ (by omega) rfl (by omega) (by omega) (nm _ _ _ (Or.inl rfl) (by omega))⟩
  · rw [if_neg (by omega), if_pos h1]
    exact ⟨LocT_a (LocT_2 (by omega) (Or.inr rfl) (by omega) (by omega) (by omega) (fun z => by omega) (fun _ => ⟨rfl, hw⟩)) w1, one 14 _ _ (by omega) rfl (by omega) (by omega) (nm _ _ _ (Or.inr rfl) (by omega))⟩
  · rw [if_neg (by omega), if_neg (by omega), if_pos h2]
    exact ⟨LocT_a (loc1 12 _ (Or.inl rfl)) w1, one 12 _ _ (by omega) rfl (by omega) (by omega) w2⟩
  · rw [if_neg (by omega), if_neg (by omega), if_neg (by omega)]
    exact ⟨LocT_a (loc1 13 _ (Or.inr rfl)) w1, one 13 _ _ (by omega) rfl (by omega) (by omega) w2⟩
theorem otks_loc {nf ng : Nat} (hnf : nf ≤ 10) (hng : ng ≤ 10) : ∀ os : List Od, (∀ o ∈ os, OdOk nf ng o) → LocT nf ng (otks os) ∧ ocL (otks os) = os.length := by
  intro os
  induction os with
  | nil => intro _; exact ⟨QL_0.1, rfl⟩
  | cons o r ih =>
    intro h
    obtain ⟨a1, a2⟩ := otk_loc hnf hng (h o List.mem_cons_self)
    obtain ⟨b1, b2⟩ := ih (fun q hq => h q (List.mem_cons_of_mem _ hq))
    refine ⟨LocT_a a1 b1, ?_⟩
    show ocL (otk o ++ otks r) = _
    rw [ocL_a, a2, b2, List.length_cons, Nat.add_comm]
/-! steps of a test and what its tokens are -/
def F2 {α β : Type} (R : α → β → Prop) : List α → List β → Prop
  | [], [] => True
  | x :: a, y :: b => R x y ∧ F2 R a b
  | _, _ => False
theorem F2_a {α β : Type} {R : α → β → Prop} : ∀ {a c : List α} {b d : List β}, F2 R a b → F2 R c d → F2 R (a ++ c) (b ++ d)
  | [], _, [], _, _, h => h
  | [], _, _ :: _, _, h, _ => h.elim
  | _ :: _, _, [], _, h, _ => h.elim
  | _ :: _, _, _ :: _, _, h, h' => ⟨h.1, F2_a h.2 h'⟩
theorem F2_len {α β : Type} {R : α → β → Prop} : ∀ {a : List α} {b : List β}, F2 R a b → a.length = b.length
  | [], [], _ => rfl
  | [], _ :: _, h => h.elim
  | _ :: _, [], h => h.elim
  | _ :: _, _ :: _, h => congrArg Nat.succ (F2_len h.2)
theorem F2_get {α β : Type} {R : α → β → Prop} : ∀ {a : List α} {b : List β} {i : Nat} {y : β}, F2 R a b → b[i]? = some y → ∃ x, a[i]? = some x ∧ R x y
  | [], [], i, y, _, h => by rw [List.getElem?_nil] at h; cases h
  | [], _ :: _, _, _, h, _ => h.elim
  | _ :: _, [], _, _, h, _ => h.elim
  | x :: _, z :: _, 0, y, h, e => by
    have : z = y := Option.some.inj e
    subst this
    exact ⟨x, rfl, h.1⟩
  | _ :: a, _ :: b, i + 1, y, h, e => F2_get (a := a) (b := b) (i := i) h.2 e
def At (X : Nat → Option Tk) (c : Nat) (ts : List Tk) : Prop := ∀ j t, ts[j]? = some t → X (c + j) = some t
theorem At_h {X : Nat → Option Tk} {c : Nat} {t : Tk} {r : List Tk} (h : At X c (t :: r)) : X c = some t ∧ At X (c + 1) r := ⟨h 0 t rfl, fun j u hj => by
  rw [show c + 1 + j = c + (j + 1) by omega]
  exact h (j + 1) u hj⟩
theorem At_a {X : Nat → Option Tk} {c : Nat} {ts us : List Tk} (h : At X c (ts ++ us)) : At X c ts ∧ At X (c + ts.length) us := ⟨fun j t hj => h j t (get_l hj), fun j t hj => by
  have := h (ts.length + j) t (get_r hj)
  rw [Nat.add_assoc]
  exact this⟩
def Sf (X : Nat → Option Tk) (nf ng : Nat) (x y : Nat × Nat) : Prop := x.1 = y.1 ∧ (y.1 = 48 → y.2 < 1000000 ∧ ∃ b, X x.2 = some (decL y.2, b)) ∧ (y.1 = 6 ∨ y.1 = 24 → y.2 < nf ∧ ∃ d k b b', x.2 = d + 1 ∧ X d = some (kw k, b) ∧ (k = 24 ∨ k = 26) ∧ X (d + 1) = some (nmL 102 y.2, b')) ∧ (y.1 = 23 ∨ y.1 = 25 → y.2 < ng ∧ ∃ d k b b', x.2 = d + 1 ∧ X d = some (kw k, b) ∧ (k = 23 ∨ k = 25) ∧ X (d + 1) = some (nmL 103 y.2, b'))
theorem Sf_op {X : Nat → Option Tk} {nf ng s n p : Nat} (h : (3 ≤ s ∧ s < 15) ∨ (18 ≤ s ∧ s ≤ 20)) : F2 (Sf X nf ng) [(ndK s n, p)] [(ndK s n, n)] := by
  have e : ∀ k, ndK s n = k → k ≠ 48 ∧ k ≠ 6 ∧ k ≠ 24 ∧ k ≠ 23 ∧ k ≠ 25 := fun k hk => by
    subst hk
    unfold ndK
    repeat' split
    all_goals omega
  obtain ⟨e1, e2, e3, e4, e5⟩ := e _ rfl
  exact ⟨⟨rfl, fun z => absurd z e1, fun z => (z.elim e2 e3).elim, fun z => (z.elim e4 e5).elim⟩, trivial⟩
theorem stp_sf {X : Nat → Option Tk} {nf ng : Nat} : ∀ (h : Nat) (t : Nd h) (b : List Nat) (c : Nat), GrOk nf ng h t → At X c (ntk h t b) → F2 (Sf X nf ng) (stp h t c) (pfx h t) := by
  intro h
  induction h with
  | zero => intro t _ _ H; exact H.elim
  | succ h ih =>
    intro t b c H hA
    have two : ∀ (x y : Nd h) (bx by' : List Nat) (d : Nat), t.2.2.1 = some x → t.2.2.2 = some y → GrOk nf ng h x → GrOk nf ng h y → ((3 ≤ t.1 ∧ t.1 < 15) ∨ (18 ≤ t.1 ∧ t.1 ≤ 20)) → d = (if t.1 = 4 ∨ t.1 = 5 then c + 2 else if 10 ≤ t.1 ∧ t.1 < 15 then c else c + 1) → At X d (ntk h x bx) → At X (d + nlen h x + 1) (ntk h y by') → F2 (Sf X nf ng) (stp (h + 1) t c) (pfx (h + 1) t) := by
      intro x y bx by' d hx hy gx gy hs hd ax ay
      rw [stp_2 (by omega) (by omega) hx hy hd, pfx_s, hx, hy, List.append_assoc]
      exact F2_a (ih x bx d gx ax) (F2_a (ih y by' _ gy ay) (Sf_op hs))
    rcases H with ⟨hs, hn, hl⟩ | ⟨hs, hn, hl⟩ | ⟨hs, hn, hl⟩ | ⟨hs, ⟨x, hx, hxo, -⟩, hy⟩ | ⟨⟨h4, h9⟩, ⟨x, hx, hxo, -⟩, y, hy, hyo, -⟩ | ⟨⟨h6, h9⟩, ⟨x, hx, hxo, -⟩, y, hy, hyo, -⟩ | ⟨hs, hn, hl⟩ | ⟨hs | hs, hn, hl⟩ | ⟨hs, ⟨x, hx, hxo, -⟩, hy⟩ | ⟨hs | hs, ⟨x, hx, hxo, -⟩, y, hy, hyo, -⟩
    · rw [ntk_0 hs] at hA
      rw [stp_s, if_pos (by omega), pfx_s, hl]
      show F2 (Sf X nf ng) [(ndK t.1 t.2.1, c)] [(ndK t.1 t.2.1, t.2.1)]
      rw [hs]
      exact ⟨⟨rfl, fun _ => ⟨hn, b, (At_h hA).1⟩, fun z => absurd (show (48 : Nat) = 6 ∨ (48 : Nat) = 24 from z) (by decide), fun z => absurd (show (48 : Nat) = 23 ∨ (48 : Nat) = 25 from z) (by decide)⟩, trivial⟩
    · rw [stp_s, if_pos (by omega), pfx_s, hl]
      show F2 (Sf X nf ng) [(ndK t.1 t.2.1, c)] [(ndK t.1 t.2.1, t.2.1)]
      rw [hs, show ndK 1 t.2.1 = 16 + t.2.1 from rfl]
      refine ⟨⟨rfl, fun z => ?_, fun z => ?_, fun z => ?_⟩, trivial⟩
      · have z : 16 + t.2.1 = 48 := z
        omega
      · have z : 16 + t.2.1 = 6 ∨ 16 + t.2.1 = 24 := z
        omega
      · have z : 16 + t.2.1 = 23 ∨ 16 + t.2.1 = 25 := z
        omega
    · rw [ntk_2 hs] at hA
      rw [stp_s, if_neg (by omega), if_pos hs, pfx_s, hl]
      show F2 (Sf X nf ng) [(6, c + 2)] [(ndK t.1 t.2.1, t.2.1)]
      rw [hs]
      have a1 := (At_h hA).2
      have a2 := (At_h a1).2
      exact ⟨⟨rfl, fun z => absurd (show (6 : Nat) = 48 from z) (by decide), fun _ => ⟨hn, c + 1, 26, [32], b, rfl, (At_h a1).1, Or.inr rfl, (At_h a2).1⟩, fun z => absurd (show (6 : Nat) = 23 ∨ (6 : Nat) = 25 from z) (by decide)⟩, trivial⟩
    · rw [ntk_3 hs, hx] at hA
      rw [stp_1 (Or.inl hs) hx hy, pfx_s, hx, hy]
      show F2 (Sf X nf ng) _ ((pfx h x ++ []) ++ _)
      rw [List.append_nil]
      exact F2_a (ih x b (c + 1) hxo (At_h hA).2) (Sf_op (by omega))
    · by_cases q4 : t.1 = 4
      · rw [ntk_4 q4, hx, hy] at hA
        obtain ⟨a1, a2⟩ := At_a (At_h (At_h hA).2).2
        refine two x y [] [] (c + 2) hx hy hxo hyo (by omega) (by rw [if_pos (by omega)]) a1 ?_
        have a3 := (At_a (At_h a2).2).1
        rw [show (oL (fun x => ntk h x []) (some x)).length = nlen h x from ntk_len h x []] at a3
        exact a3
      by_cases q5 : t.1 = 5
      · rw [ntk_5 q5, hx, hy] at hA
        obtain ⟨a1, a2⟩ := At_a (At_h (At_h hA).2).2
        refine two x y [32] [] (c + 2) hx hy hxo hyo (by omega) (by rw [if_pos (by omega)]) a1 ?_
        have a3 := (At_a (At_h a2).2).1
        rw [show (oL (fun x => ntk h x [32]) (some x)).length = nlen h x from ntk_len h x [32]] at a3
        exact a3
      rw [ntk_lo (by omega) h9, hx, hy] at hA
      obtain ⟨a1, a2⟩ := At_a (At_h hA).2
      refine two x y [] [] (c + 1) hx hy hxo hyo (by omega) (by rw [if_neg (by omega), if_neg (by omega)]) a1 ?_
      have a3 := (At_a (At_h a2).2).1
      rw [show (oL (fun x => ntk h x []) (some x)).length = nlen h x from ntk_len h x []] at a3
      exact a3
    · rw [ntk_hi h6 h9, hx, hy] at hA
      obtain ⟨a1, a2⟩ := At_a hA
      refine two x y [] b c hx hy hxo hyo (by omega) (by rw [if_neg (by omega), if_pos (by omega)]) a1 ?_
      have a3 := (At_h a2).2
      rw [show (oL (fun x => ntk h x []) (some x)).length = nlen h x from ntk_len h x []] at a3
      exact a3
    · rw [ntk_15 hs] at hA
      rw [stp_s, if_neg (by omega), if_neg (by omega), if_pos (by omega), pfx_s, hl]
      show F2 (Sf X nf ng) [(ndK t.1 t.2.1, c + 1)] [(ndK t.1 t.2.1, t.2.1)]
      rw [hs]
      exact ⟨⟨rfl, fun z => absurd (show (24 : Nat) = 48 from z) (by decide), fun _ => ⟨hn, c, 24, [32], b, rfl, (At_h hA).1, Or.inl rfl, (At_h (At_h hA).2).1⟩, fun z => absurd (show (24 : Nat) = 23 ∨ (24 : Nat) = 25 from z) (by decide)⟩, trivial⟩
    · rw [ntk_16 hs] at hA
      rw [stp_s, if_neg (by omega), if_neg (by omega), if_pos (by omega), pfx_s, hl]
      show F2 (Sf X nf ng) [(ndK t.1 t.2.1, c + 1)] [(ndK t.1 t.2.1, t.2.1)]
      rw [hs]
      exact ⟨⟨rfl, fun z => absurd (show (23 : Nat) = 48 from z) (by decide), fun z => absurd (show (23 : Nat) = 6 ∨ (23 : Nat) = 24 from z) (by decide), fun _ => ⟨hn, c, 23, [32], b, rfl, (At_h hA).1, Or.inl rfl, (At_h (At_h hA).2).1⟩⟩, trivial⟩
    · rw [ntk_17 hs] at hA
      rw [stp_s, if_neg (by omega), if_neg (by omega), if_pos (by omega), pfx_s, hl]
      show F2 (Sf X nf ng) [(ndK t.1 t.2.1, c + 1)] [(ndK t.1 t.2.1, t.2.1)]
      rw [hs]
      exact ⟨⟨rfl, fun z => absurd (show (25 : Nat) = 48 from z) (by decide), fun z => absurd (show (25 : Nat) = 6 ∨ (25 : Nat) = 24 from z) (by decide), fun _ => ⟨hn, c, 25, [32], b, rfl, (At_h hA).1, Or.inr rfl, (At_h (At_h hA).2).1⟩⟩, trivial⟩
    · rw [ntk_18 hs, hx] at hA
      rw [stp_1 (Or.inr hs) hx hy, pfx_s, hx, hy]
      show F2 (Sf X nf ng) _ ((pfx h x ++ []) ++ _)
      rw [List.append_nil]
      exact F2_a (ih x b (c + 1) hxo (At_h hA).2) (Sf_op (by omega))
    · rw [ntk_19 hs, hx, hy] at hA
      obtain ⟨a1, a2⟩ := At_a (At_h hA).2
      refine two x y [32] [] (c + 1) hx hy hxo hyo (by omega) (by rw [if_neg (by omega), if_neg (by omega)]) a1 ?_
      have a3 := (At_a (At_h a2).2).1
      rw [show (oL (fun x => ntk h x [32]) (some x)).length = nlen h x from ntk_len h x [32]] at a3
      exact a3
    · rw [ntk_20 hs, hx, hy] at hA
      obtain ⟨a1, a2⟩ := At_a (At_h hA).2
      refine two x y [32] [] (c + 1) hx hy hxo hyo (by omega) (by rw [if_neg (by omega), if_neg (by omega)]) a1 ?_
      have a3 := (At_a (At_h a2).2).1
      rw [show (oL (fun x => ntk h x [32]) (some x)).length = nlen h x from ntk_len h x [32]] at a3
      exact a3
