/-! THE GRAMMAR READS A TREE: small trees, as values -/
def Tks (K : Nat → Nat) (c : Nat) (ts : List Tk) : Prop := ∀ j t, ts[j]? = some t → K (c + j) = kdL t.1
theorem Tks_h {K : Nat → Nat} {c : Nat} {t : Tk} {r : List Tk} (h : Tks K c (t :: r)) : K c = kdL t.1 ∧ Tks K (c + 1) r := ⟨h 0 t rfl, fun j u hj => by
  rw [show c + 1 + j = c + (j + 1) by omega]
  exact h (j + 1) u hj⟩
theorem Tks_a {K : Nat → Nat} {c : Nat} {ts us : List Tk} (h : Tks K c (ts ++ us)) : Tks K c ts ∧ Tks K (c + ts.length) us := ⟨fun j t hj => h j t (by rw [List.getElem?_append_left (List.getElem?_eq_some_iff.mp hj).1]; exact hj), fun j t hj => by
  have := h (ts.length + j) t (by rw [List.getElem?_append_right (Nat.le_add_right _ _), Nat.add_sub_cancel_left]; exact hj)
  rw [Nat.add_assoc]
  exact this⟩
theorem stp_s (h : Nat) (t : Nd (h + 1)) (c : Nat) : stp (h + 1) t c = if t.1 ≤ 1 then [(ndK t.1 t.2.1, c)] else if t.1 = 2 then [(6, c + 2)] else if t.1 = 15 ∨ t.1 = 16 ∨ t.1 = 17 then [(ndK t.1 t.2.1, c + 1)] else (fun d : Nat => oL (fun x => stp h x d) t.2.2.1 ++ (oL (fun x => stp h x (d + (oL (fun y => [nlen h y]) t.2.2.1).sum + 1)) t.2.2.2 ++ [(ndK t.1 t.2.1, 0)])) (if t.1 = 4 ∨ t.1 = 5 then c + 2 else if 10 ≤ t.1 ∧ t.1 < 15 then c else c + 1) := rfl
theorem stp_2 {h : Nat} {t : Nd (h + 1)} {x y : Nd h} (h3 : 3 ≤ t.1) (hn : ¬ (t.1 = 15 ∨ t.1 = 16 ∨ t.1 = 17)) (hx : t.2.2.1 = some x) (hy : t.2.2.2 = some y) {c d : Nat} (hd : d = if t.1 = 4 ∨ t.1 = 5 then c + 2 else if 10 ≤ t.1 ∧ t.1 < 15 then c else c + 1) : stp (h + 1) t c = stp h x d ++ (stp h y (d + nlen h x + 1) ++ [(ndK t.1 t.2.1, 0)]) := by
  rw [stp_s, if_neg (show ¬ t.1 ≤ 1 by omega), if_neg (show ¬ t.1 = 2 by omega), if_neg hn, ← hd, hx, hy]
  rfl
theorem stp_1 {h : Nat} {t : Nd (h + 1)} {x : Nd h} (h3 : t.1 = 3 ∨ t.1 = 18) (hx : t.2.2.1 = some x) (hy : t.2.2.2 = none) (c : Nat) : stp (h + 1) t c = stp h x (c + 1) ++ [(ndK t.1 t.2.1, 0)] := by
  rw [stp_s, if_neg (show ¬ t.1 ≤ 1 by omega), if_neg (show ¬ t.1 = 2 by omega), if_neg (show ¬ (t.1 = 15 ∨ t.1 = 16 ∨ t.1 = 17) by omega), if_neg (show ¬ (t.1 = 4 ∨ t.1 = 5) by omega), if_neg (show ¬ (10 ≤ t.1 ∧ t.1 < 15) by omega), hx, hy]
  rfl
theorem nlen_0 {h : Nat} {t : Nd (h + 1)} (hs : t.1 = 0) : nlen (h + 1) t = 1 := by unfold nlen; rw [ntk_0 hs]; rfl
theorem nlen_1 {h : Nat} {t : Nd (h + 1)} (hs : t.1 = 1) : nlen (h + 1) t = 1 := by unfold nlen; rw [ntk_1 hs]; rfl
theorem nlen_2 {h : Nat} {t : Nd (h + 1)} (hs : t.1 = 2) : nlen (h + 1) t = 3 := by unfold nlen; rw [ntk_2 hs]; rfl
theorem nlen_3 {h : Nat} {t : Nd (h + 1)} {x : Nd h} (hs : t.1 = 3) (hx : t.2.2.1 = some x) : nlen (h + 1) t = nlen h x + 1 := by unfold nlen; rw [ntk_3 hs, hx]; rfl
theorem nlen_45 {h : Nat} {t : Nd (h + 1)} {x y : Nd h} (hs : t.1 = 4 ∨ t.1 = 5) (hx : t.2.2.1 = some x) (hy : t.2.2.2 = some y) : nlen (h + 1) t = nlen h x + nlen h y + 4 := by
  unfold nlen
  rcases hs with hs | hs
  · rw [ntk_4 hs, hx, hy]
    show (ntk h x [] ++ (_ :: (ntk h y [] ++ [_]))).length + 1 + 1 = _
    rw [List.length_append, List.length_cons, List.length_append]
    show (ntk h x []).length + ((ntk h y []).length + 1 + 1) + 1 + 1 = _
    omega
  · rw [ntk_5 hs, hx, hy]
    show (ntk h x [32] ++ (_ :: (ntk h y [] ++ [_]))).length + 1 + 1 = _
    rw [List.length_append, List.length_cons, List.length_append, ntk_len h x [32]]
    show nlen h x + ((ntk h y []).length + 1 + 1) + 1 + 1 = _
    unfold nlen
    omega
theorem nlen_lo {h : Nat} {t : Nd (h + 1)} {x y : Nd h} (h6 : 6 ≤ t.1) (h9 : t.1 < 10) (hx : t.2.2.1 = some x) (hy : t.2.2.2 = some y) : nlen (h + 1) t = nlen h x + 1 + nlen h y + 2 := by
  unfold nlen
  rw [ntk_lo h6 h9, hx, hy]
  show (ntk h x [] ++ (_ :: (ntk h y [] ++ [_]))).length + 1 = _
  rw [List.length_append, List.length_cons, List.length_append]
  show (ntk h x []).length + ((ntk h y []).length + 1 + 1) + 1 = _
  omega
theorem nlen_hi {h : Nat} {t : Nd (h + 1)} {x y : Nd h} (h6 : 10 ≤ t.1) (h9 : t.1 < 15) (hx : t.2.2.1 = some x) (hy : t.2.2.2 = some y) : nlen (h + 1) t = nlen h x + 1 + nlen h y := by
  unfold nlen
  rw [ntk_hi h6 h9, hx, hy]
  show (ntk h x [] ++ (_ :: ntk h y [])).length = _
  rw [List.length_append, List.length_cons]
  omega
