/-! A TEXT OF TOKENS is read: its kinds, its values -/
abbrev Tk : Type := List Nat × List Nat
def flt : List Tk → List Nat
  | [] => []
  | t :: r => t.1 ++ (t.2 ++ flt r)
def at6 (l : List Nat) (i : Nat) : Nat := l.getD i 256
def kdL (l : List Nat) : Nat := kdC (at6 l) 0 l.length
def vlL (l : List Nat) : Int64 := vlI (dig (at6 l 0)) (at6 l) 0 l.length
/-- a token, and the sign behind it -/
def TokOk (l : List Nat) (nx : Nat) : Prop := 0 < l.length ∧ kdL l < 49 ∧ blk (at6 l 0) = false ∧ ((ltr (at6 l 0) = true ∧ (∀ i, i < l.length → wrd (at6 l i) = true) ∧ wrd nx = false) ∨ (dig (at6 l 0) = true ∧ (∀ i, i < l.length → dig (at6 l i) = true) ∧ dig nx = false) ∨ (ltr (at6 l 0) = false ∧ dig (at6 l 0) = false ∧ ((l.length = 1 ∧ ¬ ((at6 l 0 = 60 ∨ at6 l 0 = 62) ∧ nx = 61)) ∨ (l.length = 2 ∧ (at6 l 0 = 60 ∨ at6 l 0 = 62) ∧ at6 l 1 = 61))))
def LexOk : List Tk → Prop
  | [] => True
  | t :: r => TokOk t.1 (at6 (t.2 ++ flt r) 0) ∧ (∀ x ∈ t.2, blk x = true) ∧ LexOk r
theorem kdC_congr {Y Y' : Nat → Nat} {a b sz : Nat} (h0 : 0 < sz) (h : ∀ i, i < sz → Y (a + i) = Y' (b + i)) : kdC Y a sz = kdC Y' b sz := by
  have e : Y a = Y' b := h 0 h0
  have hT : HT Y a sz = HT Y' b sz := by
    funext k
    unfold HT
    congr 1
    refine decide_eq_decide.mpr ⟨fun z i hi => ?_, fun z i hi => ?_⟩
    · rw [← h i hi]; exact z i hi
    · rw [h i hi]; exact z i hi
  unfold kdC
  rw [e, hT]
theorem vlI_congr {Y Y' : Nat → Nat} {a b : Nat} (d : Bool) : ∀ sz, (∀ i, i < sz → Y (a + i) = Y' (b + i)) → vlI d Y a sz = vlI d Y' b sz := by
  intro sz
  induction sz with
  | zero => intro _; rfl
  | succ sz ih =>
    intro h
    show (bif d then vlI d Y a sz * 10 + Int32.toInt64 (cb (Y (a + sz)) - 48) else vlI d Y a sz * 37 + Int32.toInt64 (wsg (cb (Y (a + sz))))) = (bif d then vlI d Y' b sz * 10 + Int32.toInt64 (cb (Y' (b + sz)) - 48) else vlI d Y' b sz * 37 + Int32.toInt64 (wsg (cb (Y' (b + sz)))))
    rw [ih (fun i hi => h i (by omega)), h sz (Nat.lt_succ_self sz)]
theorem at6_l {l m : List Nat} {i : Nat} (h : i < l.length) : at6 (l ++ m) i = at6 l i := by
  unfold at6
  rw [List.getD_eq_getElem?_getD, List.getD_eq_getElem?_getD, List.getElem?_append_left h]
theorem at6_r {l m : List Nat} {i : Nat} : at6 (l ++ m) (l.length + i) = at6 m i := by
  unfold at6
  rw [List.getD_eq_getElem?_getD, List.getD_eq_getElem?_getD, List.getElem?_append_right (Nat.le_add_right _ _), Nat.add_sub_cancel_left]
theorem at6_o {l : List Nat} {i : Nat} (h : l.length ≤ i) : at6 l i = 256 := by
  unfold at6
  rw [List.getD_eq_getElem?_getD, List.getElem?_eq_none h]
  rfl
theorem at6_mem {l : List Nat} {i : Nat} (h : i < l.length) : at6 l i ∈ l := by
  unfold at6
  rw [List.getD_eq_getElem?_getD, List.getElem?_eq_getElem h]
  exact List.getElem_mem h
section LEX
variable {Y : Nat → Nat} {len : Nat} {bT ta : Nat → Int32} {n : Nat} {bh : bX11}
theorem tok_ok (h : TPE Y len bT ta) (hn : 2100 < n) {a : Nat} {l m : List Nat} (hY : ∀ i, Y (a + i) = at6 (l ++ m) i) (hl : a + l.length ≤ len) (hT : TokOk l (at6 m 0)) : f_X11_sizeOf n (nI a) (bT, nI len) = some (nI l.length) ∧ f_X11_kindOf n (nI a) (nI l.length) (bT, nI len) = some (kdL l) ∧ f_X11_valueOf n (nI a) (nI l.length) (bT, nI len) = some (vlL l) := by
  obtain ⟨t0, t1, t2, t3⟩ := hT
  have h0 := h.1
  have hYl : ∀ i, i < l.length → Y (a + i) = at6 l i := fun i hi => by rw [hY i, at6_l hi]
  have hY0 : Y a = at6 l 0 := hYl 0 t0
  have hYe : Y (a + l.length) = at6 m 0 := by
    rw [hY l.length]
    exact at6_r (i := 0)
  refine ⟨?_, ?_, ?_⟩
  · rcases t3 with ⟨q1, q2, q3⟩ | ⟨q1, q2, q3⟩ | ⟨q1, q2, q3⟩
    · have := c_sizeW h hn (a := a) (e := a + l.length) (by omega) (by rw [hY0]; exact q1) ⟨by omega, fun j z1 z2 => by
        rw [show j = a + (j - a) by omega, hYl (j - a) (by omega)]
        exact q2 (j - a) (by omega), by rw [hYe]; exact q3⟩ (by omega)
      rw [this, Nat.add_sub_cancel_left]
    · have := c_sizeD h hn (a := a) (e := a + l.length) (by omega) (by rw [hY0]; exact q1) ⟨by omega, fun j z1 z2 => by
        rw [show j = a + (j - a) by omega, hYl (j - a) (by omega)]
        exact q2 (j - a) (by omega), by rw [hYe]; exact q3⟩ (by omega)
      rw [this, Nat.add_sub_cancel_left]
    · have := c_sizeS (n := n) h (a := a) (by omega) (by rw [hY0]; exact q1) (by rw [hY0]; exact q2)
      rw [this]
      refine congrArg (fun z => some (nI z)) ?_
      unfold szS
      rcases q3 with ⟨z1, z2⟩ | ⟨z1, z2, z3⟩
      · rw [z1] at hYe
        rw [hY0, hYe, if_neg z2, z1]
      · rw [hY0, hYl 1 (by omega), if_pos ⟨z2, z3⟩, z1]
  · rw [c_kind h hn (a := a) (by omega) (by omega)]
    refine congrArg some (kdC_congr t0 (fun i hi => ?_))
    rw [hYl i hi, Nat.zero_add]
  · rw [c_value h hn (a := a) (by omega) (by omega), hY0]
    refine congrArg some (vlI_congr _ _ (fun i hi => ?_))
    rw [hYl i hi, Nat.zero_add]
theorem flt_nb {ts : List Tk} (h : LexOk ts) : blk (at6 (flt ts) 0) = false := by
  cases ts with
  | nil => rfl
  | cons t r =>
    show blk (at6 (t.1 ++ (t.2 ++ flt r)) 0) = false
    rw [at6_l h.1.1]
    exact h.1.2.2.1
abbrev raB (n : Nat) (bh : bX11) (bT : Nat → Int32) (len : Nat) : Int32 × Int32 × (Nat → Nat) × (Nat → Int32) × (Nat → Int64) × Int32 → Option ((Int32 × Int32 × (Nat → Nat) × (Nat → Int32) × (Nat → Int64) × Int32) ⊕ ((Nat → Nat) × (Nat → Int32) × (Nat → Int64) × Int32 × Int32 × Int32 × Int32)) := fun s => f_X11_readAll_L28 n bh (bT, nI len) s.1 s.2.1 s.2.2.1 s.2.2.2.1 s.2.2.2.2.1 s.2.2.2.2.2 0 0 0
theorem lex_all (h : TPE Y len bT ta) (hn : 2100 < n) : ∀ (ts : List Tk) (i a m : Nat) (K : Nat → Nat) (sT : Nat → Int32) (vT : Nat → Int64), LexOk ts → (∀ j, Y (a + j) = at6 (flt ts) j) → a + (flt ts).length = len → i + ts.length ≤ 400 → ts.length < m → ∃ K' sT' vT', iter (raB n bh bT len) m (nI a, nI i, K, sT, vT, nI i) = some (K', sT', vT', nI (i + ts.length + 1), 0, 0, 0) ∧ (∀ j, j < i → K' j = K j ∧ vT' j = vT j) ∧ (∀ j t, ts[j]? = some t → K' (i + j) = kdL t.1 ∧ vT' (i + j) = vlL t.1) ∧ K' (i + ts.length) = 49 := by
  intro ts
  have h0 := h.1
  induction ts with
  | nil =>
    intro i a m K sT vT _ _ ha hi hm
    obtain ⟨m, rfl⟩ : ∃ q, m = q + 1 := ⟨m - 1, by omega⟩
    have ha : a = len := ha
    have e := cR_end (n := n) (bh := bh) (bT := bT) (K := K) (sT := sT) (vT := vT) (i := i) (a := a) h0 (by simpa using hi) (by omega) (Or.inr (by omega))
    rw [if_pos (by omega)] at e
    refine ⟨_, _, _, iter_inr e, fun j hj => ⟨if_neg (by omega), if_neg (by omega)⟩, (fun j t ht => by cases ht), if_pos rfl⟩
  | cons t r ih =>
    intro i a m K sT vT hL hY ha hi hm
    obtain ⟨m, rfl⟩ : ∃ q, m = q + 1 := ⟨m - 1, by omega⟩
    obtain ⟨hT, hb, hr⟩ := hL
    have hlen : (flt (t :: r)).length = t.1.length + (t.2.length + (flt r).length) := by
      show (t.1 ++ (t.2 ++ flt r)).length = _
      rw [List.length_append, List.length_append]
    rw [hlen] at ha
    have hi' : i + (r.length + 1) ≤ 400 := hi
    obtain ⟨s1, s2, s3⟩ := tok_ok h hn (a := a) (l := t.1) (m := t.2 ++ flt r) hY (by omega) hT
    have hYb : ∀ j, Y (a + t.1.length + j) = at6 (t.2 ++ flt r) j := fun j => by
      rw [Nat.add_assoc, hY]
      exact at6_r
    have hYr : ∀ j, Y (a + t.1.length + t.2.length + j) = at6 (flt r) j := fun j => by
      rw [Nat.add_assoc, hYb]
      exact at6_r
    have hsk := c_skip h hn (i := a + t.1.length) (e := a + t.1.length + t.2.length) (by omega) ⟨by omega, fun j z1 z2 => by
      rw [show j = a + t.1.length + (j - (a + t.1.length)) by omega, hYb, at6_l (by omega)]
      exact hb _ (at6_mem (by omega)), by
      have := hYr 0
      rw [Nat.add_zero] at this
      rw [this]
      exact flt_nb hr⟩ (by omega)
    have e := cR_go (n := n) (bh := bh) (bT := bT) (K := K) (sT := sT) (vT := vT) (i := i) (a := a) h0 (by omega) (by have := hT.1; omega) (by omega) hT.2.1 s1 s2 s3 hsk
    obtain ⟨K', sT', vT', e2, k1, k2, k3⟩ := ih (i + 1) (a + t.1.length + t.2.length) m (va_up K i (kdL t.1)) (upd sT i (nI a)) (vp_updL vT i (vlL t.1)) hr hYr (by omega) (by omega) (by have : (t :: r).length = r.length + 1 := rfl; omega)
    refine ⟨K', sT', vT', ?_, fun j hj => ?_, fun j u hu => ?_, ?_⟩
    · rw [iter_inl e, e2]
      rw [show i + 1 + r.length + 1 = i + (t :: r).length + 1 by (show _ = i + (r.length + 1) + 1); omega]
    · obtain ⟨q1, q2⟩ := k1 j (by omega)
      exact ⟨q1.trans (if_neg (by omega)), q2.trans (if_neg (by omega))⟩
    · cases j with
      | zero =>
        have hu : t = u := Option.some.inj hu
        subst hu
        obtain ⟨q1, q2⟩ := k1 i (by omega)
        exact ⟨q1.trans (if_pos rfl), q2.trans (if_pos rfl)⟩
      | succ j =>
        have := k2 j u hu
        rw [show i + (j + 1) = i + 1 + j by omega]
        exact this
    · rw [show i + (t :: r).length = i + 1 + r.length by (show i + (r.length + 1) = _); omega]
      exact k3
/-- the whole tape -/
theorem read_ok {ts : List Tk} (hL : LexOk ts) (hl : (flt ts).length ≤ 1500) (h128 : ∀ x ∈ flt ts, x < 128) (hn4 : ts.length ≤ 399) (hn : 2100 < n) {B : Nat → Int32} (hB : ∀ j, j < (flt ts).length → B j = nI ((flt ts).getD j 0)) : ∃ K' sT' vT', f_X11_readAll n bh (B, nI (flt ts).length) = some (K', sT', vT', nI (ts.length + 1), 0, 0, 0) ∧ (∀ j t, ts[j]? = some t → K' j = kdL t.1 ∧ vT' j = vlL t.1) ∧ K' ts.length = 49 := by
  have hY : TPE (at6 (flt ts)) (flt ts).length B (fun i => nI (at6 (flt ts) i)) := by
    refine ⟨by omega, fun i hi => ?_, fun i hi => at6_o hi⟩
    have hm := h128 _ (at6_mem hi)
    refine ⟨by omega, ?_, rfl⟩
    rw [hB i hi]
    unfold sx
    rw [if_pos hm]
    unfold at6
    rw [List.getD_eq_getElem?_getD, List.getD_eq_getElem?_getD, List.getElem?_eq_getElem hi]
    rfl
  have hsk := c_skip hY hn (i := 0) (e := 0) (Nat.zero_le _) ⟨Nat.le_refl _, fun j z1 z2 => absurd z2 (Nat.not_lt_zero j), flt_nb hL⟩ (Nat.zero_le _)
  obtain ⟨K', sT', vT', e, -, k2, k3⟩ := lex_all (bh := bh) hY hn ts 0 0 n (X11_kinds bh) (X11_starts bh) (X11_values bh) hL (fun j => by rw [Nat.zero_add]) (Nat.zero_add _) (by omega) (by omega)
  refine ⟨K', sT', vT', ?_, fun j t ht => ?_, ?_⟩
  · unfold f_X11_readAll
    rw [show f_X11_behindBlanks n 0 (B, nI (flt ts).length) = _ from hsk, sb]
    rw [Nat.zero_add] at e
    exact e
  · have := k2 j t ht
    rw [Nat.zero_add] at this
    exact this
  · rw [Nat.zero_add] at k3
    exact k3
end LEX
