/-! THE CLASS IS TAUGHT a plan's text -/
theorem oend_le : ∀ (os : List Od) (c p : Nat), p ≤ oend os c p := by
  intro os
  induction os with
  | nil => intro c p; exact Nat.le_refl _
  | cons o r ih =>
    intro c p
    exact Nat.le_trans (Nat.le_add_right _ _) (ih (c + (otk o).length) (p + (ostp o c).length))
theorem OL_get {X : Nat → Option Tk} {dd : Nat → Nat} {tg fs es : Nat → Int32} {sk : Nat → Nat} {sv : Nat → Int32} : ∀ (os : List Od) (c i p : Nat), OL dd tg fs es sk sv os c i p → At X c (otks os) → ∀ k o, os[k]? = some o → ∃ c' p', dd (i + k) = dK o.1 ∧ tg (i + k) = nI (c' + 1) ∧ fs (i + k) = nI p' ∧ es (i + k) = nI (p' + (ostp o c').length) ∧ (∀ j s, (ostp o c')[j]? = some s → sk (p' + j) = s.1 ∧ sv (p' + j) = nI s.2) ∧ At X c' (otk o) ∧ p' + (ostp o c').length ≤ oend os c p := by
  intro os
  induction os with
  | nil => intro c i p _ _ k o h; rw [List.getElem?_nil] at h; cases h
  | cons o r ih =>
    intro c i p hO hA k q h
    obtain ⟨⟨h1, h2, h3, h4⟩, h5, h6⟩ := hO
    obtain ⟨a1, a2⟩ := At_a (show At X c (otk o ++ otks r) from hA)
    cases k with
    | zero =>
      have e : o = q := Option.some.inj h
      subst e
      exact ⟨c, p, h1, h2, h3, h4, h5, a1, oend_le r _ _⟩
    | succ k =>
      obtain ⟨c', p', g⟩ := ih _ _ _ h6 a2 k q h
      rw [show i + 1 + k = i + (k + 1) by omega] at g
      exact ⟨c', p', g⟩
theorem At_w {X : Nat → Option Tk} {c : Nat} {o : Od} (hA : At X c (otk o)) : At X (c + ohd o) (wtk o) := by
  unfold otk at hA
  unfold ohd
  by_cases h0 : o.1 = 0
  · rw [if_pos h0] at hA
    rw [if_pos (by omega)]
    exact (At_h (At_h hA).2).2
  rw [if_neg h0] at hA
  by_cases h1 : o.1 = 1
  · rw [if_pos h1] at hA
    rw [if_pos (by omega)]
    exact (At_h (At_h hA).2).2
  rw [if_neg h1] at hA
  rw [if_neg (by omega)]
  by_cases h2 : o.1 = 2
  · rw [if_pos h2] at hA
    exact (At_h hA).2
  · rw [if_neg h2] at hA
    exact (At_h hA).2
/-- the tokens of the orders -/
def Xo (P : Pl) : Nat → Option Tk := fun j => if 11 * P.nf + 11 * P.ng ≤ j then (ptk P)[j]? else none
theorem ptk_get (P : Pl) {j : Nat} {t : Tk} (h : (otks P.os)[j]? = some t) : (ptk P)[11 * P.nf + 11 * P.ng + j]? = some t := by
  have e := get_r (a := ftks P.fr P.nf) (get_r (a := gtks P.gu P.ng) h)
  rw [ftks_cnt, gtks_cnt, show 11 * P.nf + (11 * P.ng + j) = 11 * P.nf + 11 * P.ng + j by omega] at e
  exact e
theorem ptk_ln (P : Pl) : (ptk P).length = 11 * P.nf + 11 * P.ng + (otks P.os).length := by
  unfold ptk
  rw [List.length_append, List.length_append, ftks_cnt, gtks_cnt]
  omega
theorem Xo_at (P : Pl) : At (Xo P) (11 * P.nf + 11 * P.ng) (otks P.os) := by
  intro j t h
  unfold Xo
  rw [if_pos (by omega)]
  exact ptk_get P h
theorem Xo_in {P : Pl} {j : Nat} {t : Tk} (h : Xo P j = some t) : 11 * P.nf + 11 * P.ng ≤ j ∧ (ptk P)[j]? = some t ∧ j < (ptk P).length := by
  unfold Xo at h
  by_cases q : 11 * P.nf + 11 * P.ng ≤ j
  · rw [if_pos q] at h
    exact ⟨q, h, (List.getElem?_eq_some_iff.mp h).1⟩
  · rw [if_neg q] at h
    cases h
section
variable {P : Pl} {n : Nat} {K : Nat → Nat} {sT : Nat → Int32} {V vT : Nat → Int64} {cu : Int32}
theorem plan_loc (hP : PlOk P) (hK : ∀ j t, (ptk P)[j]? = some t → K j = kdL t.1 ∧ V j = vlL t.1) (hE : K (ptk P).length = 49) : ∀ i, 11 * P.nf + 11 * P.ng ≤ i → i < 11 * P.nf + 11 * P.ng + ((otks P.os).length + 1) → LocK P.nf P.ng K V (ptk P).length i := by
  intro i h1 h2
  have hl := ptk_ln P
  by_cases q : i = (ptk P).length
  · rw [q]
    unfold LocK
    rw [hE]
    exact ⟨fun z => by omega, fun z => by omega, by omega, by omega, by omega⟩
  obtain ⟨p1, p2, -, -, -, p6⟩ := hP
  have hL := (otks_loc (nf := P.nf) (ng := P.ng) (by omega) (by omega) P.os p6).1
  obtain ⟨k, rfl⟩ : ∃ k, i = 11 * P.nf + 11 * P.ng + k := ⟨i - (11 * P.nf + 11 * P.ng), by omega⟩
  have hk : k < (otks P.os).length := by omega
  have e := ptk_get P (List.getElem?_eq_getElem hk)
  obtain ⟨l1, l2, l3, l4, l5⟩ := hL k _ (List.getElem?_eq_getElem hk)
  obtain ⟨k1, k2⟩ := hK _ _ e
  unfold LocK
  rw [k1]
  have nx : ∀ {u : Tk}, (otks P.os)[k + 1]? = some u → 11 * P.nf + 11 * P.ng + k + 1 ≤ (ptk P).length ∧ V (11 * P.nf + 11 * P.ng + k + 1) = vlL u.1 := fun {u} hu => by
    have hlt := (List.getElem?_eq_some_iff.mp hu).1
    exact ⟨by omega, (hK _ _ (ptk_get P hu)).2⟩
  refine ⟨fun z => ?_, fun z => ?_, l3, l4, l5⟩
  · obtain ⟨j, b, hj, hu⟩ := l1 z
    exact ⟨(nx hu).1, j, hj, (nx hu).2⟩
  · obtain ⟨j, b, hj, hu⟩ := l2 z
    exact ⟨(nx hu).1, j, hj, (nx hu).2⟩
theorem check_plan (hP : PlOk P) (hn : 500 < n) (hK : ∀ j t, (ptk P)[j]? = some t → K j = kdL t.1 ∧ V j = vlL t.1) (hE : K (ptk P).length = 49) (F0 : bX2) (G0 : bX4) (hF0 : X2_count F0 = nI 0) (hG0 : X4_count G0 = nI 0) : ∃ F G, f_X1_check n (K, sT, V, nI ((ptk P).length + 1), cu, nI 0, nI 0) F0 G0 = some (VF K V (11 * P.nf + 11 * P.ng) ((otks P.os).length + 1), nI 0, nI 0, X2_names F, X2_warm F, X2_force F, X2_from F, X2_hours F, X2_count F, X4_names G, X4_from G, X4_weakest G, X4_strongest G, X4_nerve G, X4_count G) ∧ RFrN P.fr P.nf F ∧ RGuN P.gu P.ng G := by
  have hl := ptk_ln P
  have h305 := ptk_cnt hP
  have hLoc := plan_loc hP hK hE
  obtain ⟨p1, p2, p3, p4, p5, p6⟩ := hP
  have hT : Tks K 0 (ptk P) := fun j t h => by rw [Nat.zero_add]; exact (hK j t h).1
  have hV : Tvs V 0 (ptk P) := fun j t h => by rw [Nat.zero_add]; exact (hK j t h).2
  obtain ⟨t1, t2⟩ := Tks_a (show Tks K 0 (ftks P.fr P.nf ++ (gtks P.gu P.ng ++ otks P.os)) from hT)
  obtain ⟨v1, v2⟩ := Tvs_a (show Tvs V 0 (ftks P.fr P.nf ++ (gtks P.gu P.ng ++ otks P.os)) from hV)
  rw [ftks_cnt] at t2 v2
  obtain ⟨t2, t3⟩ := Tks_a t2
  obtain ⟨v2, v3⟩ := Tvs_a v2
  rw [gtks_cnt] at t3 v3
  rw [Nat.zero_add] at t3 v3 t2 v2
  have hoc : ocn K (11 * P.nf + 11 * P.ng) ((otks P.os).length + 1) ≤ 16 := by
    rw [ocn_a, ocn_L _ _ t3, (otks_loc (nf := P.nf) (ng := P.ng) (by omega) (by omega) P.os p6).2]
    show P.os.length + (0 + isO (K (11 * P.nf + 11 * P.ng + (otks P.os).length + 0))) ≤ 16
    rw [Nat.add_zero, ← hl, hE]
    show P.os.length + (0 + 0) ≤ 16
    omega
  have TF : ∀ j, j < P.nf → Tks K (0 + 11 * j) (ftk j (P.fr j)) ∧ Tvs V (0 + 11 * j) (ftk j (P.fr j)) := fun j hj => ⟨Tks_f P.fr P.nf 0 t1 j hj, Tvs_f P.fr P.nf 0 v1 j hj⟩
  have TG : ∀ j, j < P.ng → Tks K (11 * P.nf + 11 * j) (gtk j (P.gu j)) ∧ Tvs V (11 * P.nf + 11 * j) (gtk j (P.gu j)) := fun j hj => ⟨Tks_g P.gu P.ng _ t2 j hj, Tvs_g P.gu P.ng _ v2 j hj⟩
  generalize (ptk P).length = t at *
  obtain ⟨F, r1, hF⟩ := run_fs (n := n) (K := K) (sT := sT) (V := V) (vT := V) (t := t) (od := 0) (c := 0) (cu := cu) (e2 := nI 0) (eA := nI 0) (eB := nI 0) (F := F0) (G := G0) (B1 := F0) (B2 := G0) (fr := P.fr) (by omega) (by omega) hF0 P.nf (by omega) p3 TF (by omega)
  obtain ⟨G, r2, hG⟩ := run_gs (n := n) (K := K) (sT := sT) (V := V) (vT := V) (t := t) (od := 0) (c := 11 * P.nf) (cu := cu) (e2 := nI 0) (eA := nI 0) (eB := nI 0) (F := F) (G := G0) (B1 := F0) (B2 := G0) (gu := P.gu) (by omega) (by omega) hG0 P.ng (by omega) p4 TG (by omega)
  have r3 := run_o (n := n) (K := K) (sT := sT) (V := V) (vT := V) (t := t) (c := 11 * P.nf + 11 * P.ng) (cu := cu) (e2 := nI 0) (eA := nI 0) (eB := nI 0) (F := F) (G := G) (B1 := F0) (B2 := G0) (fr := P.fr) (gu := P.gu) (nf := P.nf) (ng := P.ng) (by omega) (by omega) (by omega) (by omega) hF hG (M := (otks P.os).length + 1) (by omega) hoc hLoc _ (Nat.le_refl _)
  refine ⟨F, G, ?_, hF, hG⟩
  have e0 : f_X1_check n (K, sT, V, nI (t + 1), cu, nI 0, nI 0) F0 G0 = iter (ckB n (K, sT, V, nI (t + 1), cu, nI 0, nI 0) F0 G0) n (ckS 0 0 V (nI 0) F0 G0) := rfl
  rw [e0]
  have r := Run_t (Run_t r1 (by rw [Nat.zero_add]; exact r2)) r3
  generalize hm : 11 * P.nf + 11 * P.ng + ((otks P.os).length + 1) = m at r
  have hmt : m = t + 1 := by omega
  have hr := r (n - m)
  rw [show m + (n - m) = n by omega] at hr
  rw [hr, hmt, show n - (t + 1) = (n - (t + 1) - 1) + 1 by omega]
  exact iter_inr cs_fin
end
/-! what the class holds behind it -/
abbrev reP (r : ReT) : bX8 := (r.2.2.2.2.2.2.2.2.2.2.2.1, r.2.2.2.2.2.2.2.2.2.2.2.2.1, r.2.2.2.2.2.2.2.2.2.2.2.2.2.1, r.2.2.2.2.2.2.2.2.2.2.2.2.2.2.1, r.2.2.2.2.2.2.2.2.2.2.2.2.2.2.2.1, r.2.2.2.2.2.2.2.2.2.2.2.2.2.2.2.2.1, r.2.2.2.2.2.2.2.2.2.2.2.2.2.2.2.2.2.1, r.2.2.2.2.2.2.2.2.2.2.2.2.2.2.2.2.2.2.1, r.2.2.2.2.2.2.2.2.2.2.2.2.2.2.2.2.2.2.2.1, r.2.2.2.2.2.2.2.2.2.2.2.2.2.2.2.2.2.2.2.2.1, r.2.2.2.2.2.2.2.2.2.2.2.2.2.2.2.2.2.2.2.2.2.1)
abbrev reF (r : ReT) : bX2 := (r.2.2.2.2.2.2.2.2.2.2.2.2.2.2.2.2.2.2.2.2.2.2.1, r.2.2.2.2.2.2.2.2.2.2.2.2.2.2.2.2.2.2.2.2.2.2.2.1, r.2.2.2.2.2.2.2.2.2.2.2.2.2.2.2.2.2.2.2.2.2.2.2.2.1, r.2.2.2.2.2.2.2.2.2.2.2.2.2.2.2.2.2.2.2.2.2.2.2.2.2.1, r.2.2.2.2.2.2.2.2.2.2.2.2.2.2.2.2.2.2.2.2.2.2.2.2.2.2.1, r.2.2.2.2.2.2.2.2.2.2.2.2.2.2.2.2.2.2.2.2.2.2.2.2.2.2.2.1)
abbrev reG (r : ReT) : bX4 := (r.2.2.2.2.2.2.2.2.2.2.2.2.2.2.2.2.2.2.2.2.2.2.2.2.2.2.2.2.1, r.2.2.2.2.2.2.2.2.2.2.2.2.2.2.2.2.2.2.2.2.2.2.2.2.2.2.2.2.2.1, r.2.2.2.2.2.2.2.2.2.2.2.2.2.2.2.2.2.2.2.2.2.2.2.2.2.2.2.2.2.2.1, r.2.2.2.2.2.2.2.2.2.2.2.2.2.2.2.2.2.2.2.2.2.2.2.2.2.2.2.2.2.2.2.1, r.2.2.2.2.2.2.2.2.2.2.2.2.2.2.2.2.2.2.2.2.2.2.2.2.2.2.2.2.2.2.2.2.1, r.2.2.2.2.2.2.2.2.2.2.2.2.2.2.2.2.2.2.2.2.2.2.2.2.2.2.2.2.2.2.2.2.2.1)
abbrev reO (r : ReT) : bX6 := (r.2.2.2.2.2.2.2.2.2.2.2.2.2.2.2.2.2.2.2.2.2.2.2.2.2.2.2.2.2.2.2.2.2.2.1, r.2.2.2.2.2.2.2.2.2.2.2.2.2.2.2.2.2.2.2.2.2.2.2.2.2.2.2.2.2.2.2.2.2.2.2.1, r.2.2.2.2.2.2.2.2.2.2.2.2.2.2.2.2.2.2.2.2.2.2.2.2.2.2.2.2.2.2.2.2.2.2.2.2.1, r.2.2.2.2.2.2.2.2.2.2.2.2.2.2.2.2.2.2.2.2.2.2.2.2.2.2.2.2.2.2.2.2.2.2.2.2.2.1, r.2.2.2.2.2.2.2.2.2.2.2.2.2.2.2.2.2.2.2.2.2.2.2.2.2.2.2.2.2.2.2.2.2.2.2.2.2.2.1, r.2.2.2.2.2.2.2.2.2.2.2.2.2.2.2.2.2.2.2.2.2.2.2.2.2.2.2.2.2.2.2.2.2.2.2.2.2.2.2.1, r.2.2.2.2.2.2.2.2.2.2.2.2.2.2.2.2.2.2.2.2.2.2.2.2.2.2.2.2.2.2.2.2.2.2.2.2.2.2.2.2.1, r.2.2.2.2.2.2.2.2.2.2.2.2.2.2.2.2.2.2.2.2.2.2.2.2.2.2.2.2.2.2.2.2.2.2.2.2.2.2.2.2.2)
def ReOk (P : Pl) (r : ReT) : Prop := r.1 = nI 0 ∧ r.2.1 = true ∧ r.2.2.2.1 = nI 0 ∧ RPt (Sp0 P) (reP r) ∧ RFr P (reF r) ∧ RGu P (reG r) ∧ ROs P (reO r)
