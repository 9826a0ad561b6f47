/-! THE CLASS IS TAUGHT a plan's text -/
theorem oend_le : ∀ (os : List Od) (c p : Nat), p ≤ oend os c p := by
  intro os
  induction os with
  | nil => intro c p; exact Nat.le_refl _
  | cons o r ih =>
    intro c p
    exact Nat.le_trans (Nat.le_add_right _ _) (ih (c + (otk o).length) (p + (ostp o c).length))
theorem OL_get {X : Nat → Option Tk} {dd : Nat → Nat} {tg fs es : Nat → Int32} {sk : Nat → Nat} {sv : Nat → Int32} : ∀ (os : List Od) (c i p : Nat), OL dd tg fs es sk sv os c i p → At X c (otks os) → ∀ k o, os[k]? = some o → ∃ c' p', dd (i + k) = dK o.1 ∧ tg (i + k) = nI (c' + 1) ∧ fs (i + k) = nI p' ∧ es (i + k) = nI (p' + (ostp o c').length) ∧ (∀ j s, (ostp o c')[j]? = some s → sk (p' + j) = s.1 ∧ sv (p' + j) = nI s.2) ∧ At X c' (otk o) ∧ p' + (ostp o c').length ≤ oend os c p := by
  intro os
  induction os with
  | nil => intro c i p _ _ k o h; rw [List.getElem?_nil] at h; cases h
  | cons o r ih =>
    intro c i p hO hA k q h
    obtain ⟨⟨h1, h2, h3, h4⟩, h5, h6⟩ := hO
    obtain ⟨a1, a2⟩ := At_a (show At X c (otk o ++ otks r) from hA)
    cases k with
    | zero =>
      have e : o = q := Option.some.inj h
      subst e
      exact ⟨c, p, h1, h2, h3, h4, h5, a1, oend_le r _ _⟩
    | succ k =>
      obtain ⟨c', p', g⟩ := ih _ _ _ h6 a2 k q h
      rw [show i + 1 + k = i + (k + 1) by omega] at g
      exact ⟨c', p', g⟩
theorem At_w {X : Nat → Option Tk} {c : Nat} {o : Od} (hA : At X c (otk o)) : At X (c + ohd o) (wtk o) := by
  unfold otk at hA
  unfold ohd
  by_cases h0 : o.1 = 0
  · rw [if_pos h0] at hA
    rw [if_pos (by omega)]
    exact (At_h (At_h hA).2).2
  rw [if_neg h0] at hA
  by_cases h1 : o.1 = 1
  · rw [if_pos h1] at hA
    rw [if_pos (by omega)]
    exact (At_h (At_h hA).2).2
  rw [if_neg h1] at hA
  rw [if_neg (by omega)]
  by_cases h2 : o.1 = 2
  · rw [if_pos h2] at hA
    exact (At_h hA).2
  · rw [if_neg h2] at hA
    exact (At_h hA).2
/-- the tokens of the orders -/
def Xo (P : Pl) : Nat → Option Tk := fun j => if 11 * P.nf + 11 * P.ng ≤ j then (ptk P)[j]? else none
theorem ptk_get (P : Pl) {j : Nat} {t : Tk} (h : (otks P.os)[j]? = some t) : (ptk P)[11 * P.nf + 11 * P.ng + j]? = some t := by
  have e := get_r (a := ftks P.fr P.nf) (get_r (a := gtks P.gu P.ng) h)
  rw [ftks_cnt, gtks_cnt, show 11 * P.nf + (11 * P.ng + j) = 11 * P.nf + 11 * P.ng + j by omega] at e
  exact e
theorem ptk_ln (P : Pl) : (ptk P).length = 11 * P.nf + 11 * P.ng + (otks P.os).length := by
  unfold ptk
  rw [List.length_append, List.length_append, ftks_cnt, gtks_cnt]
  omega
theorem Xo_at (P : Pl) : At (Xo P) (11 * P.nf + 11 * P.ng) (otks P.os) := by
  intro j t h
  unfold Xo
  rw [if_pos (by omega)]
  exact ptk_get P h
theorem Xo_in {P : Pl} {j : Nat} {t : Tk} (h : Xo P j = some t) : 11 * P.nf + 11 * P.ng ≤ j ∧ (ptk P)[j]? = some t ∧ j < (ptk P).length := by
  unfold Xo at h
  by_cases q : 11 * P.nf + 11 * P.ng ≤ j
  · rw [if_pos q] at h
    exact ⟨q, h, (List.getElem?_eq_some_iff.mp h).1⟩
  · rw [if_neg q] at h
    cases h
theorem Tvs_f {K : Nat → Int64} (fr : Nat → Nat × Nat × Nat × Nat) : ∀ i c, Tvs K c (ftks fr i) → ∀ j, j < i → Tvs K (c + 11 * j) (ftk j (fr j)) := by
  intro i
  induction i with
  | zero => intro c _ j hj; omega
  | succ i ih =>
    intro c h j hj
    obtain ⟨h1, h2⟩ := Tvs_a (show Tvs K c (ftks fr i ++ ftk i (fr i)) from h)
    by_cases q : j < i
    · exact ih c h1 j q
    · have : j = i := by omega
      subst this
      rw [ftks_cnt] at h2
      exact h2
theorem Tvs_g {K : Nat → Int64} (gu : Nat → Nat × Nat × Nat × Nat) : ∀ i c, Tvs K c (gtks gu i) → ∀ j, j < i → Tvs K (c + 11 * j) (gtk j (gu j)) := by
  intro i
  induction i with
  | zero => intro c _ j hj; omega
  | succ i ih =>
    intro c h j hj
    obtain ⟨h1, h2⟩ := Tvs_a (show Tvs K c (gtks gu i ++ gtk i (gu i)) from h)
    by_cases q : j < i
    · exact ih c h1 j q
    · have : j = i := by omega
      subst this
      rw [gtks_cnt] at h2
      exact h2
section
variable {P : Pl} {n : Nat} {K : Nat → Nat} {sT : Nat → Int32} {V vT : Nat → Int64} {cu : Int32}
theorem plan_loc (hP : PlOk P) (hK : ∀ j t, (ptk P)[j]? = some t → K j = kdL t.1 ∧ V j = vlL t.1) (hE : K (ptk P).length = 49) : ∀ i, 11 * P.nf + 11 * P.ng ≤ i → i < 11 * P.nf + 11 * P.ng + ((otks P.os).length + 1) → LocK P.nf P.ng K V (ptk P).length i := by
  intro i h1 h2
  have hl := ptk_ln P
  by_cases q : i = (ptk P).length
  · rw [q]
    unfold LocK
    rw [hE]
    exact ⟨fun z => by omega, fun z => by omega, by omega, by omega, by omega⟩
  obtain ⟨p1, p2, -, -, -, p6⟩ := hP
  have hL := (otks_loc (nf := P.nf) (ng := P.ng) (by omega) (by omega) P.os p6).1
  obtain ⟨k, rfl⟩ : ∃ k, i = 11 * P.nf + 11 * P.ng + k := ⟨i - (11 * P.nf + 11 * P.ng), by omega⟩
  have hk : k < (otks P.os).length := by omega
  have e := ptk_get P (List.getElem?_eq_getElem hk)
  obtain ⟨l1, l2, l3, l4, l5⟩ := hL k _ (List.getElem?_eq_getElem hk)
  obtain ⟨k1, k2⟩ := hK _ _ e
  unfold LocK
  rw [k1]
  have nx : ∀ {u : Tk}, (otks P.os)[k + 1]? = some u → 11 * P.nf + 11 * P.ng + k + 1 ≤ (ptk P).length ∧ V (11 * P.nf + 11 * P.ng + k + 1) = vlL u.1 := fun {u} hu => by
    have hlt := (List.getElem?_eq_some_iff.mp hu).1
    exact ⟨by omega, (hK _ _ (ptk_get P hu)).2⟩
  refine ⟨fun z => ?_, fun z => ?_, l3, l4, l5⟩
  · obtain ⟨j, b, hj, hu⟩ := l1 z
    exact ⟨(nx hu).1, j, hj, (nx hu).2⟩
  · obtain ⟨j, b, hj, hu⟩ := l2 z
    exact ⟨(nx hu).1, j, hj, (nx hu).2⟩
theorem check_plan (hP : PlOk P) (hn : 500 < n) (hK : ∀ j t, (ptk P)[j]? = some t → K j = kdL t.1 ∧ V j = vlL t.1) (hE : K (ptk P).length = 49) (F0 : bX2) (G0 : bX4) (hF0 : X2_count F0 = nI 0) (hG0 : X4_count G0 = nI 0) : ∃ F G, f_X1_check n (K, sT, V, nI ((ptk P).length + 1), cu, nI 0, nI 0) F0 G0 = some (VF K V (11 * P.nf + 11 * P.ng) ((otks P.os).length + 1), nI 0, nI 0, X2_names F, X2_warm F, X2_force F, X2_from F, X2_hours F, X2_count F, X4_names G, X4_from G, X4_weakest G, X4_strongest G, X4_nerve G, X4_count G) ∧ RFrN P.fr P.nf F ∧ RGuN P.gu P.ng G := by
  have hl := ptk_ln P
  have h305 := ptk_cnt hP
  have hLoc := plan_loc hP hK hE
  obtain ⟨p1, p2, p3, p4, p5, p6⟩ := hP
  have hT : Tks K 0 (ptk P) := fun j t h => by rw [Nat.zero_add]; exact (hK j t h).1
  have hV : Tvs V 0 (ptk P) := fun j t h => by rw [Nat.zero_add]; exact (hK j t h).2
  obtain ⟨t1, t2⟩ := Tks_a (show Tks K 0 (ftks P.fr P.nf ++ (gtks P.gu P.ng ++ otks P.os)) from hT)
  obtain ⟨v1, v2⟩ := Tvs_a (show Tvs V 0 (ftks P.fr P.nf ++ (gtks P.gu P.ng ++ otks P.os)) from hV)
  rw [ftks_cnt] at t2 v2
  obtain ⟨t2, t3⟩ := Tks_a t2
  obtain ⟨v2, v3⟩ := Tvs_a v2
  rw [gtks_cnt] at t3 v3
  rw [Nat.zero_add] at t3 v3 t2 v2
  have hoc : ocn K (11 * P.nf + 11 * P.ng) ((otks P.os).length + 1) ≤ 16 := by
    rw [ocn_a, ocn_L _ _ t3, (otks_loc (nf := P.nf) (ng := P.ng) (by omega) (by omega) P.os p6).2]
    show P.os.length + (0 + isO (K (11 * P.nf + 11 * P.ng + (otks P.os).length + 0))) ≤ 16
    rw [Nat.add_zero, ← hl, hE]
    show P.os.length + (0 + 0) ≤ 16
    omega
  have TF : ∀ j, j < P.nf → Tks K (0 + 11 * j) (ftk j (P.fr j)) ∧ Tvs V (0 + 11 * j) (ftk j (P.fr j)) := fun j hj => ⟨Tks_f P.fr P.nf 0 t1 j hj, Tvs_f P.fr P.nf 0 v1 j hj⟩
  have TG : ∀ j, j < P.ng → Tks K (11 * P.nf + 11 * j) (gtk j (P.gu j)) ∧ Tvs V (11 * P.nf + 11 * j) (gtk j (P.gu j)) := fun j hj => ⟨Tks_g P.gu P.ng _ t2 j hj, Tvs_g P.gu P.ng _ v2 j hj⟩
  generalize (ptk P).length = t at *
  obtain ⟨F, r1, hF⟩ := run_fs (n := n) (K := K) (sT := sT) (V := V) (vT := V) (t := t) (od := 0) (c := 0) (cu := cu) (e2 := nI 0) (eA := nI 0) (eB := nI 0) (F := F0) (G := G0) (B1 := F0) (B2 := G0) (fr := P.fr) (by omega) (by omega) hF0 P.nf (by omega) p3 TF (by omega)
  obtain ⟨G, r2, hG⟩ := run_gs (n := n) (K := K) (sT := sT) (V := V) (vT := V) (t := t) (od := 0) (c := 11 * P.nf) (cu := cu) (e2 := nI 0) (eA := nI 0) (eB := nI 0) (F := F) (G := G0) (B1 := F0) (B2 := G0) (gu := P.gu) (by omega) (by omega) hG0 P.ng (by omega) p4 TG (by omega)
  have r3 := run_o (n := n) (K := K) (sT := sT) (V := V) (vT := V) (t := t) (c := 11 * P.nf + 11 * P.ng) (cu := cu) (e2 := nI 0) (eA := nI 0) (eB := nI 0) (F := F) (G := G) (B1 := F0) (B2 := G0) (fr := P.fr) (gu := P.gu) (nf := P.nf) (ng := P.ng) (by omega) (by omega) (by omega) (by omega) hF hG (M := (otks P.os).length + 1) (by omega) hoc hLoc _ (Nat.le_refl _)
  refine ⟨F, G, ?_, hF, hG⟩
  have e0 : f_X1_check n (K, sT, V, nI (t + 1), cu, nI 0, nI 0) F0 G0 = iter (ckB n (K, sT, V, nI (t + 1), cu, nI 0, nI 0) F0 G0) n (ckS 0 0 V (nI 0) F0 G0) := rfl
  rw [e0]
  have r := Run_t (Run_t r1 (by rw [Nat.zero_add]; exact r2)) r3
  generalize hm : 11 * P.nf + 11 * P.ng + ((otks P.os).length + 1) = m at r
  have hmt : m = t + 1 := by omega
  have hr := r (n - m)
  rw [show m + (n - m) = n by omega] at hr
  rw [hr, hmt, show n - (t + 1) = (n - (t + 1) - 1) + 1 by omega]
  exact iter_inr cs_fin
end
/-! what the class holds behind it -/
abbrev reP (r : ReT) : bX8 := (r.2.2.2.2.2.2.2.2.2.2.2.1, r.2.2.2.2.2.2.2.2.2.2.2.2.1, r.2.2.2.2.2.2.2.2.2.2.2.2.2.1, r.2.2.2.2.2.2.2.2.2.2.2.2.2.2.1, r.2.2.2.2.2.2.2.2.2.2.2.2.2.2.2.1, r.2.2.2.2.2.2.2.2.2.2.2.2.2.2.2.2.1, r.2.2.2.2.2.2.2.2.2.2.2.2.2.2.2.2.2.1, r.2.2.2.2.2.2.2.2.2.2.2.2.2.2.2.2.2.2.1, r.2.2.2.2.2.2.2.2.2.2.2.2.2.2.2.2.2.2.2.1, r.2.2.2.2.2.2.2.2.2.2.2.2.2.2.2.2.2.2.2.2.1, r.2.2.2.2.2.2.2.2.2.2.2.2.2.2.2.2.2.2.2.2.2.1)
abbrev reF (r : ReT) : bX2 := (r.2.2.2.2.2.2.2.2.2.2.2.2.2.2.2.2.2.2.2.2.2.2.1, r.2.2.2.2.2.2.2.2.2.2.2.2.2.2.2.2.2.2.2.2.2.2.2.1, r.2.2.2.2.2.2.2.2.2.2.2.2.2.2.2.2.2.2.2.2.2.2.2.2.1, r.2.2.2.2.2.2.2.2.2.2.2.2.2.2.2.2.2.2.2.2.2.2.2.2.2.1, r.2.2.2.2.2.2.2.2.2.2.2.2.2.2.2.2.2.2.2.2.2.2.2.2.2.2.1, r.2.2.2.2.2.2.2.2.2.2.2.2.2.2.2.2.2.2.2.2.2.2.2.2.2.2.2.1)
abbrev reG (r : ReT) : bX4 := (r.2.2.2.2.2.2.2.2.2.2.2.2.2.2.2.2.2.2.2.2.2.2.2.2.2.2.2.2.1, r.2.2.2.2.2.2.2.2.2.2.2.2.2.2.2.2.2.2.2.2.2.2.2.2.2.2.2.2.2.1, r.2.2.2.2.2.2.2.2.2.2.2.2.2.2.2.2.2.2.2.2.2.2.2.2.2.2.2.2.2.2.1, r.2.2.2.2.2.2.2.2.2.2.2.2.2.2.2.2.2.2.2.2.2.2.2.2.2.2.2.2.2.2.2.1, r.2.2.2.2.2.2.2.2.2.2.2.2.2.2.2.2.2.2.2.2.2.2.2.2.2.2.2.2.2.2.2.2.1, r.2.2.2.2.2.2.2.2.2.2.2.2.2.2.2.2.2.2.2.2.2.2.2.2.2.2.2.2.2.2.2.2.2.1)
abbrev reO (r : ReT) : bX6 := (r.2.2.2.2.2.2.2.2.2.2.2.2.2.2.2.2.2.2.2.2.2.2.2.2.2.2.2.2.2.2.2.2.2.2.1, r.2.2.2.2.2.2.2.2.2.2.2.2.2.2.2.2.2.2.2.2.2.2.2.2.2.2.2.2.2.2.2.2.2.2.2.1, r.2.2.2.2.2.2.2.2.2.2.2.2.2.2.2.2.2.2.2.2.2.2.2.2.2.2.2.2.2.2.2.2.2.2.2.2.1, r.2.2.2.2.2.2.2.2.2.2.2.2.2.2.2.2.2.2.2.2.2.2.2.2.2.2.2.2.2.2.2.2.2.2.2.2.2.1, r.2.2.2.2.2.2.2.2.2.2.2.2.2.2.2.2.2.2.2.2.2.2.2.2.2.2.2.2.2.2.2.2.2.2.2.2.2.2.1, r.2.2.2.2.2.2.2.2.2.2.2.2.2.2.2.2.2.2.2.2.2.2.2.2.2.2.2.2.2.2.2.2.2.2.2.2.2.2.2.1, r.2.2.2.2.2.2.2.2.2.2.2.2.2.2.2.2.2.2.2.2.2.2.2.2.2.2.2.2.2.2.2.2.2.2.2.2.2.2.2.2.1, r.2.2.2.2.2.2.2.2.2.2.2.2.2.2.2.2.2.2.2.2.2.2.2.2.2.2.2.2.2.2.2.2.2.2.2.2.2.2.2.2.2)
def ReOk (P : Pl) (r : ReT) : Prop := r.1 = nI 0 ∧ r.2.1 = true ∧ r.2.2.2.1 = nI 0 ∧ RPt (Sp0 P) (reP r) ∧ RFr P (reF r) ∧ RGu P (reG r) ∧ ROs P (reO r)
theorem key_or {k : Nat} (h : key k) : (k = 11 ∨ k = 24 ∨ k = 26) ∨ (k = 14 ∨ k = 23 ∨ k = 25) := by unfold key at h; omega
theorem i64_back (x : Int32) : Int64.toInt32 (Int32.toInt64 x) = x := Int32.toInt32_toInt64 x
section
variable {P : Pl} {n : Nat} {K : Nat → Nat} {sT : Nat → Int32} {V : Nat → Int64} {cu : Int32}
/-- a name's place holds which one it is, a number's place the number -/
theorem fin_nm {c0 M d j c : Nat} (hd : c0 ≤ d) (hM : d + 1 ≤ c0 + M) (hk : key (K d)) (hc : c = 102 ∨ c = 103) (hj : j < 10) (hv : V (d + 1) = vlL (nmL c j)) : Int64.toInt32 (VF K V c0 M (d + 1)) = nI j := by
  unfold VF finV
  rw [if_pos hM, if_pos ⟨by omega, hk⟩, hv, idN_ok hc hj]
  exact i64_back _
theorem fin_nu (hP : PlOk P) (hK : ∀ j t, (ptk P)[j]? = some t → K j = kdL t.1 ∧ V j = vlL t.1) {p v : Nat} {b : List Nat} (hp : Xo P p = some (decL v, b)) (hv : v < 1000000) (M : Nat) : Int64.toInt32 (VF K V (11 * P.nf + 11 * P.ng) M p) = nI v := by
  obtain ⟨x1, x2, x3⟩ := Xo_in hp
  obtain ⟨k1, k2⟩ := hK _ _ x2
  have k1 : K p = 48 := k1.trans (num_tok (nx := 32) hv (by decide)).2
  have hl := ptk_ln P
  have nk : ¬ (11 * P.nf + 11 * P.ng < p ∧ key (K (p - 1))) := fun ⟨z1, z2⟩ => by
    obtain ⟨q, rfl⟩ : ∃ q, p = 11 * P.nf + 11 * P.ng + q + 1 := ⟨p - (11 * P.nf + 11 * P.ng) - 1, by omega⟩
    obtain ⟨p1, p2, -, -, -, p6⟩ := hP
    have hL := (otks_loc (nf := P.nf) (ng := P.ng) (by omega) (by omega) P.os p6).1
    have hq : q < (otks P.os).length := by omega
    have eq := List.getElem?_eq_getElem hq
    obtain ⟨l1, l2, -⟩ := hL q _ eq
    have kq := (hK _ _ (ptk_get P eq)).1
    rw [Nat.add_sub_cancel, kq] at z2
    have no : ∀ c j b', (c = 102 ∨ c = 103) → j < 10 → (otks P.os)[q + 1]? = some (nmL c j, b') → False := fun c j b' hc hj e => by
      have kn := (hK _ _ (ptk_get P e)).1.trans (nm_f c hc j hj).1
      rw [show 11 * P.nf + 11 * P.ng + (q + 1) = 11 * P.nf + 11 * P.ng + q + 1 by omega, k1] at kn
      omega
    rcases key_or z2 with z | z
    · obtain ⟨j, b', hj, e⟩ := l1 z
      exact no 102 j b' (Or.inl rfl) (by omega) e
    · obtain ⟨j, b', hj, e⟩ := l2 z
      exact no 103 j b' (Or.inr rfl) (by omega) e
  unfold VF finV
  rw [if_neg nk, ite_self, k2]
  exact num_val hv
/-- the orders behind resolve -/
theorem ros_ok (hP : PlOk P) (hK : ∀ j t, (ptk P)[j]? = some t → K j = kdL t.1 ∧ V j = vlL t.1) {dd : Nat → Nat} {tg fs es : Nat → Int32} {sk : Nat → Nat} {sv : Nat → Int32} {z : bX11} (hz : ∀ j, j ≤ (ptk P).length → vAt z (nI j) = VF K V (11 * P.nf + 11 * P.ng) ((otks P.os).length + 1) j) (hO : OL dd tg fs es sk sv P.os (11 * P.nf + 11 * P.ng) 0 0) (hE : oend P.os (11 * P.nf + 11 * P.ng) 0 ≤ 64) (st : Int32) : ROs P (dd, rsv z tg P.os.length, fs, es, sk, rsv z sv (oend P.os (11 * P.nf + 11 * P.ng) 0), nI P.os.length, st) := by
  refine ⟨rfl, fun i o ho => ?_⟩
  have hl := ptk_ln P
  obtain ⟨c', p', h1, h2, h3, h4, h5, hA, h6⟩ := OL_get P.os _ 0 0 hO (Xo_at P) i o ho
  rw [Nat.zero_add] at h1 h2 h3 h4
  have hi := (List.getElem?_eq_some_iff.mp ho).1
  have hok : OdOk P.nf P.ng o := hP.2.2.2.2.2 o (List.mem_of_getElem? ho)
  have hPP := hP
  obtain ⟨p1, p2, -, -, -, p6⟩ := hP
  refine ⟨h1, fun h01 => ?_, p', p' + (ostp o c').length, h3, h4, by omega, ?_⟩
  · show rsv z tg P.os.length i = nI o.2.1
    unfold rsv
    rw [if_pos hi, h2]
    have hA' := hA
    unfold otk at hA'
    rcases hok.1 with ⟨q, hw⟩ | ⟨q, hw⟩ | ⟨q, hw⟩
    · rw [if_pos q] at hA'
      obtain ⟨a1, a2⟩ := At_h hA'
      obtain ⟨x1, x2, x3⟩ := Xo_in a1
      obtain ⟨y1, y2, y3⟩ := Xo_in (At_h a2).1
      rw [hz _ (by omega)]
      exact fin_nm x1 (by omega) (by rw [(hK _ _ x2).1]; show key (kdL (kw 11)); rw [kw_kd 11 (by decide)]; unfold key; omega) (Or.inl rfl) (by omega) (hK _ _ y2).2
    · rw [if_neg (by omega), if_pos q] at hA'
      obtain ⟨a1, a2⟩ := At_h hA'
      obtain ⟨x1, x2, x3⟩ := Xo_in a1
      obtain ⟨y1, y2, y3⟩ := Xo_in (At_h a2).1
      rw [hz _ (by omega)]
      exact fin_nm x1 (by omega) (by rw [(hK _ _ x2).1]; show key (kdL (kw 14)); rw [kw_kd 14 (by decide)]; unfold key; omega) (Or.inr rfl) (by omega) (hK _ _ y2).2
    · omega
  · have hW := At_w hA
    unfold wtk at hW
    unfold ostp at h5 h6 ⊢
    cases e : o.2.2 with
    | none =>
      rw [e] at h5 h6
      exact rfl
    | some t =>
      rw [e] at h5 h6 hW
      have h5 : ∀ j s, (stp 4 t (c' + ohd o + 1))[j]? = some s → sk (p' + j) = s.1 ∧ sv (p' + j) = nI s.2 := h5
      have h6 : p' + (stp 4 t (c' + ohd o + 1)).length ≤ oend P.os (11 * P.nf + 11 * P.ng) 0 := h6
      have hg : GrOk P.nf P.ng 4 t := by
        rcases hok.2 with q | ⟨t', q, ht⟩
        · rw [q] at e; cases e
        · rw [q] at e
          cases e
          exact (T1_gr ht).1
      have hF := stp_sf 4 t [] (c' + ohd o + 1) hg (At_a (At_h hW).2).1
      have hlen := F2_len hF
      show p' + (stp 4 t (c' + ohd o + 1)).length = p' + (pfx 4 t).length ∧ _
      refine ⟨by rw [hlen], fun j y hy => ?_⟩
      obtain ⟨x, hx, f1, f2, f3, f4⟩ := F2_get hF hy
      obtain ⟨g1, g2⟩ := h5 j x hx
      have hj := (List.getElem?_eq_some_iff.mp hx).1
      refine ⟨g1.trans f1, fun hk => ?_⟩
      show rsv z sv _ (p' + j) = nI y.2
      unfold rsv
      rw [if_pos (by omega), g2]
      rcases (show y.1 = 48 ∨ (y.1 = 6 ∨ y.1 = 24) ∨ (y.1 = 23 ∨ y.1 = 25) by omega) with q | q | q
      · obtain ⟨b1, b2, b3⟩ := f2 q
        rw [hz _ (Nat.le_of_lt (Xo_in b3).2.2)]
        exact fin_nu hPP hK b3 b1 _
      · obtain ⟨b1, d, k, b, b', e1, e2, e3, e4⟩ := f3 q
        obtain ⟨x1, x2, x3⟩ := Xo_in e2
        obtain ⟨y1, y2, y3⟩ := Xo_in e4
        rw [e1, hz _ (by omega)]
        exact fin_nm x1 (by omega) (by rw [(hK _ _ x2).1]; show key (kdL (kw k)); rw [kw_kd k (by omega)]; unfold key; omega) (Or.inl rfl) (by omega) (hK _ _ y2).2
      · obtain ⟨b1, d, k, b, b', e1, e2, e3, e4⟩ := f4 q
        obtain ⟨x1, x2, x3⟩ := Xo_in e2
        obtain ⟨y1, y2, y3⟩ := Xo_in e4
        rw [e1, hz _ (by omega)]
        exact fin_nm x1 (by omega) (by rw [(hK _ _ x2).1]; show key (kdL (kw k)); rw [kw_kd k (by omega)]; unfold key; omega) (Or.inr rfl) (by omega) (hK _ _ y2).2
end
theorem Sp0_fp (P : Pl) (j : Nat) : (Sp0 P).fp j ≠ 2 ∧ (Sp0 P).gp j ≠ 2 ∧ (Sp0 P).gp j ≠ 3 := by
  have h : ∀ (n : Nat) (c : Nat → Prop) [DecidablePred c], mk1 n c 1 (fun _ => 0) j = 0 ∨ mk1 n c 1 (fun _ => 0) j = 1 := fun n c _ => by
    unfold mk1
    split
    · exact Or.inr rfl
    · exact Or.inl rfl
  have h1 : (Sp0 P).fp j = 0 ∨ (Sp0 P).fp j = 1 := h P.nf (fun j => (P.fr j).2.2.1 = Sp00.hour)
  have h2 : (Sp0 P).gp j = 0 ∨ (Sp0 P).gp j = 1 := h P.ng (fun j => (P.gu j).1 = Sp00.hour)
  omega
theorem ex_bd {α β : Type} {x : Option α} {a : α} {k : α → Option β} {R : β → Prop} (h : x = some a) (h' : ∃ res, k a = some res ∧ R res) : ∃ res, x.bind k = some res ∧ R res := by rw [bd h]; exact h'
theorem ex_if {β : Type} {c : Prop} [Decidable c] {A B : Option β} {R : β → Prop} (h : c) (h' : ∃ res, A = some res ∧ R res) : ∃ res, (if c then A else B) = some res ∧ R res := by rw [if_pos h]; exact h'
theorem teach_ok {P : Pl} (hP : PlOk P) {n : Nat} (hn : 2100 < n) {b_h : bX12} {b_t : bX11} {b_p : bX8} {dF : bX2} {dG : bX4} {dO : bX6} {B : Nat → Int32} (hB : ∀ j, j < (ptx P).length → B j = nI ((ptx P).getD j 0)) : ∃ res : ReT, f_X12_teach n b_h (B, nI (ptx P).length) b_t b_p dF dG dO = some res ∧ ReOk P res := by
  obtain ⟨K, sT, V, e1, hK, hE⟩ := plan_read hP hn (bh := b_t) hB
  have hT : Tks K 0 (ptk P) := fun j t h => by rw [Nat.zero_add]; exact (hK j t h).1
  have h305 := ptk_cnt hP
  have hl := ptk_ln P
  obtain ⟨dd, tg, fs, es, sk, sv, e2, hO, hE2⟩ := read_plan hP (n := n) (by omega) (sT := sT) (vT := V) (dd := X6_deeds dO) (tg := X6_targets dO) (fs := X6_firstSteps dO) (es := X6_endSteps dO) (sk := X6_stepKinds dO) (sv := X6_stepValues dO) hT hE
  obtain ⟨F, G, e3, hF, hG⟩ := check_plan hP (n := n) (by omega) (sT := sT) (cu := nI (ptk P).length) hK hE (X2_names dF, X2_warm dF, X2_force dF, X2_from dF, X2_hours dF, nI 0) (X4_names dG, X4_from dG, X4_weakest dG, X4_strongest dG, X4_nerve dG, nI 0) rfl rfl
  have e4 := k_resolve (n := n) (K := K) (sT := sT) (V := VF K V (11 * P.nf + 11 * P.ng) ((otks P.os).length + 1)) (t := (ptk P).length) (cu := nI (ptk P).length) (e1 := nI 0) (e2 := nI 0) hn (by omega) (oA := dd) (oB := tg) (oC := fs) (oD := es) (sk := sk) (sv := sv) (no := P.os.length) (s := oend P.os (11 * P.nf + 11 * P.ng) 0) (by have := hP.2.2.2.2.1; omega) (by omega)
  have e5 := k_begin (n := n) hn (X8_hour b_p, X8_warmth b_p, X8_strength b_p, X8_charge b_p, X8_lemons b_p, X8_saucers b_p, X8_coins b_p, X8_storms b_p, X8_frontSteeped b_p, X8_guestServed b_p, X8_guestStormed b_p)
  have hR := ros_ok hP hK (z := (K, sT, VF K V (11 * P.nf + 11 * P.ng) ((otks P.os).length + 1), nI ((ptk P).length + 1), nI (ptk P).length, nI 0, nI 0)) (fun j hj => vAt_nI (by omega) hj) hO hE2 (nI (oend P.os (11 * P.nf + 11 * P.ng) 0))
  unfold f_X12_teach
  refine ex_bd e1 ?_
  refine ex_bd (show f_X7_clear dF dG dO = some (nI 0, nI 0, nI 0, nI 0) from rfl) ?_
  refine ex_bd e2 ?_
  refine ex_if (show (nI 0 : Int32) = 0 from rfl) ?_
  refine ex_bd e3 ?_
  unfold f_X12_teach_R61
  refine ex_if (show (nI 0 : Int32) = 0 from rfl) ?_
  refine ex_bd e4 ?_
  refine ex_bd e5 ⟨_, rfl, ?_⟩
  refine ⟨rfl, rfl, rfl, ?_, ?_, ?_, hR⟩
  · refine ⟨rfl, rfl, rfl, rfl, rfl, rfl, rfl, rfl, fun j hj => ?_, fun j hj => ?_, fun j hj => ?_⟩
    · show clrN _ 10 j = _
      unfold clrN b01
      rw [if_pos hj, if_neg (Sp0_fp P j).1]
    · show clrN _ 10 j = _
      unfold clrN b01
      rw [if_pos hj, if_neg (Sp0_fp P j).2.1]
    · show clrN _ 10 j = _
      unfold clrN b01
      rw [if_pos hj, if_neg (Sp0_fp P j).2.2]
  · exact ⟨hF.1, fun j hj => (hF.2 j hj).2⟩
  · exact ⟨hG.1, fun j hj => (hG.2 j hj).2⟩
