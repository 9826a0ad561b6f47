/-! THE CHECKER goes over a plan's tokens: fronts, guests -/
def Run {S R : Type} (body : S → Option (S ⊕ R)) (M : Nat) (s s' : S) : Prop := ∀ N, iter body (M + N) s = iter body N s'
theorem Run_0 {S R : Type} {body : S → Option (S ⊕ R)} (s : S) : Run body 0 s s := fun N => by rw [Nat.zero_add]
theorem Run_1 {S R : Type} {body : S → Option (S ⊕ R)} {s s' : S} (h : body s = some (.inl s')) : Run body 1 s s' := fun N => by
  rw [show 1 + N = N + 1 by omega]
  exact iter_inl h
theorem Run_t {S R : Type} {body : S → Option (S ⊕ R)} {M M' : Nat} {s s' s'' : S} (h : Run body M s s') (h' : Run body M' s' s'') : Run body (M + M') s s'' := fun N => by
  rw [show M + M' + N = M + (M' + N) by omega, h, h']
theorem fnd_none {p : Nat → Bool} : ∀ {m : Nat}, (∀ k, k < m → p k = false) → fnd p m = none
  | 0, _ => rfl
  | m + 1, h => fnd_miss (fnd_none (fun k hk => h k (by omega))) (h m (by omega))
abbrev CkT : Type := Int32 × Int32 × (Nat → Int64) × Int32 × Int32 × (Nat → Int64) × (Nat → Int32) × (Nat → Int32) × (Nat → Int32) × (Nat → Int32) × Int32 × (Nat → Int64) × (Nat → Int32) × (Nat → Int32) × (Nat → Int32) × (Nat → Int32) × Int32
abbrev ckB (n : Nat) (bt : bX11) (B1 : bX2) (B2 : bX4) := fun s : CkT => f_X1_check_L4 n bt B1 B2 s.1 s.2.1 s.2.2.1 s.2.2.2.1 s.2.2.2.2.1 s.2.2.2.2.2.1 s.2.2.2.2.2.2.1 s.2.2.2.2.2.2.2.1 s.2.2.2.2.2.2.2.2.1 s.2.2.2.2.2.2.2.2.2.1 s.2.2.2.2.2.2.2.2.2.2.1 s.2.2.2.2.2.2.2.2.2.2.2.1 s.2.2.2.2.2.2.2.2.2.2.2.2.1 s.2.2.2.2.2.2.2.2.2.2.2.2.2.1 s.2.2.2.2.2.2.2.2.2.2.2.2.2.2.1 s.2.2.2.2.2.2.2.2.2.2.2.2.2.2.2.1 s.2.2.2.2.2.2.2.2.2.2.2.2.2.2.2.2
abbrev ckS (od i : Nat) (V : Nat → Int64) (e2 : Int32) (F : bX2) (G : bX4) : CkT := (nI od, nI i, V, nI 0, e2, F.1, F.2.1, F.2.2.1, F.2.2.2.1, F.2.2.2.2.1, F.2.2.2.2.2, G.1, G.2.1, G.2.2.1, G.2.2.2.1, G.2.2.2.2.1, G.2.2.2.2.2)
def quiet (k : Nat) : Prop := k < 51 ∧ k ≠ 0 ∧ k ≠ 7 ∧ k ≠ 11 ∧ k ≠ 12 ∧ k ≠ 13 ∧ k ≠ 14 ∧ k ≠ 23 ∧ k ≠ 24 ∧ k ≠ 25 ∧ k ≠ 26
def RFrN (fr : Nat → Nat × Nat × Nat × Nat) (m : Nat) (c : bX2) : Prop := X2_count c = nI m ∧ ∀ j, j < m → X2_names c j = vlL (nmL 102 j) ∧ X2_warm c j = nI (fr j).1 ∧ X2_force c j = nI (fr j).2.1 ∧ X2_from c j = nI (fr j).2.2.1 ∧ X2_hours c j = nI (fr j).2.2.2
def RGuN (gu : Nat → Nat × Nat × Nat × Nat) (m : Nat) (c : bX4) : Prop := X4_count c = nI m ∧ ∀ j, j < m → X4_names c j = vlL (nmL 103 j) ∧ X4_from c j = nI (gu j).1 ∧ X4_weakest c j = nI (gu j).2.1 ∧ X4_strongest c j = nI (gu j).2.2.1 ∧ X4_nerve c j = nI (gu j).2.2.2
/-- values of tokens -/
def Tvs (V : Nat → Int64) (c : Nat) (ts : List Tk) : Prop := ∀ j t, ts[j]? = some t → V (c + j) = vlL t.1
theorem Tvs_a {V : Nat → Int64} {c : Nat} {ts us : List Tk} (h : Tvs V c (ts ++ us)) : Tvs V c ts ∧ Tvs V (c + ts.length) us := ⟨fun j t hj => h j t (by rw [List.getElem?_append_left (List.getElem?_eq_some_iff.mp hj).1]; exact hj), fun j t hj => by
  have := h (ts.length + j) t (by rw [List.getElem?_append_right (Nat.le_add_right _ _), Nat.add_sub_cancel_left]; exact hj)
  rw [Nat.add_assoc]
  exact this⟩
theorem rgE_ok {j v lo hi : Nat} {e : Int32 × Int32} (h1 : lo ≤ v) (h2 : v ≤ hi) (h3 : v < 1000) (h4 : hi < 1000) : rgE j (nI v) (nI lo) (nI hi) e = e := by
  unfold rgE
  rw [if_neg]
  rw [nJ_lt (by omega) (by omega), nJ_lt (by omega) (by omega)]
  omega
theorem nwE_ok {j m : Nat} {e : Int32 × Int32} (h : m < 10) : nwE j m none e = e := by
  unfold nwE
  rw [if_neg (by omega), if_pos rfl]
theorem fnd_n2 {fr : Nat → Nat × Nat × Nat × Nat} {m j : Nat} {F : bX2} {x : Int64} (h : RFrN fr m F) (hm : m ≤ 10) (hj : j < m) (hx : x = vlL (nmL 102 j)) : fnd (fun k => decide (X2_names F k = x)) m = some j := by
  subst hx
  refine fnd_hit (fnd_none (fun k hk => decide_eq_false (fun q => ?_))) (decide_eq_true (h.2 j hj).1) hj
  rw [(h.2 k (by omega)).1] at q
  have := (nm_inj 102 102 (Or.inl rfl) (Or.inl rfl) k (by omega) j (by omega) q).2
  omega
theorem fnd_n4 {gu : Nat → Nat × Nat × Nat × Nat} {m j : Nat} {G : bX4} {x : Int64} (h : RGuN gu m G) (hm : m ≤ 10) (hj : j < m) (hx : x = vlL (nmL 103 j)) : fnd (fun k => decide (X4_names G k = x)) m = some j := by
  subst hx
  refine fnd_hit (fnd_none (fun k hk => decide_eq_false (fun q => ?_))) (decide_eq_true (h.2 j hj).1) hj
  rw [(h.2 k (by omega)).1] at q
  have := (nm_inj 103 103 (Or.inr rfl) (Or.inr rfl) k (by omega) j (by omega) q).2
  omega
theorem fnd_m2 {fr : Nat → Nat × Nat × Nat × Nat} {m : Nat} {F : bX2} {x : Int64} (h : RFrN fr m F) (hm : m < 10) (hx : x = vlL (nmL 102 m)) : fnd (fun k => decide (X2_names F k = x)) m = none := by
  subst hx
  refine fnd_none (fun k hk => decide_eq_false (fun q => ?_))
  rw [(h.2 k (by omega)).1] at q
  have := (nm_inj 102 102 (Or.inl rfl) (Or.inl rfl) k (by omega) m (by omega) q).2
  omega
theorem fnd_m4 {gu : Nat → Nat × Nat × Nat × Nat} {m : Nat} {G : bX4} {x : Int64} (h : RGuN gu m G) (hm : m < 10) (hx : x = vlL (nmL 103 m)) : fnd (fun k => decide (X4_names G k = x)) m = none := by
  subst hx
  refine fnd_none (fun k hk => decide_eq_false (fun q => ?_))
  rw [(h.2 k (by omega)).1] at q
  have := (nm_inj 103 103 (Or.inr rfl) (Or.inr rfl) k (by omega) m (by omega) q).2
  omega
section
variable {n : Nat} {K : Nat → Nat} {sT : Nat → Int32} {V vT : Nat → Int64} {t od c i : Nat} {cu e2 eA eB : Int32} {F : bX2} {G : bX4} {B1 : bX2} {B2 : bX4}
theorem run_q (ht : t ≤ 400) : ∀ M i, i + M ≤ t + 1 → (∀ k, k < M → quiet (K (i + k))) → Run (ckB n (K, sT, vT, nI (t + 1), cu, eA, eB) B1 B2) M (ckS od i V e2 F G) (ckS od (i + M) V e2 F G) := by
  intro M
  induction M with
  | zero => intro i _ _; exact Run_0 _
  | succ M ih =>
    intro i hi h
    rw [show M + 1 = 1 + M by omega, show i + (1 + M) = i + 1 + M by omega]
    exact Run_t (Run_1 (cs_no ht (by omega) (h 0 (by omega)))) (ih (i + 1) (by omega) (fun k hk => by
      have := h (k + 1) (by omega)
      rw [show i + 1 + k = i + (k + 1) by omega]
      exact this))
theorem run_f {fr : Nat → Nat × Nat × Nat × Nat} {j : Nat} (ht : t ≤ 400) (hn : 20 < n) (hj : j < 10) (hx : FrOk (fr j)) (hT : Tks K c (ftk j (fr j))) (hV : Tvs V c (ftk j (fr j))) (hc : c + 11 ≤ t) (hF : RFrN fr j F) : ∃ F', Run (ckB n (K, sT, vT, nI (t + 1), cu, eA, eB) B1 B2) 11 (ckS od c V e2 F G) (ckS od (c + 11) V e2 F' G) ∧ RFrN fr (j + 1) F' := by
  obtain ⟨x0, x1, x2, x3, x4, x5⟩ := hx
  have k0 := Tks_get (j := 0) hT rfl (kw_kd 0 (by decide))
  have k1 := Tks_get (j := 1) hT rfl (nm_f 102 (Or.inl rfl) j hj).1
  have k2 := Tks_get (j := 2) hT rfl (kw_kd 1 (by decide))
  have k3 := Tks_get (j := 3) hT rfl (kw_kd (if (fr j).1 = 0 then 3 else 2) (by split <;> omega))
  have k4 := Tks_get (j := 4) hT rfl (kw_kd 6 (by decide))
  have k5 := Tks_get (j := 5) hT rfl (num_tok (nx := 32) (v := (fr j).2.1) (by omega) (by decide)).2
  have k6 := Tks_get (j := 6) hT rfl (kw_kd 4 (by decide))
  have k7 := Tks_get (j := 7) hT rfl (num_tok (nx := 32) (v := (fr j).2.2.1) (by omega) (by decide)).2
  have k8 := Tks_get (j := 8) hT rfl (kw_kd 5 (by decide))
  have k9 := Tks_get (j := 9) hT rfl (num_tok (nx := 32) (v := (fr j).2.2.2) (by omega) (by decide)).2
  have k10 := Tks_get (j := 10) hT rfl (kw_kd 36 (by decide))
  have v1 : V (c + 1) = vlL (nmL 102 j) := hV 1 _ rfl
  have v5 : Int64.toInt32 (V (c + 1 + 4)) = nI (fr j).2.1 := (congrArg Int64.toInt32 (hV 5 _ rfl)).trans (num_val (by omega))
  have v7 : Int64.toInt32 (V (c + 1 + 6)) = nI (fr j).2.2.1 := (congrArg Int64.toInt32 (hV 7 _ rfl)).trans (num_val (by omega))
  have v9 : Int64.toInt32 (V (c + 1 + 8)) = nI (fr j).2.2.2 := (congrArg Int64.toInt32 (hV 9 _ rfl)).trans (num_val (by omega))
  have hs := cs_front (n := n) (K := K) (sT := sT) (V := V) (vT := vT) (cu := cu) (e2 := e2) (eA := eA) (eB := eB) (F := F) (G := G) (B1 := B1) (B2 := B2) (oi := nI od) (i := c) ht (m := j) (by omega) hn hj hF.1 k0 (show K (c + 3) < 51 by rw [k3]; split <;> omega)
  rw [fnd_m2 hF hj v1, v5, v7, v9, nwE_ok hj, rgE_ok (by omega) (by omega) (by omega) (by omega), rgE_ok (by omega) (by omega) (by omega) (by omega), rgE_ok (by omega) (by omega) (by omega) (by omega), v1] at hs
  have hw : (if K (c + 1 + 2) = 2 then nI 1 else nI 0) = nI (fr j).1 := by
    rw [show K (c + 1 + 2) = if (fr j).1 = 0 then 3 else 2 from k3]
    by_cases q : (fr j).1 = 0
    · rw [if_pos q, q]; rfl
    · rw [if_neg q, if_pos rfl, show (fr j).1 = 1 by omega]
  rw [hw] at hs
  refine ⟨(vp_updL F.1 j (vlL (nmL 102 j)), upd F.2.1 j (nI (fr j).1), upd F.2.2.1 j (nI (fr j).2.1), upd F.2.2.2.1 j (nI (fr j).2.2.1), upd F.2.2.2.2.1 j (nI (fr j).2.2.2), nI (j + 1)), ?_, rfl, ?_⟩
  · refine Run_t (M := 1) (M' := 10) (Run_1 hs) ?_
    rw [show c + 11 = c + 1 + 10 by omega]
    refine run_q (sT := sT) (V := V) (vT := vT) (od := od) (cu := cu) (e2 := e2) (eA := eA) (eB := eB) (F := (vp_updL F.1 j (vlL (nmL 102 j)), upd F.2.1 j (nI (fr j).1), upd F.2.2.1 j (nI (fr j).2.1), upd F.2.2.2.1 j (nI (fr j).2.2.1), upd F.2.2.2.2.1 j (nI (fr j).2.2.2), nI (j + 1))) (G := G) (B1 := B1) (B2 := B2) ht 10 (c + 1) (by omega) (fun k hk => ?_)
    have e : ∀ z, K (c + (k + 1)) = z → quiet z → quiet (K (c + 1 + k)) := fun z h1 h2 => by
      rw [show c + 1 + k = c + (k + 1) by omega, h1]; exact h2
    rcases (show k = 0 ∨ k = 1 ∨ k = 2 ∨ k = 3 ∨ k = 4 ∨ k = 5 ∨ k = 6 ∨ k = 7 ∨ k = 8 ∨ k = 9 by omega) with rfl | rfl | rfl | rfl | rfl | rfl | rfl | rfl | rfl | rfl
    · exact e _ k1 (by unfold quiet; omega)
    · exact e _ k2 (by unfold quiet; omega)
    · exact e _ k3 (by unfold quiet; split <;> omega)
    · exact e _ k4 (by unfold quiet; omega)
    · exact e _ k5 (by unfold quiet; omega)
    · exact e _ k6 (by unfold quiet; omega)
    · exact e _ k7 (by unfold quiet; omega)
    · exact e _ k8 (by unfold quiet; omega)
    · exact e _ k9 (by unfold quiet; omega)
    · exact e _ k10 (by unfold quiet; omega)
  · intro k hk
    show vp_updL F.1 j _ k = _ ∧ upd F.2.1 j _ k = _ ∧ upd F.2.2.1 j _ k = _ ∧ upd F.2.2.2.1 j _ k = _ ∧ upd F.2.2.2.2.1 j _ k = _
    by_cases q : k = j
    · subst q
      rw [upd_same, upd_same, upd_same, upd_same]
      exact ⟨if_pos rfl, rfl, rfl, rfl, rfl⟩
    · rw [upd_else _ _ q, upd_else _ _ q, upd_else _ _ q, upd_else _ _ q]
      exact ⟨(if_neg q).trans (hF.2 k (by omega)).1, (hF.2 k (by omega)).2⟩
theorem run_g {gu : Nat → Nat × Nat × Nat × Nat} {j : Nat} (ht : t ≤ 400) (hn : 20 < n) (hj : j < 10) (hx : GuOk (gu j)) (hT : Tks K c (gtk j (gu j))) (hV : Tvs V c (gtk j (gu j))) (hc : c + 11 ≤ t) (hG : RGuN gu j G) : ∃ G', Run (ckB n (K, sT, vT, nI (t + 1), cu, eA, eB) B1 B2) 11 (ckS od c V e2 F G) (ckS od (c + 11) V e2 F G') ∧ RGuN gu (j + 1) G' := by
  obtain ⟨x0, x1, x2, x3, x4⟩ := hx
  have k0 := Tks_get (j := 0) hT rfl (kw_kd 7 (by decide))
  have k1 := Tks_get (j := 1) hT rfl (nm_f 103 (Or.inr rfl) j hj).1
  have k2 := Tks_get (j := 2) hT rfl (kw_kd 4 (by decide))
  have k3 := Tks_get (j := 3) hT rfl (num_tok (nx := 32) (v := (gu j).1) (by omega) (by decide)).2
  have k4 := Tks_get (j := 4) hT rfl (kw_kd 8 (by decide))
  have k5 := Tks_get (j := 5) hT rfl (num_tok (nx := 32) (v := (gu j).2.1) (by omega) (by decide)).2
  have k6 := Tks_get (j := 6) hT rfl (kw_kd 9 (by decide))
  have k7 := Tks_get (j := 7) hT rfl (num_tok (nx := 32) (v := (gu j).2.2.1) (by omega) (by decide)).2
  have k8 := Tks_get (j := 8) hT rfl (kw_kd 10 (by decide))
  have k9 := Tks_get (j := 9) hT rfl (num_tok (nx := 32) (v := (gu j).2.2.2) (by omega) (by decide)).2
  have k10 := Tks_get (j := 10) hT rfl (kw_kd 36 (by decide))
  have v1 : V (c + 1) = vlL (nmL 103 j) := hV 1 _ rfl
  have v3 : Int64.toInt32 (V (c + 1 + 2)) = nI (gu j).1 := (congrArg Int64.toInt32 (hV 3 _ rfl)).trans (num_val (by omega))
  have v5 : Int64.toInt32 (V (c + 1 + 4)) = nI (gu j).2.1 := (congrArg Int64.toInt32 (hV 5 _ rfl)).trans (num_val (by omega))
  have v7 : Int64.toInt32 (V (c + 1 + 6)) = nI (gu j).2.2.1 := (congrArg Int64.toInt32 (hV 7 _ rfl)).trans (num_val (by omega))
  have v9 : Int64.toInt32 (V (c + 1 + 8)) = nI (gu j).2.2.2 := (congrArg Int64.toInt32 (hV 9 _ rfl)).trans (num_val (by omega))
  have hs := cs_guest (n := n) (K := K) (sT := sT) (V := V) (vT := vT) (cu := cu) (e2 := e2) (eA := eA) (eB := eB) (F := F) (G := G) (B1 := B1) (B2 := B2) (oi := nI od) (i := c) ht (m := j) (by omega) hn hj hG.1 k0
  rw [fnd_m4 hG hj v1, v3, v5, v7, v9, nwE_ok hj, rgE_ok (by omega) (by omega) (by omega) (by omega), rgE_ok (by omega) (by omega) (by omega) (by omega), rgE_ok (by omega) (by omega) (by omega) (by omega), rgE_ok (by omega) (by omega) (by omega) (by omega), v1] at hs
  refine ⟨(vp_updL G.1 j (vlL (nmL 103 j)), upd G.2.1 j (nI (gu j).1), upd G.2.2.1 j (nI (gu j).2.1), upd G.2.2.2.1 j (nI (gu j).2.2.1), upd G.2.2.2.2.1 j (nI (gu j).2.2.2), nI (j + 1)), ?_, rfl, ?_⟩
  · refine Run_t (M := 1) (M' := 10) (Run_1 hs) ?_
    rw [show c + 11 = c + 1 + 10 by omega]
    refine run_q (sT := sT) (V := V) (vT := vT) (od := od) (cu := cu) (e2 := e2) (eA := eA) (eB := eB) (F := F) (G := (vp_updL G.1 j (vlL (nmL 103 j)), upd G.2.1 j (nI (gu j).1), upd G.2.2.1 j (nI (gu j).2.1), upd G.2.2.2.1 j (nI (gu j).2.2.1), upd G.2.2.2.2.1 j (nI (gu j).2.2.2), nI (j + 1))) (B1 := B1) (B2 := B2) ht 10 (c + 1) (by omega) (fun k hk => ?_)
    have e : ∀ z, K (c + (k + 1)) = z → quiet z → quiet (K (c + 1 + k)) := fun z h1 h2 => by
      rw [show c + 1 + k = c + (k + 1) by omega, h1]; exact h2
    rcases (show k = 0 ∨ k = 1 ∨ k = 2 ∨ k = 3 ∨ k = 4 ∨ k = 5 ∨ k = 6 ∨ k = 7 ∨ k = 8 ∨ k = 9 by omega) with rfl | rfl | rfl | rfl | rfl | rfl | rfl | rfl | rfl | rfl
    · exact e _ k1 (by unfold quiet; omega)
    · exact e _ k2 (by unfold quiet; omega)
    · exact e _ k3 (by unfold quiet; omega)
    · exact e _ k4 (by unfold quiet; omega)
    · exact e _ k5 (by unfold quiet; omega)
    · exact e _ k6 (by unfold quiet; omega)
    · exact e _ k7 (by unfold quiet; omega)
    · exact e _ k8 (by unfold quiet; omega)
    · exact e _ k9 (by unfold quiet; omega)
    · exact e _ k10 (by unfold quiet; omega)
  · intro k hk
    show vp_updL G.1 j _ k = _ ∧ upd G.2.1 j _ k = _ ∧ upd G.2.2.1 j _ k = _ ∧ upd G.2.2.2.1 j _ k = _ ∧ upd G.2.2.2.2.1 j _ k = _
    by_cases q : k = j
    · subst q
      rw [upd_same, upd_same, upd_same, upd_same]
      exact ⟨if_pos rfl, rfl, rfl, rfl, rfl⟩
    · rw [upd_else _ _ q, upd_else _ _ q, upd_else _ _ q, upd_else _ _ q]
      exact ⟨(if_neg q).trans (hG.2 k (by omega)).1, (hG.2 k (by omega)).2⟩
theorem run_fs {fr : Nat → Nat × Nat × Nat × Nat} (ht : t ≤ 400) (hn : 20 < n) (hc0 : X2_count F = nI 0) : ∀ m, m ≤ 10 → (∀ j, j < m → FrOk (fr j)) → (∀ j, j < m → Tks K (c + 11 * j) (ftk j (fr j)) ∧ Tvs V (c + 11 * j) (ftk j (fr j))) → c + 11 * m ≤ t → ∃ F', Run (ckB n (K, sT, vT, nI (t + 1), cu, eA, eB) B1 B2) (11 * m) (ckS od c V e2 F G) (ckS od (c + 11 * m) V e2 F' G) ∧ RFrN fr m F' := by
  intro m
  induction m with
  | zero => intro _ _ _ _; exact ⟨F, Run_0 _, hc0, fun j hj => absurd hj (Nat.not_lt_zero j)⟩
  | succ m ih =>
    intro hm hO hT hc
    obtain ⟨F1, h1, h2⟩ := ih (by omega) (fun j hj => hO j (by omega)) (fun j hj => hT j (by omega)) (by omega)
    obtain ⟨F2, h3, h4⟩ := run_f (n := n) (sT := sT) (vT := vT) (cu := cu) (e2 := e2) (eA := eA) (eB := eB) (G := G) (B1 := B1) (B2 := B2) (od := od) ht hn (by omega) (hO m (by omega)) (hT m (by omega)).1 (hT m (by omega)).2 (by omega) h2
    exact ⟨F2, Run_t h1 h3, h4⟩
theorem run_gs {gu : Nat → Nat × Nat × Nat × Nat} (ht : t ≤ 400) (hn : 20 < n) (hc0 : X4_count G = nI 0) : ∀ m, m ≤ 10 → (∀ j, j < m → GuOk (gu j)) → (∀ j, j < m → Tks K (c + 11 * j) (gtk j (gu j)) ∧ Tvs V (c + 11 * j) (gtk j (gu j))) → c + 11 * m ≤ t → ∃ G', Run (ckB n (K, sT, vT, nI (t + 1), cu, eA, eB) B1 B2) (11 * m) (ckS od c V e2 F G) (ckS od (c + 11 * m) V e2 F G') ∧ RGuN gu m G' := by
  intro m
  induction m with
  | zero => intro _ _ _ _; exact ⟨G, Run_0 _, hc0, fun j hj => absurd hj (Nat.not_lt_zero j)⟩
  | succ m ih =>
    intro hm hO hT hc
    obtain ⟨G1, h1, h2⟩ := ih (by omega) (fun j hj => hO j (by omega)) (fun j hj => hT j (by omega)) (by omega)
    obtain ⟨G2, h3, h4⟩ := run_g (n := n) (sT := sT) (vT := vT) (cu := cu) (e2 := e2) (eA := eA) (eB := eB) (F := F) (B1 := B1) (B2 := B2) (od := od) ht hn (by omega) (hO m (by omega)) (hT m (by omega)).1 (hT m (by omega)).2 (by omega) h2
    exact ⟨G2, Run_t h1 h3, h4⟩
end
