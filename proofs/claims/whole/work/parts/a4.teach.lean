/-! teach, in class and model -/
abbrev tcT : Type := Int32 × Bool × Int32 × Int32 × (Nat → Nat) × (Nat → Int32) × (Nat → Int64) × Int32 × Int32 × Int32 × Int32 × Int32 × Int32 × Int32 × Int32 × Int32 × Int32 × Int32 × Int32 × (Nat → Int32) × (Nat → Int32) × (Nat → Int32) × (Nat → Int64) × (Nat → Int32) × (Nat → Int32) × (Nat → Int32) × (Nat → Int32) × Int32 × (Nat → Int64) × (Nat → Int32) × (Nat → Int32) × (Nat → Int32) × (Nat → Int32) × Int32 × (Nat → Nat) × (Nat → Int32) × (Nat → Int32) × (Nat → Int32) × (Nat → Nat) × (Nat → Int32) × Int32 × Int32
def tcP (u : tcT) : bX8 := (u.2.2.2.2.2.2.2.2.2.2.2.1, u.2.2.2.2.2.2.2.2.2.2.2.2.1, u.2.2.2.2.2.2.2.2.2.2.2.2.2.1, u.2.2.2.2.2.2.2.2.2.2.2.2.2.2.1, u.2.2.2.2.2.2.2.2.2.2.2.2.2.2.2.1, u.2.2.2.2.2.2.2.2.2.2.2.2.2.2.2.2.1, u.2.2.2.2.2.2.2.2.2.2.2.2.2.2.2.2.2.1, u.2.2.2.2.2.2.2.2.2.2.2.2.2.2.2.2.2.2.1, u.2.2.2.2.2.2.2.2.2.2.2.2.2.2.2.2.2.2.2.1, u.2.2.2.2.2.2.2.2.2.2.2.2.2.2.2.2.2.2.2.2.1, u.2.2.2.2.2.2.2.2.2.2.2.2.2.2.2.2.2.2.2.2.2.1)
def tcF (u : tcT) : bX2 := (u.2.2.2.2.2.2.2.2.2.2.2.2.2.2.2.2.2.2.2.2.2.2.1, u.2.2.2.2.2.2.2.2.2.2.2.2.2.2.2.2.2.2.2.2.2.2.2.1, u.2.2.2.2.2.2.2.2.2.2.2.2.2.2.2.2.2.2.2.2.2.2.2.2.1, u.2.2.2.2.2.2.2.2.2.2.2.2.2.2.2.2.2.2.2.2.2.2.2.2.2.1, u.2.2.2.2.2.2.2.2.2.2.2.2.2.2.2.2.2.2.2.2.2.2.2.2.2.2.1, u.2.2.2.2.2.2.2.2.2.2.2.2.2.2.2.2.2.2.2.2.2.2.2.2.2.2.2.1)
def tcG (u : tcT) : bX4 := (u.2.2.2.2.2.2.2.2.2.2.2.2.2.2.2.2.2.2.2.2.2.2.2.2.2.2.2.2.1, u.2.2.2.2.2.2.2.2.2.2.2.2.2.2.2.2.2.2.2.2.2.2.2.2.2.2.2.2.2.1, u.2.2.2.2.2.2.2.2.2.2.2.2.2.2.2.2.2.2.2.2.2.2.2.2.2.2.2.2.2.2.1, u.2.2.2.2.2.2.2.2.2.2.2.2.2.2.2.2.2.2.2.2.2.2.2.2.2.2.2.2.2.2.2.1, u.2.2.2.2.2.2.2.2.2.2.2.2.2.2.2.2.2.2.2.2.2.2.2.2.2.2.2.2.2.2.2.2.1, u.2.2.2.2.2.2.2.2.2.2.2.2.2.2.2.2.2.2.2.2.2.2.2.2.2.2.2.2.2.2.2.2.2.1)
def tcO (u : tcT) : bX6 := (u.2.2.2.2.2.2.2.2.2.2.2.2.2.2.2.2.2.2.2.2.2.2.2.2.2.2.2.2.2.2.2.2.2.2.1, u.2.2.2.2.2.2.2.2.2.2.2.2.2.2.2.2.2.2.2.2.2.2.2.2.2.2.2.2.2.2.2.2.2.2.2.1, u.2.2.2.2.2.2.2.2.2.2.2.2.2.2.2.2.2.2.2.2.2.2.2.2.2.2.2.2.2.2.2.2.2.2.2.2.1, u.2.2.2.2.2.2.2.2.2.2.2.2.2.2.2.2.2.2.2.2.2.2.2.2.2.2.2.2.2.2.2.2.2.2.2.2.2.1, u.2.2.2.2.2.2.2.2.2.2.2.2.2.2.2.2.2.2.2.2.2.2.2.2.2.2.2.2.2.2.2.2.2.2.2.2.2.2.1, u.2.2.2.2.2.2.2.2.2.2.2.2.2.2.2.2.2.2.2.2.2.2.2.2.2.2.2.2.2.2.2.2.2.2.2.2.2.2.2.1, u.2.2.2.2.2.2.2.2.2.2.2.2.2.2.2.2.2.2.2.2.2.2.2.2.2.2.2.2.2.2.2.2.2.2.2.2.2.2.2.2.1, u.2.2.2.2.2.2.2.2.2.2.2.2.2.2.2.2.2.2.2.2.2.2.2.2.2.2.2.2.2.2.2.2.2.2.2.2.2.2.2.2.2)
def teN (w : teR) : Nat → Int32 := w.2.2.2.2.2.2.2.2.2.2.2.2.2.2.2.1
def teTo (w : teR) : bX13 := (w.2.2.2.2.2.2.2.2.2.2.2.2.2.2.2.2.1, w.2.2.2.2.2.2.2.2.2.2.2.2.2.2.2.2.2.1, w.2.2.2.2.2.2.2.2.2.2.2.2.2.2.2.2.2.2.1, w.2.2.2.2.2.2.2.2.2.2.2.2.2.2.2.2.2.2.2.1, w.2.2.2.2.2.2.2.2.2.2.2.2.2.2.2.2.2.2.2.2.1, w.2.2.2.2.2.2.2.2.2.2.2.2.2.2.2.2.2.2.2.2.2.1, w.2.2.2.2.2.2.2.2.2.2.2.2.2.2.2.2.2.2.2.2.2.2.1, w.2.2.2.2.2.2.2.2.2.2.2.2.2.2.2.2.2.2.2.2.2.2.2.1, w.2.2.2.2.2.2.2.2.2.2.2.2.2.2.2.2.2.2.2.2.2.2.2.2.1, w.2.2.2.2.2.2.2.2.2.2.2.2.2.2.2.2.2.2.2.2.2.2.2.2.2.1, w.2.2.2.2.2.2.2.2.2.2.2.2.2.2.2.2.2.2.2.2.2.2.2.2.2.2.1, w.2.2.2.2.2.2.2.2.2.2.2.2.2.2.2.2.2.2.2.2.2.2.2.2.2.2.2.1, w.2.2.2.2.2.2.2.2.2.2.2.2.2.2.2.2.2.2.2.2.2.2.2.2.2.2.2.2.1, w.2.2.2.2.2.2.2.2.2.2.2.2.2.2.2.2.2.2.2.2.2.2.2.2.2.2.2.2.2.1, w.2.2.2.2.2.2.2.2.2.2.2.2.2.2.2.2.2.2.2.2.2.2.2.2.2.2.2.2.2.2.1, w.2.2.2.2.2.2.2.2.2.2.2.2.2.2.2.2.2.2.2.2.2.2.2.2.2.2.2.2.2.2.2.1, w.2.2.2.2.2.2.2.2.2.2.2.2.2.2.2.2.2.2.2.2.2.2.2.2.2.2.2.2.2.2.2.2.1, w.2.2.2.2.2.2.2.2.2.2.2.2.2.2.2.2.2.2.2.2.2.2.2.2.2.2.2.2.2.2.2.2.2.1, w.2.2.2.2.2.2.2.2.2.2.2.2.2.2.2.2.2.2.2.2.2.2.2.2.2.2.2.2.2.2.2.2.2.2.1, w.2.2.2.2.2.2.2.2.2.2.2.2.2.2.2.2.2.2.2.2.2.2.2.2.2.2.2.2.2.2.2.2.2.2.2.1)
section P66
variable {n : Nat} {bT : Nat → Int32} {th bs ea tk wr er et dp : Int32} {ta kd nu po ln fn gn va kp : Nat → Int32}
variable {N : Nat → Int32} {K : Nat → Nat} {sT : Nat → Int32} {vT V : Nat → Int64} {t len : Nat} {bh : bX12} {X0 : bX11} {P : bX8} {dF F : bX2} {dG G : bX4} {dO O' : bX6} {To Fr : bX13}
/-- the draft's orders, cleared -/
def cO (O : bX6) : bX6 := (X6_deeds O, X6_targets O, X6_firstSteps O, X6_endSteps O, X6_stepKinds O, X6_stepValues O, nI 0, nI 0)
def cF (F : bX2) : bX2 := (X2_names F, X2_warm F, X2_force F, X2_from F, X2_hours F, nI 0)
def cG (G : bX4) : bX4 := (X4_names G, X4_from G, X4_weakest G, X4_strongest G, X4_nerve G, nI 0)
theorem k_startAt {V : Nat → Int64} {cu e1 e2 : Int32} (ht : t ≤ 400) {j : Nat} (hj : j ≤ t) : f_X11_startAt (nI j) (K, sT, V, nI (t + 1), cu, e1, e2) = some (sT j) := by
  unfold f_X11_startAt
  simp (disch := omega) only [X11_kinds, X11_starts, X11_values, X11_count, X11_cursor, X11_error, X11_errorToken, k_has ht hj, ↓reduceIte, ↓if_pos, ↓if_neg, Nat.reduceEqDiff, Nat.reduceLeDiff, Nat.reduceLT, and_true, true_and, and_false, false_and, true_or, or_true, false_or, or_false, eq_self, sb, nJ_of, nJ_lt, nJ_le, nJ_eq, nJ_clamp, nJ_add, nJ_sub, if_pos, if_neg, if_true, if_false, nL_0, nL_1, nL_2, nL_3, nL_4, nL_5, nL_6, nL_7, nL_8, nL_9, nL_10, nL_11, nL_12, nL_13, nL_14, nL_15, nL_16, nL_17, nL_18, nL_19, nL_20, nL_21, nL_22, nL_23, nL_24, nL_25, nL_26, nL_27, nL_28, nL_29, nL_30, nL_31, nL_32, nL_33, nL_34, nL_35, nL_36, nL_37, nL_38, nL_39, nL_40, nL_41, nL_42, nL_43, nL_44, nL_45, nL_46, nL_47, nL_48, nL_49, nL_50, nL_51, nL_52, nL_53, nL_54, nL_55, nL_56, nL_57, nL_58, nL_59, nL_60, nL_61, nL_62, nL_63, nL_64, nL_65, nL_66, nL_67, nL_68, nL_69, nL_70, nL_400, nL_402, nL_800, nL_2000]
/-- the grammar found an error -/
theorem tc_bad (ht : t ≤ 400) {c' : Nat} (hc : c' ≤ t) {q : q8} (hR : f_X11_readAll n X0 (bT, nI len) = some (K, sT, vT, nI (t + 1), nI 0, nI 0, nI 0)) (h3 : f_X3_read n (K, sT, vT, nI (t + 1), nI 0, nI 0, nI 0) (cO dO) = some (nI c', nI 1, nI c', q)) : ∃ u : tcT, f_X12_teach n bh (bT, nI len) X0 P dF dG dO = some u ∧ u.1 = nI 1 ∧ u.2.1 = false ∧ u.2.2.1 = sT c' ∧ u.2.2.2.1 = nI 0 ∧ tcP u = P := by
  refine ⟨?u, ?e, ?a, ?b, ?c, ?d, ?f⟩
  case e =>
    unfold f_X12_teach
    rw [bd hR, bd (show f_X7_clear dF dG dO = some (0, 0, 0, 0) from rfl)]
    refine (bd h3 _).trans ?_
    rw [if_neg (show ¬ ((nI 1 : Int32) = 0) by decide)]
    unfold f_X12_teach_R61
    rw [if_neg (show ¬ ((nI 1 : Int32) = 0) by decide)]
    refine (bd (k_startAt (K := K) (sT := sT) (V := vT) (cu := nI c') (e1 := nI 1) (e2 := nI c') ht hc) _).trans ?_
    rfl
  case a => rfl
  case b => rfl
  case c => rfl
  case d => rfl
  case f => rfl
/-- the checker found one -/
theorem tc_err (ht : t ≤ 400) {j : Nat} (hj : j ≤ t) {er et e2 : Int32} (her : er ≠ nI 0) (het : et = nI j) (hR : f_X11_readAll n X0 (bT, nI len) = some (K, sT, vT, nI (t + 1), nI 0, nI 0, nI 0)) (h3 : f_X3_read n (K, sT, vT, nI (t + 1), nI 0, nI 0, nI 0) (cO dO) = some (nI t, nI 0, nI 0, O')) (h1 : f_X1_check n (K, sT, vT, nI (t + 1), nI t, nI 0, nI 0) (cF dF) (cG dG) = some (ckE V er et F G)) : ∃ u : tcT, f_X12_teach n bh (bT, nI len) X0 P dF dG dO = some u ∧ u.1 = er ∧ u.2.1 = false ∧ u.2.2.1 = sT j ∧ u.2.2.2.1 = nI 0 ∧ tcP u = P := by
  subst het
  refine ⟨?u, ?e, ?a, ?b, ?c, ?d, ?f⟩
  case e =>
    unfold f_X12_teach
    rw [bd hR, bd (show f_X7_clear dF dG dO = some (0, 0, 0, 0) from rfl)]
    refine (bd h3 _).trans ?_
    rw [if_pos (show (nI 0 : Int32) = 0 from rfl)]
    refine (bd h1 _).trans ?_
    unfold f_X12_teach_R61
    rw [if_neg (show ¬ ((ckE V er (nI j) F G).2.1 = 0) from her)]
    refine (bd (k_startAt (K := K) (sT := sT) (V := V) (cu := nI t) (e1 := er) (e2 := nI j) ht hj) _).trans ?_
    rfl
  case a => rfl
  case b => rfl
  case c => rfl
  case d => rfl
  case f => rfl
/-- none -/
theorem tc_ok (hn : 2100 < n) (ht : t ≤ 400) {e2 : Int32} {oA : Nat → Nat} {oB oC oD : Nat → Int32} {sk : Nat → Nat} {sv : Nat → Int32} {no s : Nat} (hno : no ≤ 16) (hs : s ≤ 400) (hR : f_X11_readAll n X0 (bT, nI len) = some (K, sT, vT, nI (t + 1), nI 0, nI 0, nI 0)) (h3 : f_X3_read n (K, sT, vT, nI (t + 1), nI 0, nI 0, nI 0) (cO dO) = some (nI t, nI 0, nI 0, oA, oB, oC, oD, sk, sv, nI no, nI s)) (h1 : f_X1_check n (K, sT, vT, nI (t + 1), nI t, nI 0, nI 0) (cF dF) (cG dG) = some (ckE V (nI 0) e2 F G)) : ∃ u : tcT, f_X12_teach n bh (bT, nI len) X0 P dF dG dO = some u ∧ u.1 = nI 0 ∧ u.2.1 = true ∧ u.2.2.1 = -1 ∧ u.2.2.2.1 = nI 0 ∧ tcP u = (nI 0, nI 20, nI 0, nI 0, nI 3, nI 3, nI 0, nI 0, clrN (X8_frontSteeped P) 10, clrN (X8_guestServed P) 10, clrN (X8_guestStormed P) 10) ∧ tcF u = F ∧ tcG u = G ∧ tcO u = (oA, rsv (K, sT, V, nI (t + 1), nI t, nI 0, e2) oB no, oC, oD, sk, rsv (K, sT, V, nI (t + 1), nI t, nI 0, e2) sv s, nI no, nI s) := by
  refine ⟨?u, ?e, ?a, ?b, ?c, ?d, ?f, ?g, ?h, ?i⟩
  case e =>
    unfold f_X12_teach
    rw [bd hR, bd (show f_X7_clear dF dG dO = some (0, 0, 0, 0) from rfl)]
    refine (bd h3 _).trans ?_
    rw [if_pos (show (nI 0 : Int32) = 0 from rfl)]
    refine (bd h1 _).trans ?_
    unfold f_X12_teach_R61
    rw [if_pos (show (ckE V (nI 0) e2 F G).2.1 = 0 from rfl)]
    refine (bd (k_resolve (K := K) (sT := sT) (V := V) (cu := nI t) (e1 := nI 0) (e2 := e2) hn ht (oA := oA) (oB := oB) (oC := oC) (oD := oD) (sk := sk) (sv := sv) hno hs) _).trans ?_
    refine (bd (k_begin hn P) _).trans ?_
    rfl
  case a => rfl
  case b => rfl
  case c => rfl
  case d => rfl
  case f => rfl
  case g => rfl
  case h => rfl
  case i => rfl
/-- the model, with an error -/
theorem tz_err {j : Nat} (hj : j ≤ 400) {s : teT} (her : s.2.2.1 ≠ nI 0) (het : s.2.2.2.1 = nI j) {kd2 nu2 po2 ln2 : Nat → Int32} : ∃ w : teR, teZ n (th, ta, bs, ea, kd, nu, po, ln, tk, wr, er, et, dp, fn, gn, va, N, kp) To Fr (kd2, nu2, po2, ln2) s = some w ∧ w.1 = s.2.2.1 ∧ w.2.1 = nI 0 ∧ w.2.2.1 = nI 0 ∧ w.2.2.2.1 = po2 j ∧ teN w = N ∧ teTo w = To := by
  refine ⟨?w, ?e, ?a, ?b, ?c, ?d, ?f, ?g⟩
  case e =>
    unfold teZ f_X14_teach_R70 f_X14_teach_R96
    rw [if_neg (show ¬ (s.2.2.1 = 0) from her), het, if_neg (show ¬ ((nI j) < 0 ∨ 402 ≤ (nI j).toNatClampNeg) by rw [nJ_clamp (by omega), nL_0, nJ_lt (by omega) (by omega)]; omega), if_neg (show ¬ (s.2.2.1 = 0) from her), nJ_clamp (by omega)]
  case a => rfl
  case b => rfl
  case c => rfl
  case d => rfl
  case f => rfl
  case g => rfl
theorem tz_ok (hn : 2100 < n) {T : bX13} {m g : Nat} (hm : m ≤ 10) (hg : g ≤ 10) (c2 : X13_fronts T = nI m) (c4 : X13_guests T = nI g) {et : Int32} {kd2 nu2 po2 ln2 fn2 gn2 : Nat → Int32} {x : Int32} : ∃ (w : teR) (M : Nat → Int32), teZ n (th, ta, bs, ea, kd, nu, po, ln, tk, wr, er, et, dp, fn, gn, va, N, kp) To Fr (kd2, nu2, po2, ln2) (x, nI 0, nI 0, et, nI 0, fn2, gn2, T) = some w ∧ (∀ j, j < 58 → M j = zeroN j) ∧ w.1 = nI 0 ∧ w.2.1 = nI 0 ∧ w.2.2.1 = nI 0 ∧ w.2.2.2.1 = -1 ∧ teN w = comeN (bcm To T) m g M ∧ teTo w = bcm To T := by
  obtain ⟨M, hM, hz⟩ := k_anew (n := n) (N := N) (T := bcm To T) (nf := m) (ng := g) (th := nI 0) (ta := ta) (bs := nI 0) (ea := -1) (kd := kd2) (nu := nu2) (po := po2) (ln := ln2) (tk := x) (wr := nI 0) (er := nI 0) (et := et) (dp := nI 0) (fn := fn2) (gn := gn2) (va := va) (kp := kp) hm hg c2 c4 (by omega)
  refine ⟨?w, M, ?e, hz, ?a, ?b, ?c, ?d, ?f, ?g⟩
  case e =>
    unfold teZ f_X14_teach_R70 f_X14_teach_R96
    rw [if_pos (show (nI 0 : Int32) = 0 from rfl), if_pos (show (nI 0 : Int32) = 0 from rfl)]
    refine (bd (k_become To T) _).trans ?_
    refine (bd hM _).trans ?_
    rfl
  case a => rfl
  case b => rfl
  case c => rfl
  case d => rfl
  case f => rfl
  case g => rfl
end P66
