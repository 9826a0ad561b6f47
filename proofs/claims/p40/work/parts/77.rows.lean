/-! ROWS for what is drawn: arrays of objects made empty and filled; choices of values; the pot by hand as a plan and a state of numbers -/
abbrev zE (T : Nat → ClassId) (t a n : Nat) (f : Nat → Option Nat) : Nat × va_E := (a, .inl (T t, n, .inr (.inr (.inr (.inr f)))))
def updT {α : Type} (f : Nat → α) (i : Nat) (x : α) : Nat → α := fun j => if j = i then x else f j
theorem updT_s {α : Type} (f : Nat → α) (i : Nat) (x : α) : updT f i x i = x := if_pos rfl
theorem updT_o {α : Type} (f : Nat → α) {i j : Nat} (x : α) (h : j ≠ i) : updT f i x j = f j := if_neg h
def rfill (r : Nat → Nat) (i : Nat) : Nat → Option Nat := fun j => if j < i then some (r j) else none
theorem rfill_up (r : Nat → Nat) (i q : Nat) : va_up (rfill r i) i (some q) = rfill (updT r i q) (i + 1) := by
  funext j
  unfold va_up rfill
  by_cases h : j = i
  · subst h
    rw [if_pos rfl, if_pos (by omega), updT_s]
  · rw [if_neg h, updT_o _ _ h]
    by_cases g : j < i
    · rw [if_pos g, if_pos (by omega)]
    · rw [if_neg g, if_neg (by omega)]
theorem rfill_0 (r : Nat → Nat) : (fun _ => none : Nat → Option Nat) = rfill r 0 := by
  funext j
  unfold rfill
  rw [if_neg (by omega)]
section SXO
variable {p : Program} {l : Launch} {e : Env} {R : Room} {s : State} {m : MethodId} {args : Array Value} {below : List Frame} {meth : Method} {c : Code} {Q : State → Prop} {cc : ByteArray} {own : String} {nL : Nat} {ret : Option FieldType} {D : va_G} {T : Nat → ClassId} {A : Nat → Prop} {SF : (Nat → Prop) → State → Heap → Prop} {k n : Nat} {ws : va_W} {lv : List (Nat × Value)} {pc : Nat} {st : List Value}
theorem sx_newO (X : SxC p s m args meth c cc own nL ret D T A SF) {C : String} (hAO : va_AO C s) {idx N' t0 : Nat} {i : Int32} (r : Nat → Nat) (ht : (tyL T)[t0]? = some (T t0, .object C)) (hcl : Cond.classLink own idx C ∈ BIG) (hn : ¬ i < 0) (hN : i.toNatClampNeg = N') (hbytes : N' * 4 ≤ 536870912) (hcells : k + 1 ≤ R.cells) (hslots : n + N' ≤ R.slots) (hdg : decode cc pc = .ok (.anewarray idx, 3))
    (kk : ∀ q : Nat, SxG p l e R s m args below meth c D A nL (k + 1) (n + N') Q (ws ++ [zE T t0 q N' (rfill r 0)]) lv (pc + 3) (.ref q :: st)) : SxG p l e R s m args below meth c D A nL k n Q ws lv pc (.int i :: st) := by
  intro H locs ls hP b d h
  refine va_newq X.1 X.2.1 X.2.2.2.1 (X.2.2.2.2.1 _ hcl) hAO X.2.2.2.2.2.1 hP b d X.2.2.2.2.2.2.1 hn hN hbytes hcells hslots hdg (fun q cA H1 hK1 p1 d1 s1 => ?_)
  obtain ⟨kA, comp, -, -, -, h1⟩ := (hK1.2 8 (cA, .object C) rfl).2
  obtain ⟨kB, comp', -, -, -, h2⟩ := (X.2.2.2.2.2.1.2 t0 (T t0, .object C) ht).2
  have hc : cA = T t0 := Option.some.inj (h1.symm.trans h2)
  subst hc
  rw [rfill_0 r] at p1 d1
  exact kk q H1 locs ls p1 d1 s1 h
theorem sx_oast (X : SxC p s m args meth c cc own nL ret D T A SF) {C : String} {a N i q t0 ci : Nat} {r : Nat → Nat} {fs : List Value} {vc : vw_C} {ws' : va_W} (q0 q1 : Nat) (he : ws[q0]? = some (zE T t0 a N (rfill r i))) (hq : ws[q1]? = some (q, .inr (ci, fs))) (hvc : vwCl[ci]? = some vc) (hC : vc.1 = C) (ht : (tyL T)[t0]? = some (T t0, .object C)) (hi : i < N) (hN : N < 2 ^ 31) (hw : ws.set q0 (zE T t0 a N (rfill (updT r i q) (i + 1))) = ws') (hdg : decode cc pc = .ok (.aastore, 1)) (kk : SxG p l e R s m args below meth c D A nL k n Q ws' lv (pc + 1) st) : SxG p l e R s m args below meth c D A nL k n Q ws lv pc (.ref q :: .int (nI i) :: .ref a :: st) := by
  subst hC
  intro H locs ls hP b d h
  have hr := va_recv X.2.2.2.2.2.1 hP hvc hq
  refine vb_astq X.1 X.2.1 X.2.2.2.2.2.1 hP b d q0 t0 he ht hr (fun comp c0 h1 h2 => vb_asgS comp c0 h1 h2) (vp_in_nI hi hN) hdg (fun H1 locs1 p1 d1 s1 => ?_)
  rw [nI_clamp (by omega), rfill_up] at p1 d1
  subst hw
  exact kk H1 locs1 ls p1 d1 s1 h
theorem sx_oend {a N t0 : Nat} {r : Nat → Nat} {ws' : va_W} (q0 : Nat) (he : ws[q0]? = some (zE T t0 a N (rfill r N))) (hw : ws.set q0 (zR T t0 a N r) = ws') (kk : SxG p l e R s m args below meth c D A nL k n Q ws' lv pc st) : SxG p l e R s m args below meth c D A nL k n Q ws lv pc st := by
  subst hw
  intro H locs ls hP b d h
  refine kk H locs ls (hP.set b he ?_ (fun _ _ => rfl)) (b.set he) d h
  have h1 : H[a]? = some (arrV (T t0) N (fun j => va_rf (rfill r N j))) := hP q0 _ he
  show H[a]? = some (arrV (T t0) N (fun j => va_rf (some (r j))))
  rw [h1]
  refine congrArg some (arrV_congr _ _ (fun j hj => ?_))
  unfold rfill
  rw [if_pos hj]
/-- v == 0 ? 1 : 0 -/
theorem sx_sel0 (X : SxC p s m args meth c cc own nL ret D T A SF) {v : Nat} (hv : v < 2 ^ 31) (h1 : decode cc pc = .ok (.ifCond .ne 7, 3)) (h2 : decode cc (pc + 3) = .ok (.iconst 1, 1)) (h3 : decode cc (pc + 4) = .ok (.goto 4, 3)) (h4 : decode cc (pc + 7) = .ok (.iconst 0, 1))
    (kk : SxG p l e R s m args below meth c D A nL k n Q ws lv (pc + 8) (.int (nI (if v = 0 then 1 else 0)) :: st)) : SxG p l e R s m args below meth c D A nL k n Q ws lv pc (.int (nI v) :: st) := by
  refine sx_if_ne X (pc + 7) h1 rfl (fun hc => ?_) (fun hc => ?_)
  · have : ¬ v = 0 := fun z => hc (by rw [z]; rfl)
    rw [if_neg this] at kk
    exact sx_iconst X (v := 0) h4 rfl kk
  · have : v = 0 := (nI_eq hv (b := 0) (by decide)).mp hc
    rw [if_pos this] at kk
    exact sx_iconst X (v := 1) h2 rfl (sx_goto X (pc + 8) h3 (by omega) kk)
/-- v == 0 ? x : y, by bipush -/
theorem sx_selb (X : SxC p s m args meth c cc own nL ret D T A SF) {v x y : Nat} {bx by' : Int} (hv : v < 2 ^ 31) (h1 : decode cc pc = .ok (.ifCond .ne 8, 3)) (h2 : decode cc (pc + 3) = .ok (.bipush bx, 2)) (hx : (Int8.ofInt bx).toInt32 = nI x) (h3 : decode cc (pc + 5) = .ok (.goto 5, 3)) (h4 : decode cc (pc + 8) = .ok (.bipush by', 2)) (hy : (Int8.ofInt by').toInt32 = nI y)
    (kk : SxG p l e R s m args below meth c D A nL k n Q ws lv (pc + 10) (.int (nI (if v = 0 then x else y)) :: st)) : SxG p l e R s m args below meth c D A nL k n Q ws lv pc (.int (nI v) :: st) := by
  refine sx_if_ne X (pc + 8) h1 rfl (fun hc => ?_) (fun hc => ?_)
  · have : ¬ v = 0 := fun z => hc (by rw [z]; rfl)
    rw [if_neg this] at kk
    exact sx_bipush X h4 hy kk
  · have : v = 0 := (nI_eq hv (b := 0) (by decide)).mp hc
    rw [if_pos this] at kk
    exact sx_bipush X h2 hx (sx_goto X (pc + 10) h3 (by omega) kk)
/-- w == 0 ? one text : another -/
theorem sx_sels (X : SxC p s m args meth c cc own nL ret D T A SF) {w kx ky ix iy : Nat} {jd : Nat → Nat} {tx ty : String} (hv : w < 2 ^ 31) (h1 : decode cc pc = .ok (.ifCond .eq 8, 3)) (hx : vk_R own ix tx (jd kx) s) (h2 : decode cc (pc + 3) = .ok (.ldc ix, 2)) (h3 : decode cc (pc + 5) = .ok (.goto 5, 3)) (hy : vk_R own iy ty (jd ky) s) (h4 : decode cc (pc + 8) = .ok (.ldc iy, 2))
    (kk : SxG p l e R s m args below meth c D A nL k n Q ws lv (pc + 10) (.ref (jd (if w = 0 then ky else kx)) :: st)) : SxG p l e R s m args below meth c D A nL k n Q ws lv pc (.int (nI w) :: st) := by
  refine sx_if_eq X (pc + 8) h1 rfl (fun hc => ?_) (fun hc => ?_)
  · have : w = 0 := (nI_eq hv (b := 0) (by decide)).mp hc
    rw [if_pos this] at kk
    exact sx_ldcS X hy h4 kk
  · have : ¬ w = 0 := fun z => hc (by rw [z]; rfl)
    rw [if_neg this] at kk
    exact sx_ldcS X hx h2 (sx_goto X (pc + 10) h3 (by omega) kk)
theorem sx_selsN (X : SxC p s m args meth c cc own nL ret D T A SF) {w kx ky ix iy : Nat} {jd : Nat → Nat} {tx ty : String} (hv : w < 2 ^ 31) (h1 : decode cc pc = .ok (.ifCond .ne 8, 3)) (hx : vk_R own ix tx (jd kx) s) (h2 : decode cc (pc + 3) = .ok (.ldc ix, 2)) (h3 : decode cc (pc + 5) = .ok (.goto 5, 3)) (hy : vk_R own iy ty (jd ky) s) (h4 : decode cc (pc + 8) = .ok (.ldc iy, 2))
    (kk : SxG p l e R s m args below meth c D A nL k n Q ws lv (pc + 10) (.ref (jd (if w = 0 then kx else ky)) :: st)) : SxG p l e R s m args below meth c D A nL k n Q ws lv pc (.int (nI w) :: st) := by
  refine sx_if_ne X (pc + 8) h1 rfl (fun hc => ?_) (fun hc => ?_)
  · have : ¬ w = 0 := fun z => hc (by rw [z]; rfl)
    rw [if_neg this] at kk
    exact sx_ldcS X hy h4 kk
  · have : w = 0 := (nI_eq hv (b := 0) (by decide)).mp hc
    rw [if_pos this] at kk
    exact sx_ldcS X hx h2 (sx_goto X (pc + 10) h3 (by omega) kk)
end SXO
theorem nar01 {w : Nat} (h : w ≤ 1) : narrow .boolean (.int (nI w)) = .int (nI w) := by
  rcases Nat.le_one_iff_eq_zero_or_eq_one.mp h with rfl | rfl <;> rfl
theorem fit01 {w : Nat} (h : w ≤ 1) : fits .boolean (.int (nI w)) = true := by
  rcases Nat.le_one_iff_eq_zero_or_eq_one.mp h with rfl | rfl <;> decide
/-! a plan: fronts (warm, force, at, stays), guests (at, low, high, nerve), orders; a state -/
def Pl : Type := Nat × Nat × (Nat → Nat × Nat × Nat × Nat) × (Nat → Nat × Nat × Nat × Nat) × List Od
abbrev Pl.nf (P : Pl) : Nat := P.1
abbrev Pl.ng (P : Pl) : Nat := P.2.1
abbrev Pl.fr (P : Pl) : Nat → Nat × Nat × Nat × Nat := P.2.2.1
abbrev Pl.gu (P : Pl) : Nat → Nat × Nat × Nat × Nat := P.2.2.2.1
abbrev Pl.os (P : Pl) : List Od := P.2.2.2.2
abbrev Pl.mk (nf' : Nat) (ng' : Nat) (fr' : Nat → Nat × Nat × Nat × Nat) (gu' : Nat → Nat × Nat × Nat × Nat) (os' : List Od) : Pl := (nf', ng', fr', gu', os')
def Sp : Type := Nat × Nat × Nat × Nat × Nat × Nat × Nat × Nat × (Nat → Nat) × (Nat → Nat)
abbrev Sp.hour (P : Sp) : Nat := P.1
abbrev Sp.warmth (P : Sp) : Nat := P.2.1
abbrev Sp.strength (P : Sp) : Nat := P.2.2.1
abbrev Sp.charge (P : Sp) : Nat := P.2.2.2.1
abbrev Sp.lemons (P : Sp) : Nat := P.2.2.2.2.1
abbrev Sp.saucers (P : Sp) : Nat := P.2.2.2.2.2.1
abbrev Sp.coins (P : Sp) : Nat := P.2.2.2.2.2.2.1
abbrev Sp.storms (P : Sp) : Nat := P.2.2.2.2.2.2.2.1
abbrev Sp.fp (P : Sp) : Nat → Nat := P.2.2.2.2.2.2.2.2.1
abbrev Sp.gp (P : Sp) : Nat → Nat := P.2.2.2.2.2.2.2.2.2
abbrev Sp.mk (hour' : Nat) (warmth' : Nat) (strength' : Nat) (charge' : Nat) (lemons' : Nat) (saucers' : Nat) (coins' : Nat) (storms' : Nat) (fp' : Nat → Nat) (gp' : Nat → Nat) : Sp := (hour', warmth', strength', charge', lemons', saucers', coins', storms', fp', gp')
def FrOk (x : Nat × Nat × Nat × Nat) : Prop := x.1 ≤ 1 ∧ 1 ≤ x.2.1 ∧ x.2.1 ≤ 9 ∧ x.2.2.1 ≤ 60 ∧ 1 ≤ x.2.2.2 ∧ x.2.2.2 ≤ 12
def GuOk (x : Nat × Nat × Nat × Nat) : Prop := x.1 ≤ 60 ∧ x.2.1 ≤ 11 ∧ x.2.1 ≤ x.2.2.1 ∧ x.2.2.1 ≤ 30 ∧ x.2.2.2 ≤ 20
def PlOk (P : Pl) : Prop := P.nf ≤ 8 ∧ P.ng ≤ 7 ∧ (∀ j, j < P.nf → FrOk (P.fr j)) ∧ (∀ j, j < P.ng → GuOk (P.gu j)) ∧ P.os.length ≤ 4 ∧ ∀ o ∈ P.os, OdOk P.nf P.ng o
/-- the pot by hand: what its cells hold -/
def hb (P : Pl) (S : Sp) : bY18 := (nI S.hour, nI S.warmth, nI S.strength, nI S.charge, nI S.lemons, nI S.saucers, nI S.coins, nI S.storms, (fun j => nI (P.fr j).1), (fun j => nI (P.fr j).2.1), (fun j => nI (P.fr j).2.2.1), (fun j => nI (P.fr j).2.2.2), (fun j => nI (S.fp j)), (fun j => nI (P.gu j).1), (fun j => nI (P.gu j).2.1), (fun j => nI (P.gu j).2.2.1), (fun j => nI (P.gu j).2.2.2), (fun j => nI (S.gp j)), P.nf, P.ng)
/-- the fronts drawn so far, the guests -/
def zF1 (rF : Nat → Nat) (n : Nat) (fr : Nat → Nat × Nat × Nat × Nat) : va_W := zFr rF n (fun j => nI (fr j).1) (fun j => nI (fr j).2.1) (fun j => nI (fr j).2.2.1) (fun j => nI (fr j).2.2.2) (fun _ => nI 0)
def zG1 (rG : Nat → Nat) (n : Nat) (gu : Nat → Nat × Nat × Nat × Nat) : va_W := zGu rG n (fun j => nI (gu j).1) (fun j => nI (gu j).2.1) (fun j => nI (gu j).2.2.1) (fun j => nI (gu j).2.2.2) (fun _ => nI 0)
theorem zF1_grow (rF : Nat → Nat) (i q : Nat) (fr : Nat → Nat × Nat × Nat × Nat) (x : Nat × Nat × Nat × Nat) : zF1 (updT rF i q) (i + 1) (updT fr i x) = zF1 rF i fr ++ [zO q 12 [.int (nI x.1), .int (nI x.2.1), .int (nI x.2.2.1), .int (nI x.2.2.2), .int (nI 0)]] := by
  unfold zF1 zFr
  rw [List.range_succ, List.map_append]
  congr 1
  · refine List.map_congr_left (fun j hj => ?_)
    have hj' : j ≠ i := Nat.ne_of_lt (List.mem_range.mp hj)
    simp only [updT_o _ _ hj']
  · simp only [List.map_cons, List.map_nil, updT_s]
theorem zG1_grow (rF : Nat → Nat) (i q : Nat) (fr : Nat → Nat × Nat × Nat × Nat) (x : Nat × Nat × Nat × Nat) : zG1 (updT rF i q) (i + 1) (updT fr i x) = zG1 rF i fr ++ [zO q 13 [.int (nI x.1), .int (nI x.2.1), .int (nI x.2.2.1), .int (nI x.2.2.2), .int (nI 0)]] := by
  unfold zG1 zGu
  rw [List.range_succ, List.map_append]
  congr 1
  · refine List.map_congr_left (fun j hj => ?_)
    have hj' : j ≠ i := Nat.ne_of_lt (List.mem_range.mp hj)
    simp only [updT_o _ _ hj']
  · simp only [List.map_cons, List.map_nil, updT_s]
/-! the plan told in words -/
def ftx (t : List Nat) (j : Nat) (x : Nat × Nat × Nat × Nat) : List Nat := (((((((((t ++ ltx 0) ++ decL j) ++ ltx (if x.1 = 0 then 2 else 1)) ++ decL x.2.1) ++ ltx 3) ++ decL x.2.2.1) ++ ltx 4) ++ decL x.2.2.2) ++ ltx 5)
def gtx (t : List Nat) (j : Nat) (x : Nat × Nat × Nat × Nat) : List Nat := (((((((((((t ++ ltx 6) ++ decL j) ++ ltx 3) ++ decL x.1) ++ ltx 7) ++ decL x.2.1) ++ ltx 8) ++ decL x.2.2.1) ++ ltx 9) ++ decL x.2.2.2) ++ ltx (if j % 3 = 0 then 10 else 5))
def ftxs (fr : Nat → Nat × Nat × Nat × Nat) : Nat → List Nat
  | 0 => []
  | i + 1 => ftx (ftxs fr i) i (fr i)
def gtxs (t : List Nat) (gu : Nat → Nat × Nat × Nat × Nat) : Nat → List Nat
  | 0 => t
  | i + 1 => gtx (gtxs t gu i) i (gu i)
def otxs (t : List Nat) (os : List Od) : List Nat := os.foldl (fun t o => t ++ otx o) t
def ptx (P : Pl) : List Nat := otxs (gtxs (ftxs P.fr P.nf) P.gu P.ng) P.os
theorem ftxs_grow (fr : Nat → Nat × Nat × Nat × Nat) (x : Nat × Nat × Nat × Nat) : ∀ i k, i ≤ k → ftxs (updT fr k x) i = ftxs fr i := by
  intro i
  induction i with
  | zero => intro k _; rfl
  | succ i ih =>
    intro k hk
    show ftx (ftxs (updT fr k x) i) i (updT fr k x i) = ftx (ftxs fr i) i (fr i)
    rw [ih k (by omega), updT_o _ _ (by omega)]
theorem gtxs_grow (t : List Nat) (gu : Nat → Nat × Nat × Nat × Nat) (x : Nat × Nat × Nat × Nat) : ∀ i k, i ≤ k → gtxs t (updT gu k x) i = gtxs t gu i := by
  intro i
  induction i with
  | zero => intro k _; rfl
  | succ i ih =>
    intro k hk
    show gtx (gtxs t (updT gu k x) i) i (updT gu k x i) = gtx (gtxs t gu i) i (gu i)
    rw [ih k (by omega), updT_o _ _ (by omega)]
theorem ftxs_up (fr : Nat → Nat × Nat × Nat × Nat) (x : Nat × Nat × Nat × Nat) (i : Nat) : ftxs (updT fr i x) (i + 1) = ftx (ftxs fr i) i x := by
  show ftx (ftxs (updT fr i x) i) i (updT fr i x i) = _
  rw [ftxs_grow _ _ i i (Nat.le_refl _), updT_s]
theorem gtxs_up (t : List Nat) (gu : Nat → Nat × Nat × Nat × Nat) (x : Nat × Nat × Nat × Nat) (i : Nat) : gtxs t (updT gu i x) (i + 1) = gtx (gtxs t gu i) i x := by
  show gtx (gtxs t (updT gu i x) i) i (updT gu i x i) = _
  rw [gtxs_grow _ _ _ i i (Nat.le_refl _), updT_s]
/-! lengths -/
theorem decL_len1 {v : Nat} (h : v < 10) : (decL v).length ≤ 1 := by unfold decL; rw [if_pos h]; exact Nat.le_refl _
theorem decL_len2 {v : Nat} (h : v < 100) : (decL v).length ≤ 2 := by
  unfold decL
  split
  · exact Nat.le_succ _
  · exact Nat.le_refl _
theorem ftx_len {t : List Nat} {j : Nat} {x : Nat × Nat × Nat × Nat} (hj : j < 8) (hx : FrOk x) : (ftx t j x).length ≤ t.length + 42 := by
  obtain ⟨h1, h2, h3, h4, h5, h6⟩ := hx
  have e1 := decL_len1 (v := j) (by omega)
  have e2 := decL_len1 (v := x.2.1) (by omega)
  have e3 := decL_len2 (v := x.2.2.1) (by omega)
  have e4 := decL_len2 (v := x.2.2.2) (by omega)
  have e5 : (ltx (if x.1 = 0 then 2 else 1)).length = 15 := by split <;> rfl
  have c0 : (ltx 0).length = 7 := rfl
  have c3 : (ltx 3).length = 4 := rfl
  have c4 : (ltx 4).length = 5 := rfl
  have c5 : (ltx 5).length = 1 := rfl
  unfold ftx
  simp only [List.length_append]
  omega
theorem gtx_len {t : List Nat} {j : Nat} {x : Nat × Nat × Nat × Nat} (hj : j < 8) (hx : GuOk x) : (gtx t j x).length ≤ t.length + 44 := by
  obtain ⟨h1, h2, h3, h4, h5⟩ := hx
  have e1 := decL_len1 (v := j) (by omega)
  have e2 := decL_len2 (v := x.1) (by omega)
  have e3 := decL_len2 (v := x.2.1) (by omega)
  have e4 := decL_len2 (v := x.2.2.1) (by omega)
  have e5 := decL_len2 (v := x.2.2.2) (by omega)
  have e6 : (ltx (if j % 3 = 0 then 10 else 5)).length ≤ 2 := by split <;> decide
  have c6 : (ltx 6).length = 7 := rfl
  have c3 : (ltx 3).length = 4 := rfl
  have c7 : (ltx 7).length = 7 := rfl
  have c8 : (ltx 8).length = 4 := rfl
  have c9 : (ltx 9).length = 7 := rfl
  unfold gtx
  simp only [List.length_append]
  omega
theorem ftxs_len {fr : Nat → Nat × Nat × Nat × Nat} : ∀ i, i ≤ 8 → (∀ j, j < i → FrOk (fr j)) → (ftxs fr i).length ≤ 42 * i := by
  intro i
  induction i with
  | zero => intro _ _; exact Nat.le_refl _
  | succ i ih =>
    intro h hf
    have h1 := ih (by omega) (fun j hj => hf j (by omega))
    have h2 := ftx_len (t := ftxs fr i) (j := i) (by omega) (hf i (by omega))
    show (ftx (ftxs fr i) i (fr i)).length ≤ _
    omega
theorem gtxs_len {t : List Nat} {gu : Nat → Nat × Nat × Nat × Nat} : ∀ i, i ≤ 8 → (∀ j, j < i → GuOk (gu j)) → (gtxs t gu i).length ≤ t.length + 44 * i := by
  intro i
  induction i with
  | zero => intro _ _; exact Nat.le_refl _
  | succ i ih =>
    intro h hf
    have h1 := ih (by omega) (fun j hj => hf j (by omega))
    have h2 := gtx_len (t := gtxs t gu i) (j := i) (by omega) (hf i (by omega))
    show (gtx (gtxs t gu i) i (gu i)).length ≤ _
    omega
section SXO2
variable {p : Program} {l : Launch} {e : Env} {R : Room} {s : State} {m : MethodId} {args : Array Value} {below : List Frame} {meth : Method} {c : Code} {Q : State → Prop} {cc : ByteArray} {own : String} {nL : Nat} {ret : Option FieldType} {D : va_G} {T : Nat → ClassId} {A : Nat → Prop} {SF : (Nat → Prop) → State → Heap → Prop} {k n : Nat} {ws : va_W} {lv : List (Nat × Value)} {pc : Nat} {st : List Value}
/-- the same, the object anywhere among the cells -/
theorem sx_oastM (X : SxC p s m args meth c cc own nL ret D T A SF) {C : String} {a N i q t0 ci : Nat} {r : Nat → Nat} {fs : List Value} {vc : vw_C} {ws' : va_W} (q0 : Nat) (he : ws[q0]? = some (zE T t0 a N (rfill r i))) (hq : (q, .inr (ci, fs)) ∈ ws) (hvc : vwCl[ci]? = some vc) (hC : vc.1 = C) (ht : (tyL T)[t0]? = some (T t0, .object C)) (hi : i < N) (hN : N < 2 ^ 31) (hw : ws.set q0 (zE T t0 a N (rfill (updT r i q) (i + 1))) = ws') (hdg : decode cc pc = .ok (.aastore, 1)) (kk : SxG p l e R s m args below meth c D A nL k n Q ws' lv (pc + 1) st) : SxG p l e R s m args below meth c D A nL k n Q ws lv pc (.ref q :: .int (nI i) :: .ref a :: st) := by
  obtain ⟨q1, hq1⟩ := List.getElem?_of_mem hq
  exact sx_oast X q0 q1 he hq1 hvc hC ht hi hN hw hdg kk
theorem sx_Eld (X : SxC p s m args meth c cc own nL ret D T A SF) {a N t0 i : Nat} {C : String} {r : Nat → Nat} {i' : Nat} (q0 : Nat) (he : ws[q0]? = some (zE T t0 a N (rfill r i'))) (ht : (tyL T)[t0]? = some (T t0, .object C)) (hi : i < i') (hN : i < N) (h31 : N < 2 ^ 31) (hdg : decode cc pc = .ok (.aaload, 1)) (kk : SxG p l e R s m args below meth c D A nL k n Q ws lv (pc + 1) (.ref (r i) :: st)) : SxG p l e R s m args below meth c D A nL k n Q ws lv pc (.int (nI i) :: .ref a :: st) := by
  intro H locs ls hP b d h
  refine va_aldq X.1 X.2.1 X.2.2.2.2.2.1 hP q0 t0 he ht (vp_in_nI hN h31) hdg ?_
  rw [nI_clamp (by omega)]
  have hr : va_rf (rfill r i' i) = .ref (r i) := by unfold rfill; rw [if_pos hi]; rfl
  rw [hr]
  exact kk H locs ls hP b d h
theorem sx_rcvM (X : SxC p s m args meth c cc own nL ret D T A SF) {b ci : Nat} {fs : List Value} {vc : vw_C} {w : va_W} (he : (b, .inr (ci, fs)) ∈ w) (hvc : vwCl[ci]? = some vc) : ∀ H (locs : List Loc), va_P D vwCl w H → va_S A s.heap H locs → ∃ cellB : Cell, H[b]? = some cellB ∧ cellB.vm.isStatics = false ∧ s.vm.findClass vc.1 = some cellB.cls := by
  obtain ⟨q1, hq1⟩ := List.getElem?_of_mem he
  exact sx_rcv X hq1 hvc
end SXO2
