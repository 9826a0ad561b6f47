/-! fields, arrays, new cells, ends, starts, calls over the layer -/
/-- a class as the tables have it -/
def SxCl (C : String) (TT : u_T) (N : Nat) (ty : Nat → FieldType) (ci : Nat) : Prop := (∀ w ∈ u_ws C TT N, w ∈ BIG) ∧ (∀ k, k < N → parseFieldDescriptor (TT k).2.2.1 = some (ty k)) ∧ (∀ a, a < N → ∀ b, b < N → a ≠ b → (TT a).2.1 ≠ (TT b).2.1) ∧ vwCl[ci]? = some (C, TT, N)
def sxPatch (ws : va_W) : List Nat → va_W → va_W
  | i :: is, x :: xs => sxPatch (ws.set i x) is xs
  | _, _ => ws
theorem sxPatch_at : ∀ (is : List Nat) (wc ws : va_W) (j : Nat) (q : Nat × va_E), (sxPatch ws is wc)[j]? = some q → (∃ p : Nat, is[p]? = some j ∧ wc[p]? = some q) ∨ ((j ∉ is ∨ is.length ≠ wc.length) ∧ ws[j]? = some q) := by
  intro is
  induction is with
  | nil => intro wc ws j q h; exact Or.inr ⟨Or.inl List.not_mem_nil, by cases wc <;> exact h⟩
  | cons i is ih =>
    intro wc ws j q h
    cases wc with
    | nil => exact Or.inr ⟨Or.inr (by simp), h⟩
    | cons x xs =>
      rcases ih xs (ws.set i x) j q h with ⟨p, h1, h2⟩ | ⟨h1, h2⟩
      · exact Or.inl ⟨p + 1, by simpa using h1, by simpa using h2⟩
      · rw [List.getElem?_set] at h2
        by_cases hij : i = j
        · rw [if_pos hij] at h2
          split at h2
          · exact Or.inl ⟨0, by simp [hij], by simpa using h2⟩
          · cases h2
        · rw [if_neg hij] at h2
          refine Or.inr ⟨?_, h2⟩
          rcases h1 with h1 | h1
          · exact Or.inl (fun hm => (List.mem_cons.mp hm).elim (fun z => hij z.symm) h1)
          · exact Or.inr (by simpa using h1)
theorem sxPatch_ok {A0 : Nat → Prop} {D : va_G} {cl : List vw_C} {ws wc w1 : va_W} {H H1 : Heap} (hP : va_P D cl ws H) (hD : va_D A0 ws) (isC : List Nat) (hC : isC.map (fun i => ws[i]?) = wc.map some) (ha : w1.map (·.1) = wc.map (·.1))
    (hk : ∀ q : Nat, q < H.size → ¬ va_A wc H.size q → H1[q]? = H[q]?) (hP1 : va_P D cl w1 H1) : va_P D cl (sxPatch ws isC w1) H1 ∧ va_D A0 (sxPatch ws isC w1) := by
  have hlen : isC.length = w1.length := by
    have h1 := congrArg List.length hC
    have h2 := congrArg List.length ha
    simp only [List.length_map] at h1 h2
    omega
  have at1 : ∀ (p : Nat) (q : Nat × va_E), wc[p]? = some q → ∃ i, isC[p]? = some i ∧ ws[i]? = some q := by
    intro p q hq
    have h1 : (isC.map (fun i => ws[i]?))[p]? = some (some q) := by rw [hC, List.getElem?_map, hq]; rfl
    rw [List.getElem?_map] at h1
    cases hi : isC[p]? with
    | none => rw [hi] at h1; cases h1
    | some i => rw [hi] at h1; exact ⟨i, rfl, Option.some.inj h1⟩
  have at2 : ∀ (p : Nat) (q : Nat × va_E), w1[p]? = some q → ∃ q0, wc[p]? = some q0 ∧ q0.1 = q.1 := by
    intro p q hq
    have h1 : (w1.map (·.1))[p]? = some q.1 := by rw [List.getElem?_map, hq]; rfl
    rw [ha, List.getElem?_map] at h1
    cases hi : wc[p]? with
    | none => rw [hi] at h1; cases h1
    | some q0 => rw [hi] at h1; exact ⟨q0, rfl, Option.some.inj h1⟩
  have key : ∀ (j : Nat) (q : Nat × va_E), (sxPatch ws isC w1)[j]? = some q → ∃ q0, ws[j]? = some q0 ∧ q0.1 = q.1 := by
    intro j q hq
    rcases sxPatch_at isC w1 ws j q hq with ⟨p, h1, h2⟩ | ⟨-, h2⟩
    · obtain ⟨q0, h3, h4⟩ := at2 p q h2
      obtain ⟨i, h5, h6⟩ := at1 p q0 h3
      cases h1.symm.trans h5
      exact ⟨q0, h6, h4⟩
    · exact ⟨q, h2, rfl⟩
  refine ⟨fun j q hq => ?_, fun i j x y hx hy hxy => ?_, fun j q hq => ?_⟩
  · rcases sxPatch_at isC w1 ws j q hq with ⟨p, h1, h2⟩ | ⟨h1, h2⟩
    · exact hP1 p q h2
    · have h1 : j ∉ isC := h1.elim id (fun z => absurd hlen z)
      have hl := (hP j q h2).lt
      refine (hP j q h2).kept (hk q.1 hl (fun h => ?_))
      rcases h with ⟨p, e, h⟩ | h
      · obtain ⟨i, h3, h4⟩ := at1 p (q.1, e) h
        have hij := hD.1 j i q (q.1, e) h2 h4 rfl
        subst hij
        exact h1 (List.mem_of_getElem? h3)
      · omega
  · obtain ⟨x0, a1, a2⟩ := key i x hx
    obtain ⟨y0, b1, b2⟩ := key j y hy
    exact hD.1 i j x0 y0 a1 b1 (by rw [a2, b2]; exact hxy)
  · obtain ⟨q0, a1, a2⟩ := key j q hq
    rw [← a2]
    exact hD.2 j q0 a1
section SXH
variable {p : Program} {l : Launch} {e : Env} {R : Room} {s : State} {m : MethodId} {args : Array Value} {below : List Frame} {meth : Method} {c : Code} {Q : State → Prop} {cc : ByteArray} {own : String} {nL : Nat} {ret : Option FieldType} {D : va_G} {T : Nat → ClassId} {A : Nat → Prop} {SF : (Nat → Prop) → State → Heap → Prop} {k n : Nat} {ws : va_W} {lv : List (Nat × Value)} {pc : Nat} {st : List Value}
theorem sx_get (X : SxC p s m args meth c cc own nL ret D T A SF) {C : String} {TT : u_T} {N ci idx a : Nat} {ty : Nat → FieldType} {fs : List Value} {v : Value} (hCl : SxCl C TT N ty ci) (q0 : Nat) (he : ws[q0]? = some (a, .inr (ci, fs))) (j : Nat) (hj : j < N) (hlink : (Cond.fieldLink own idx (TT j).1 (TT j).2.1 (TT j).2.2.1) ∈ BIG) (hv : fs[j]? = some v) (hdg : decode cc pc = .ok (.getfield idx, 3))
    (kk : SxG p l e R s m args below meth c D A nL k n Q ws lv (pc + 3) (v :: st)) : SxG p l e R s m args below meth c D A nL k n Q ws lv pc (.ref a :: st) :=
  fun H locs ls hP b d h => va_get X.1 X.2.1 X.2.2.2.2.1 hCl.1 X.2.2.2.1 X.2.2.2.2.2.1 hP q0 he hCl.2.2.2 j hj (X.2.2.2.2.1 _ hlink) (fun _ h9 => h9) hv hdg (kk H locs ls hP b d h)
theorem sx_put (X : SxC p s m args meth c cc own nL ret D T A SF) {C : String} {TT : u_T} {N ci idx a : Nat} {ty : Nat → FieldType} {fs : List Value} {v : Value} {ws' : va_W} (hCl : SxCl C TT N ty ci) (q0 : Nat) (he : ws[q0]? = some (a, .inr (ci, fs))) (j : Nat) (hj : j < N) (hlink : (Cond.fieldLink own idx (TT j).1 (TT j).2.1 (TT j).2.2.1) ∈ BIG) (hfin : (TT j).2.2.2 = false) (hn : narrow (ty j) v = v) (hfit : fits (ty j) v = true) (hl : j < fs.length) (hw : ws.set q0 (a, .inr (ci, fs.set j v)) = ws') (hdg : decode cc pc = .ok (.putfield idx, 3))
    (kk : SxG p l e R s m args below meth c D A nL k n Q ws' lv (pc + 3) st) : SxG p l e R s m args below meth c D A nL k n Q ws lv pc (v :: .ref a :: st) :=
  fun H locs ls hP b d h => va_put X.1 X.2.1 X.2.2.2.2.1 hCl.1 ty hCl.2.1 hCl.2.2.1 X.2.2.2.1 X.2.2.2.2.2.1 hP b d q0 he hCl.2.2.2 j hj (X.2.2.2.2.1 _ hlink) (fun _ h9 => h9) hfin (hCl.2.1 j hj) hn hfit hl hdg (fun H1 locs1 p1 d1 s1 => by subst hw; exact kk H1 locs1 ls p1 d1 s1 h)
theorem sx_putF (X : SxC p s m args meth c cc own nL ret D T A SF) (hin : meth.name = "<init>") {C : String} {TT : u_T} {N ci idx a : Nat} {ty : Nat → FieldType} {fs : List Value} {v : Value} {ws' : va_W} (hCl : SxCl C TT N ty ci) (q0 : Nat) (he : ws[q0]? = some (a, .inr (ci, fs))) (j : Nat) (hj : j < N) (hlink : (Cond.fieldLink own idx (TT j).1 (TT j).2.1 (TT j).2.2.1) ∈ BIG) (hfin : (TT j).2.2.2 = true) (hdecl : (TT j).1 = own) (hn : narrow (ty j) v = v) (hfit : fits (ty j) v = true) (hl : j < fs.length) (hw : ws.set q0 (a, .inr (ci, fs.set j v)) = ws') (hdg : decode cc pc = .ok (.putfield idx, 3))
    (kk : SxG p l e R s m args below meth c D A nL k n Q ws' lv (pc + 3) st) : SxG p l e R s m args below meth c D A nL k n Q ws lv pc (v :: .ref a :: st) :=
  fun H locs ls hP b d h => va_putF X.1 X.2.1 X.2.2.2.2.1 hCl.1 ty hCl.2.1 hCl.2.2.1 X.2.2.2.1 X.2.2.2.2.2.1 hP b d q0 he hCl.2.2.2 j hj (X.2.2.2.2.1 _ hlink) (fun _ h9 => h9) hfin hin hdecl (hCl.2.1 j hj) hn hfit hl hdg (fun H1 locs1 p1 d1 s1 => by subst hw; exact kk H1 locs1 ls p1 d1 s1 h)
theorem sx_iald (X : SxC p s m args meth c cc own nL ret D T A SF) {a N : Nat} {f : Nat → Int32} {i : Int32} (q0 : Nat) (he : ws[q0]? = some (zI T a N f)) (hin : ¬ (i < 0 ∨ N ≤ i.toNatClampNeg)) (hdg : decode cc pc = .ok (.iaload, 1)) (kk : SxG p l e R s m args below meth c D A nL k n Q ws lv (pc + 1) (.int (f i.toNatClampNeg) :: st)) : SxG p l e R s m args below meth c D A nL k n Q ws lv pc (.int i :: .ref a :: st) :=
  fun H locs ls hP b d h => va_iald X.1 X.2.1 X.2.2.2.2.2.1 hP q0 0 he rfl hin hdg (kk H locs ls hP b d h)
theorem sx_zald (X : SxC p s m args meth c cc own nL ret D T A SF) {a N : Nat} {f : Nat → Int32} {i : Int32} (q0 : Nat) (he : ws[q0]? = some (zZ T a N f)) (hin : ¬ (i < 0 ∨ N ≤ i.toNatClampNeg)) (hdg : decode cc pc = .ok (.baload, 1)) (kk : SxG p l e R s m args below meth c D A nL k n Q ws lv (pc + 1) (.int (f i.toNatClampNeg) :: st)) : SxG p l e R s m args below meth c D A nL k n Q ws lv pc (.int i :: .ref a :: st) :=
  fun H locs ls hP b d h => va_zald X.1 X.2.1 X.2.2.2.2.2.1 hP q0 1 he rfl hin hdg (kk H locs ls hP b d h)
theorem sx_bald (X : SxC p s m args meth c cc own nL ret D T A SF) {a N : Nat} {f : Nat → Int32} {i : Int32} (q0 : Nat) (he : ws[q0]? = some (zB T a N f)) (hin : ¬ (i < 0 ∨ N ≤ i.toNatClampNeg)) (hdg : decode cc pc = .ok (.baload, 1)) (kk : SxG p l e R s m args below meth c D A nL k n Q ws lv (pc + 1) (.int (f i.toNatClampNeg) :: st)) : SxG p l e R s m args below meth c D A nL k n Q ws lv pc (.int i :: .ref a :: st) :=
  fun H locs ls hP b d h => va_bald X.1 X.2.1 X.2.2.2.2.2.1 hP q0 2 he rfl hin hdg (kk H locs ls hP b d h)
theorem sx_lald (X : SxC p s m args meth c cc own nL ret D T A SF) {a N : Nat} {f : Nat → Int64} {i : Int32} (q0 : Nat) (he : ws[q0]? = some (zJ T a N f)) (hin : ¬ (i < 0 ∨ N ≤ i.toNatClampNeg)) (hdg : decode cc pc = .ok (.laload, 1)) (kk : SxG p l e R s m args below meth c D A nL k n Q ws lv (pc + 1) (.long (f i.toNatClampNeg) :: st)) : SxG p l e R s m args below meth c D A nL k n Q ws lv pc (.int i :: .ref a :: st) :=
  fun H locs ls hP b d h => va_lald X.1 X.2.1 X.2.2.2.2.2.1 hP q0 3 he rfl hin hdg (kk H locs ls hP b d h)
theorem sx_kald (X : SxC p s m args meth c cc own nL ret D T A SF) {kd : Nat → Nat} {a N : Nat} {f : Nat → Nat} {i : Int32} (q0 : Nat) (he : ws[q0]? = some (zK T kd a N f)) (hin : ¬ (i < 0 ∨ N ≤ i.toNatClampNeg)) (hdg : decode cc pc = .ok (.aaload, 1)) (kk : SxG p l e R s m args below meth c D A nL k n Q ws lv (pc + 1) (.ref (kd (f i.toNatClampNeg)) :: st)) : SxG p l e R s m args below meth c D A nL k n Q ws lv pc (.int i :: .ref a :: st) :=
  fun H locs ls hP b d h => va_aldq X.1 X.2.1 X.2.2.2.2.2.1 hP q0 4 he rfl hin hdg (kk H locs ls hP b d h)
theorem sx_iast (X : SxC p s m args meth c cc own nL ret D T A SF) {a N : Nat} {f : Nat → Int32} {i x : Int32} {ws' : va_W} (q0 : Nat) (he : ws[q0]? = some (zI T a N f)) (hin : ¬ (i < 0 ∨ N ≤ i.toNatClampNeg)) (hw : ws.set q0 (zI T a N (upd f i.toNatClampNeg x)) = ws') (hdg : decode cc pc = .ok (.iastore, 1)) (kk : SxG p l e R s m args below meth c D A nL k n Q ws' lv (pc + 1) st) : SxG p l e R s m args below meth c D A nL k n Q ws lv pc (.int x :: .int i :: .ref a :: st) :=
  fun H locs ls hP b d h => va_iast X.1 X.2.1 X.2.2.2.2.2.1 hP b d q0 0 he rfl hin hdg (fun H1 locs1 p1 d1 s1 => by subst hw; exact kk H1 locs1 ls p1 d1 s1 h)
theorem sx_zast (X : SxC p s m args meth c cc own nL ret D T A SF) {a N : Nat} {f : Nat → Int32} {i x : Int32} {ws' : va_W} (q0 : Nat) (he : ws[q0]? = some (zZ T a N f)) (hin : ¬ (i < 0 ∨ N ≤ i.toNatClampNeg)) (hw : ws.set q0 (zZ T a N (upd f i.toNatClampNeg (vp_nar .boolean x))) = ws') (hdg : decode cc pc = .ok (.bastore, 1)) (kk : SxG p l e R s m args below meth c D A nL k n Q ws' lv (pc + 1) st) : SxG p l e R s m args below meth c D A nL k n Q ws lv pc (.int x :: .int i :: .ref a :: st) :=
  fun H locs ls hP b d h => va_zast X.1 X.2.1 X.2.2.2.2.2.1 hP b d q0 1 he rfl hin hdg (fun H1 locs1 p1 d1 s1 => by subst hw; exact kk H1 locs1 ls p1 d1 s1 h)
theorem sx_bast (X : SxC p s m args meth c cc own nL ret D T A SF) {a N : Nat} {f : Nat → Int32} {i x : Int32} {ws' : va_W} (q0 : Nat) (he : ws[q0]? = some (zB T a N f)) (hin : ¬ (i < 0 ∨ N ≤ i.toNatClampNeg)) (hw : ws.set q0 (zB T a N (upd f i.toNatClampNeg (vp_nar .byte x))) = ws') (hdg : decode cc pc = .ok (.bastore, 1)) (kk : SxG p l e R s m args below meth c D A nL k n Q ws' lv (pc + 1) st) : SxG p l e R s m args below meth c D A nL k n Q ws lv pc (.int x :: .int i :: .ref a :: st) :=
  fun H locs ls hP b d h => va_bast X.1 X.2.1 X.2.2.2.2.2.1 hP b d q0 2 he rfl hin hdg (fun H1 locs1 p1 d1 s1 => by subst hw; exact kk H1 locs1 ls p1 d1 s1 h)
theorem sx_last (X : SxC p s m args meth c cc own nL ret D T A SF) {a N : Nat} {f : Nat → Int64} {i : Int32} {x : Int64} {ws' : va_W} (q0 : Nat) (he : ws[q0]? = some (zJ T a N f)) (hin : ¬ (i < 0 ∨ N ≤ i.toNatClampNeg)) (hw : ws.set q0 (zJ T a N (vp_updL f i.toNatClampNeg x)) = ws') (hdg : decode cc pc = .ok (.lastore, 1)) (kk : SxG p l e R s m args below meth c D A nL k n Q ws' lv (pc + 1) st) : SxG p l e R s m args below meth c D A nL k n Q ws lv pc (.long x :: .int i :: .ref a :: st) :=
  fun H locs ls hP b d h => va_last X.1 X.2.1 X.2.2.2.2.2.1 hP b d q0 3 he rfl hin hdg (fun H1 locs1 p1 d1 s1 => by subst hw; exact kk H1 locs1 ls p1 d1 s1 h)
theorem sx_alen (X : SxC p s m args meth c cc own nL ret D T A SF) {a t0 : Nat} {cA : ClassId} {x : vp_A} {ty : FieldType} {v : Int32} (q0 : Nat) (he : ws[q0]? = some (a, .inl (cA, x))) (ht : (tyL T)[t0]? = some (cA, ty)) (hv : Int32.ofNat x.1 = v) (hdg : decode cc pc = .ok (.arraylength, 1)) (kk : SxG p l e R s m args below meth c D A nL k n Q ws lv (pc + 1) (.int v :: st)) : SxG p l e R s m args below meth c D A nL k n Q ws lv pc (.ref a :: st) :=
  fun H locs ls hP b d h => va_alen X.1 X.2.1 X.2.2.2.2.2.1 hP q0 t0 he ht hv hdg (kk H locs ls hP b d h)
theorem sx_widen {k' n' : Nat} (h1 : k ≤ k') (h2 : n ≤ n') (kk : SxG p l e R s m args below meth c D A nL k' n' Q ws lv pc st) : SxG p l e R s m args below meth c D A nL k n Q ws lv pc st := fun H locs ls a b d h => W.widen h1 h2 (kk H locs ls a b d h)
theorem sx_lsub (qs : List Nat) {lv' : List (Nat × Value)} (hl : lv_pick lv qs = lv') (kk : SxG p l e R s m args below meth c D A nL k n Q ws lv' pc st) : SxG p l e R s m args below meth c D A nL k n Q ws lv pc st := fun H locs ls a b d h => kk H locs ls a b d (lv_sub h qs hl)
theorem sx_wsub (qs : List Nat) {ws' : va_W} (hn : va_nd qs = true) (hl : qs.map (fun i => ws[i]?) = ws'.map some) (kk : SxG p l e R s m args below meth c D A nL k n Q ws' lv pc st) : SxG p l e R s m args below meth c D A nL k n Q ws lv pc st := fun H locs ls a b d h => kk H locs ls (a.by (fun i => (qs[i]?).getD 0) (fun i q hq => by
    have h1 : (qs.map (fun i => ws[i]?))[i]? = some (some q) := by rw [hl, List.getElem?_map, hq]; rfl
    rw [List.getElem?_map] at h1
    cases hi : qs[i]? with
    | none => rw [hi] at h1; cases h1
    | some z => rw [hi] at h1; exact Option.some.inj h1)) (b.sub qs hn hl) d h
theorem sx_new (X : SxC p s m args meth c cc own nL ret D T A SF) {C : String} {TT : u_T} {N ci idx : Nat} {ty : Nat → FieldType} {fs : List Value} (hCl : SxCl C TT N ty ci) (hcl : Cond.classLink own idx C ∈ BIG) (hinst : Cond.instantiable C N ∈ BIG) (hini : Cond.initialized C ∈ BIG) (hfs : ∀ j, j < N → defaultValue (ty j) = vp_V fs j) (hcells : k + 1 ≤ R.cells) (hslots : n + N ≤ R.slots) (hdg : decode cc pc = .ok (.new idx, 3))
    (kk : ∀ q : Nat, SxG p l e R s m args below meth c D A nL (k + 1) (n + N) Q (ws ++ [(q, .inr (ci, fs))]) lv (pc + 3) (.ref q :: st)) : SxG p l e R s m args below meth c D A nL k n Q ws lv pc st :=
  fun H locs ls hP b d h => va_new X.1 X.2.1 X.2.2.2.2.1 hCl.1 ty hCl.2.1 X.2.2.2.1 (X.2.2.2.2.1 _ hcl) (X.2.2.2.2.1 _ hinst) (X.2.2.2.2.1 _ hini) X.2.2.2.2.2.1 hP b d X.2.2.2.2.2.2.1 hCl.2.2.2 hfs hcells hslots hdg (fun q H1 p1 d1 s1 => kk q H1 locs ls p1 d1 s1 h)
theorem sx_newa (X : SxC p s m args meth c cc own nL ret D T A SF) {at0 : ArrayType} {ty : FieldType} {t0 N' : Nat} {i : Int32} {a0 : vp_A} {cT : ClassId} (harr : (Cond.arrayClass (newarray.typeOf at0)) ∈ BIG) (hty : newarray.typeOf at0 = ty) (ht : (tyL T)[t0]? = some (cT, ty)) (hpr : refKind ty = false) (ha : ∀ cA : ClassId, vp_cell cA a0 = arrV cA N' (fun _ => defaultValue ty)) (hn : ¬ i < 0) (hN : i.toNatClampNeg = N') (hbytes : N' * componentBytes ty ≤ 536870912) (hcells : k + 1 ≤ R.cells) (hslots : n + N' ≤ R.slots) (hdg : decode cc pc = .ok (.newarray at0, 2))
    (kk : ∀ q : Nat, SxG p l e R s m args below meth c D A nL (k + 1) (n + N') Q (ws ++ [(q, .inl (cT, a0))]) lv (pc + 2) (.ref q :: st)) : SxG p l e R s m args below meth c D A nL k n Q ws lv pc (.int i :: st) :=
  fun H locs ls hP b d h => va_newa X.1 X.2.1 (X.2.2.2.2.1 _ harr) hty X.2.2.2.2.2.1 hP b d X.2.2.2.2.2.2.1 ha hn hN hbytes hcells hslots hdg (fun q cA H1 hK1 p1 d1 s1 => by
    have h1 := (hK1.2 8 (cA, ty) rfl).2
    have h2 := (X.2.2.2.2.2.1.2 t0 _ ht).2
    have hc : cA = cT := by
      cases ty <;> first | (simp [refKind] at hpr; done) | exact Option.some.inj (h1.symm.trans h2)
    subst hc
    exact kk q H1 locs ls p1 d1 s1 h)
theorem sx_objInit (X : SxC p s m args meth c cc own nL ret D T A SF) {idx a : Nat} (h1 : (Cond.methodLink own idx Lib.objectInit) ∈ BIG) (h2 : (Cond.instanceMethod Lib.objectInit) ∈ BIG) (h3 : (Cond.code Lib.objectInit ⟨#[0xb1]⟩ 1 none) ∈ BIG) (hdg : decode cc pc = .ok (.invokespecial idx, 3)) (hf : 1 ≤ R.frames) (hloc : (st.map fun v => v.category).sum + 12 ≤ R.locals) (kk : SxG p l e R s m args below meth c D A nL k n Q ws lv (pc + 3) st) : SxG p l e R s m args below meth c D A nL k n Q ws lv pc (.ref a :: st) :=
  fun H locs ls hP b d h => W.objInit X.1 X.2.1 X.2.2.2.1 (X.2.2.2.2.1 _ h1) (X.2.2.2.2.1 _ h2) (X.2.2.2.2.1 _ h3) rfl (by rw [X.2.2.1]; exact h.1) rfl hdg hf (by show 2 * 0 + _ + 12 ≤ _; omega) (kk H locs ls hP b d h)
theorem sx_max (X : SxC p s m args meth c cc own nL ret D T A SF) {idx : Nat} (h1 : (Cond.methodLink own idx Lib.Math.max.name) ∈ BIG) (h2 : (Cond.static Lib.Math.max.name) ∈ BIG) (h3 : (Cond.initialized "java/lang/Math") ∈ BIG) (h4 : (Cond.code Lib.Math.max.name Lib.Math.max.code 2 (some .int)) ∈ BIG) (hf : 1 ≤ R.frames) (hloc : (st.map fun v => v.category).sum + 13 ≤ R.locals) (hc : k ≤ R.cells) (hs : n ≤ R.slots) {x y : Int32} (hdg : decode cc pc = .ok (.invokestatic idx, 3)) (kk : SxG p l e R s m args below meth c D A nL k n Q ws lv (pc + 3) (.int (if x < y then y else x) :: st)) : SxG p l e R s m args below meth c D A nL k n Q ws lv pc (.int y :: .int x :: st) :=
  fun H locs ls hP b d h => va_mmax X.1 X.2.1 (X.2.2.1.trans h.1.symm) X.2.2.2.1 (X.2.2.2.2.1 _ h1) (X.2.2.2.2.1 _ h2) (X.2.2.2.2.1 _ h3) (X.2.2.2.2.1 _ h4) hf hloc hc hs hdg (kk H locs ls hP b d h)
theorem sx_min (X : SxC p s m args meth c cc own nL ret D T A SF) {idx : Nat} (h1 : (Cond.methodLink own idx Lib.Math.min.name) ∈ BIG) (h2 : (Cond.static Lib.Math.min.name) ∈ BIG) (h3 : (Cond.initialized "java/lang/Math") ∈ BIG) (h4 : (Cond.code Lib.Math.min.name Lib.Math.min.code 2 (some .int)) ∈ BIG) (hf : 1 ≤ R.frames) (hloc : (st.map fun v => v.category).sum + 13 ≤ R.locals) (hc : k ≤ R.cells) (hs : n ≤ R.slots) {x y : Int32} (hdg : decode cc pc = .ok (.invokestatic idx, 3)) (kk : SxG p l e R s m args below meth c D A nL k n Q ws lv (pc + 3) (.int (if y < x then y else x) :: st)) : SxG p l e R s m args below meth c D A nL k n Q ws lv pc (.int y :: .int x :: st) :=
  fun H locs ls hP b d h => va_mmin X.1 X.2.1 (X.2.2.1.trans h.1.symm) X.2.2.2.1 (X.2.2.2.2.1 _ h1) (X.2.2.2.2.1 _ h2) (X.2.2.2.2.1 _ h3) (X.2.2.2.2.1 _ h4) hf hloc hc hs hdg (kk H locs ls hP b d h)
/-! switches -/
theorem sx_table (X : SxC p s m args meth c cc own nL ret D T A SF) {dflt lo hi off : Int} {offs : Array Int} {len : Nat} {x v : Int32} (tgt : Nat) (hx : x = v) (hdg : decode cc pc = .ok (.tableswitch dflt lo hi offs, len)) (h1 : ¬ v.toInt < lo) (h2 : ¬ hi < v.toInt) (ho : offs[(v.toInt - lo).toNat]? = some off) (ht : (pc : Int) + off = (tgt : Int)) (kk : SxG p l e R s m args below meth c D A nL k n Q ws lv tgt st) : SxG p l e R s m args below meth c D A nL k n Q ws lv pc (.int x :: st) := by
  subst hx
  exact fun H locs ls hP b d h => lv_tableIn X.1 X.2.1 hdg h1 h2 ho ht (kk H locs ls hP b d h)
theorem sx_tableD (X : SxC p s m args meth c cc own nL ret D T A SF) {dflt lo hi : Int} {offs : Array Int} {len : Nat} {x : Int32} (tgt : Nat) (hx : x.toInt < lo ∨ hi < x.toInt) (hdg : decode cc pc = .ok (.tableswitch dflt lo hi offs, len)) (ht : (pc : Int) + dflt = (tgt : Int)) (kk : SxG p l e R s m args below meth c D A nL k n Q ws lv tgt st) : SxG p l e R s m args below meth c D A nL k n Q ws lv pc (.int x :: st) :=
  fun H locs ls hP b d h => lv_tableOut X.1 X.2.1 hdg hx ht (kk H locs ls hP b d h)
theorem sx_lookup (X : SxC p s m args meth c cc own nL ret D T A SF) {dflt off : Int} {ps : Array (Int × Int)} {len : Nat} {x : Int32} (tgt : Nat) (ho : Op.lookupswitch.offset ps.toList dflt x.toInt = off) (hdg : decode cc pc = .ok (.lookupswitch dflt ps, len)) (hp : (ps.toList.zip (ps.toList.drop 1)).all (fun (a, next) => a.1 < next.1) = true) (ht : (pc : Int) + off = (tgt : Int)) (kk : SxG p l e R s m args below meth c D A nL k n Q ws lv tgt st) : SxG p l e R s m args below meth c D A nL k n Q ws lv pc (.int x :: st) :=
  fun H locs ls hP b d h => lv_lookup X.1 X.2.1 hdg hp ho ht (kk H locs ls hP b d h)
/-! ends -/
variable {Res : Type} {vf : Res → Option Value} {wf : Res → va_W} {res r0 : Res}
theorem sx_iret {ty : FieldType} (X : SxC p s m args meth c cc own nL (some ty) D T A SF) {v : Int32} (hn : narrow ty (.int v) = .int v) (hdg : decode cc pc = .ok (.ireturn, 1)) (er : res = r0) (hv : vf r0 = some (.int v)) (hw : wf r0 = ws) : SxG p l e R s m args below meth c D A nL k n (SxE below args s D A vf wf res k n) ws lv pc [.int v] := by
  subst er
  subst hw
  intro H locs ls hP hD hS h
  exact W.zret X.1 X.2.1 X.2.2.2.2.2.2.2.1 hn (fun t ht hW => ⟨by rw [hv], ⟨by rw [ht]; exact hP, hD⟩, hS.F ht⟩) hS.2.2 hdg X.2.2.2.2.2.2.2.2.1
theorem sx_lret (X : SxC p s m args meth c cc own nL (some .long) D T A SF) {v : Int64} (hdg : decode cc pc = .ok (.lreturn, 1)) (er : res = r0) (hv : vf r0 = some (.long v)) (hw : wf r0 = ws) : SxG p l e R s m args below meth c D A nL k n (SxE below args s D A vf wf res k n) ws lv pc [.long v] := by
  subst er
  subst hw
  intro H locs ls hP hD hS h
  exact W.lret X.1 X.2.1 X.2.2.2.2.2.2.2.1 (fun t ht hW => ⟨by rw [hv], ⟨by rw [ht]; exact hP, hD⟩, hS.F ht⟩) hS.2.2 hdg X.2.2.2.2.2.2.2.2.1
theorem sx_dret (X : SxC p s m args meth c cc own nL (some .double) D T A SF) {v : UInt64} (hdg : decode cc pc = .ok (.dreturn, 1)) (er : res = r0) (hv : vf r0 = some (.double v)) (hw : wf r0 = ws) : SxG p l e R s m args below meth c D A nL k n (SxE below args s D A vf wf res k n) ws lv pc [.double v] := by
  subst er
  subst hw
  intro H locs ls hP hD hS h
  exact W.dret X.1 X.2.1 X.2.2.2.2.2.2.2.1 (fun t ht hW => ⟨by rw [hv], ⟨by rw [ht]; exact hP, hD⟩, hS.F ht⟩) hS.2.2 hdg X.2.2.2.2.2.2.2.2.1
theorem sx_vret (X : SxC p s m args meth c cc own nL none D T A SF) (hdg : decode cc pc = .ok (.return_, 1)) (er : res = r0) (hv : vf r0 = none) (hw : wf r0 = ws) : SxG p l e R s m args below meth c D A nL k n (SxE below args s D A vf wf res k n) ws lv pc [] := by
  subst er
  subst hw
  intro H locs ls hP hD hS h
  exact W.vret X.1 X.2.1 X.2.2.2.2.2.2.2.1 (fun t ht hW => ⟨by rw [hv], ⟨by rw [ht]; exact hP, hD⟩, hS.F ht⟩) hS.2.2 hdg X.2.2.2.2.2.2.2.2.1
theorem sx_aret {cn : String} (X : SxC p s m args meth c cc own nL (some (.object cn)) D T A SF) {a : Nat} (hdg : decode cc pc = .ok (.areturn, 1)) (er : res = r0) (hv : vf r0 = some (.ref a)) (hw : wf r0 = ws) : SxG p l e R s m args below meth c D A nL k n (SxE below args s D A vf wf res k n) ws lv pc [.ref a] := by
  subst er
  subst hw
  intro H locs ls hP hD hS h
  exact W.aret X.1 X.2.1 X.2.2.2.2.2.2.2.1 (Or.inl ⟨_, rfl⟩) (Or.inr ⟨_, rfl⟩) (fun t ht hW => ⟨by rw [hv], ⟨by rw [ht]; exact hP, hD⟩, hS.F ht⟩) hS.2.2 hdg X.2.2.2.2.2.2.2.2.1
end SXH
theorem sx_start {Res : Type} {SF : (Nat → Prop) → State → Heap → Prop} {l : Launch} {D : va_G} {T : Nat → ClassId} {y : MethodName} {cc : ByteArray} {maxL : Nat} {ret : Option FieldType} {rm : Room} {As : List Value} {wc : va_W} {vf : Res → Option Value} {wf : Res → va_W} {res : Res} {mc ms : Nat} (hok : SFok SF) (hy : plainName y.cls = true) (hlen : (lg_sl As).length ≤ maxL)
    (body : ∀ (p : Program) (e : Env) (s : State) (m : MethodId) (args : Array Value) (below : List Frame) (meth : Method) (c : Code) (A : Nat → Prop), SxC p s m args meth c cc y.cls maxL ret D T A SF → meth.name = y.name → SxG p l e rm s m args below meth c D A maxL 0 0 (SxE below args s D A vf wf res mc ms) wc (lv_args 0 As) 0 []) :
    SxK SF l D T y cc maxL ret rm As wc vf wf res mc ms := by
  intro sz
  refine Met.ofW (cc := cc) (maxL := maxL) (ret := ret) hy rfl ?_
  intro p e s m args below meth c s₁ B hml hv
  obtain ⟨rfl, hsz, hP, hK, hD0, hSF⟩ := hv
  subst hsz
  have hts := atoms_spec (ws := Cond.code y cc maxL ret :: BIG) B.pre
  have X : SxC p s m As.toArray meth c cc y.cls maxL ret D T (va_A wc s.heap.size) SF := ⟨B.exec, B.bytes, hml, findClass_of_methodNamed B.named, fun w h => hts w (List.mem_cons_of_mem _ h), hK, fun q h => Or.inr h, B.returns, B.notSynchronized, hSF, hok⟩
  rw [lg_entry_eq]
  exact body p e s m As.toArray below meth c _ X (name_of_methodNamed B.named B.method).1 s.heap [] _ hP hD0.self va_S.rf (lv_entry As hlen)
section SXK
variable {p : Program} {l : Launch} {e : Env} {R : Room} {s : State} {m : MethodId} {args : Array Value} {below : List Frame} {meth : Method} {c : Code} {Q : State → Prop} {cc : ByteArray} {own : String} {nL : Nat} {ret : Option FieldType} {D : va_G} {T : Nat → ClassId} {A : Nat → Prop} {SF : (Nat → Prop) → State → Heap → Prop} {k n : Nat} {ws : va_W} {lv : List (Nat × Value)} {pc : Nat} {st : List Value}
theorem sx_after {H : Heap} {locs : List Loc} {ls : Array Slot} {mc ms : Nat} {rest st0 : List Value} {ov : Option Value} {B : State → Prop} {A0 A1 : Nat → Prop} {H0 : Heap} {a : Array Value} {free : Addr → Prop} (hr : va_Run p l e R s m args below meth c H locs k n mc ms (F0 m pc ls st0) rest (SxQ ov B A1 a) free) (hS : va_S A0 H0 H locs) (hA : ∀ q, q < H.size → A1 q → A0 q) (hf : ∀ q, free q → A0 q)
    (kk : ∀ (t : State) (H1 : Heap) (locs1 : List Loc), t.heap = H1 → B t → H.size ≤ H1.size → (∀ q : Nat, q < H.size → ¬ A1 q → H1[q]? = H[q]?) → va_S A0 H0 H1 locs1 → W p l e R s m args below meth c H1 locs1 (k + mc) (n + ms) Q (F0 m (pc + 3) ls (ov.toList ++ rest))) : W p l e R s m args below meth c H locs k n Q (F0 m pc ls st0) := by
  intro T hT X
  obtain ⟨v, st₀, t, T', L, h0, X', hL, e1, e2, ⟨hv, hb, hz, hk⟩, st⟩ := hr T hT X
  cases hv
  rw [h0] at hz hk
  obtain ⟨t2, a1, b1⟩ := kk t T'.heap (locs ++ L) e1.symm hb (by rw [e1]; exact hz) (fun q h1 h2 => by rw [e1]; exact hk q h1 h2)
    ⟨Nat.le_trans hS.1 (by rw [e1]; exact hz), fun q h1 h2 => by rw [e1, hk q (Nat.lt_of_lt_of_le h1 hS.1) (fun z => h2 (hA q (Nat.lt_of_lt_of_le h1 hS.1) z))]; exact hS.2.1 q h1 h2, fun q hq => by
      rcases List.mem_append.mp hq with h | h
      · exact hS.2.2 q h
      · exact hf _ (hL q h)⟩ T' rfl X'
  exact ⟨t2, st t2 a1, b1⟩
variable {Res : Type} {y : MethodName} {cy : ByteArray} {maxLy : Nat} {rty : Option FieldType} {rmy : Room} {As rest : List Value} {wc : va_W} {vf : Res → Option Value} {wf : Res → va_W} {res : Res} {mc ms : Nat}
/-- the callee's start, at the call -/
theorem sx_pre (X : SxC p s m args meth c cc own nL ret D T A SF) {H : Heap} {locs : List Loc} (hP : va_P D vwCl ws H) (hD : va_D A ws) (hS : va_S A s.heap H locs) (isC : List Nat) (hC : isC.map (fun i => ws[i]?) = wc.map some) (hnd : va_nd isC = true) (av : List Value) :
    FrameBlind (va_Pc av (SxP SF D T wc H.size)) ∧ ∀ U : State, U.heap = H → s.WarmedH U.vm → (va_Pc av (SxP SF D T wc H.size)) av.toArray U := by
  obtain ⟨-, -, -, -, -, hK, hA, -, -, hF, f1, f2, f3, f4⟩ := X
  have hFr := va_free hD hS hA isC hC
  have hPc : va_P D vwCl wc H := fun j q hq => by
    have h1 : (isC.map (fun i => ws[i]?))[j]? = some (some q) := by rw [hC, List.getElem?_map, hq]; rfl
    rw [List.getElem?_map] at h1
    cases hi : isC[j]? with
    | none => rw [hi] at h1; cases h1
    | some z => rw [hi] at h1; exact hP z q (Option.some.inj h1)
  have hDc := (hD.sub isC hnd hC).weaken (B := fun _ => True) (fun _ _ _ _ => trivial)
  refine ⟨fun a U g mk q => ?_, fun U hU hW => ⟨rfl, by rw [hU], by rw [hU]; exact hPc, va_K.moved hW.alike hK, hDc, ?_⟩⟩
  · obtain ⟨q0, q1, q2, q3, q4, q5⟩ := q
    exact ⟨q0, q1, q2, va_K.moved (u := U) (U := U.calling g mk a) (Vm.Alike.refl U.vm) q3, q4, f1 _ U (U.calling g mk a) _ rfl q5⟩
  · rw [hU]
    exact f2 _ s U H hW (f4 A _ s H hFr (f3 A s s.heap H hS.2.1 hF))
/-- a call of an object's method -/
theorem sx_cV (X : SxC p s m args meth c cc own nL ret D T A SF) {b : Nat} (hM : SxK SF l D T y cy maxLy rty rmy (.ref b :: As) wc vf wf res mc ms) {C : String} {idx nA q0 ci : Nat} {fs : List Value} {vc : vw_C} (h1 : Cond.methodLink own idx y ∈ BIG) (h2 : Cond.instanceMethod y ∈ BIG) (h3 : Cond.selects C y y ∈ BIG) (h4 : Cond.initialized y.cls ∈ BIG) (h5 : Cond.code y cy maxLy rty ∈ BIG) (hd : y.cls ≠ "java/lang/invoke/MethodHandle" ∧ y.cls ≠ "java/lang/invoke/VarHandle" ∧ (parseMethodDescriptor y.desc).map (fun d => d.parameters.length) = some nA) (hrm : rmy.cells = mc ∧ rmy.slots = ms) (hR : rmy.frames + 1 ≤ R.frames ∧ 8 + (maxLy + 11) + rmy.locals ≤ R.locals) (hn : As.length = nA) (hst : st = As.reverse ++ .ref b :: rest) (hroom : (rest.map fun v => v.category).sum ≤ 8) (he : ws[q0]? = some (b, .inr (ci, fs))) (hvc : vwCl[ci]? = some vc) (hvC : vc.1 = C) (isC : List Nat) (hC : isC.map (fun i => ws[i]?) = wc.map some) (hnd : va_nd isC = true) {ws' : va_W} (hw : sxPatch ws isC (wf res) = ws') (ha : (wf res).map (·.1) = wc.map (·.1)) (hcs : k + mc ≤ R.cells ∧ n + ms ≤ R.slots) (hdg : decode cc pc = .ok (.invokevirtual idx, 3)) {st' : List Value} (hst' : (vf res).toList ++ rest = st')
    (kk : SxG p l e R s m args below meth c D A nL (k + mc) (n + ms) Q ws' lv (pc + 3) st') : SxG p l e R s m args below meth c D A nL k n Q ws lv pc st := by
  subst hst
  subst hw
  subst hst'
  subst hvC
  intro H locs ls hP hD hS h
  have hFr := va_free hD hS X.2.2.2.2.2.2.1 isC hC
  have hpre := sx_pre X hP hD hS isC hC hnd (.ref b :: As)
  refine sx_after (va_runV (As := As) (rest := rest) ⟨X.1, X.2.1, X.2.2.1, X.2.2.2.1, X.2.2.2.2.1⟩ (hM H.size) ⟨callB_of nA X.2.2.2.2.1 (big_in h5) rfl hrm.1 hrm.2 (X.2.2.2.2.1 _ h4) (X.2.2.2.2.1 _ h1) hd hR, X.2.2.2.2.1 _ h2, X.2.2.2.2.1 _ h3⟩ ⟨hpre.1, va_recv X.2.2.2.2.2.1 hP hvc he, hpre.2⟩ rfl hn (h.1) rfl (lv_room hroom) hdg hcs) hS (fun q _ h => hFr q h) hFr (fun t H1 locs1 ht hB hz hk hS1 => ?_)
  obtain ⟨hP1, hD1⟩ := hB
  rw [ht] at hP1
  obtain ⟨p2, d2⟩ := sxPatch_ok hP hD isC hC ha hk hP1
  exact kk H1 locs1 ls p2 d2 hS1 h
/-- a call of a static method -/
theorem sx_cS (X : SxC p s m args meth c cc own nL ret D T A SF) (hM : SxK SF l D T y cy maxLy rty rmy As wc vf wf res mc ms) {idx nA : Nat} (h1 : Cond.methodLink own idx y ∈ BIG) (h2 : Cond.static y ∈ BIG) (h4 : Cond.initialized y.cls ∈ BIG) (h5 : Cond.code y cy maxLy rty ∈ BIG) (hd : y.cls ≠ "java/lang/invoke/MethodHandle" ∧ y.cls ≠ "java/lang/invoke/VarHandle" ∧ (parseMethodDescriptor y.desc).map (fun d => d.parameters.length) = some nA) (hrm : rmy.cells = mc ∧ rmy.slots = ms) (hR : rmy.frames + 1 ≤ R.frames ∧ 8 + (maxLy + 11) + rmy.locals ≤ R.locals) (hn : As.length = nA) (hst : st = As.reverse ++ rest) (hroom : (rest.map fun v => v.category).sum ≤ 8) (isC : List Nat) (hC : isC.map (fun i => ws[i]?) = wc.map some) (hnd : va_nd isC = true) {ws' : va_W} (hw : sxPatch ws isC (wf res) = ws') (ha : (wf res).map (·.1) = wc.map (·.1)) (hcs : k + mc ≤ R.cells ∧ n + ms ≤ R.slots) (hdg : decode cc pc = .ok (.invokestatic idx, 3)) {st' : List Value} (hst' : (vf res).toList ++ rest = st')
    (kk : SxG p l e R s m args below meth c D A nL (k + mc) (n + ms) Q ws' lv (pc + 3) st') : SxG p l e R s m args below meth c D A nL k n Q ws lv pc st := by
  subst hst
  subst hw
  subst hst'
  intro H locs ls hP hD hS h
  have hFr := va_free hD hS X.2.2.2.2.2.2.1 isC hC
  have hpre := sx_pre X hP hD hS isC hC hnd As
  refine sx_after (va_runS (As := As) (rest := rest) ⟨X.1, X.2.1, X.2.2.1, X.2.2.2.1, X.2.2.2.2.1⟩ (hM H.size) ⟨callB_of nA X.2.2.2.2.1 (big_in h5) rfl hrm.1 hrm.2 (X.2.2.2.2.1 _ h4) (X.2.2.2.2.1 _ h1) hd hR, X.2.2.2.2.1 _ h2⟩ ⟨hpre.1, hpre.2⟩ rfl hn (h.1) rfl (lv_room hroom) hdg hcs) hS (fun q _ h => hFr q h) hFr (fun t H1 locs1 ht hB hz hk hS1 => ?_)
  obtain ⟨hP1, hD1⟩ := hB
  rw [ht] at hP1
  obtain ⟨p2, d2⟩ := sxPatch_ok hP hD isC hC ha hk hP1
  exact kk H1 locs1 ls p2 d2 hS1 h
/-- a private static method of the nest -/
theorem sx_cN (X : SxC p s m args meth c cc own nL ret D T A SF) (hM : SxK SF l D T y cy maxLy rty rmy As wc vf wf res mc ms) {idx nA : Nat} {host : String} (h1 : va_Nw (.methodLinkNest own idx y host) s) (h2 : Cond.static y ∈ BIG) (h4 : Cond.initialized y.cls ∈ BIG) (h5 : Cond.code y cy maxLy rty ∈ BIG) (hd : y.cls ≠ "java/lang/invoke/MethodHandle" ∧ y.cls ≠ "java/lang/invoke/VarHandle" ∧ (parseMethodDescriptor y.desc).map (fun d => d.parameters.length) = some nA) (hrm : rmy.cells = mc ∧ rmy.slots = ms) (hR : rmy.frames + 1 ≤ R.frames ∧ 8 + (maxLy + 11) + rmy.locals ≤ R.locals) (hn : As.length = nA) (hst : st = As.reverse ++ rest) (hroom : (rest.map fun v => v.category).sum ≤ 8) (isC : List Nat) (hC : isC.map (fun i => ws[i]?) = wc.map some) (hnd : va_nd isC = true) {ws' : va_W} (hw : sxPatch ws isC (wf res) = ws') (ha : (wf res).map (·.1) = wc.map (·.1)) (hcs : k + mc ≤ R.cells ∧ n + ms ≤ R.slots) (hdg : decode cc pc = .ok (.invokestatic idx, 3)) {st' : List Value} (hst' : (vf res).toList ++ rest = st')
    (kk : SxG p l e R s m args below meth c D A nL (k + mc) (n + ms) Q ws' lv (pc + 3) st') : SxG p l e R s m args below meth c D A nL k n Q ws lv pc st := by
  subst hst
  subst hw
  subst hst'
  intro H locs ls hP hD hS h
  have hFr := va_free hD hS X.2.2.2.2.2.2.1 isC hC
  have hpre := sx_pre X hP hD hS isC hC hnd As
  refine sx_after (va_runSN (As := As) (rest := rest) ⟨X.1, X.2.1, X.2.2.1, X.2.2.2.1, X.2.2.2.2.1⟩ (hM H.size) ⟨va_cnB nA X.2.2.2.2.1 (big_in h5) rfl hrm.1 hrm.2 h1 (X.2.2.2.2.1 _ h4) hd hR, X.2.2.2.2.1 _ h2, trivial⟩ ⟨hpre.1, hpre.2⟩ rfl hn (h.1) rfl (lv_room hroom) hdg hcs) hS (fun q _ h => hFr q h) hFr (fun t H1 locs1 ht hB hz hk hS1 => ?_)
  obtain ⟨hP1, hD1⟩ := hB
  rw [ht] at hP1
  obtain ⟨p2, d2⟩ := sxPatch_ok hP hD isC hC ha hk hP1
  exact kk H1 locs1 ls p2 d2 hS1 h
end SXK
