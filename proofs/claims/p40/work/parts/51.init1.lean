/-! rows of kinds: made empty, filled with END -/
abbrev zQ (T : Nat → ClassId) (a N : Nat) (f : Nat → Option Nat) : Nat × va_E := (a, .inl (T 4, N, .inr (.inr (.inr (.inr f)))))
/-- END at the places below i -/
def qfill (kd : Nat → Nat) (i : Nat) : Nat → Option Nat := fun j => if j < i then some (kd 49) else none
theorem qfill_up (kd : Nat → Nat) (i : Nat) : va_up (qfill kd i) i (some (kd 49)) = qfill kd (i + 1) := by
  funext j
  unfold va_up qfill
  by_cases h : j = i
  · subst h
    rw [if_pos rfl, if_pos (by omega)]
  · rw [if_neg h]
    by_cases g : j < i
    · rw [if_pos g, if_pos (by omega)]
    · rw [if_neg g, if_neg (by omega)]
theorem arrV_congr (cA : ClassId) (N : Nat) {f g : Nat → Value} (h : ∀ j, j < N → f j = g j) : arrV cA N f = arrV cA N g := by
  unfold arrV
  have : (fun j : Fin N => f j.val) = fun j : Fin N => g j.val := by
    funext j
    exact h j.val j.isLt
  rw [this]
section SXQ
variable {p : Program} {l : Launch} {e : Env} {R : Room} {s : State} {m : MethodId} {args : Array Value} {below : List Frame} {meth : Method} {c : Code} {Q : State → Prop} {cc : ByteArray} {own : String} {nL : Nat} {ret : Option FieldType} {D : va_G} {T : Nat → ClassId} {A : Nat → Prop} {k n : Nat} {ws : va_W} {lv : List (Nat × Value)} {pc : Nat} {st : List Value} {sd : SdT}
theorem sx_newK (X : SxC p s m args meth c cc own nL ret D T A (SFx sd)) {idx N' : Nat} {i : Int32} (hcl : Cond.classLink own idx "WeatherTea$Kind" ∈ BIG) (hn : ¬ i < 0) (hN : i.toNatClampNeg = N') (hbytes : N' * 4 ≤ 536870912) (hcells : k + 1 ≤ R.cells) (hslots : n + N' ≤ R.slots) (hdg : decode cc pc = .ok (.anewarray idx, 3))
    (kk : ∀ q : Nat, SxG p l e R s m args below meth c D A nL (k + 1) (n + N') Q (ws ++ [zQ T q N' (qfill sd.1 0)]) lv (pc + 3) (.ref q :: st)) : SxG p l e R s m args below meth c D A nL k n Q ws lv pc (.int i :: st) := by
  have hf : (fun _ => none : Nat → Option Nat) = qfill sd.1 0 := by
    funext j
    unfold qfill
    rw [if_neg (by omega)]
  intro H locs ls hP b d h
  refine va_newq X.1 X.2.1 X.2.2.2.1 (X.2.2.2.2.1 _ hcl) X.sf.2.2.1.2.2.2.2.2.1 X.2.2.2.2.2.1 hP b d X.2.2.2.2.2.2.1 hn hN hbytes hcells hslots hdg (fun q cA H1 hK1 p1 d1 s1 => ?_)
  obtain ⟨kA, comp, -, -, -, h1⟩ := (hK1.2 8 (cA, .object "WeatherTea$Kind") rfl).2
  obtain ⟨kB, comp', -, -, -, h2⟩ := (X.2.2.2.2.2.1.2 4 (T 4, .object "WeatherTea$Kind") rfl).2
  have hc : cA = T 4 := Option.some.inj (h1.symm.trans h2)
  subst hc
  rw [hf] at p1 d1
  exact kk q H1 locs ls p1 d1 s1 h
theorem sx_qast (X : SxC p s m args meth c cc own nL ret D T A (SFx sd)) {a N i : Nat} {ws' : va_W} (q0 : Nat) (he : ws[q0]? = some (zQ T a N (qfill sd.1 i))) (hi : i < N) (hN : N < 2 ^ 31) (hw : ws.set q0 (zQ T a N (qfill sd.1 (i + 1))) = ws') (hdg : decode cc pc = .ok (.aastore, 1)) (kk : SxG p l e R s m args below meth c D A nL k n Q ws' lv (pc + 1) st) : SxG p l e R s m args below meth c D A nL k n Q ws lv pc (.ref (sd.1 49) :: .int (nI i) :: .ref a :: st) := by
  intro H locs ls hP b d h
  have hr : ∃ cell : Cell, H[sd.1 49]? = some cell ∧ cell.vm.isStatics = false ∧ s.vm.findClass "WeatherTea$Kind" = some cell.cls := by
    obtain ⟨cell, h1, h2, h3, -⟩ := (X.sf.1 49 (by decide)).2.1.kept d.2.1
    exact ⟨cell, h1, h2, h3⟩
  refine vb_astq X.1 X.2.1 X.2.2.2.2.2.1 hP b d q0 4 he rfl hr (fun comp c0 h1 h2 => vb_asgS comp c0 h1 h2) (vp_in_nI hi hN) hdg (fun H1 locs1 p1 d1 s1 => ?_)
  rw [nI_clamp (by omega), qfill_up] at p1 d1
  subst hw
  exact kk H1 locs1 ls p1 d1 s1 h
theorem sx_qend {a N : Nat} {ws' : va_W} (q0 : Nat) (he : ws[q0]? = some (zQ T a N (qfill sd.1 N))) (hw : ws.set q0 (zK T sd.1 a N (fun _ => 49)) = ws') (kk : SxG p l e R s m args below meth c D A nL k n Q ws' lv pc st) : SxG p l e R s m args below meth c D A nL k n Q ws lv pc st := by
  subst hw
  intro H locs ls hP b d h
  refine kk H locs ls (hP.set b he ?_ (fun _ _ => rfl)) (b.set he) d h
  have h1 : H[a]? = some (arrV (T 4) N (fun j => va_rf (qfill sd.1 N j))) := hP q0 _ he
  show H[a]? = some (arrV (T 4) N (fun j => va_rf (some (sd.1 49))))
  rw [h1]
  refine congrArg some (arrV_congr _ _ (fun j hj => ?_))
  unfold qfill
  rw [if_pos hj]
end SXQ
