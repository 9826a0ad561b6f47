/-! contracts with a choice of results; calls whose cells are the first ones; what is frozen -/
def SxEP {Res : Type} (below : List Frame) (args : Array Value) (s : State) (D : va_G) (A : Nat → Prop) (vf : Res → Option Value) (wf : Res → va_W) (P : Res → Prop) (mc ms : Nat) : State → Prop := MQ below (fun a st oc t => ∃ r, P r ∧ SxQ (vf r) (SxB D A (wf r)) A a st oc t) args s mc ms A
/-- THE CONTRACT: some answer r with P r -/
def SxKP {Res : Type} (SF : (Nat → Prop) → State → Heap → Prop) (l : Launch) (D : va_G) (T : Nat → ClassId) (y : MethodName) (cc : ByteArray) (maxL : Nat) (ret : Option FieldType) (rm : Room) (As : List Value) (wc : va_W) (vf : Res → Option Value) (wf : Res → va_W) (P : Res → Prop) (mc ms : Nat) : Prop :=
  ∀ sz : Nat, Met l y (Cond.code y cc maxL ret :: BIG) rm (va_Pc As (SxP SF D T wc sz)) (fun a st oc t => ∃ r, P r ∧ SxQ (vf r) (SxB D (va_A wc sz) (wf r)) (va_A wc sz) a st oc t) mc ms (va_A wc sz)
theorem SxK.sf {Res : Type} {SF SF' : (Nat → Prop) → State → Heap → Prop} {l : Launch} {D : va_G} {T : Nat → ClassId} {y : MethodName} {cc : ByteArray} {maxL : Nat} {ret : Option FieldType} {rm : Room} {As : List Value} {wc : va_W} {vf : Res → Option Value} {wf : Res → va_W} {res : Res} {mc ms : Nat} (h : SxK SF l D T y cc maxL ret rm As wc vf wf res mc ms) (hs : ∀ A U H, SF' A U H → SF A U H) : SxK SF' l D T y cc maxL ret rm As wc vf wf res mc ms :=
  fun sz => MetFree.mono (h sz) (fun a s q => ⟨q.1, q.2.1, q.2.2.1, q.2.2.2.1, q.2.2.2.2.1, hs _ _ _ q.2.2.2.2.2⟩) (fun _ _ _ _ _ _ => trivial) (fun _ _ _ _ _ q => q)
theorem SxKP.sf {Res : Type} {SF SF' : (Nat → Prop) → State → Heap → Prop} {l : Launch} {D : va_G} {T : Nat → ClassId} {y : MethodName} {cc : ByteArray} {maxL : Nat} {ret : Option FieldType} {rm : Room} {As : List Value} {wc : va_W} {vf : Res → Option Value} {wf : Res → va_W} {P : Res → Prop} {mc ms : Nat} (h : SxKP SF l D T y cc maxL ret rm As wc vf wf P mc ms) (hs : ∀ A U H, SF' A U H → SF A U H) : SxKP SF' l D T y cc maxL ret rm As wc vf wf P mc ms :=
  fun sz => MetFree.mono (h sz) (fun a s q => ⟨q.1, q.2.1, q.2.2.1, q.2.2.2.1, q.2.2.2.2.1, hs _ _ _ q.2.2.2.2.2⟩) (fun _ _ _ _ _ _ => trivial) (fun _ _ _ _ _ q => q)
theorem SxK.toP {Res : Type} {SF : (Nat → Prop) → State → Heap → Prop} {l : Launch} {D : va_G} {T : Nat → ClassId} {y : MethodName} {cc : ByteArray} {maxL : Nat} {ret : Option FieldType} {rm : Room} {As : List Value} {wc : va_W} {vf : Res → Option Value} {wf : Res → va_W} {res : Res} {mc ms : Nat} (h : SxK SF l D T y cc maxL ret rm As wc vf wf res mc ms) : SxKP SF l D T y cc maxL ret rm As wc vf wf (fun r => r = res) mc ms :=
  fun sz => MetFree.mono (h sz) (fun a s q => q) (fun _ _ _ _ _ _ => trivial) (fun _ _ _ _ _ q => ⟨⟨res, rfl, q.1⟩, q.2⟩)
/-- other results, seen through a map -/
theorem SxKP.map {Res Res' : Type} {SF : (Nat → Prop) → State → Heap → Prop} {l : Launch} {D : va_G} {T : Nat → ClassId} {y : MethodName} {cc : ByteArray} {maxL : Nat} {ret : Option FieldType} {rm : Room} {As : List Value} {wc : va_W} {vf : Res → Option Value} {wf : Res → va_W} {P : Res → Prop} {vf' : Res' → Option Value} {wf' : Res' → va_W} {P' : Res' → Prop} {mc ms : Nat} (h : SxKP SF l D T y cc maxL ret rm As wc vf wf P mc ms) (hm : ∀ r, P r → ∃ r', P' r' ∧ vf r = vf' r' ∧ wf r = wf' r') : SxKP SF l D T y cc maxL ret rm As wc vf' wf' P' mc ms :=
  fun sz => MetFree.mono (h sz) (fun a s q => q) (fun _ _ _ _ _ _ => trivial) (fun _ _ _ _ _ q => by
    obtain ⟨⟨r, h1, h2⟩, h3⟩ := q
    obtain ⟨r', g1, g2, g3⟩ := hm r h1
    exact ⟨⟨r', g1, by rw [← g2, ← g3]; exact h2⟩, h3⟩)
theorem sx_startP {Res : Type} {SF : (Nat → Prop) → State → Heap → Prop} {l : Launch} {D : va_G} {T : Nat → ClassId} {y : MethodName} {cc : ByteArray} {maxL : Nat} {ret : Option FieldType} {rm : Room} {As : List Value} {wc : va_W} {vf : Res → Option Value} {wf : Res → va_W} {P : Res → Prop} {mc ms : Nat} (hok : SFok SF) (hy : plainName y.cls = true) (hlen : (lg_sl As).length ≤ maxL)
    (body : ∀ (p : Program) (e : Env) (s : State) (m : MethodId) (args : Array Value) (below : List Frame) (meth : Method) (c : Code) (A : Nat → Prop), SxC p s m args meth c cc y.cls maxL ret D T A SF → meth.name = y.name → SxG p l e rm s m args below meth c D A maxL 0 0 (SxEP below args s D A vf wf P mc ms) wc (lv_args 0 As) 0 []) :
    SxKP SF l D T y cc maxL ret rm As wc vf wf P mc ms := by
  intro sz
  refine Met.ofW (cc := cc) (maxL := maxL) (ret := ret) hy rfl ?_
  intro p e s m args below meth c s₁ B hml hv
  obtain ⟨rfl, hsz, hP, hK, hD0, hSF⟩ := hv
  subst hsz
  have hts := atoms_spec (ws := Cond.code y cc maxL ret :: BIG) B.pre
  have X : SxC p s m As.toArray meth c cc y.cls maxL ret D T (va_A wc s.heap.size) SF := ⟨B.exec, B.bytes, hml, findClass_of_methodNamed B.named, fun w h => hts w (List.mem_cons_of_mem _ h), hK, fun q h => Or.inr h, B.returns, B.notSynchronized, hSF, hok⟩
  rw [lg_entry_eq]
  exact body p e s m As.toArray below meth c _ X (name_of_methodNamed B.named B.method).1 s.heap [] _ hP hD0.self va_S.rf (lv_entry As hlen)
/-- frozen: what more is known of cells that nobody writes -/
def SFand (SF F : (Nat → Prop) → State → Heap → Prop) : (Nat → Prop) → State → Heap → Prop := fun A U H => SF A U H ∧ F A U H
theorem SFand_ok {SF F : (Nat → Prop) → State → Heap → Prop} (h : SFok SF) (g : SFok F) : SFok (SFand SF F) :=
  ⟨fun A U V H e q => ⟨h.1 A U V H e q.1, g.1 A U V H e q.2⟩, fun A U V H e q => ⟨h.2.1 A U V H e q.1, g.2.1 A U V H e q.2⟩, fun A U H H1 e q => ⟨h.2.2.1 A U H H1 e q.1, g.2.2.1 A U H H1 e q.2⟩, fun A B U H e q => ⟨h.2.2.2 A B U H e q.1, g.2.2.2 A B U H e q.2⟩⟩
section SX4
variable {p : Program} {l : Launch} {e : Env} {R : Room} {s : State} {m : MethodId} {args : Array Value} {below : List Frame} {meth : Method} {c : Code} {Q Q' : State → Prop} {cc : ByteArray} {own : String} {nL : Nat} {ret : Option FieldType} {D : va_G} {T : Nat → ClassId} {A : Nat → Prop} {SF SF2 : (Nat → Prop) → State → Heap → Prop} {k n : Nat} {ws : va_W} {lv : List (Nat × Value)} {pc : Nat} {st : List Value}
theorem SxC.dn (X : SxC p s m args meth c cc own nL ret D T A (SFand SF SF2)) (hok : SFok SF) : SxC p s m args meth c cc own nL ret D T A SF := ⟨X.1, X.2.1, X.2.2.1, X.2.2.2.1, X.2.2.2.2.1, X.2.2.2.2.2.1, X.2.2.2.2.2.2.1, X.2.2.2.2.2.2.2.1, X.2.2.2.2.2.2.2.2.1, X.2.2.2.2.2.2.2.2.2.1.1, hok⟩
theorem SxC.fz (X : SxC p s m args meth c cc own nL ret D T A (SFand SF SF2)) : SF2 A s s.heap := X.2.2.2.2.2.2.2.2.2.1.2
theorem sx_mono (h : ∀ t, Q t → Q' t) (g : SxG p l e R s m args below meth c D A nL k n Q ws lv pc st) : SxG p l e R s m args below meth c D A nL k n Q' ws lv pc st := fun H locs ls a b d f T hT X => by
  obtain ⟨t, h1, h2⟩ := g H locs ls a b d f T hT X
  exact ⟨t, h1, h t h2⟩
theorem sx_pick {Res : Type} {vf : Res → Option Value} {wf : Res → va_W} {P : Res → Prop} {mc ms : Nat} (r : Res) (hP : P r) (g : SxG p l e R s m args below meth c D A nL k n (SxE below args s D A vf wf r mc ms) ws lv pc st) : SxG p l e R s m args below meth c D A nL k n (SxEP below args s D A vf wf P mc ms) ws lv pc st :=
  sx_mono (fun t h => by
    obtain ⟨o, h1, h2, h3, h4⟩ := h
    exact ⟨o, h1, h2, ⟨r, hP, h3⟩, h4⟩) g
/-- fewer cells, in another order -/
theorem sx_wmem {ws' : va_W} (hm : ∀ q ∈ ws', q ∈ ws) (hn : (ws'.map (·.1)).Nodup) (kk : SxG p l e R s m args below meth c D A nL k n Q ws' lv pc st) : SxG p l e R s m args below meth c D A nL k n Q ws lv pc st := fun H locs ls a b d h => kk H locs ls
  (fun i q hq => by
    obtain ⟨j, hj⟩ := List.getElem?_of_mem (hm q (List.mem_of_getElem? hq))
    exact a j q hj)
  ⟨fun i j x y hx hy hxy => by
    have h1 : (ws'.map (·.1))[i]? = some x.1 := by rw [List.getElem?_map, hx]; rfl
    have h2 : (ws'.map (·.1))[j]? = some x.1 := by rw [List.getElem?_map, hy]; exact congrArg some hxy.symm
    have l1 := (List.getElem?_eq_some_iff.mp h1).1
    exact (List.getElem?_inj l1 hn).mp (h1.trans h2.symm), fun i q hq => by
    obtain ⟨j, hj⟩ := List.getElem?_of_mem (hm q (List.mem_of_getElem? hq))
    exact b.2 j q hj⟩ d h
theorem va_D.nodup {A : Nat → Prop} {ws : va_W} (h : va_D A ws) : (ws.map (·.1)).Nodup := by
  unfold List.Nodup
  rw [List.pairwise_iff_getElem]
  intro i j hi hj hij heq
  have li : i < ws.length := by rw [List.length_map] at hi; exact hi
  have lj : j < ws.length := by rw [List.length_map] at hj; exact hj
  rw [List.getElem_map, List.getElem_map] at heq
  have := h.1 i j _ _ (List.getElem?_eq_getElem li) (List.getElem?_eq_getElem lj) heq
  omega
/-- the same cells in another order -/
theorem sx_perm {ws' : va_W} (hp : ws.Perm ws') (kk : SxG p l e R s m args below meth c D A nL k n Q ws' lv pc st) : SxG p l e R s m args below meth c D A nL k n Q ws lv pc st := fun H locs ls a b d h =>
  sx_wmem (fun q hq => hp.mem_iff.mpr hq) ((hp.map (·.1)).nodup_iff.mp b.nodup) kk H locs ls a b d h
/-- cells behind are let go -/
theorem sx_drop {w2 : va_W} (kk : SxG p l e R s m args below meth c D A nL k n Q ws lv pc st) : SxG p l e R s m args below meth c D A nL k n Q (ws ++ w2) lv pc st := fun H locs ls a b d h =>
  sx_wmem (fun q hq => List.mem_append_left _ hq) (by
    have := b.nodup
    rw [List.map_append] at this
    exact (List.nodup_append.mp this).1) kk H locs ls a b d h
theorem sx_chgw {ws' : va_W} (h : ws = ws') (kk : SxG p l e R s m args below meth c D A nL k n Q ws' lv pc st) : SxG p l e R s m args below meth c D A nL k n Q ws lv pc st := by subst h; exact kk
/-- behind a call: what came back, beside the rest -/
theorem sx_back {A0 : Nat → Prop} {cl : List vw_C} {wc wr w1 : va_W} {H H1 : Heap} (hP : va_P D cl (wc ++ wr) H) (hD : va_D A0 (wc ++ wr)) (hA : ∀ q, H.size ≤ q → A0 q)
    (hk : ∀ q : Nat, q < H.size → ¬ va_A wc H.size q → H1[q]? = H[q]?) (hP1 : va_P D cl w1 H1) (hD1 : va_D (va_A wc H.size) w1) : va_P D cl (w1 ++ wr) H1 ∧ va_D A0 (w1 ++ wr) := by
  have hm : ∀ q ∈ wr, q.1 < H.size ∧ ¬ va_A wc H.size q.1 := by
    intro q hq
    obtain ⟨j, hj⟩ := List.getElem?_of_mem hq
    have h1 : (wc ++ wr)[wc.length + j]? = some q := by rw [List.getElem?_append_right (Nat.le_add_right _ _), Nat.add_sub_cancel_left]; exact hj
    refine ⟨(hP _ q h1).lt, fun h => ?_⟩
    rcases h with ⟨i, x, hx⟩ | h
    · have l1 : i < wc.length := (List.getElem?_eq_some_iff.mp hx).1
      have h2 : (wc ++ wr)[i]? = some (q.1, x) := by rw [List.getElem?_append_left l1]; exact hx
      have := hD.1 _ _ _ _ h2 h1 rfl
      omega
    · have := (hP _ q h1).lt
      omega
  have hPr : va_P D cl wr H := fun i q hq => by
    refine hP (wc.length + i) q ?_
    rw [List.getElem?_append_right (Nat.le_add_right _ _), Nat.add_sub_cancel_left]; exact hq
  have hA1 : ∀ q, va_A wc H.size q → A0 q := fun q h => by
    rcases h with ⟨i, x, hx⟩ | h
    · exact hD.2 i (q, x) (by rw [List.getElem?_append_left (List.getElem?_eq_some_iff.mp hx).1]; exact hx)
    · exact hA q h
  have hDr : ∀ q ∈ wr, A0 q.1 := fun q hq => by
    obtain ⟨j, hj⟩ := List.getElem?_of_mem hq
    exact hD.2 (wc.length + j) q (by rw [List.getElem?_append_right (Nat.le_add_right _ _), Nat.add_sub_cancel_left]; exact hj)
  refine ⟨hP1.app (hPr.kept (fun i q hq => hk q.1 (hm q (List.mem_of_getElem? hq)).1 (hm q (List.mem_of_getElem? hq)).2)), ?_⟩
  refine va_D.app ⟨hD1.1, fun i q hq => hA1 _ (hD1.2 i q hq)⟩ ⟨fun i j x y hx hy hxy => ?_, fun i q hq => hDr q (List.mem_of_getElem? hq)⟩ (fun i j x y hx hy hxy => ?_)
  · have h1 : ∀ {i : Nat} {q : Nat × va_E}, wr[i]? = some q → (wc ++ wr)[wc.length + i]? = some q := fun hq => by
      rw [List.getElem?_append_right (Nat.le_add_right _ _), Nat.add_sub_cancel_left]; exact hq
    have := hD.1 _ _ _ _ (h1 hx) (h1 hy) hxy
    omega
  · have h1 := hD1.2 i x hx
    rw [hxy] at h1
    exact (hm y (List.mem_of_getElem? hy)).2 h1
variable {Res : Type} {y : MethodName} {cy : ByteArray} {maxLy : Nat} {rty : Option FieldType} {rmy : Room} {As rest : List Value} {wc wr : va_W} {vf : Res → Option Value} {wf : Res → va_W} {P : Res → Prop} {mc ms : Nat}
theorem sx_afterP {H : Heap} {locs : List Loc} {ls : Array Slot} {st0 : List Value} {B : Res → State → Prop} {A0 A1 : Nat → Prop} {H0 : Heap} {a : Array Value} {free : Addr → Prop} (hr : va_Run p l e R s m args below meth c H locs k n mc ms (F0 m pc ls st0) rest (fun st oc t => ∃ r, P r ∧ SxQ (vf r) (B r) A1 a st oc t) free) (hS : va_S A0 H0 H locs) (hA : ∀ q, q < H.size → A1 q → A0 q) (hf : ∀ q, free q → A0 q)
    (kk : ∀ (r : Res), P r → ∀ (t : State) (H1 : Heap) (locs1 : List Loc), t.heap = H1 → B r t → H.size ≤ H1.size → (∀ q : Nat, q < H.size → ¬ A1 q → H1[q]? = H[q]?) → va_S A0 H0 H1 locs1 → W p l e R s m args below meth c H1 locs1 (k + mc) (n + ms) Q (F0 m (pc + 3) ls ((vf r).toList ++ rest))) : W p l e R s m args below meth c H locs k n Q (F0 m pc ls st0) := by
  intro T hT X
  obtain ⟨v, st₀, t, T', L, h0, X', hL, e1, e2, ⟨r, hPr, hv, hb, hz, hk⟩, st⟩ := hr T hT X
  cases hv
  rw [h0] at hz hk
  obtain ⟨t2, a1, b1⟩ := kk r hPr t T'.heap (locs ++ L) e1.symm hb (by rw [e1]; exact hz) (fun q h1 h2 => by rw [e1]; exact hk q h1 h2)
    ⟨Nat.le_trans hS.1 (by rw [e1]; exact hz), fun q h1 h2 => by rw [e1, hk q (Nat.lt_of_lt_of_le h1 hS.1) (fun z => h2 (hA q (Nat.lt_of_lt_of_le h1 hS.1) z))]; exact hS.2.1 q h1 h2, fun q hq => by
      rcases List.mem_append.mp hq with h | h
      · exact hS.2.2 q h
      · exact hf _ (hL q h)⟩ T' rfl X'
  exact ⟨t2, st t2 a1, b1⟩
/-- what the callee knows of the frozen: the caller's knowledge, or more out of its cells -/
def SxM (s : State) (D : va_G) (A : Nat → Prop) (SF2 : (Nat → Prop) → State → Heap → Prop) (wc wr : va_W) : Prop := SFok SF2 ∧ ∀ (H : Heap) (locs : List Loc), va_P D vwCl (wc ++ wr) H → va_D A (wc ++ wr) → va_S A s.heap H locs → SF2 (va_A wc H.size) s H
theorem sx_freeA (hA : ∀ q : Nat, s.heap.size ≤ q → A q) {H : Heap} {locs : List Loc} (hD : va_D A (wc ++ wr)) (hS : va_S A s.heap H locs) : ∀ q, va_A wc H.size q → A q := fun q h => by
  rcases h with ⟨i, x, hx⟩ | h
  · exact hD.2 i (q, x) (by rw [List.getElem?_append_left (List.getElem?_eq_some_iff.mp hx).1]; exact hx)
  · exact hA q (Nat.le_trans hS.1 h)
theorem SxC.M (X : SxC p s m args meth c cc own nL ret D T A SF) : SxM s D A SF wc wr := by
  obtain ⟨-, -, -, -, -, hK, hA, -, -, hF, f1, f2, f3, f4⟩ := X
  exact ⟨⟨f1, f2, f3, f4⟩, fun H locs hP hD hS => f4 A _ s H (sx_freeA hA hD hS) (f3 A s s.heap H hS.2.1 hF)⟩
theorem SxM.dn {SF SF2 : (Nat → Prop) → State → Heap → Prop} (h : SxM s D A (SFand SF SF2) wc wr) (hok : SFok SF) : SxM s D A SF wc wr := ⟨hok, fun H locs a b d => (h.2 H locs a b d).1⟩
theorem SxM.and {SF SF2 : (Nat → Prop) → State → Heap → Prop} (h : SxM s D A SF wc wr) (g : SxM s D A SF2 wc wr) : SxM s D A (SFand SF SF2) wc wr := ⟨SFand_ok h.1 g.1, fun H locs a b d => ⟨h.2 H locs a b d, g.2 H locs a b d⟩⟩
theorem sx_preP (X : SxC p s m args meth c cc own nL ret D T A SF) (hM : SxM s D A SF2 wc wr) {H : Heap} {locs : List Loc} (hP : va_P D vwCl (wc ++ wr) H) (hD : va_D A (wc ++ wr)) (hS : va_S A s.heap H locs) (av : List Value) :
    FrameBlind (va_Pc av (SxP SF2 D T wc H.size)) ∧ ∀ U : State, U.heap = H → s.WarmedH U.vm → (va_Pc av (SxP SF2 D T wc H.size)) av.toArray U := by
  obtain ⟨⟨f1, f2, f3, f4⟩, hF⟩ := hM
  have hK := X.2.2.2.2.2.1
  have hPc : va_P D vwCl wc H := fun j q hq => hP j q (by rw [List.getElem?_append_left (List.getElem?_eq_some_iff.mp hq).1]; exact hq)
  have hDc : va_D (fun _ => True) wc := ⟨fun i j x y hx hy hxy => hD.1 i j x y (by rw [List.getElem?_append_left (List.getElem?_eq_some_iff.mp hx).1]; exact hx) (by rw [List.getElem?_append_left (List.getElem?_eq_some_iff.mp hy).1]; exact hy) hxy, fun _ _ _ => trivial⟩
  refine ⟨fun a U g mk q => ?_, fun U hU hW => ⟨rfl, by rw [hU], by rw [hU]; exact hPc, va_K.moved hW.alike hK, hDc, ?_⟩⟩
  · obtain ⟨q0, q1, q2, q3, q4, q5⟩ := q
    exact ⟨q0, q1, q2, va_K.moved (u := U) (U := U.calling g mk a) (Vm.Alike.refl U.vm) q3, q4, f1 _ U (U.calling g mk a) _ rfl q5⟩
  · rw [hU]
    exact f2 _ s U H hW (hF H locs hP hD hS)
abbrev SxDs (y : MethodName) (nA : Nat) : Prop := y.cls ≠ "java/lang/invoke/MethodHandle" ∧ y.cls ≠ "java/lang/invoke/VarHandle" ∧ (parseMethodDescriptor y.desc).map (fun d => d.parameters.length) = some nA
/-- a call of an object's method -/
theorem sx_pV (X : SxC p s m args meth c cc own nL ret D T A SF) {b : Nat} (hM : SxKP SF2 l D T y cy maxLy rty rmy (.ref b :: As) wc vf wf P mc ms) (hF : SxM s D A SF2 wc wr) {C : String} {idx nA : Nat} (hrc : ∀ H locs, va_P D vwCl (wc ++ wr) H → va_S A s.heap H locs → ∃ cellB : Cell, H[b]? = some cellB ∧ cellB.vm.isStatics = false ∧ s.vm.findClass C = some cellB.cls) (h1 : Cond.methodLink own idx y ∈ BIG) (h2 : Cond.instanceMethod y ∈ BIG) (h3 : Cond.selects C y y ∈ BIG) (h4 : Cond.initialized y.cls ∈ BIG) (h5 : Cond.code y cy maxLy rty ∈ BIG) (hd : SxDs y nA) (hrm : rmy.cells = mc ∧ rmy.slots = ms) (hR : rmy.frames + 1 ≤ R.frames ∧ 8 + (maxLy + 11) + rmy.locals ≤ R.locals) (hn : As.length = nA) (hst : st = As.reverse ++ .ref b :: rest) (hroom : (rest.map fun v => v.category).sum ≤ 8) (hcs : k + mc ≤ R.cells ∧ n + ms ≤ R.slots) (hdg : decode cc pc = .ok (.invokevirtual idx, 3)) (hw : ws = wc ++ wr)
    (kk : ∀ r, P r → SxG p l e R s m args below meth c D A nL (k + mc) (n + ms) Q (wf r ++ wr) lv (pc + 3) ((vf r).toList ++ rest)) : SxG p l e R s m args below meth c D A nL k n Q ws lv pc st := by
  subst hst
  subst hw
  intro H locs ls hP hD hS h
  have hFr := sx_freeA X.2.2.2.2.2.2.1 hD hS
  have hpre := sx_preP X hF hP hD hS (.ref b :: As)
  refine sx_afterP (va_runV (As := As) (rest := rest) ⟨X.1, X.2.1, X.2.2.1, X.2.2.2.1, X.2.2.2.2.1⟩ (hM H.size) ⟨callB_of nA X.2.2.2.2.1 (big_in h5) rfl hrm.1 hrm.2 (X.2.2.2.2.1 _ h4) (X.2.2.2.2.1 _ h1) hd hR, X.2.2.2.2.1 _ h2, X.2.2.2.2.1 _ h3⟩ ⟨hpre.1, hrc H locs hP hS, hpre.2⟩ rfl hn (h.1) rfl (lv_room hroom) hdg hcs) hS (fun q _ h => hFr q h) hFr (fun r hPr t H1 locs1 ht hB hz hk hS1 => ?_)
  obtain ⟨hP1, hD1⟩ := hB
  rw [ht] at hP1
  obtain ⟨p2, d2⟩ := sx_back hP hD (fun q hq => X.2.2.2.2.2.2.1 q (Nat.le_trans hS.1 hq)) hk hP1 hD1
  exact kk r hPr H1 locs1 ls p2 d2 hS1 h
/-- the same, of a class above -/
theorem sx_pU (X : SxC p s m args meth c cc own nL ret D T A SF) {b : Nat} (hM : SxKP SF2 l D T y cy maxLy rty rmy (.ref b :: As) wc vf wf P mc ms) (hF : SxM s D A SF2 wc wr) {C owner : String} {x : MethodName} {idx nA : Nat} (hrc : ∀ H locs, va_P D vwCl (wc ++ wr) H → va_S A s.heap H locs → ∃ cellB : Cell, H[b]? = some cellB ∧ cellB.vm.isStatics = false ∧ s.vm.findClass C = some cellB.cls) (h1 : Cond.methodLink own idx x ∈ BIG) (h1s : Cond.sameMethod x.cls owner x.name x.desc ∈ BIG) (h3 : Cond.selects C x y ∈ BIG) (h2 : Cond.instanceMethod y ∈ BIG) (h4 : Cond.initialized y.cls ∈ BIG) (h5 : Cond.code y cy maxLy rty ∈ BIG) (hyx : y = ⟨owner, x.name, x.desc⟩) (hd : owner ≠ "java/lang/invoke/MethodHandle" ∧ owner ≠ "java/lang/invoke/VarHandle" ∧ (parseMethodDescriptor x.desc).map (fun d => d.parameters.length) = some nA) (hrm : rmy.cells = mc ∧ rmy.slots = ms) (hR : rmy.frames + 1 ≤ R.frames ∧ 8 + (maxLy + 11) + rmy.locals ≤ R.locals) (hn : As.length = nA) (hst : st = As.reverse ++ .ref b :: rest) (hroom : (rest.map fun v => v.category).sum ≤ 8) (hcs : k + mc ≤ R.cells ∧ n + ms ≤ R.slots) (hdg : decode cc pc = .ok (.invokevirtual idx, 3)) (hw : ws = wc ++ wr)
    (kk : ∀ r, P r → SxG p l e R s m args below meth c D A nL (k + mc) (n + ms) Q (wf r ++ wr) lv (pc + 3) ((vf r).toList ++ rest)) : SxG p l e R s m args below meth c D A nL k n Q ws lv pc st := by
  subst hst
  subst hw
  have hG : GoodIn BIG (va_wsU own idx C owner x y (Cond.code y cy maxLy rty :: BIG)) := fun w hw => by
    unfold va_wsU at hw
    rcases List.mem_append.mp hw with h | h
    · have h' : w ∈ BIG := by
        simp only [List.mem_cons, List.not_mem_nil, or_false] at h
        rcases h with rfl | rfl | rfl | rfl | rfl
        · exact h1
        · exact h1s
        · exact h3
        · exact h2
        · exact h4
      exact ⟨h', big_good _ h'⟩
    · exact big_in h5 w h
  intro H locs ls hP hD hS h
  have hFr := sx_freeA X.2.2.2.2.2.2.1 hD hS
  have hpre := sx_preP X hF hP hD hS (.ref b :: As)
  refine sx_afterP (va_runU (As := As) (rest := rest) ⟨X.1, X.2.1, X.2.2.1, X.2.2.2.1, X.2.2.2.2.1⟩ (hM H.size) (va_cwU nA X.2.2.2.2.1 hG rfl hrm.1 hrm.2 hyx hd hR) ⟨hpre.1, hrc H locs hP hS, hpre.2⟩ rfl hn (h.1) rfl (lv_room hroom) hdg hcs) hS (fun q _ h => hFr q h) hFr (fun r hPr t H1 locs1 ht hB hz hk hS1 => ?_)
  obtain ⟨hP1, hD1⟩ := hB
  rw [ht] at hP1
  obtain ⟨p2, d2⟩ := sx_back hP hD (fun q hq => X.2.2.2.2.2.2.1 q (Nat.le_trans hS.1 hq)) hk hP1 hD1
  exact kk r hPr H1 locs1 ls p2 d2 hS1 h
/-- a static method -/
theorem sx_pS (X : SxC p s m args meth c cc own nL ret D T A SF) (hM : SxKP SF2 l D T y cy maxLy rty rmy As wc vf wf P mc ms) (hF : SxM s D A SF2 wc wr) {idx nA : Nat} (h1 : Cond.methodLink own idx y ∈ BIG) (h2 : Cond.static y ∈ BIG) (h4 : Cond.initialized y.cls ∈ BIG) (h5 : Cond.code y cy maxLy rty ∈ BIG) (hd : SxDs y nA) (hrm : rmy.cells = mc ∧ rmy.slots = ms) (hR : rmy.frames + 1 ≤ R.frames ∧ 8 + (maxLy + 11) + rmy.locals ≤ R.locals) (hn : As.length = nA) (hst : st = As.reverse ++ rest) (hroom : (rest.map fun v => v.category).sum ≤ 8) (hcs : k + mc ≤ R.cells ∧ n + ms ≤ R.slots) (hdg : decode cc pc = .ok (.invokestatic idx, 3)) (hw : ws = wc ++ wr)
    (kk : ∀ r, P r → SxG p l e R s m args below meth c D A nL (k + mc) (n + ms) Q (wf r ++ wr) lv (pc + 3) ((vf r).toList ++ rest)) : SxG p l e R s m args below meth c D A nL k n Q ws lv pc st := by
  subst hst
  subst hw
  intro H locs ls hP hD hS h
  have hFr := sx_freeA X.2.2.2.2.2.2.1 hD hS
  have hpre := sx_preP X hF hP hD hS As
  refine sx_afterP (va_runS (As := As) (rest := rest) ⟨X.1, X.2.1, X.2.2.1, X.2.2.2.1, X.2.2.2.2.1⟩ (hM H.size) ⟨callB_of nA X.2.2.2.2.1 (big_in h5) rfl hrm.1 hrm.2 (X.2.2.2.2.1 _ h4) (X.2.2.2.2.1 _ h1) hd hR, X.2.2.2.2.1 _ h2⟩ ⟨hpre.1, hpre.2⟩ rfl hn (h.1) rfl (lv_room hroom) hdg hcs) hS (fun q _ h => hFr q h) hFr (fun r hPr t H1 locs1 ht hB hz hk hS1 => ?_)
  obtain ⟨hP1, hD1⟩ := hB
  rw [ht] at hP1
  obtain ⟨p2, d2⟩ := sx_back hP hD (fun q hq => X.2.2.2.2.2.2.1 q (Nat.le_trans hS.1 hq)) hk hP1 hD1
  exact kk r hPr H1 locs1 ls p2 d2 hS1 h
/-- a constructor -/
theorem sx_pI (X : SxC p s m args meth c cc own nL ret D T A SF) {b : Nat} (hM : SxKP SF2 l D T y cy maxLy none rmy (.ref b :: As) wc vf wf P mc ms) (hF : SxM s D A SF2 wc wr) {idx nA : Nat} (h1 : Cond.methodLink own idx y ∈ BIG) (h2 : Cond.instanceMethod y ∈ BIG) (h4 : Cond.initialized y.cls ∈ BIG) (h5 : Cond.code y cy maxLy none ∈ BIG) (hy1 : y.name = "<init>") (hd : SxDs y nA) (hrm : rmy.cells = mc ∧ rmy.slots = ms) (hR : rmy.frames + 1 ≤ R.frames ∧ 8 + (maxLy + 11) + rmy.locals ≤ R.locals) (hn : As.length = nA) (hst : st = As.reverse ++ .ref b :: rest) (hroom : (rest.map fun v => v.category).sum ≤ 8) (hcs : k + mc ≤ R.cells ∧ n + ms ≤ R.slots) (hdg : decode cc pc = .ok (.invokespecial idx, 3)) (hw : ws = wc ++ wr)
    (kk : ∀ r, P r → SxG p l e R s m args below meth c D A nL (k + mc) (n + ms) Q (wf r ++ wr) lv (pc + 3) ((vf r).toList ++ rest)) : SxG p l e R s m args below meth c D A nL k n Q ws lv pc st := by
  subst hst
  subst hw
  intro H locs ls hP hD hS h
  have hFr := sx_freeA X.2.2.2.2.2.2.1 hD hS
  have hpre := sx_preP X hF hP hD hS (.ref b :: As)
  refine sx_afterP (va_runI (As := As) (rest := rest) ⟨X.1, X.2.1, X.2.2.1, X.2.2.2.1, X.2.2.2.2.1⟩ (hM H.size) ⟨callB_of nA X.2.2.2.2.1 (big_in h5) rfl hrm.1 hrm.2 (X.2.2.2.2.1 _ h4) (X.2.2.2.2.1 _ h1) hd hR, hy1, X.2.2.2.2.1 _ h2⟩ ⟨hpre.1, hpre.2⟩ rfl hn (h.1) rfl (lv_room hroom) hdg hcs) hS (fun q _ h => hFr q h) hFr (fun r hPr t H1 locs1 ht hB hz hk hS1 => ?_)
  obtain ⟨hP1, hD1⟩ := hB
  rw [ht] at hP1
  obtain ⟨p2, d2⟩ := sx_back hP hD (fun q hq => X.2.2.2.2.2.2.1 q (Nat.le_trans hS.1 hq)) hk hP1 hD1
  exact kk r hPr H1 locs1 ls p2 d2 hS1 h
/-- a method of the class above, by super -/
theorem sx_pSU (X : SxC p s m args meth c cc own nL ret D T A SF) {b ci0 : Nat} {vc : vw_C} (hM : SxKP SF2 l D T y cy maxLy rty rmy (.ref b :: As) wc vf wf P mc ms) (hF : SxM s D A SF2 wc wr) {C : String} {idx nA : Nat} (hvc : vwCl[ci0]? = some vc) (hvC : vc.1 = C) (hrc : ∀ H locs, va_P D vwCl (wc ++ wr) H → va_S A s.heap H locs → ∃ cellB : Cell, H[b]? = some cellB ∧ cellB.vm.isStatics = false ∧ s.vm.findClass C = some cellB.cls) (h1 : Cond.methodLink own idx y ∈ BIG) (h1s : Cond.sameMethod y.cls y.cls y.name y.desc ∈ BIG) (hsu : Cond.superclass own y.cls ∈ BIG) (h2 : Cond.instanceMethod y ∈ BIG) (h4 : Cond.initialized y.cls ∈ BIG) (h5 : Cond.code y cy maxLy rty ∈ BIG) (hd : y.name ≠ "<init>" ∧ (parseMethodDescriptor y.desc).map (fun d => d.parameters.length) = some nA) (hrm : rmy.cells = mc ∧ rmy.slots = ms) (hR : rmy.frames + 1 ≤ R.frames ∧ 8 + (maxLy + 11) + rmy.locals ≤ R.locals) (hn : As.length = nA) (hst : st = As.reverse ++ .ref b :: rest) (hroom : (rest.map fun v => v.category).sum ≤ 8) (hcs : k + mc ≤ R.cells ∧ n + ms ≤ R.slots) (hdg : decode cc pc = .ok (.invokespecial idx, 3)) (hw : ws = wc ++ wr)
    (kk : ∀ r, P r → SxG p l e R s m args below meth c D A nL (k + mc) (n + ms) Q (wf r ++ wr) lv (pc + 3) ((vf r).toList ++ rest)) : SxG p l e R s m args below meth c D A nL k n Q ws lv pc st := by
  subst hst
  subst hw
  subst hvC
  have hG : GoodIn BIG (va_wsSU own idx y (Cond.code y cy maxLy rty :: BIG)) := fun w hw => by
    unfold va_wsSU at hw
    rcases List.mem_append.mp hw with h | h
    · have h' : w ∈ BIG := by
        simp only [List.mem_cons, List.not_mem_nil, or_false] at h
        rcases h with rfl | rfl | rfl | rfl | rfl
        · exact h1
        · exact h1s
        · exact hsu
        · exact h2
        · exact h4
      exact ⟨h', big_good _ h'⟩
    · exact big_in h5 w h
  intro H locs ls hP hD hS h
  have hFr := sx_freeA X.2.2.2.2.2.2.1 hD hS
  have hpre := sx_preP X hF hP hD hS (.ref b :: As)
  refine sx_afterP (va_runSU (As := As) (rest := rest) (X.2.2.2.2.2.1.1 ci0 vc hvc).2 ⟨X.1, X.2.1, X.2.2.1, X.2.2.2.1, X.2.2.2.2.1⟩ (hM H.size) (va_cwSU nA X.2.2.2.2.1 hG rfl hrm.1 hrm.2 hd hR) ⟨hpre.1, hrc H locs hP hS, hpre.2⟩ rfl hn (h.1) rfl (lv_room hroom) hdg hcs) hS (fun q _ h => hFr q h) hFr (fun r hPr t H1 locs1 ht hB hz hk hS1 => ?_)
  obtain ⟨hP1, hD1⟩ := hB
  rw [ht] at hP1
  obtain ⟨p2, d2⟩ := sx_back hP hD (fun q hq => X.2.2.2.2.2.2.1 q (Nat.le_trans hS.1 hq)) hk hP1 hD1
  exact kk r hPr H1 locs1 ls p2 d2 hS1 h
/-- private methods of nest mates: a static one, a constructor -/
theorem sx_pN (X : SxC p s m args meth c cc own nL ret D T A SF) (hM : SxKP SF2 l D T y cy maxLy rty rmy As wc vf wf P mc ms) (hF : SxM s D A SF2 wc wr) {idx nA : Nat} {host : String} (h1 : va_Nw (.methodLinkNest own idx y host) s) (h2 : Cond.static y ∈ BIG) (h4 : Cond.initialized y.cls ∈ BIG) (h5 : Cond.code y cy maxLy rty ∈ BIG) (hd : SxDs y nA) (hrm : rmy.cells = mc ∧ rmy.slots = ms) (hR : rmy.frames + 1 ≤ R.frames ∧ 8 + (maxLy + 11) + rmy.locals ≤ R.locals) (hn : As.length = nA) (hst : st = As.reverse ++ rest) (hroom : (rest.map fun v => v.category).sum ≤ 8) (hcs : k + mc ≤ R.cells ∧ n + ms ≤ R.slots) (hdg : decode cc pc = .ok (.invokestatic idx, 3)) (hw : ws = wc ++ wr)
    (kk : ∀ r, P r → SxG p l e R s m args below meth c D A nL (k + mc) (n + ms) Q (wf r ++ wr) lv (pc + 3) ((vf r).toList ++ rest)) : SxG p l e R s m args below meth c D A nL k n Q ws lv pc st := by
  subst hst
  subst hw
  intro H locs ls hP hD hS h
  have hFr := sx_freeA X.2.2.2.2.2.2.1 hD hS
  have hpre := sx_preP X hF hP hD hS As
  refine sx_afterP (va_runSN (As := As) (rest := rest) ⟨X.1, X.2.1, X.2.2.1, X.2.2.2.1, X.2.2.2.2.1⟩ (hM H.size) ⟨va_cnB nA X.2.2.2.2.1 (big_in h5) rfl hrm.1 hrm.2 h1 (X.2.2.2.2.1 _ h4) hd hR, X.2.2.2.2.1 _ h2, trivial⟩ ⟨hpre.1, hpre.2⟩ rfl hn (h.1) rfl (lv_room hroom) hdg hcs) hS (fun q _ h => hFr q h) hFr (fun r hPr t H1 locs1 ht hB hz hk hS1 => ?_)
  obtain ⟨hP1, hD1⟩ := hB
  rw [ht] at hP1
  obtain ⟨p2, d2⟩ := sx_back hP hD (fun q hq => X.2.2.2.2.2.2.1 q (Nat.le_trans hS.1 hq)) hk hP1 hD1
  exact kk r hPr H1 locs1 ls p2 d2 hS1 h
theorem sx_pIN (X : SxC p s m args meth c cc own nL ret D T A SF) {b : Nat} (hM : SxKP SF2 l D T y cy maxLy none rmy (.ref b :: As) wc vf wf P mc ms) (hF : SxM s D A SF2 wc wr) {idx nA : Nat} {host : String} (h1 : va_Nw (.methodLinkNest own idx y host) s) (h2 : Cond.instanceMethod y ∈ BIG) (h4 : Cond.initialized y.cls ∈ BIG) (h5 : Cond.code y cy maxLy none ∈ BIG) (hy1 : y.name = "<init>") (hd : SxDs y nA) (hrm : rmy.cells = mc ∧ rmy.slots = ms) (hR : rmy.frames + 1 ≤ R.frames ∧ 8 + (maxLy + 11) + rmy.locals ≤ R.locals) (hn : As.length = nA) (hst : st = As.reverse ++ .ref b :: rest) (hroom : (rest.map fun v => v.category).sum ≤ 8) (hcs : k + mc ≤ R.cells ∧ n + ms ≤ R.slots) (hdg : decode cc pc = .ok (.invokespecial idx, 3)) (hw : ws = wc ++ wr)
    (kk : ∀ r, P r → SxG p l e R s m args below meth c D A nL (k + mc) (n + ms) Q (wf r ++ wr) lv (pc + 3) ((vf r).toList ++ rest)) : SxG p l e R s m args below meth c D A nL k n Q ws lv pc st := by
  subst hst
  subst hw
  intro H locs ls hP hD hS h
  have hFr := sx_freeA X.2.2.2.2.2.2.1 hD hS
  have hpre := sx_preP X hF hP hD hS (.ref b :: As)
  refine sx_afterP (va_runIN (As := As) (rest := rest) ⟨X.1, X.2.1, X.2.2.1, X.2.2.2.1, X.2.2.2.2.1⟩ (hM H.size) ⟨va_cnB nA X.2.2.2.2.1 (big_in h5) rfl hrm.1 hrm.2 h1 (X.2.2.2.2.1 _ h4) hd hR, hy1, X.2.2.2.2.1 _ h2⟩ ⟨hpre.1, hpre.2⟩ rfl hn (h.1) rfl (lv_room hroom) hdg hcs) hS (fun q _ h => hFr q h) hFr (fun r hPr t H1 locs1 ht hB hz hk hS1 => ?_)
  obtain ⟨hP1, hD1⟩ := hB
  rw [ht] at hP1
  obtain ⟨p2, d2⟩ := sx_back hP hD (fun q hq => X.2.2.2.2.2.2.1 q (Nat.le_trans hS.1 hq)) hk hP1 hD1
  exact kk r hPr H1 locs1 ls p2 d2 hS1 h
/-- who receives: an object of the cells -/
theorem sx_rcv (X : SxC p s m args meth c cc own nL ret D T A SF) {b q0 ci : Nat} {fs : List Value} {vc : vw_C} {w : va_W} (he : w[q0]? = some (b, .inr (ci, fs))) (hvc : vwCl[ci]? = some vc) : ∀ H (locs : List Loc), va_P D vwCl w H → va_S A s.heap H locs → ∃ cellB : Cell, H[b]? = some cellB ∧ cellB.vm.isStatics = false ∧ s.vm.findClass vc.1 = some cellB.cls :=
  fun H locs hP hS => va_recv X.2.2.2.2.2.1 hP hvc he
theorem sx_rcvO {C : String} {b : Nat} (hO : va_O C b A s s.heap) {w : va_W} : ∀ H (locs : List Loc), va_P D vwCl w H → va_S A s.heap H locs → ∃ cellB : Cell, H[b]? = some cellB ∧ cellB.vm.isStatics = false ∧ s.vm.findClass C = some cellB.cls :=
  fun H locs hP hS => by
    obtain ⟨cell, q1, q2, q3, -⟩ := hO.kept hS.2.1
    exact ⟨cell, q1, q2, q3⟩
end SX4
