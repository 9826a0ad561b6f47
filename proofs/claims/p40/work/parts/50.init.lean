/-! constructors: what they make lies behind what was there -/
theorem sxPatch_key {ws wc w1 : va_W} {isC : List Nat} (hC : isC.map (fun i => ws[i]?) = wc.map some) (ha : w1.map (·.1) = wc.map (·.1)) : ∀ (j : Nat) (q : Nat × va_E), (sxPatch ws isC w1)[j]? = some q → ∃ q0, ws[j]? = some q0 ∧ q0.1 = q.1 := by
  intro j q hq
  rcases sxPatch_at isC w1 ws j q hq with ⟨p, h1, h2⟩ | ⟨-, h2⟩
  · have h3 : (w1.map (·.1))[p]? = some q.1 := by rw [List.getElem?_map, h2]; rfl
    rw [ha, List.getElem?_map] at h3
    cases hi : wc[p]? with
    | none => rw [hi] at h3; cases h3
    | some q0 =>
      rw [hi] at h3
      have h4 : (isC.map (fun i => ws[i]?))[p]? = some (some q0) := by rw [hC, List.getElem?_map, hi]; rfl
      rw [List.getElem?_map, h1] at h4
      exact ⟨q0, Option.some.inj h4, Option.some.inj h3⟩
  · exact ⟨q, h2, rfl⟩
theorem sxPatch_new {A0 : Nat → Prop} {D : va_G} {cl : List vw_C} {ws wc w1 wn : va_W} {H H1 : Heap} (hP : va_P D cl ws H) (hD : va_D A0 ws) (hA : ∀ q, H.size ≤ q → A0 q) (isC : List Nat) (hC : isC.map (fun i => ws[i]?) = wc.map some) (ha : w1.map (·.1) = wc.map (·.1))
    (hk : ∀ q : Nat, q < H.size → ¬ va_A wc H.size q → H1[q]? = H[q]?) (hP1 : va_P D cl (w1 ++ wn) H1) (hD1 : va_D (va_A wc H.size) (w1 ++ wn)) : va_P D cl (sxPatch ws isC w1 ++ wn) H1 ∧ va_D A0 (sxPatch ws isC w1 ++ wn) := by
  have lt_of : ∀ {L : va_W} {i : Nat} {x : Nat × va_E}, L[i]? = some x → i < L.length := fun h => (List.getElem?_eq_some_iff.mp h).1
  have hPw : va_P D cl w1 H1 := fun i q hq => hP1 i q (by rw [List.getElem?_append_left (lt_of hq)]; exact hq)
  obtain ⟨a1, a2⟩ := sxPatch_ok hP hD isC hC ha hk hPw
  have right : ∀ {L : va_W} {i : Nat} {x : Nat × va_E}, (L ++ wn)[i]? = some x → ¬ i < L.length → wn[i - L.length]? = some x := fun h hn => by
    rw [List.getElem?_append_right (Nat.le_of_not_lt hn)] at h
    exact h
  have fresh : ∀ (j : Nat) (y : Nat × va_E), wn[j]? = some y → H.size ≤ y.1 := by
    intro j y hy
    have h1 : (w1 ++ wn)[w1.length + j]? = some y := by
      rw [List.getElem?_append_right (Nat.le_add_right _ _), Nat.add_sub_cancel_left]; exact hy
    rcases hD1.2 _ y h1 with ⟨i, e, h⟩ | h
    · have h2 : (w1.map (·.1))[i]? = some y.1 := by rw [ha, List.getElem?_map, h]; rfl
      rw [List.getElem?_map] at h2
      cases hi : w1[i]? with
      | none => rw [hi] at h2; cases h2
      | some x =>
        rw [hi] at h2
        have h3 := hD1.1 i (w1.length + j) x y (by rw [List.getElem?_append_left (lt_of hi)]; exact hi) h1 (Option.some.inj h2)
        have := lt_of hi
        omega
    · exact h
  have old : ∀ (j : Nat) (q : Nat × va_E), (sxPatch ws isC w1)[j]? = some q → q.1 < H.size := fun j q hq => by
    obtain ⟨q0, h1, h2⟩ := sxPatch_key hC ha j q hq
    rw [← h2]
    exact (hP j q0 h1).lt
  refine ⟨fun i q hq => ?_, fun i j x y hx hy hxy => ?_, fun i q hq => ?_⟩
  · by_cases h : i < (sxPatch ws isC w1).length
    · rw [List.getElem?_append_left h] at hq
      exact a1 i q hq
    · have h1 := right hq h
      exact hP1 (w1.length + (i - (sxPatch ws isC w1).length)) q (by rw [List.getElem?_append_right (Nat.le_add_right _ _), Nat.add_sub_cancel_left]; exact h1)
  · by_cases h : i < (sxPatch ws isC w1).length
    · rw [List.getElem?_append_left h] at hx
      by_cases g : j < (sxPatch ws isC w1).length
      · rw [List.getElem?_append_left g] at hy
        exact a2.1 i j x y hx hy hxy
      · have h1 := old i x hx
        have h2 := fresh _ y (right hy g)
        omega
    · by_cases g : j < (sxPatch ws isC w1).length
      · rw [List.getElem?_append_left g] at hy
        have h1 := old j y hy
        have h2 := fresh _ x (right hx h)
        omega
      · have h1 := right hx h
        have h2 := right hy g
        have h3 := hD1.1 (w1.length + (i - (sxPatch ws isC w1).length)) (w1.length + (j - (sxPatch ws isC w1).length)) x y (by rw [List.getElem?_append_right (Nat.le_add_right _ _), Nat.add_sub_cancel_left]; exact h1) (by rw [List.getElem?_append_right (Nat.le_add_right _ _), Nat.add_sub_cancel_left]; exact h2) hxy
        omega
  · by_cases h : i < (sxPatch ws isC w1).length
    · rw [List.getElem?_append_left h] at hq
      exact a2.2 i q hq
    · exact hA _ (fresh _ q (right hq h))
/-- a constructor's end: some new addresses, and the world at them -/
def SxEe {Res : Type} (below : List Frame) (args : Array Value) (s : State) (D : va_G) (A : Nat → Prop) (wf : Res → va_W) (mc ms : Nat) : State → Prop := MQ below (fun a st oc t => ∃ r, SxQ none (SxB D A (wf r)) A a st oc t) args s mc ms A
def SxKe {Res : Type} (SF : (Nat → Prop) → State → Heap → Prop) (l : Launch) (D : va_G) (T : Nat → ClassId) (y : MethodName) (cc : ByteArray) (maxL : Nat) (rm : Room) (As : List Value) (wc : va_W) (wf : Res → va_W) (mc ms : Nat) : Prop :=
  ∀ sz : Nat, Met l y (Cond.code y cc maxL none :: BIG) rm (va_Pc As (SxP SF D T wc sz)) (fun a st oc t => ∃ r, SxQ none (SxB D (va_A wc sz) (wf r)) (va_A wc sz) a st oc t) mc ms (va_A wc sz)
theorem sx_startE {Res : Type} {SF : (Nat → Prop) → State → Heap → Prop} {l : Launch} {D : va_G} {T : Nat → ClassId} {y : MethodName} {cc : ByteArray} {maxL : Nat} {rm : Room} {As : List Value} {wc : va_W} {wf : Res → va_W} {mc ms : Nat} (hok : SFok SF) (hy : plainName y.cls = true) (hlen : (lg_sl As).length ≤ maxL)
    (body : ∀ (p : Program) (e : Env) (s : State) (m : MethodId) (args : Array Value) (below : List Frame) (meth : Method) (c : Code) (A : Nat → Prop), SxC p s m args meth c cc y.cls maxL none D T A SF → meth.name = y.name → SxG p l e rm s m args below meth c D A maxL 0 0 (SxEe below args s D A wf mc ms) wc (lv_args 0 As) 0 []) :
    SxKe SF l D T y cc maxL rm As wc wf mc ms := by
  intro sz
  refine Met.ofW (cc := cc) (maxL := maxL) (ret := none) hy rfl ?_
  intro p e s m args below meth c s₁ B hml hv
  obtain ⟨rfl, hsz, hP, hK, hD0, hSF⟩ := hv
  subst hsz
  have hts := atoms_spec (ws := Cond.code y cc maxL none :: BIG) B.pre
  have X : SxC p s m As.toArray meth c cc y.cls maxL none D T (va_A wc s.heap.size) SF := ⟨B.exec, B.bytes, hml, findClass_of_methodNamed B.named, fun w h => hts w (List.mem_cons_of_mem _ h), hK, fun q h => Or.inr h, B.returns, B.notSynchronized, hSF, hok⟩
  rw [lg_entry_eq]
  exact body p e s m As.toArray below meth c _ X (name_of_methodNamed B.named B.method).1 s.heap [] _ hP hD0.self va_S.rf (lv_entry As hlen)
section SXI
variable {p : Program} {l : Launch} {e : Env} {R : Room} {s : State} {m : MethodId} {args : Array Value} {below : List Frame} {meth : Method} {c : Code} {Q : State → Prop} {cc : ByteArray} {own : String} {nL : Nat} {ret : Option FieldType} {D : va_G} {T : Nat → ClassId} {A : Nat → Prop} {k n : Nat} {ws : va_W} {lv : List (Nat × Value)} {pc : Nat} {st : List Value} {SF : (Nat → Prop) → State → Heap → Prop}
variable {Res : Type} {wf : Res → va_W}
theorem sx_vretE (X : SxC p s m args meth c cc own nL none D T A SF) (r : Res) (hdg : decode cc pc = .ok (.return_, 1)) (hw : wf r = ws) : SxG p l e R s m args below meth c D A nL k n (SxEe below args s D A wf k n) ws lv pc [] := by
  subst hw
  intro H locs ls hP hD hS h
  exact W.vret X.1 X.2.1 X.2.2.2.2.2.2.2.1 (fun t ht hW => ⟨r, rfl, ⟨by rw [ht]; exact hP, hD⟩, hS.F ht⟩) hS.2.2 hdg X.2.2.2.2.2.2.2.2.1
theorem sx_afterE {H : Heap} {locs : List Loc} {ls : Array Slot} {mc ms : Nat} {rest st0 : List Value} {B : Res → State → Prop} {A0 A1 : Nat → Prop} {H0 : Heap} {a : Array Value} {free : Addr → Prop} (hr : va_Run p l e R s m args below meth c H locs k n mc ms (F0 m pc ls st0) rest (fun st oc t => ∃ r, SxQ none (B r) A1 a st oc t) free) (hS : va_S A0 H0 H locs) (hA : ∀ q, q < H.size → A1 q → A0 q) (hf : ∀ q, free q → A0 q)
    (kk : ∀ (r : Res) (t : State) (H1 : Heap) (locs1 : List Loc), t.heap = H1 → B r t → H.size ≤ H1.size → (∀ q : Nat, q < H.size → ¬ A1 q → H1[q]? = H[q]?) → va_S A0 H0 H1 locs1 → W p l e R s m args below meth c H1 locs1 (k + mc) (n + ms) Q (F0 m (pc + 3) ls rest)) : W p l e R s m args below meth c H locs k n Q (F0 m pc ls st0) := by
  intro T hT X
  obtain ⟨v, st₀, t, T', L, h0, X', hL, e1, e2, ⟨r, hv, hb, hz, hk⟩, st⟩ := hr T hT X
  cases hv
  rw [h0] at hz hk
  obtain ⟨t2, a1, b1⟩ := kk r t T'.heap (locs ++ L) e1.symm hb (by rw [e1]; exact hz) (fun q h1 h2 => by rw [e1]; exact hk q h1 h2)
    ⟨Nat.le_trans hS.1 (by rw [e1]; exact hz), fun q h1 h2 => by rw [e1, hk q (Nat.lt_of_lt_of_le h1 hS.1) (fun z => h2 (hA q (Nat.lt_of_lt_of_le h1 hS.1) z))]; exact hS.2.1 q h1 h2, fun q hq => by
      rcases List.mem_append.mp hq with h | h
      · exact hS.2.2 q h
      · exact hf _ (hL q h)⟩ T' rfl X'
  exact ⟨t2, st t2 a1, b1⟩
variable {y : MethodName} {cy : ByteArray} {maxLy : Nat} {rmy : Room} {As rest : List Value} {wc : va_W} {mc ms : Nat}
theorem sx_cI (X : SxC p s m args meth c cc own nL ret D T A SF) {b : Nat} (hM : SxKe SF l D T y cy maxLy rmy (.ref b :: As) wc wf mc ms) {idx nA : Nat} (h1 : Cond.methodLink own idx y ∈ BIG) (h2 : Cond.instanceMethod y ∈ BIG) (h4 : Cond.initialized y.cls ∈ BIG) (h5 : Cond.code y cy maxLy none ∈ BIG) (hy1 : y.name = "<init>") (hd : y.cls ≠ "java/lang/invoke/MethodHandle" ∧ y.cls ≠ "java/lang/invoke/VarHandle" ∧ (parseMethodDescriptor y.desc).map (fun d => d.parameters.length) = some nA) (hrm : rmy.cells = mc ∧ rmy.slots = ms) (hR : rmy.frames + 1 ≤ R.frames ∧ 8 + (maxLy + 11) + rmy.locals ≤ R.locals) (hn : As.length = nA) (hst : st = As.reverse ++ .ref b :: rest) (hroom : (rest.map fun v => v.category).sum ≤ 8) (isC : List Nat) (hC : isC.map (fun i => ws[i]?) = wc.map some) (hnd : va_nd isC = true) (w1 wn : Res → va_W) (hwf : ∀ r, wf r = w1 r ++ wn r) (ha : ∀ r, (w1 r).map (·.1) = wc.map (·.1)) (hcs : k + mc ≤ R.cells ∧ n + ms ≤ R.slots) (hdg : decode cc pc = .ok (.invokespecial idx, 3))
    (kk : ∀ r, SxG p l e R s m args below meth c D A nL (k + mc) (n + ms) Q (sxPatch ws isC (w1 r) ++ wn r) lv (pc + 3) rest) : SxG p l e R s m args below meth c D A nL k n Q ws lv pc st := by
  subst hst
  intro H locs ls hP hD hS h
  have hFr := va_free hD hS X.2.2.2.2.2.2.1 isC hC
  have hpre := sx_pre X hP hD hS isC hC hnd (.ref b :: As)
  refine sx_afterE (va_runI (As := As) (rest := rest) ⟨X.1, X.2.1, X.2.2.1, X.2.2.2.1, X.2.2.2.2.1⟩ (hM H.size) ⟨callB_of nA X.2.2.2.2.1 (big_in h5) rfl hrm.1 hrm.2 (X.2.2.2.2.1 _ h4) (X.2.2.2.2.1 _ h1) hd hR, hy1, X.2.2.2.2.1 _ h2⟩ ⟨hpre.1, hpre.2⟩ rfl hn (h.1) rfl (lv_room hroom) hdg hcs) hS (fun q _ h => hFr q h) hFr (fun r t H1 locs1 ht hB hz hk hS1 => ?_)
  obtain ⟨hP1, hD1⟩ := hB
  rw [ht] at hP1
  rw [hwf r] at hP1 hD1
  obtain ⟨p2, d2⟩ := sxPatch_new hP hD (fun q hq => X.2.2.2.2.2.2.1 q (Nat.le_trans hS.1 hq)) isC hC (ha r) hk hP1 hD1
  exact kk r H1 locs1 ls p2 d2 hS1 h
end SXI
