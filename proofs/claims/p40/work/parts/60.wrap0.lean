/-! methods with a table of handlers -/
/-- a method that catches: it returns -/
def SxKw {Res : Type} (SF : (Nat → Prop) → State → Heap → Prop) (l : Launch) (D : va_G) (T : Nat → ClassId) (y : MethodName) (cc : ByteArray) (maxL : Nat) (ret : Option FieldType) (hh : List (Nat × Nat × Nat × Nat)) (rm : Room) (As : List Value) (wc : va_W) (vf : Res → Option Value) (wf : Res → va_W) (res : Res) (mc ms : Nat) : Prop :=
  ∀ sz : Nat, vx_Met l y (Cond.codeWith y cc maxL ret hh :: BIG) rm (va_Pc As (SxP SF D T wc sz)) (SxQo vf wf (Sum.inl res : Res ⊕ (String × Unit)) D (va_A wc sz)) (SxXo (fun _ : Unit => []) (Sum.inl res : Res ⊕ (String × Unit)) D (va_A wc sz)) mc ms (va_A wc sz)
theorem sx_startW {Res : Type} {SF : (Nat → Prop) → State → Heap → Prop} {l : Launch} {D : va_G} {T : Nat → ClassId} {y : MethodName} {cc : ByteArray} {maxL : Nat} {ret : Option FieldType} {hh : List (Nat × Nat × Nat × Nat)} {rm : Room} {As : List Value} {wc : va_W} {vf : Res → Option Value} {wf : Res → va_W} {res : Res} {mc ms : Nat} (hok : SFok SF) (hy : plainName y.cls = true) (hlen : (lg_sl As).length ≤ maxL)
    (body : ∀ (p : Program) (e : Env) (s : State) (m : MethodId) (args : Array Value) (below : List Frame) (meth : Method) (c : Code) (A : Nat → Prop), SxC p s m args meth c cc y.cls maxL ret D T A SF → c.exceptionTable.toList = tableOf hh → SxG p l e rm s m args below meth c D A maxL 0 0 (SxEx below args s D A vf wf (fun _ : Unit => []) (Sum.inl res) mc ms) wc (lv_args 0 As) 0 []) :
    SxKw SF l D T y cc maxL ret hh rm As wc vf wf res mc ms := by
  intro sz
  refine vx_ofWH (cc := cc) (maxL := maxL) (ret := ret) (hh := hh) hy rfl ?_
  intro p e s m args below meth c s₁ B hml hv
  obtain ⟨rfl, hsz, hP, hK, hD0, hSF⟩ := hv
  subst hsz
  have hts := atoms_spec (ws := Cond.codeWith y cc maxL ret hh :: BIG) B.pre
  have htab := vx_table (x := y) B (hts _ List.mem_cons_self)
  have X : SxC p s m As.toArray meth c cc y.cls maxL ret D T (va_A wc s.heap.size) SF := ⟨B.exec, B.bytes, hml, findClass_of_methodNamed B.named, fun w h => hts w (List.mem_cons_of_mem _ h), hK, fun q h => Or.inr h, B.returns, B.notSynchronized, hSF, hok⟩
  rw [lg_entry_eq]
  exact body p e s m As.toArray below meth c _ X htab s.heap [] _ hP hD0.self va_S.rf (lv_entry As hlen)
/-- a thing of class E is thrown here -/
def SxGx (p : Program) (l : Launch) (e : Env) (R : Room) (s : State) (m : MethodId) (args : Array Value) (below : List Frame) (meth : Method) (c : Code) (D : va_G) (A : Nat → Prop) (nL : Nat) (k n : Nat) (Q : State → Prop) (ws : va_W) (lv : List (Nat × Value)) (pc : Nat) (rest : List Value) (E : String) : Prop :=
  ∀ (H : Heap) (locs : List Loc) (ls : Array Slot) (ce : Cell) (q9 : Addr), va_P D vwCl ws H → va_D A ws → va_S A s.heap H locs → lv_has ls nL lv → H[q9]? = some ce → ce.vm = .none → s.vm.findClass E = some ce.cls → vx_W p l e R s m args below meth c H locs k n Q (F0 m pc ls rest) q9
section SXW
variable {p : Program} {l : Launch} {e : Env} {R : Room} {s : State} {m : MethodId} {args : Array Value} {below : List Frame} {meth : Method} {c : Code} {Q : State → Prop} {cc : ByteArray} {own : String} {nL : Nat} {ret : Option FieldType} {D : va_G} {T : Nat → ClassId} {A : Nat → Prop} {k n : Nat} {ws : va_W} {lv : List (Nat × Value)} {pc : Nat} {st : List Value} {SF : (Nat → Prop) → State → Heap → Prop}
theorem sx_catch (X : SxC p s m args meth c cc own nL ret D T A SF) {hh : List (Nat × Nat × Nat × Nat)} {rest : List Value} {E name name0 : String} (htab : c.exceptionTable.toList = tableOf hh) (pre : List ExceptionTableEntry) (x : ExceptionTableEntry) (suf : List ExceptionTableEntry) (hsplit : tableOf hh = pre ++ x :: suf)
    (hpass : ∀ z ∈ pre, covers z pc = false ∨ (z.catchType ≠ 0 ∧ ∃ nm : String, Cond.classLink own z.catchType nm ∈ BIG ∧ va_Nc name0 nm s)) (hx : covers x pc = true) (h0 : x.catchType ≠ 0) (hlink : Cond.classLink own x.catchType name ∈ BIG) (hcast : va_Nw (.castable name0 name) s) (hE : E = name0)
    (kk : ∀ q : Nat, SxG p l e R s m args below meth c D A nL k n Q ws lv x.handlerPc [.ref q]) : SxGx p l e R s m args below meth c D A nL k n Q ws lv pc rest E := by
  subst hE
  intro H locs ls ce q9 hP hD hS h hce hcv hcl
  exact vx_catch X.2.2.2.1 pre x suf (htab.trans hsplit) (fun z hz => (hpass z hz).imp id (fun ⟨a, nm, b, d⟩ => ⟨a, nm, X.2.2.2.2.1 _ b, d⟩)) hx h0 (X.2.2.2.2.1 _ hlink) (va_Nw.use rfl hcast) hce hcv hcl (kk q9 H locs ls hP hD hS h)
variable {Res1 Wr1 : Type} {y : MethodName} {cy : ByteArray} {maxLy : Nat} {rty : Option FieldType} {rmy : Room} {As rest : List Value} {wc : va_W} {vf1 : Res1 → Option Value} {wf1 : Res1 → va_W} {wx1 : Wr1 → va_W} {o1 : Res1 ⊕ (String × Wr1)} {mc1 ms1 : Nat}
/-- a call of a method that throws, with something to catch it -/
theorem sx_cVt (X : SxC p s m args meth c cc own nL ret D T A SF) {b : Nat} (hM : SxKx SF l D T y cy maxLy rty rmy (.ref b :: As) wc vf1 wf1 wx1 o1 mc1 ms1) {idx nA q0 ci : Nat} {C : String} {fs : List Value} {vc : vw_C} (h1 : Cond.methodLink own idx y ∈ BIG) (h2 : Cond.instanceMethod y ∈ BIG) (h3 : Cond.selects C y y ∈ BIG) (h4 : Cond.initialized y.cls ∈ BIG) (h5 : Cond.code y cy maxLy rty ∈ BIG) (hd : y.cls ≠ "java/lang/invoke/MethodHandle" ∧ y.cls ≠ "java/lang/invoke/VarHandle" ∧ (parseMethodDescriptor y.desc).map (fun d => d.parameters.length) = some nA) (hrm : rmy.cells = mc1 ∧ rmy.slots = ms1) (hR : rmy.frames + 1 ≤ R.frames ∧ 8 + (maxLy + 11) + rmy.locals ≤ R.locals) (hn : As.length = nA) (hst : st = As.reverse ++ .ref b :: rest) (hroom : (rest.map fun v => v.category).sum ≤ 8) (he : ws[q0]? = some (b, .inr (ci, fs))) (hvc : vwCl[ci]? = some vc) (hvC : vc.1 = C) (isC : List Nat) (hC : isC.map (fun i => ws[i]?) = wc.map some) (hnd : va_nd isC = true) (ha : ∀ r, (wf1 r).map (·.1) = wc.map (·.1)) (hax : ∀ r, (wx1 r).map (·.1) = wc.map (·.1)) (hcs : k + mc1 ≤ R.cells ∧ n + ms1 ≤ R.slots) (hdg : decode cc pc = .ok (.invokevirtual idx, 3))
    (kx : ∀ E : String × Wr1, o1 = .inr E → SxGx p l e R s m args below meth c D A nL (k + mc1) (n + ms1) Q (sxPatch ws isC (wx1 E.2)) lv pc rest E.1) (kk : ∀ r, o1 = .inl r → SxG p l e R s m args below meth c D A nL (k + mc1) (n + ms1) Q (sxPatch ws isC (wf1 r)) lv (pc + 3) ((vf1 r).toList ++ rest)) : SxG p l e R s m args below meth c D A nL k n Q ws lv pc st := by
  subst hst
  subst hvC
  intro H locs ls hP hD hS h
  have hFr := va_free hD hS X.2.2.2.2.2.2.1 isC hC
  have hpre := sx_pre X hP hD hS isC hC hnd (.ref b :: As)
  refine sx_afterX (vx_runV (As := As) (rest := rest) ⟨X.1, X.2.1, X.2.2.1, X.2.2.2.1, X.2.2.2.2.1⟩ (hM H.size) ⟨callB_of nA X.2.2.2.2.1 (big_in h5) rfl hrm.1 hrm.2 (X.2.2.2.2.1 _ h4) (X.2.2.2.2.1 _ h1) hd hR, X.2.2.2.2.1 _ h2, X.2.2.2.2.1 _ h3⟩ ⟨hpre.1, va_recv X.2.2.2.2.2.1 hP hvc he, hpre.2⟩ rfl hn (h.1) rfl (lv_room hroom) hdg hcs) hS (fun q _ h => hFr q h) hFr (fun E r ce q9 t H1 locs1 hE ht hB hz hk hS1 hce hcv hcl => ?_) (fun r t H1 locs1 hr ht hB hz hk hS1 => ?_)
  · obtain ⟨hP1, hD1⟩ := hB
    rw [ht] at hP1
    obtain ⟨p2, d2⟩ := sxPatch_ok hP hD isC hC (hax r) hk hP1
    exact kx (E, r) hE H1 locs1 ls ce q9 p2 d2 hS1 h hce hcv hcl
  · obtain ⟨hP1, hD1⟩ := hB
    rw [ht] at hP1
    obtain ⟨p2, d2⟩ := sxPatch_ok hP hD isC hC (ha r) hk hP1
    exact kk r hr H1 locs1 ls p2 d2 hS1 h
variable {Res : Type} {hh : List (Nat × Nat × Nat × Nat)} {vf : Res → Option Value} {wf : Res → va_W} {res : Res}
/-- a static call of a method that catches -/
theorem sx_cW (X : SxC p s m args meth c cc own nL ret D T A SF) (hM : SxKw SF l D T y cy maxLy rty hh rmy As wc vf wf res mc1 ms1) {idx nA : Nat} (h1 : Cond.methodLink own idx y ∈ BIG) (h2 : Cond.static y ∈ BIG) (h4 : Cond.initialized y.cls ∈ BIG) (h5 : Cond.codeWith y cy maxLy rty hh ∈ BIG) (hd : y.cls ≠ "java/lang/invoke/MethodHandle" ∧ y.cls ≠ "java/lang/invoke/VarHandle" ∧ (parseMethodDescriptor y.desc).map (fun d => d.parameters.length) = some nA) (hrm : rmy.cells = mc1 ∧ rmy.slots = ms1) (hR : rmy.frames + 1 ≤ R.frames ∧ 8 + (maxLy + 11) + rmy.locals ≤ R.locals) (hn : As.length = nA) (hst : st = As.reverse ++ rest) (hroom : (rest.map fun v => v.category).sum ≤ 8) (isC : List Nat) (hC : isC.map (fun i => ws[i]?) = wc.map some) (hnd : va_nd isC = true) {ws' : va_W} (hw : sxPatch ws isC (wf res) = ws') (ha : (wf res).map (·.1) = wc.map (·.1)) (hcs : k + mc1 ≤ R.cells ∧ n + ms1 ≤ R.slots) (hdg : decode cc pc = .ok (.invokestatic idx, 3)) {st' : List Value} (hst' : (vf res).toList ++ rest = st')
    (kk : SxG p l e R s m args below meth c D A nL (k + mc1) (n + ms1) Q ws' lv (pc + 3) st') : SxG p l e R s m args below meth c D A nL k n Q ws lv pc st := by
  subst hst
  subst hw
  subst hst'
  intro H locs ls hP hD hS h
  have hFr := va_free hD hS X.2.2.2.2.2.2.1 isC hC
  have hpre := sx_pre X hP hD hS isC hC hnd As
  have hG : GoodIn BIG (va_wsS own idx y (Cond.codeWith y cy maxLy rty hh :: BIG)) := fun w hw => by
    unfold va_wsS at hw
    rcases List.mem_append.mp hw with h | h
    · have h' : w ∈ BIG := by
        simp only [List.mem_cons, List.not_mem_nil, or_false] at h
        rcases h with rfl | rfl | rfl
        · exact h1
        · exact h2
        · exact h4
      exact ⟨h', big_good _ h'⟩
    · rcases List.mem_cons.mp h with rfl | h
      · exact ⟨h5, big_good _ h5⟩
      · exact ⟨h, big_good _ h⟩
  refine sx_afterX (vx_runSX (As := As) (rest := rest) (hh := hh) ⟨X.1, X.2.1, X.2.2.1, X.2.2.2.1, X.2.2.2.2.1⟩ (hM H.size) (vx_cwSW nA X.2.2.2.2.1 hG rfl hrm.1 hrm.2 hd hR) ⟨hpre.1, hpre.2⟩ rfl hn (h.1) rfl (lv_room hroom) hdg hcs) hS (fun q _ h => hFr q h) hFr (fun E r ce q9 t H1 locs1 hE ht hB hz hk hS1 hce hcv hcl => by cases hE) (fun r t H1 locs1 hr ht hB hz hk hS1 => ?_)
  cases hr
  obtain ⟨hP1, hD1⟩ := hB
  rw [ht] at hP1
  obtain ⟨p2, d2⟩ := sxPatch_ok hP hD isC hC ha hk hP1
  exact kk H1 locs1 ls p2 d2 hS1 h
end SXW
