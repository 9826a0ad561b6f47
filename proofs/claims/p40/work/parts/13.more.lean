/-! more of the layer: loops' continuations, switches, calls that write nothing, the JDK's small methods -/
theorem iter_z {S R F : Type} {body : S → Option (S ⊕ R)} {s : S} {κ : R → Option F} {f : F} (h : (iter body 0 s).bind κ = some f) : False := by cases h
theorem iter_k {S R F : Type} {body : S → Option (S ⊕ R)} {n : Nat} {s : S} {κ : R → Option F} {f : F} (h : (iter body (n + 1) s).bind κ = some f) : ∃ κ' : S ⊕ R → Option F, κ' = kap body n κ ∧ (body s).bind κ' = some f := ⟨_, rfl, iter_s h⟩
theorem ob_k {S R F : Type} {body : S → Option (S ⊕ R)} {n : Nat} {s : S} {κ : R → Option F} {κ' : S ⊕ R → Option F} {f : F} (e : κ' = kap body n κ) (h : (some (Sum.inl s)).bind κ' = some f) : (iter body n s).bind κ = some f := by rw [e] at h; exact h
theorem ob_kr {S R F : Type} {body : S → Option (S ⊕ R)} {n : Nat} {r : R} {κ : R → Option F} {κ' : S ⊕ R → Option F} {f : F} (e : κ' = kap body n κ) (h : (some (Sum.inr r)).bind κ' = some f) : (some r).bind κ = some f := by rw [e] at h; exact h
theorem ob_kx {S R F : Type} {body : S → Option (S ⊕ R)} {n : Nat} {o : Option R} {κ : R → Option F} {κ' : S ⊕ R → Option F} {f : F} (e : κ' = kap body n κ) (h : (o.bind (fun x => some (Sum.inr x))).bind κ' = some f) : o.bind κ = some f := by rw [e] at h; exact ob_x h
theorem sx_nz {v : Int32} (h : vp_nar .boolean v = v) : narrow .boolean (.int v) = .int v := (show narrow .boolean (.int v) = .int (vp_nar .boolean v) from rfl).trans (by rw [h])
def SxIn (lo hi : Int) (offs : Array Int) (off : Int) (x : Int32) : Prop := ¬ x.toInt < lo ∧ ¬ hi < x.toInt ∧ offs[(x.toInt - lo).toNat]? = some off
def SxTab (lo hi : Int) (offs : Array Int) (off : Int) (x : Int32) : Prop := (x.toInt < lo ∨ hi < x.toInt) ∨ SxIn lo hi offs off x
theorem sx_rng (lo : Int) (n : Nat) (x : Int32) : (x.toInt < lo ∨ lo + n ≤ x.toInt) ∨ ∃ j : Nat, j < n ∧ x.toInt = lo + j := by
  by_cases h1 : x.toInt < lo
  · exact Or.inl (Or.inl h1)
  · by_cases h2 : lo + n ≤ x.toInt
    · exact Or.inl (Or.inr h2)
    · exact Or.inr ⟨(x.toInt - lo).toNat, by omega, by omega⟩
theorem sxPatch_self : ∀ (is : List Nat) (wc ws : va_W), is.map (fun i => ws[i]?) = wc.map some → sxPatch ws is wc = ws := by
  intro is
  induction is with
  | nil => intro wc ws _; cases wc <;> rfl
  | cons i is ih =>
    intro wc ws h
    cases wc with
    | nil => cases h
    | cons x xs =>
      have h1 : ws[i]? = some x := (List.cons.inj h).1
      have h2 := (List.cons.inj h).2
      have h3 : ws.set i x = ws := by
        apply List.ext_getElem?
        intro j
        rw [List.getElem?_set]
        by_cases hij : i = j
        · subst hij
          rw [if_pos rfl, h1, if_pos (List.getElem?_eq_some_iff.mp h1).1]
        · rw [if_neg hij]
      show sxPatch (ws.set i x) is xs = ws
      rw [h3]
      exact ih xs ws h2
theorem kX2 : SxCl RX2 TX2 6 tyX2 2 := ⟨uX2, tyX2_ok, nmX2, rfl⟩
theorem kX4 : SxCl RX4 TX4 6 tyX4 3 := ⟨uX4, tyX4_ok, nmX4, rfl⟩
theorem kX6 : SxCl RX6 TX6 8 tyX6 4 := ⟨uX6, tyX6_ok, nmX6, rfl⟩
theorem kX7 : SxCl RX7 TX7 3 tyX7 5 := ⟨uX7, tyX7_ok, nmX7, rfl⟩
theorem kX8 : SxCl RX8 TX8 13 tyX8 6 := ⟨uX8, tyX8_ok, nmX8, rfl⟩
theorem kX9 : SxCl RX9 TX9 2 tyX9 7 := ⟨uX9, tyX9_ok, nmX9, rfl⟩
theorem kX10 : SxCl RX10 TX10 2 tyX10 8 := ⟨uX10, tyX10_ok, nmX10, rfl⟩
theorem kX11 : SxCl RX11 TX11 7 tyX11 9 := ⟨uX11, tyX11_ok, nmX11, rfl⟩
theorem kX12 : SxCl RX12 TX12 6 tyX12 10 := ⟨uX12, tyX12_ok, nmX12, rfl⟩
theorem kX13 : SxCl RX13 TX13 1 tyX13 11 := ⟨uX13, tyX13_ok, nmX13, rfl⟩
theorem kX14 : SxCl RX14 TX14 5 tyX14 12 := ⟨uX14, tyX14_ok, nmX14, rfl⟩
theorem kX15 : SxCl RX15 TX15 5 tyX15 13 := ⟨uX15, tyX15_ok, nmX15, rfl⟩
theorem kX16 : SxCl RX16 TX16 4 tyX16 14 := ⟨uX16, tyX16_ok, nmX16, rfl⟩
theorem kX17 : SxCl RX17 TX17 3 tyX17 15 := ⟨uX17, tyX17_ok, nmX17, rfl⟩
theorem kX18 : SxCl RX18 TX18 11 tyX18 16 := ⟨uX18, tyX18_ok, nmX18, rfl⟩
section SXM
variable {p : Program} {l : Launch} {e : Env} {R : Room} {s : State} {m : MethodId} {args : Array Value} {below : List Frame} {meth : Method} {c : Code} {Q : State → Prop} {cc : ByteArray} {own : String} {nL : Nat} {ret : Option FieldType} {D : va_G} {T : Nat → ClassId} {A : Nat → Prop} {SF : (Nat → Prop) → State → Heap → Prop} {sd : SdT} {k n : Nat} {ws : va_W} {lv : List (Nat × Value)} {pc : Nat} {st : List Value}
theorem sx_tin (X : SxC p s m args meth c cc own nL ret D T A SF) {dflt lo hi off : Int} {offs : Array Int} {len : Nat} {x : Int32} (tgt : Nat) (hdg : decode cc pc = .ok (.tableswitch dflt lo hi offs, len)) (ht : (pc : Int) + off = (tgt : Int)) (h : SxIn lo hi offs off x) (kk : SxG p l e R s m args below meth c D A nL k n Q ws lv tgt st) : SxG p l e R s m args below meth c D A nL k n Q ws lv pc (.int x :: st) := sx_table X tgt rfl hdg h.1 h.2.1 h.2.2 ht kk
theorem sx_tdef (X : SxC p s m args meth c cc own nL ret D T A SF) {dflt lo hi : Int} {offs : Array Int} {len : Nat} {x : Int32} (tgt : Nat) (hdg : decode cc pc = .ok (.tableswitch dflt lo hi offs, len)) (ht : (pc : Int) + dflt = (tgt : Int)) (h : SxTab lo hi offs dflt x) (kk : SxG p l e R s m args below meth c D A nL k n Q ws lv tgt st) : SxG p l e R s m args below meth c D A nL k n Q ws lv pc (.int x :: st) := by
  rcases h with h | h
  · exact sx_tableD X tgt h hdg ht kk
  · exact sx_tin X tgt hdg ht h kk
theorem sx_copy (X : SxC p s m args meth c cc own nL ret D T A SF) {idx a a0 n0 n1 : Nat} {f g : Nat → Int32} {z : Int32} {ws' : va_W} (q0 q1 : Nat) (h0 : ws[q0]? = some (zI T a0 n0 f)) (h1 : ws[q1]? = some (zI T a n1 g)) (hz : ¬ z < 0 ∧ z.toNatClampNeg ≤ n0 ∧ z.toNatClampNeg ≤ n1) (hl : Cond.methodLink own idx arraycopyName ∈ BIG) (hn : Cond.native arraycopyName ∈ BIG) (hs : Cond.static arraycopyName ∈ BIG) (hi : Cond.initialized "java/lang/System" ∈ BIG) (hf : 1 ≤ R.frames) (hlo : (st.map fun v => v.category).sum + (nativeFrameWords "java/lang/System" "arraycopy" 5 + 11) ≤ R.locals) (hw : ws.set q1 (zI T a n1 (va_cpy f g 0 0 z.toNatClampNeg)) = ws') (hdg : decode cc pc = .ok (.invokestatic idx, 3))
    (kk : SxG p l e R s m args below meth c D A nL k n Q ws' lv (pc + 3) st) : SxG p l e R s m args below meth c D A nL k n Q ws lv pc (.int z :: .int 0 :: .ref a :: .int 0 :: .ref a0 :: st) :=
  fun H locs ls hP b d h => va_copyi X.1 X.2.1 (X.2.2.1.trans h.1.symm) X.2.2.2.1 (X.2.2.2.2.1 _ hl) (X.2.2.2.2.1 _ hn) (X.2.2.2.2.1 _ hs) (X.2.2.2.2.1 _ hi) X.2.2.2.2.2.1 hP b d q0 q1 0 0 h0 h1 rfl rfl rfl (by decide) (by decide) hz.1 (by show 0 + _ ≤ _; omega) (by show 0 + _ ≤ _; omega) (fun _ _ => rfl) hf hlo hdg (fun H1 locs1 p1 d1 s1 => by subst hw; exact kk H1 locs1 ls p1 d1 s1 h)
variable {Res : Type} {y : MethodName} {cy : ByteArray} {maxLy : Nat} {rty : Option FieldType} {rmy : Room} {As rest : List Value} {wc : va_W} {vf : Res → Option Value} {wf : Res → va_W} {res : Res} {mc ms : Nat}
theorem sx_cVr (X : SxC p s m args meth c cc own nL ret D T A SF) {b : Nat} (hM : SxK SF l D T y cy maxLy rty rmy (.ref b :: As) wc vf wf res mc ms) {st' : List Value} {C : String} {idx nA q0 ci : Nat} {fs : List Value} {vc : vw_C} (h1 : Cond.methodLink own idx y ∈ BIG) (h2 : Cond.instanceMethod y ∈ BIG) (h3 : Cond.selects C y y ∈ BIG) (h4 : Cond.initialized y.cls ∈ BIG) (h5 : Cond.code y cy maxLy rty ∈ BIG) (hd : y.cls ≠ "java/lang/invoke/MethodHandle" ∧ y.cls ≠ "java/lang/invoke/VarHandle" ∧ (parseMethodDescriptor y.desc).map (fun d => d.parameters.length) = some nA) (hrm : rmy.cells = mc ∧ rmy.slots = ms) (hR : rmy.frames + 1 ≤ R.frames ∧ 8 + (maxLy + 11) + rmy.locals ≤ R.locals) (hn : As.length = nA) (hst : st = As.reverse ++ .ref b :: rest) (hroom : (rest.map fun v => v.category).sum ≤ 8) (he : ws[q0]? = some (b, .inr (ci, fs))) (hvc : vwCl[ci]? = some vc) (hvC : vc.1 = C) (isC : List Nat) (hC : isC.map (fun i => ws[i]?) = wc.map some) (hnd : va_nd isC = true) (hw : wf res = wc) (hcs : k + mc ≤ R.cells ∧ n + ms ≤ R.slots) (hdg : decode cc pc = .ok (.invokevirtual idx, 3)) (hst' : (vf res).toList ++ rest = st')
    (kk : SxG p l e R s m args below meth c D A nL (k + mc) (n + ms) Q ws lv (pc + 3) st') : SxG p l e R s m args below meth c D A nL k n Q ws lv pc st :=
  sx_cV X hM h1 h2 h3 h4 h5 hd hrm hR hn hst hroom he hvc hvC isC hC hnd (by rw [hw]; exact sxPatch_self isC wc ws hC) (by rw [hw]) hcs hdg hst' kk
theorem sx_cSr (X : SxC p s m args meth c cc own nL ret D T A SF) (hM : SxK SF l D T y cy maxLy rty rmy As wc vf wf res mc ms) {st' : List Value} {idx nA : Nat} (h1 : Cond.methodLink own idx y ∈ BIG) (h2 : Cond.static y ∈ BIG) (h4 : Cond.initialized y.cls ∈ BIG) (h5 : Cond.code y cy maxLy rty ∈ BIG) (hd : y.cls ≠ "java/lang/invoke/MethodHandle" ∧ y.cls ≠ "java/lang/invoke/VarHandle" ∧ (parseMethodDescriptor y.desc).map (fun d => d.parameters.length) = some nA) (hrm : rmy.cells = mc ∧ rmy.slots = ms) (hR : rmy.frames + 1 ≤ R.frames ∧ 8 + (maxLy + 11) + rmy.locals ≤ R.locals) (hn : As.length = nA) (hst : st = As.reverse ++ rest) (hroom : (rest.map fun v => v.category).sum ≤ 8) (isC : List Nat) (hC : isC.map (fun i => ws[i]?) = wc.map some) (hnd : va_nd isC = true) (hw : wf res = wc) (hcs : k + mc ≤ R.cells ∧ n + ms ≤ R.slots) (hdg : decode cc pc = .ok (.invokestatic idx, 3)) (hst' : (vf res).toList ++ rest = st')
    (kk : SxG p l e R s m args below meth c D A nL (k + mc) (n + ms) Q ws lv (pc + 3) st') : SxG p l e R s m args below meth c D A nL k n Q ws lv pc st :=
  sx_cS X hM h1 h2 h4 h5 hd hrm hR hn hst hroom isC hC hnd (by rw [hw]; exact sxPatch_self isC wc ws hC) (by rw [hw]) hcs hdg hst' kk
theorem sx_cNr (X : SxC p s m args meth c cc own nL ret D T A SF) (hM : SxK SF l D T y cy maxLy rty rmy As wc vf wf res mc ms) {st' : List Value} {idx nA : Nat} {host : String} (h1 : va_Nw (.methodLinkNest own idx y host) s) (h2 : Cond.static y ∈ BIG) (h4 : Cond.initialized y.cls ∈ BIG) (h5 : Cond.code y cy maxLy rty ∈ BIG) (hd : y.cls ≠ "java/lang/invoke/MethodHandle" ∧ y.cls ≠ "java/lang/invoke/VarHandle" ∧ (parseMethodDescriptor y.desc).map (fun d => d.parameters.length) = some nA) (hrm : rmy.cells = mc ∧ rmy.slots = ms) (hR : rmy.frames + 1 ≤ R.frames ∧ 8 + (maxLy + 11) + rmy.locals ≤ R.locals) (hn : As.length = nA) (hst : st = As.reverse ++ rest) (hroom : (rest.map fun v => v.category).sum ≤ 8) (isC : List Nat) (hC : isC.map (fun i => ws[i]?) = wc.map some) (hnd : va_nd isC = true) (hw : wf res = wc) (hcs : k + mc ≤ R.cells ∧ n + ms ≤ R.slots) (hdg : decode cc pc = .ok (.invokestatic idx, 3)) (hst' : (vf res).toList ++ rest = st')
    (kk : SxG p l e R s m args below meth c D A nL (k + mc) (n + ms) Q ws lv (pc + 3) st') : SxG p l e R s m args below meth c D A nL k n Q ws lv pc st :=
  sx_cN X hM h1 h2 h4 h5 hd hrm hR hn hst hroom isC hC hnd (by rw [hw]; exact sxPatch_self isC wc ws hC) (by rw [hw]) hcs hdg hst' kk
end SXM
