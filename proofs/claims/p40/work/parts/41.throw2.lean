/-! rows of methods that throw -/
section SXT
variable {p : Program} {l : Launch} {e : Env} {R : Room} {s : State} {m : MethodId} {args : Array Value} {below : List Frame} {meth : Method} {c : Code} {Q : State → Prop} {cc : ByteArray} {own : String} {nL : Nat} {ret : Option FieldType} {D : va_G} {T : Nat → ClassId} {A : Nat → Prop} {k n : Nat} {ws : va_W} {lv : List (Nat × Value)} {pc : Nat} {st : List Value}
variable {Res : Type} {vf : Res → Option Value} {wf : Res → va_W} {Wr : Type} {wx : Wr → va_W} {o : Res ⊕ (String × Wr)} {mc ms : Nat} {SF : (Nat → Prop) → State → Heap → Prop} {sd : SdT}
theorem sx_xr {r0 : Res} (er : o = .inl r0) (kk : SxG p l e R s m args below meth c D A nL k n (SxE below args s D A vf wf r0 mc ms) ws lv pc st) : SxG p l e R s m args below meth c D A nL k n (SxEx below args s D A vf wf wx o mc ms) ws lv pc st := by
  subst er
  exact fun H locs ls a b d h => vx_ret (kk H locs ls a b d h)
theorem sx_out (X : SxC p s m args meth c cc own nL ret D T A SF) (hxt : ∀ x ∈ c.exceptionTable.toList, False) {E : String} {ce : Cell} {q : Addr} {H : Heap} {locs : List Loc} {ls : Array Slot} {rest : List Value} {r : Wr} (hP : va_P D vwCl (wx r) H) (hD : va_D A (wx r)) (hS : va_S A s.heap H locs) (hcell : H[q]? = some ce) (hv : ce.vm = .none) (hcl : s.vm.findClass E = some ce.cls) (er : o = .inr (E, r)) (hk : k ≤ mc) (hn : n ≤ ms) :
    vx_W p l e R s m args below meth c H locs k n (SxEx below args s D A vf wf wx o mc ms) (F0 m pc ls rest) q := by
  subst er
  exact vx_out (fun x hx => (hxt x hx).elim) X.2.2.2.2.2.2.2.2.1 hcell hv hcl (fun t ht hA => ⟨rfl, ⟨by rw [ht]; exact hP, hD⟩, hS.F ht⟩) hS.2.2 hk hn
theorem sx_afterX {H : Heap} {locs : List Loc} {ls : Array Slot} {mc1 ms1 : Nat} {rest st0 : List Value} {Res1 Wr1 : Type} {vf1 : Res1 → Option Value} {wf1 : Res1 → va_W} {wx1 : Wr1 → va_W} {o1 : Res1 ⊕ (String × Wr1)} {A0 A1 : Nat → Prop} {H0 : Heap} {a : Array Value} {free : Addr → Prop}
    (hr : vx_Run p l e R s m args below meth c H locs k n mc1 ms1 (F0 m pc ls st0) rest (SxQo vf1 wf1 o1 D A1 a) (SxXo wx1 o1 D A1) free) (hS : va_S A0 H0 H locs) (hA : ∀ q, q < H.size → A1 q → A0 q) (hf : ∀ q, free q → A0 q)
    (kx : ∀ (E : String) (r : Wr1) (ce : Cell) (q9 : Addr) (t : State) (H1 : Heap) (locs1 : List Loc), o1 = .inr (E, r) → t.heap = H1 → SxB D A1 (wx1 r) t → H.size ≤ H1.size → (∀ q : Nat, q < H.size → ¬ A1 q → H1[q]? = H[q]?) → va_S A0 H0 H1 locs1 → H1[q9]? = some ce → ce.vm = .none → s.vm.findClass E = some ce.cls → vx_W p l e R s m args below meth c H1 locs1 (k + mc1) (n + ms1) Q (F0 m pc ls rest) q9)
    (kk : ∀ (r : Res1) (t : State) (H1 : Heap) (locs1 : List Loc), o1 = .inl r → t.heap = H1 → SxB D A1 (wf1 r) t → H.size ≤ H1.size → (∀ q : Nat, q < H.size → ¬ A1 q → H1[q]? = H[q]?) → va_S A0 H0 H1 locs1 → W p l e R s m args below meth c H1 locs1 (k + mc1) (n + ms1) Q (F0 m (pc + 3) ls ((vf1 r).toList ++ rest))) : W p l e R s m args below meth c H locs k n Q (F0 m pc ls st0) := by
  intro T hT X
  cases o1 with
  | inl r =>
    rcases hr T hT X with ⟨v, st₀, t, T', L, h0, X', hL, e1, e2, ⟨hv, hb, hF⟩, st⟩ | ⟨q, st₀, t, T', L, E, ce, h0, X', hL, e1, e2, hx, hce, hcv, hcl, st⟩
    · cases hv
      obtain ⟨k1, k2, k3⟩ := vx_keep h0 e1 hS hA hf hL hF
      obtain ⟨t2, a1, b1⟩ := kk r t T'.heap (locs ++ L) rfl e1.symm hb k1 k2 k3 T' rfl X'
      exact ⟨t2, st t2 a1, b1⟩
    · cases hx
  | inr E0 =>
    rcases hr T hT X with ⟨v, st₀, t, T', L, h0, X', hL, e1, e2, hx, st⟩ | ⟨q, st₀, t, T', L, E, ce, h0, X', hL, e1, e2, ⟨hE, hb, hF⟩, hce, hcv, hcl, st⟩
    · cases hx
    · subst hE
      obtain ⟨k1, k2, k3⟩ := vx_keep h0 e1 hS hA hf hL hF
      obtain ⟨t2, a1, b1⟩ := kx _ _ ce q t T'.heap (locs ++ L) rfl e1.symm hb k1 k2 k3 (by rw [e1]; exact hce) hcv hcl T' rfl X'
      exact ⟨t2, st.trans a1, b1⟩
variable {Res1 Wr1 : Type} {y : MethodName} {cy : ByteArray} {maxLy : Nat} {rty : Option FieldType} {rmy : Room} {As rest : List Value} {wc : va_W} {vf1 : Res1 → Option Value} {wf1 : Res1 → va_W} {wx1 : Wr1 → va_W} {o1 : Res1 ⊕ (String × Wr1)} {mc1 ms1 : Nat}
/-- a method that throws calls one that throws -/
theorem sx_cVx (X : SxC p s m args meth c cc own nL ret D T A SF) (hxt : ∀ x ∈ c.exceptionTable.toList, False) {b : Nat} (hM : SxKx SF l D T y cy maxLy rty rmy (.ref b :: As) wc vf1 wf1 wx1 o1 mc1 ms1) {idx nA q0 ci : Nat} {C : String} {fs : List Value} {vc : vw_C} (h1 : Cond.methodLink own idx y ∈ BIG) (h2 : Cond.instanceMethod y ∈ BIG) (h3 : Cond.selects C y y ∈ BIG) (h4 : Cond.initialized y.cls ∈ BIG) (h5 : Cond.code y cy maxLy rty ∈ BIG) (hd : y.cls ≠ "java/lang/invoke/MethodHandle" ∧ y.cls ≠ "java/lang/invoke/VarHandle" ∧ (parseMethodDescriptor y.desc).map (fun d => d.parameters.length) = some nA) (hrm : rmy.cells = mc1 ∧ rmy.slots = ms1) (hR : rmy.frames + 1 ≤ R.frames ∧ 8 + (maxLy + 11) + rmy.locals ≤ R.locals) (hn : As.length = nA) (hst : st = As.reverse ++ .ref b :: rest) (hroom : (rest.map fun v => v.category).sum ≤ 8) (he : ws[q0]? = some (b, .inr (ci, fs))) (hvc : vwCl[ci]? = some vc) (hvC : vc.1 = C) (isC : List Nat) (hC : isC.map (fun i => ws[i]?) = wc.map some) (hnd : va_nd isC = true) (ha : ∀ r, (wf1 r).map (·.1) = wc.map (·.1)) (hax : ∀ r, (wx1 r).map (·.1) = wc.map (·.1)) (hcs : k + mc1 ≤ R.cells ∧ n + ms1 ≤ R.slots) (hdg : decode cc pc = .ok (.invokevirtual idx, 3))
    (kx : ∀ E r, o1 = .inr (E, r) → ∃ r1, o = .inr (E, r1) ∧ wx r1 = sxPatch ws isC (wx1 r) ∧ k + mc1 ≤ mc ∧ n + ms1 ≤ ms) (kk : ∀ r, o1 = .inl r → SxG p l e R s m args below meth c D A nL (k + mc1) (n + ms1) (SxEx below args s D A vf wf wx o mc ms) (sxPatch ws isC (wf1 r)) lv (pc + 3) ((vf1 r).toList ++ rest)) : SxG p l e R s m args below meth c D A nL k n (SxEx below args s D A vf wf wx o mc ms) ws lv pc st := by
  subst hst
  subst hvC
  intro H locs ls hP hD hS h
  have hFr := va_free hD hS X.2.2.2.2.2.2.1 isC hC
  have hpre := sx_pre X hP hD hS isC hC hnd (.ref b :: As)
  refine sx_afterX (vx_runV (As := As) (rest := rest) ⟨X.1, X.2.1, X.2.2.1, X.2.2.2.1, X.2.2.2.2.1⟩ (hM H.size) ⟨callB_of nA X.2.2.2.2.1 (big_in h5) rfl hrm.1 hrm.2 (X.2.2.2.2.1 _ h4) (X.2.2.2.2.1 _ h1) hd hR, X.2.2.2.2.1 _ h2, X.2.2.2.2.1 _ h3⟩ ⟨hpre.1, va_recv X.2.2.2.2.2.1 hP hvc he, hpre.2⟩ rfl hn (h.1) rfl (lv_room hroom) hdg hcs) hS (fun q _ h => hFr q h) hFr (fun E r ce q9 t H1 locs1 hE ht hB hz hk hS1 hce hcv hcl => ?_) (fun r t H1 locs1 hr ht hB hz hk hS1 => ?_)
  · obtain ⟨hP1, hD1⟩ := hB
    rw [ht] at hP1
    obtain ⟨p2, d2⟩ := sxPatch_ok hP hD isC hC (hax r) hk hP1
    obtain ⟨r1, e1, e0, e2, e3⟩ := kx E r hE
    rw [← e0] at p2 d2
    exact sx_out X hxt p2 d2 hS1 hce hcv hcl e1 e2 e3
  · obtain ⟨hP1, hD1⟩ := hB
    rw [ht] at hP1
    obtain ⟨p2, d2⟩ := sxPatch_ok hP hD isC hC (ha r) hk hP1
    exact kk r hr H1 locs1 ls p2 d2 hS1 h
/-- a static one -/
theorem sx_cSx (X : SxC p s m args meth c cc own nL ret D T A SF) (hxt : ∀ x ∈ c.exceptionTable.toList, False) (hM : SxKx SF l D T y cy maxLy rty rmy (As) wc vf1 wf1 wx1 o1 mc1 ms1) {idx nA : Nat}  (h1 : Cond.methodLink own idx y ∈ BIG) (h2 : Cond.static y ∈ BIG) (h4 : Cond.initialized y.cls ∈ BIG) (h5 : Cond.code y cy maxLy rty ∈ BIG) (hd : y.cls ≠ "java/lang/invoke/MethodHandle" ∧ y.cls ≠ "java/lang/invoke/VarHandle" ∧ (parseMethodDescriptor y.desc).map (fun d => d.parameters.length) = some nA) (hrm : rmy.cells = mc1 ∧ rmy.slots = ms1) (hR : rmy.frames + 1 ≤ R.frames ∧ 8 + (maxLy + 11) + rmy.locals ≤ R.locals) (hn : As.length = nA) (hst : st = As.reverse ++ rest) (hroom : (rest.map fun v => v.category).sum ≤ 8) (isC : List Nat) (hC : isC.map (fun i => ws[i]?) = wc.map some) (hnd : va_nd isC = true) (ha : ∀ r, (wf1 r).map (·.1) = wc.map (·.1)) (hax : ∀ r, (wx1 r).map (·.1) = wc.map (·.1)) (hcs : k + mc1 ≤ R.cells ∧ n + ms1 ≤ R.slots) (hdg : decode cc pc = .ok (.invokestatic idx, 3))
    (kx : ∀ E r, o1 = .inr (E, r) → ∃ r1, o = .inr (E, r1) ∧ wx r1 = sxPatch ws isC (wx1 r) ∧ k + mc1 ≤ mc ∧ n + ms1 ≤ ms) (kk : ∀ r, o1 = .inl r → SxG p l e R s m args below meth c D A nL (k + mc1) (n + ms1) (SxEx below args s D A vf wf wx o mc ms) (sxPatch ws isC (wf1 r)) lv (pc + 3) ((vf1 r).toList ++ rest)) : SxG p l e R s m args below meth c D A nL k n (SxEx below args s D A vf wf wx o mc ms) ws lv pc st := by
  subst hst
  intro H locs ls hP hD hS h
  have hFr := va_free hD hS X.2.2.2.2.2.2.1 isC hC
  have hpre := sx_pre X hP hD hS isC hC hnd (As)
  refine sx_afterX (vx_runS (As := As) (rest := rest) ⟨X.1, X.2.1, X.2.2.1, X.2.2.2.1, X.2.2.2.2.1⟩ (hM H.size) ⟨callB_of nA X.2.2.2.2.1 (big_in h5) rfl hrm.1 hrm.2 (X.2.2.2.2.1 _ h4) (X.2.2.2.2.1 _ h1) hd hR, X.2.2.2.2.1 _ h2⟩ ⟨hpre.1, hpre.2⟩ rfl hn (h.1) rfl (lv_room hroom) hdg hcs) hS (fun q _ h => hFr q h) hFr (fun E r ce q9 t H1 locs1 hE ht hB hz hk hS1 hce hcv hcl => ?_) (fun r t H1 locs1 hr ht hB hz hk hS1 => ?_)
  · obtain ⟨hP1, hD1⟩ := hB
    rw [ht] at hP1
    obtain ⟨p2, d2⟩ := sxPatch_ok hP hD isC hC (hax r) hk hP1
    obtain ⟨r1, e1, e0, e2, e3⟩ := kx E r hE
    rw [← e0] at p2 d2
    exact sx_out X hxt p2 d2 hS1 hce hcv hcl e1 e2 e3
  · obtain ⟨hP1, hD1⟩ := hB
    rw [ht] at hP1
    obtain ⟨p2, d2⟩ := sxPatch_ok hP hD isC hC (ha r) hk hP1
    exact kk r hr H1 locs1 ls p2 d2 hS1 h
theorem sx_thS_0 (X : SxC p s m args meth c cc "WeatherTea" nL ret D T A (SFx sd)) (hl : l.stackTraces = false) (hxt : ∀ x ∈ c.exceptionTable.toList, False) {is : Nat} {text : String} (hms : (is, text) ∈ sfMs) (d0 : decode cc pc = .ok (.new 47, 3)) (d3 : decode cc (pc + 3) = .ok (.dup, 1)) (d4 : decode cc (pc + 4) = .ok (.ldc is, 2)) (d7 : decode cc (pc + 6) = .ok (.invokespecial 51, 3)) (d10 : decode cc (pc + 9) = .ok (.athrow, 1)) (hRf : 5 < R.frames) (hRl : (st.map fun v => v.category).sum + 82 ≤ R.locals) (hRc : k + 1 ≤ R.cells) (hRs : n + 6 ≤ R.slots) {r0 : Wr} (er : o = .inr ("java/lang/IllegalStateException", r0)) (hw : wx r0 = ws) (hmc : k + 1 ≤ mc) (hmS : n + 6 ≤ ms) : SxG p l e R s m args below meth c D A nL k n (SxEx below args s D A vf wf wx o mc ms) ws lv pc st := by
  subst er
  subst hw
  intro H locs ls hP hD hS h
  obtain ⟨sa, hstr⟩ := X.sf.2.2.1.2.2.2.2.2.2 _ hms
  exact vx_throwS (names := ["java/lang/RuntimeException", "java/lang/Exception"]) (A := A) X.1 X.2.1 hl X.2.2.2.1 (by decide +kernel) (by decide +kernel) (X.2.2.2.2.1 _ qm_836) (X.2.2.2.2.1 _ qm_44) hstr (xhat_0 X.2.2.2.2.1 X.sf.2.2.1) (fun w hw => List.all_eq_true.mp xgd_0 w hw) X.sf.2.2.2.1 X.sf.2.2.2.2 hS (h.1.trans X.2.2.1.symm) d0 d3 d4 d7 d10 (fun x hx => (hxt x hx).elim) hRf hRl hRc hRs X.2.2.2.2.2.2.2.2.1
    (fun t _ h1 h2 => ⟨rfl, ⟨fun j q hq => (hP j q hq).kept (h2 q.1 (hP j q hq).lt), hD⟩, Nat.le_trans hS.1 h1, fun q h3 h4 => (h2 q (Nat.lt_of_lt_of_le h3 hS.1)).trans (hS.2.1 q h3 h4)⟩) hS.2.2 hmc hmS
theorem sx_thS_1 (X : SxC p s m args meth c cc "WeatherTea" nL ret D T A (SFx sd)) (hl : l.stackTraces = false) (hxt : ∀ x ∈ c.exceptionTable.toList, False) {is : Nat} {text : String} (hms : (is, text) ∈ sfMs) (d0 : decode cc pc = .ok (.new 58, 3)) (d3 : decode cc (pc + 3) = .ok (.dup, 1)) (d4 : decode cc (pc + 4) = .ok (.ldc is, 2)) (d7 : decode cc (pc + 6) = .ok (.invokespecial 62, 3)) (d10 : decode cc (pc + 9) = .ok (.athrow, 1)) (hRf : 5 < R.frames) (hRl : (st.map fun v => v.category).sum + 82 ≤ R.locals) (hRc : k + 1 ≤ R.cells) (hRs : n + 6 ≤ R.slots) {r0 : Wr} (er : o = .inr ("java/lang/IllegalArgumentException", r0)) (hw : wx r0 = ws) (hmc : k + 1 ≤ mc) (hmS : n + 6 ≤ ms) : SxG p l e R s m args below meth c D A nL k n (SxEx below args s D A vf wf wx o mc ms) ws lv pc st := by
  subst er
  subst hw
  intro H locs ls hP hD hS h
  obtain ⟨sa, hstr⟩ := X.sf.2.2.1.2.2.2.2.2.2 _ hms
  exact vx_throwS (names := ["java/lang/RuntimeException", "java/lang/Exception"]) (A := A) X.1 X.2.1 hl X.2.2.2.1 (by decide +kernel) (by decide +kernel) (X.2.2.2.2.1 _ qm_532) (X.2.2.2.2.1 _ qm_45) hstr (xhat_1 X.2.2.2.2.1 X.sf.2.2.1) (fun w hw => List.all_eq_true.mp xgd_1 w hw) X.sf.2.2.2.1 X.sf.2.2.2.2 hS (h.1.trans X.2.2.1.symm) d0 d3 d4 d7 d10 (fun x hx => (hxt x hx).elim) hRf hRl hRc hRs X.2.2.2.2.2.2.2.2.1
    (fun t _ h1 h2 => ⟨rfl, ⟨fun j q hq => (hP j q hq).kept (h2 q.1 (hP j q hq).lt), hD⟩, Nat.le_trans hS.1 h1, fun q h3 h4 => (h2 q (Nat.lt_of_lt_of_le h3 hS.1)).trans (hS.2.1 q h3 h4)⟩) hS.2.2 hmc hmS
theorem sx_thW_1 (X : SxC p s m args meth c cc "WeatherTea" nL ret D T A (SFx sd)) (hl : l.stackTraces = false) (hxt : ∀ x ∈ c.exceptionTable.toList, False) {is : Nat} {text : String} (hms : (is, text) ∈ sfMs) (d0 : decode cc pc = .ok (.new 58, 3)) (d3 : decode cc (pc + 3) = .ok (.dup, 1)) (d4 : decode cc (pc + 4) = .ok (.ldc_w is, 3)) (d7 : decode cc (pc + 7) = .ok (.invokespecial 62, 3)) (d10 : decode cc (pc + 10) = .ok (.athrow, 1)) (hRf : 5 < R.frames) (hRl : (st.map fun v => v.category).sum + 82 ≤ R.locals) (hRc : k + 1 ≤ R.cells) (hRs : n + 6 ≤ R.slots) {r0 : Wr} (er : o = .inr ("java/lang/IllegalArgumentException", r0)) (hw : wx r0 = ws) (hmc : k + 1 ≤ mc) (hmS : n + 6 ≤ ms) : SxG p l e R s m args below meth c D A nL k n (SxEx below args s D A vf wf wx o mc ms) ws lv pc st := by
  subst er
  subst hw
  intro H locs ls hP hD hS h
  obtain ⟨sa, hstr⟩ := X.sf.2.2.1.2.2.2.2.2.2 _ hms
  exact vx_throwSW (names := ["java/lang/RuntimeException", "java/lang/Exception"]) (A := A) X.1 X.2.1 hl X.2.2.2.1 (by decide +kernel) (by decide +kernel) (X.2.2.2.2.1 _ qm_532) (X.2.2.2.2.1 _ qm_45) hstr (xhat_1 X.2.2.2.2.1 X.sf.2.2.1) (fun w hw => List.all_eq_true.mp xgd_1 w hw) X.sf.2.2.2.1 X.sf.2.2.2.2 hS (h.1.trans X.2.2.1.symm) d0 d3 d4 d7 d10 (fun x hx => (hxt x hx).elim) hRf hRl hRc hRs X.2.2.2.2.2.2.2.2.1
    (fun t _ h1 h2 => ⟨rfl, ⟨fun j q hq => (hP j q hq).kept (h2 q.1 (hP j q hq).lt), hD⟩, Nat.le_trans hS.1 h1, fun q h3 h4 => (h2 q (Nat.lt_of_lt_of_le h3 hS.1)).trans (hS.2.1 q h3 h4)⟩) hS.2.2 hmc hmS
theorem sx_thW_2 (X : SxC p s m args meth c cc "WeatherTea" nL ret D T A (SFx sd)) (hl : l.stackTraces = false) (hxt : ∀ x ∈ c.exceptionTable.toList, False) {is : Nat} {text : String} (hms : (is, text) ∈ sfMs) (d0 : decode cc pc = .ok (.new 267, 3)) (d3 : decode cc (pc + 3) = .ok (.dup, 1)) (d4 : decode cc (pc + 4) = .ok (.ldc_w is, 3)) (d7 : decode cc (pc + 7) = .ok (.invokespecial 271, 3)) (d10 : decode cc (pc + 10) = .ok (.athrow, 1)) (hRf : 5 < R.frames) (hRl : (st.map fun v => v.category).sum + 82 ≤ R.locals) (hRc : k + 1 ≤ R.cells) (hRs : n + 6 ≤ R.slots) {r0 : Wr} (er : o = .inr ("java/lang/IndexOutOfBoundsException", r0)) (hw : wx r0 = ws) (hmc : k + 1 ≤ mc) (hmS : n + 6 ≤ ms) : SxG p l e R s m args below meth c D A nL k n (SxEx below args s D A vf wf wx o mc ms) ws lv pc st := by
  subst er
  subst hw
  intro H locs ls hP hD hS h
  obtain ⟨sa, hstr⟩ := X.sf.2.2.1.2.2.2.2.2.2 _ hms
  exact vx_throwSW (names := ["java/lang/RuntimeException", "java/lang/Exception"]) (A := A) X.1 X.2.1 hl X.2.2.2.1 (by decide +kernel) (by decide +kernel) (X.2.2.2.2.1 _ qm_418) (X.2.2.2.2.1 _ qm_49) hstr (xhat_2 X.2.2.2.2.1 X.sf.2.2.1) (fun w hw => List.all_eq_true.mp xgd_2 w hw) X.sf.2.2.2.1 X.sf.2.2.2.2 hS (h.1.trans X.2.2.1.symm) d0 d3 d4 d7 d10 (fun x hx => (hxt x hx).elim) hRf hRl hRc hRs X.2.2.2.2.2.2.2.2.1
    (fun t _ h1 h2 => ⟨rfl, ⟨fun j q hq => (hP j q hq).kept (h2 q.1 (hP j q hq).lt), hD⟩, Nat.le_trans hS.1 h1, fun q h3 h4 => (h2 q (Nat.lt_of_lt_of_le h3 hS.1)).trans (hS.2.1 q h3 h4)⟩) hS.2.2 hmc hmS
end SXT
