/-! THE CLASS'S CELLS AS ONE; what is frozen for a call whose cells are others; calls that catch -/
/-- what the class holds: the plan the trial has, where the error is, tape, tokens, pot, its reckoner, its plan (fronts, guests, orders), trial, its reckoner, the draft -/
abbrev CSt : Type := Nat × bX12 × bX10 × bX11 × bX8 × bX9 × bX2 × bX4 × bX6 × bX8 × bX9 × bX2 × bX4 × bX6
def CW (T : Nat → ClassId) (sd : SdT) (ad pa da : Nat → Nat) (σ : CSt) : va_W := [zO (ad 0) 10 [.ref (ad 1), .ref (ad 3), .ref (ad 7), .ref (ad 13), .ref (da 0), .int (X12_errorPosition (σ.2.1))], zO (ad 1) 8 [.ref (ad 2), .int (X10_length (σ.2.2.1))], zB T (ad 2) 2000 (X10_bytes (σ.2.2.1)), zO (ad 3) 9 [.ref (ad 4), .ref (ad 5), .ref (ad 6), .int (X11_count (σ.2.2.2.1)), .int (X11_cursor (σ.2.2.2.1)), .int (X11_error (σ.2.2.2.1)), .int (X11_errorToken (σ.2.2.2.1))], zK T sd.1 (ad 4) 401 (X11_kinds (σ.2.2.2.1)), zI T (ad 5) 401 (X11_starts (σ.2.2.2.1)), zJ T (ad 6) 401 (X11_values (σ.2.2.2.1)), zO (ad 7) 6 [.ref (ad 11), .ref (pa 0), .int (X8_hour (σ.2.2.2.2.1)), .int (X8_warmth (σ.2.2.2.2.1)), .int (X8_strength (σ.2.2.2.2.1)), .int (X8_charge (σ.2.2.2.2.1)), .int (X8_lemons (σ.2.2.2.2.1)), .int (X8_saucers (σ.2.2.2.2.1)), .int (X8_coins (σ.2.2.2.2.1)), .int (X8_storms (σ.2.2.2.2.1)), .ref (ad 8), .ref (ad 9), .ref (ad 10)], zZ T (ad 8) 10 (X8_frontSteeped (σ.2.2.2.2.1)), zZ T (ad 9) 10 (X8_guestServed (σ.2.2.2.2.1)), zZ T (ad 10) 10 (X8_guestStormed (σ.2.2.2.2.1)), zO (ad 11) 7 [.ref (ad 12), .int (X9_height (σ.2.2.2.2.2.1))], zI T (ad 12) 400 (X9_stack (σ.2.2.2.2.2.1)), zO (pa 0) 5 [.ref (pa 1), .ref (pa 7), .ref (pa 13)], zO (pa 1) 2 [.ref (pa 2), .ref (pa 3), .ref (pa 4), .ref (pa 5), .ref (pa 6), .int (X2_count (σ.2.2.2.2.2.2.1))], zJ T (pa 2) 10 (X2_names (σ.2.2.2.2.2.2.1)), zZ T (pa 3) 10 (X2_warm (σ.2.2.2.2.2.2.1)), zI T (pa 4) 10 (X2_force (σ.2.2.2.2.2.2.1)), zI T (pa 5) 10 (X2_from (σ.2.2.2.2.2.2.1)), zI T (pa 6) 10 (X2_hours (σ.2.2.2.2.2.2.1)), zO (pa 7) 3 [.ref (pa 8), .ref (pa 9), .ref (pa 10), .ref (pa 11), .ref (pa 12), .int (X4_count (σ.2.2.2.2.2.2.2.1))], zJ T (pa 8) 10 (X4_names (σ.2.2.2.2.2.2.2.1)), zI T (pa 9) 10 (X4_from (σ.2.2.2.2.2.2.2.1)), zI T (pa 10) 10 (X4_weakest (σ.2.2.2.2.2.2.2.1)), zI T (pa 11) 10 (X4_strongest (σ.2.2.2.2.2.2.2.1)), zI T (pa 12) 10 (X4_nerve (σ.2.2.2.2.2.2.2.1)), zO (pa 13) 4 [.ref (pa 14), .ref (pa 15), .ref (pa 16), .ref (pa 17), .ref (pa 18), .ref (pa 19), .int (X6_count (σ.2.2.2.2.2.2.2.2.1)), .int (X6_steps (σ.2.2.2.2.2.2.2.2.1))], zK T sd.1 (pa 14) 16 (X6_deeds (σ.2.2.2.2.2.2.2.2.1)), zI T (pa 15) 16 (X6_targets (σ.2.2.2.2.2.2.2.2.1)), zI T (pa 16) 16 (X6_firstSteps (σ.2.2.2.2.2.2.2.2.1)), zI T (pa 17) 16 (X6_endSteps (σ.2.2.2.2.2.2.2.2.1)), zK T sd.1 (pa 18) 400 (X6_stepKinds (σ.2.2.2.2.2.2.2.2.1)), zI T (pa 19) 400 (X6_stepValues (σ.2.2.2.2.2.2.2.2.1)), zO (ad 13) 6 [.ref (ad 17), .ref (σ.1), .int (X8_hour (σ.2.2.2.2.2.2.2.2.2.1)), .int (X8_warmth (σ.2.2.2.2.2.2.2.2.2.1)), .int (X8_strength (σ.2.2.2.2.2.2.2.2.2.1)), .int (X8_charge (σ.2.2.2.2.2.2.2.2.2.1)), .int (X8_lemons (σ.2.2.2.2.2.2.2.2.2.1)), .int (X8_saucers (σ.2.2.2.2.2.2.2.2.2.1)), .int (X8_coins (σ.2.2.2.2.2.2.2.2.2.1)), .int (X8_storms (σ.2.2.2.2.2.2.2.2.2.1)), .ref (ad 14), .ref (ad 15), .ref (ad 16)], zZ T (ad 14) 10 (X8_frontSteeped (σ.2.2.2.2.2.2.2.2.2.1)), zZ T (ad 15) 10 (X8_guestServed (σ.2.2.2.2.2.2.2.2.2.1)), zZ T (ad 16) 10 (X8_guestStormed (σ.2.2.2.2.2.2.2.2.2.1)), zO (ad 17) 7 [.ref (ad 18), .int (X9_height (σ.2.2.2.2.2.2.2.2.2.2.1))], zI T (ad 18) 400 (X9_stack (σ.2.2.2.2.2.2.2.2.2.2.1)), zO (da 0) 5 [.ref (da 1), .ref (da 7), .ref (da 13)], zO (da 1) 2 [.ref (da 2), .ref (da 3), .ref (da 4), .ref (da 5), .ref (da 6), .int (X2_count (σ.2.2.2.2.2.2.2.2.2.2.2.1))], zJ T (da 2) 10 (X2_names (σ.2.2.2.2.2.2.2.2.2.2.2.1)), zZ T (da 3) 10 (X2_warm (σ.2.2.2.2.2.2.2.2.2.2.2.1)), zI T (da 4) 10 (X2_force (σ.2.2.2.2.2.2.2.2.2.2.2.1)), zI T (da 5) 10 (X2_from (σ.2.2.2.2.2.2.2.2.2.2.2.1)), zI T (da 6) 10 (X2_hours (σ.2.2.2.2.2.2.2.2.2.2.2.1)), zO (da 7) 3 [.ref (da 8), .ref (da 9), .ref (da 10), .ref (da 11), .ref (da 12), .int (X4_count (σ.2.2.2.2.2.2.2.2.2.2.2.2.1))], zJ T (da 8) 10 (X4_names (σ.2.2.2.2.2.2.2.2.2.2.2.2.1)), zI T (da 9) 10 (X4_from (σ.2.2.2.2.2.2.2.2.2.2.2.2.1)), zI T (da 10) 10 (X4_weakest (σ.2.2.2.2.2.2.2.2.2.2.2.2.1)), zI T (da 11) 10 (X4_strongest (σ.2.2.2.2.2.2.2.2.2.2.2.2.1)), zI T (da 12) 10 (X4_nerve (σ.2.2.2.2.2.2.2.2.2.2.2.2.1)), zO (da 13) 4 [.ref (da 14), .ref (da 15), .ref (da 16), .ref (da 17), .ref (da 18), .ref (da 19), .int (X6_count (σ.2.2.2.2.2.2.2.2.2.2.2.2.2)), .int (X6_steps (σ.2.2.2.2.2.2.2.2.2.2.2.2.2))], zK T sd.1 (da 14) 16 (X6_deeds (σ.2.2.2.2.2.2.2.2.2.2.2.2.2)), zI T (da 15) 16 (X6_targets (σ.2.2.2.2.2.2.2.2.2.2.2.2.2)), zI T (da 16) 16 (X6_firstSteps (σ.2.2.2.2.2.2.2.2.2.2.2.2.2)), zI T (da 17) 16 (X6_endSteps (σ.2.2.2.2.2.2.2.2.2.2.2.2.2)), zK T sd.1 (da 18) 400 (X6_stepKinds (σ.2.2.2.2.2.2.2.2.2.2.2.2.2)), zI T (da 19) 400 (X6_stepValues (σ.2.2.2.2.2.2.2.2.2.2.2.2.2))]
theorem CW_len {T : Nat → ClassId} {sd : SdT} {ad pa da : Nat → Nat} {σ : CSt} : (CW T sd ad pa da σ).length = 59 := rfl
/-- the class holds a plan and a state -/
def CR (P : Pl) (S : Sp) (σ : CSt) : Prop := RPt S σ.2.2.2.2.1 ∧ RFr P σ.2.2.2.2.2.2.1 ∧ RGu P σ.2.2.2.2.2.2.2.1 ∧ ROs P σ.2.2.2.2.2.2.2.2.1 ∧ X10_length σ.2.2.1 = nI 0
theorem RPt_eta {S : Sp} {b : bX8} (h : RPt S b) : b = cbO S (X8_frontSteeped b) (X8_guestServed b) (X8_guestStormed b) := by
  obtain ⟨h1, h2, h3, h4, h5, h6, h7, h8, -⟩ := h
  show (X8_hour b, X8_warmth b, X8_strength b, X8_charge b, X8_lemons b, X8_saucers b, X8_coins b, X8_storms b, X8_frontSteeped b, X8_guestServed b, X8_guestStormed b) = _
  rw [h1, h2, h3, h4, h5, h6, h7, h8]
def wrest (w : va_W) (is : List Nat) : va_W := ((List.range w.length).filter (fun i => !is.contains i)).filterMap (fun i => w[i]?)
theorem map_fm {w : va_W} {is : List Nat} (h : ∀ i ∈ is, i < w.length) : is.map (fun i => w[i]?) = (is.filterMap (fun i => w[i]?)).map some := by
  induction is with
  | nil => rfl
  | cons i r ih =>
    have hi := List.getElem?_eq_getElem (h i List.mem_cons_self)
    rw [List.map_cons, List.filterMap_cons, hi, ih (fun j hj => h j (List.mem_cons_of_mem _ hj))]
    rfl
theorem sub_perm {w wc : va_W} (is : List Nat) (N : Nat) (hN : w.length = N) (hp : (is ++ (List.range N).filter (fun i => !is.contains i)).isPerm (List.range N) = true) (hi : is.map (fun i => w[i]?) = wc.map some) : (wc ++ wrest w is).Perm w := by
  subst hN
  refine (perm_idx (ws := w) (ws' := wc ++ wrest w is) (is ++ (List.range w.length).filter (fun i => !is.contains i)) hp ?_).symm
  rw [List.map_append, List.map_append, hi]
  refine congrArg _ (map_fm (fun i hi => ?_))
  exact List.mem_range.mp (List.mem_filter.mp hi).1
section LOOKC
variable {Res : Type} {SF : (Nat → Prop) → State → Heap → Prop} {l : Launch} {D : va_G} {T : Nat → ClassId} {y : MethodName} {cc : ByteArray} {maxL : Nat} {ret : Option FieldType} {rm : Room} {As : List Value} {wc : va_W} {vf : Res → Option Value} {wf : Res → va_W} {res : Res} {mc ms : Nat} {v : Option Value}
theorem moveC (h : SxK SF l D T y cc maxL ret rm As wc vf wf res mc ms) (hok : SFok SF) {W W' : va_W} (wr : va_W) (is : List Nat) (N : Nat) (hN : W.length = N) (hN' : W'.length = N) (hp : is.isPerm (List.range N) = true) (hi : is.map (fun i => W[i]?) = (wc ++ wr).map some) (hi' : is.map (fun i => W'[i]?) = (wf res ++ wr).map some) (hv : vf res = v) : SxKP SF l D T y cc maxL ret rm As W (fun _ : Unit => v) (fun _ => W') (fun _ => True) mc ms := by
  have p1 := (perm_idx is (by rw [hN]; exact hp) hi).symm
  have p2 := (perm_idx is (by rw [hN']; exact hp) hi').symm
  refine ((h.toP.frame hok wr).perm (wf' := fun _ => W') p1 (fun r hr => ?_)).map (fun r hr => ⟨(), trivial, ?_, rfl⟩)
  · subst hr; exact p2
  · subst hr; exact hv
theorem lookC (h : SxK SF l D T y cc maxL ret rm As wc vf wf res mc ms) (hok : SFok SF) (hw : wf res = wc) {W : va_W} (is : List Nat) (N : Nat) (hN : W.length = N) (hp : (is ++ (List.range N).filter (fun i => !is.contains i)).isPerm (List.range N) = true) (hi : is.map (fun i => W[i]?) = wc.map some) (hv : vf res = v) : SxKP SF l D T y cc maxL ret rm As W (fun _ : Unit => v) (fun _ => W) (fun _ => True) mc ms := by
  have p1 := sub_perm (w := W) (wc := wc) is N hN hp hi
  refine ((h.toP.frame hok (wrest W is)).perm (wf' := fun _ => W) p1 (fun r hr => ?_)).map (fun r hr => ⟨(), trivial, ?_, rfl⟩)
  · subst hr; rw [hw]; exact p1
  · subst hr; exact hv
end LOOKC
section FRZ
variable {p : Program} {l : Launch} {e : Env} {R : Room} {s : State} {m : MethodId} {args : Array Value} {below : List Frame} {meth : Method} {c : Code} {Q : State → Prop} {cc : ByteArray} {own : String} {nL : Nat} {ret : Option FieldType} {D : va_G} {T : Nat → ClassId} {A : Nat → Prop} {SF SF2 : (Nat → Prop) → State → Heap → Prop} {k n : Nat} {ws wc wr : va_W} {lv : List (Nat × Value)} {pc : Nat} {st rest : List Value}
theorem permD {C P Y : va_W} {d : Nat × va_E} : (C ++ (P ++ (d :: Y))).Perm ([d] ++ (C ++ (P ++ Y))) := by
  have h := List.perm_middle (l₁ := C ++ P) (a := d) (l₂ := Y)
  rw [List.append_assoc, List.append_assoc] at h
  exact h

theorem FzA_M (X : SxC p s m args meth c cc own nL ret D T A SF) {aO : Nat} {rO : Nat → Nat} {os : List Od} (hA : zR T 7 aO os.length rO ∈ wr) (hO : ∀ z : Nat × Od, os[z.1]? = some z.2 → OdW (rO z.1) z.2 wr) : SxM s D A (FzA aO rO os) wc wr := ⟨FzA_ok aO rO os, fun H locs hP hD hS => ⟨va_Tw X hP (List.mem_append_right wc hA) rfl rfl rfl (wr_out hP hD hA), fun q hq => FzQ_of X hP hD (hO q hq)⟩⟩
variable {y : MethodName} {cy : ByteArray} {maxLy : Nat} {rty : Option FieldType} {rmy : Room} {As : List Value} {Res : Type} {hh : List (Nat × Nat × Nat × Nat)} {vf : Res → Option Value} {wf : Res → va_W} {res : Res} {mc ms : Nat}
/-- a static call of a method that catches, its cells the first ones -/
theorem sx_pW (X : SxC p s m args meth c cc own nL ret D T A SF) (hM : SxKw SF2 l D T y cy maxLy rty hh rmy As wc vf wf res mc ms) (hF : SxM s D A SF2 wc wr) {idx nA : Nat} (h1 : Cond.methodLink own idx y ∈ BIG) (h2 : Cond.static y ∈ BIG) (h4 : Cond.initialized y.cls ∈ BIG) (h5 : Cond.codeWith y cy maxLy rty hh ∈ BIG) (hd : SxDs y nA) (hrm : rmy.cells = mc ∧ rmy.slots = ms) (hR : rmy.frames + 1 ≤ R.frames ∧ 8 + (maxLy + 11) + rmy.locals ≤ R.locals) (hn : As.length = nA) (hst : st = As.reverse ++ rest) (hroom : (rest.map fun v => v.category).sum ≤ 8) (hcs : k + mc ≤ R.cells ∧ n + ms ≤ R.slots) (hdg : decode cc pc = .ok (.invokestatic idx, 3)) (hw : ws = wc ++ wr)
    (kk : SxG p l e R s m args below meth c D A nL (k + mc) (n + ms) Q (wf res ++ wr) lv (pc + 3) ((vf res).toList ++ rest)) : SxG p l e R s m args below meth c D A nL k n Q ws lv pc st := by
  subst hst
  subst hw
  intro H locs ls hP hD hS h
  have hFr := sx_freeA X.2.2.2.2.2.2.1 hD hS
  have hpre := sx_preP X hF hP hD hS As
  have hG : GoodIn BIG (va_wsS own idx y (Cond.codeWith y cy maxLy rty hh :: BIG)) := fun w hw => by
    unfold va_wsS at hw
    rcases List.mem_append.mp hw with h | h
    · have h' : w ∈ BIG := by
        simp only [List.mem_cons, List.not_mem_nil, or_false] at h
        rcases h with rfl | rfl | rfl
        · exact h1
        · exact h2
        · exact h4
      exact ⟨h', big_good _ h'⟩
    · rcases List.mem_cons.mp h with rfl | h
      · exact ⟨h5, big_good _ h5⟩
      · exact ⟨h, big_good _ h⟩
  refine sx_afterX (vx_runSX (As := As) (rest := rest) (hh := hh) ⟨X.1, X.2.1, X.2.2.1, X.2.2.2.1, X.2.2.2.2.1⟩ (hM H.size) (vx_cwSW nA X.2.2.2.2.1 hG rfl hrm.1 hrm.2 hd hR) ⟨hpre.1, hpre.2⟩ rfl hn (h.1) rfl (lv_room hroom) hdg hcs) hS (fun q _ h => hFr q h) hFr (fun E r ce q9 t H1 locs1 hE ht hB hz hk hS1 hce hcv hcl => by cases hE) (fun r t H1 locs1 hr ht hB hz hk hS1 => ?_)
  cases hr
  obtain ⟨hP1, hD1⟩ := hB
  rw [ht] at hP1
  obtain ⟨p2, d2⟩ := sx_back hP hD (fun q hq => X.2.2.2.2.2.2.1 q (Nat.le_trans hS.1 hq)) hk hP1 hD1
  exact kk H1 locs1 ls p2 d2 hS1 h
end FRZ
