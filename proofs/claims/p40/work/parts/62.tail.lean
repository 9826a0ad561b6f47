/-! worlds with a tail: x1 :: .. :: xd :: tl -/
theorem zT_len {rF rG : Nat → Nat} {nf ng : Nat} {W F A S P A2 L H N P2 : Nat → Int32} : (zT rF rG nf ng W F A S P A2 L H N P2).length = nf + ng := by
  unfold zT
  rw [List.length_append, List.length_append, zFr_len, zGu_len]
  rfl
theorem zT_ln {rF rG : Nat → Nat} {nf ng : Nat} {W F A S P A2 L H N P2 W' F' A' S' P' A2' L' H' N' P2' : Nat → Int32} : (zT rF rG nf ng W F A S P A2 L H N P2).length = (zT rF rG nf ng W' F' A' S' P' A2' L' H' N' P2').length := by rw [zT_len, zT_len]
theorem tc_C {ws wcs fx fc tl : va_W} {is : List Nat} {d : Nat} (hws : ws = fx ++ tl) (hd : fx.length = d) (hwc : wcs = fc ++ tl) (h : is.map (fun i => fx[i]?) = fc.map some) (hl : is.all (fun i => decide (i < d)) = true) : (is ++ List.range' d tl.length).map (fun i => ws[i]?) = wcs.map some := by
  subst hws hwc hd
  have h1 := tl_C (tl := tl) (fz := []) h hl
  rw [List.append_nil] at h1
  exact h1
theorem tc_W {ws w1 ws' fx fx' fc' tl tl' : va_W} {is : List Nat} {d : Nat} (hws : ws = fx ++ tl) (hd : fx.length = d) (hw1 : w1 = fc' ++ tl') (h1 : is.length = fc'.length) (h2 : tl'.length = tl.length) (hl : is.all (fun i => decide (i < d)) = true) (hp : sxPatch fx is fc' = fx') (hws' : ws' = fx' ++ tl') : sxPatch ws (is ++ List.range' d tl.length) w1 = ws' := by
  subst hws hw1 hd hp hws'
  have h3 := tl_W (fz := []) h1 h2 hl
  rw [List.append_nil, List.append_nil] at h3
  exact h3
theorem tc_a {w1 wcs fc fc' tl tl' : va_W} (hw1 : w1 = fc' ++ tl') (hwc : wcs = fc ++ tl) (ha : fc'.map (·.1) = fc.map (·.1)) (hb : tl'.map (·.1) = tl.map (·.1)) : w1.map (·.1) = wcs.map (·.1) := by
  subst hw1 hwc
  rw [List.map_append, List.map_append, ha, hb]
/-- a call that leaves the tail alone -/
theorem pk_tl {ws w1 ws' fx fx' tl : va_W} {is : List Nat} (hws : ws = fx ++ tl) (hl : is.all (fun i => decide (i < fx.length)) = true) (hlen : is.length = w1.length) (hp : sxPatch fx is w1 = fx') (hws' : ws' = fx' ++ tl) : sxPatch ws is w1 = ws' := by
  subst hws hp hws'
  exact patch_left is fx tl w1 hl hlen
theorem pk_td {ws w1 ws' fx fx' tl : va_W} {is : List Nat} (d : Nat) (hws : ws = fx ++ tl) (hd : fx.length = d) (hl : is.all (fun i => decide (i < d)) = true) (hlen : is.length = w1.length) (hp : sxPatch fx is w1 = fx') (hws' : ws' = fx' ++ tl) : sxPatch ws is w1 = ws' := by
  subst hd
  exact pk_tl hws hl hlen hp hws'
theorem fl_lt {nf : Nat} {i : Int32} (h : ¬ (i < 0 ∨ nf ≤ i.toNatClampNeg)) : i.toNatClampNeg < nf := Nat.lt_of_not_le (fun z => h (Or.inr z))
/-! THE FROZEN ORDERS: an array of orders, each with its test's tree -/
/-- a tree of at most h rows: its sort, its number, its two parts -/
def Nd : Nat → Type
  | 0 => Empty
  | h + 1 => Nat × Nat × Option (Nd h) × Option (Nd h)
/-- an object that stands outside A: its class and what its fields hold -/
def FzO (C : String) (fs : List (String × String × Value)) (a : Nat) (A : Nat → Prop) (U : State) (H : Heap) : Prop := va_O C a A U H ∧ ∀ q ∈ fs, va_OF C q.1 q.2.1 q.2.2 a A U H
theorem FzO_ok (C : String) (fs : List (String × String × Value)) (a : Nat) : SFok (FzO C fs a) := by
  refine ⟨fun A U V H hv h => ?_, fun A U V H hW h => ?_, fun A U H H1 hq h => ⟨h.1.kept hq, fun q hm => (h.2 q hm).kept hq⟩, fun A B U H hAB h => ⟨h.1.narrow hAB, fun q hm => (h.2 q hm).narrow hAB⟩⟩
  · have hv' : U.vm.Alike V.vm := by rw [hv]; exact Vm.Alike.refl _
    exact ⟨h.1.moved hv', fun q hm => (h.2 q hm).moved hv'⟩
  · exact ⟨h.1.moved hW.alike, fun q hm => (h.2 q hm).moved hW.alike⟩
theorem va_T_ok (ty : FieldType) (t N : Nat) (f : Nat → Value) : SFok (va_T ty t N f) := by
  refine ⟨fun A U V H hv h => ?_, fun A U V H hW h => h.moved hW.alike, fun A U H H1 hq h => h.kept hq, fun A B U H hAB h => h.narrow hAB⟩
  have hv' : U.vm.Alike V.vm := by rw [hv]; exact Vm.Alike.refl _
  exact h.moved hv'
theorem SFall_ok {ι : Type} {F : ι → (Nat → Prop) → State → Heap → Prop} {I : ι → Prop} (h : ∀ i, SFok (F i)) : SFok (fun A U H => ∀ i, I i → F i A U H) :=
  ⟨fun A U V H e q i hi => (h i).1 A U V H e (q i hi), fun A U V H e q i hi => (h i).2.1 A U V H e (q i hi), fun A U H H1 e q i hi => (h i).2.2.1 A U H H1 e (q i hi), fun A B U H e q i hi => (h i).2.2.2 A B U H e (q i hi)⟩
theorem SFex_ok {ι : Type} {F : ι → (Nat → Prop) → State → Heap → Prop} (h : ∀ i, SFok (F i)) : SFok (fun A U H => ∃ i, F i A U H) :=
  ⟨fun A U V H e ⟨i, q⟩ => ⟨i, (h i).1 A U V H e q⟩, fun A U V H e ⟨i, q⟩ => ⟨i, (h i).2.1 A U V H e q⟩, fun A U H H1 e ⟨i, q⟩ => ⟨i, (h i).2.2.1 A U H H1 e q⟩, fun A B U H e ⟨i, q⟩ => ⟨i, (h i).2.2.2 A B U H e q⟩⟩
/-- a reference, or none: v holds t as R says -/
def FzR {α : Type} (R : Nat → α → (Nat → Prop) → State → Heap → Prop) (v : Value) (t : Option α) (A : Nat → Prop) (U : State) (H : Heap) : Prop := match t with
  | none => v = .null
  | some x => ∃ a : Nat, v = .ref a ∧ R a x A U H
theorem FzR_ok {α : Type} {R : Nat → α → (Nat → Prop) → State → Heap → Prop} (h : ∀ a x, SFok (R a x)) (v : Value) (t : Option α) : SFok (FzR R v t) := by
  cases t with
  | none => exact ⟨fun _ _ _ _ _ q => q, fun _ _ _ _ _ q => q, fun _ _ _ _ _ q => q, fun _ _ _ _ _ q => q⟩
  | some x => exact ⟨fun A U V H e ⟨i, z, q⟩ => ⟨i, z, (h i x).1 A U V H e q⟩, fun A U V H e ⟨i, z, q⟩ => ⟨i, z, (h i x).2.1 A U V H e q⟩, fun A U H H1 e ⟨i, z, q⟩ => ⟨i, z, (h i x).2.2.1 A U H H1 e q⟩, fun A B U H e ⟨i, z, q⟩ => ⟨i, z, (h i x).2.2.2 A B U H e q⟩⟩
/-- the tree t at the address a -/
def FzN : (h : Nat) → Nat → Nd h → (Nat → Prop) → State → Heap → Prop
  | 0, _, _ => fun _ _ _ => False
  | h + 1, a, t => fun A U H => ∃ va vb : Value, FzO "WeatherTeaLaw$Node" [("sort", "I", .int (nI t.1)), ("n", "I", .int (nI t.2.1)), ("a", "LWeatherTeaLaw$Node;", va), ("b", "LWeatherTeaLaw$Node;", vb)] a A U H ∧ FzR (FzN h) va t.2.2.1 A U H ∧ FzR (FzN h) vb t.2.2.2 A U H
theorem FzN_ok : ∀ (h a : Nat) (t : Nd h), SFok (FzN h a t) := by
  intro h
  induction h with
  | zero => intro a t; exact ⟨fun _ _ _ _ _ q => q, fun _ _ _ _ _ q => q, fun _ _ _ _ _ q => q, fun _ _ _ _ _ q => q⟩
  | succ h ih =>
    intro a t
    exact SFex_ok (fun va => SFex_ok (fun vb => SFand_ok (FzO_ok _ _ a) (SFand_ok (FzR_ok ih va t.2.2.1) (FzR_ok ih vb t.2.2.2))))
/-- an order: what it does, whom it concerns, its test -/
abbrev Od : Type := Nat × Nat × Option (Nd 4)
def FzQ (a : Nat) (o : Od) (A : Nat → Prop) (U : State) (H : Heap) : Prop := ∃ v : Value, FzO "WeatherTeaLaw$Order" [("does", "I", .int (nI o.1)), ("whom", "I", .int (nI o.2.1)), ("test", "LWeatherTeaLaw$Node;", v)] a A U H ∧ FzR (FzN 4) v o.2.2 A U H
theorem FzQ_ok (a : Nat) (o : Od) : SFok (FzQ a o) := SFex_ok (fun v => SFand_ok (FzO_ok _ _ a) (FzR_ok (FzN_ok 4) v o.2.2))
/-- the array of the orders -/
def FzA (oA : Nat) (rQ : Nat → Nat) (os : List Od) (A : Nat → Prop) (U : State) (H : Heap) : Prop := va_T (.object "WeatherTeaLaw$Order") oA os.length (fun j => .ref (rQ j)) A U H ∧ ∀ q : Nat × Od, os[q.1]? = some q.2 → FzQ (rQ q.1) q.2 A U H
theorem FzA_ok (oA : Nat) (rQ : Nat → Nat) (os : List Od) : SFok (FzA oA rQ os) := SFand_ok (va_T_ok _ _ _ _) (SFall_ok (fun q => FzQ_ok (rQ q.1) q.2))
/-- statics and orders -/
abbrev SFq (sd : SdT) (oA : Nat) (rQ : Nat → Nat) (os : List Od) : (Nat → Prop) → State → Heap → Prop := SFand (SFx sd) (FzA oA rQ os)
theorem SFq_ok (sd : SdT) (oA : Nat) (rQ : Nat → Nat) (os : List Od) : SFok (SFq sd oA rQ os) := SFand_ok (SFx_ok sd) (FzA_ok oA rQ os)
section SXQ2
variable {p : Program} {l : Launch} {e : Env} {R : Room} {s : State} {m : MethodId} {args : Array Value} {below : List Frame} {meth : Method} {c : Code} {Q : State → Prop} {cc : ByteArray} {own : String} {nL : Nat} {ret : Option FieldType} {D : va_G} {T : Nat → ClassId} {A : Nat → Prop} {k n : Nat} {ws : va_W} {lv : List (Nat × Value)} {pc : Nat} {st : List Value} {sd : SdT} {oA : Nat} {rQ : Nat → Nat} {os : List Od}
/-- the orders' array: its length, an element -/
theorem sx_Qlen (XQ : SxC p s m args meth c cc own nL ret D T A (SFq sd oA rQ os)) (hdg : decode cc pc = .ok (.arraylength, 1)) (kk : SxG p l e R s m args below meth c D A nL k n Q ws lv (pc + 1) (.int (nI os.length) :: st)) : SxG p l e R s m args below meth c D A nL k n Q ws lv pc (.ref oA :: st) :=
  fun H locs ls hP b d h => va_tlen XQ.1 XQ.2.1 XQ.fz.1 d rfl hdg (kk H locs ls hP b d h)
theorem sx_Qld (XQ : SxC p s m args meth c cc own nL ret D T A (SFq sd oA rQ os)) {i : Int32} (hin : ¬ (i < 0 ∨ os.length ≤ i.toNatClampNeg)) (hdg : decode cc pc = .ok (.aaload, 1)) (kk : SxG p l e R s m args below meth c D A nL k n Q ws lv (pc + 1) (.ref (rQ i.toNatClampNeg) :: st)) : SxG p l e R s m args below meth c D A nL k n Q ws lv pc (.int i :: .ref oA :: st) :=
  fun H locs ls hP b d h => vb_tq XQ.1 XQ.2.1 XQ.fz.1 d hin rfl hdg (kk H locs ls hP b d h)
end SXQ2
