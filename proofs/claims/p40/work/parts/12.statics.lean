/-! THE STATICS: the enum constants, their ordinals and texts, KINDS, the switch map, TOLD, and what else nobody writes -/
def nmK : List String := ["FRONT", "IS", "WARM", "COLD", "AT", "FOR", "FORCE", "GUEST", "LIKES", "TO", "NERVE", "STEEP", "LEMON", "SAUCER", "SERVE", "WHEN", "HOUR", "WARMTH", "STRENGTH", "CHARGE", "LEMONS", "SAUCERS", "STORMS", "SEATED", "OVER", "CONTENT", "OF", "NOT", "AND", "OR", "MIN", "MAX", "OPEN", "CLOSE", "OPEN_TEST", "CLOSE_TEST", "SEMICOLON", "COMMA", "PLUS", "MINUS", "TIMES", "DIVIDED", "LESS", "MORE", "EQUAL", "AT_MOST", "AT_LEAST", "NAME", "NUMBER", "END", "BAD", "TURNED"]
def kbl : List (List Int32) := [[102, 114, 111, 110, 116], [105, 115], [119, 97, 114, 109], [99, 111, 108, 100], [97, 116], [102, 111, 114], [102, 111, 114, 99, 101], [103, 117, 101, 115, 116], [108, 105, 107, 101, 115], [116, 111], [110, 101, 114, 118, 101], [115, 116, 101, 101, 112], [108, 101, 109, 111, 110], [115, 97, 117, 99, 101, 114], [115, 101, 114, 118, 101], [119, 104, 101, 110], [104, 111, 117, 114], [119, 97, 114, 109, 116, 104], [115, 116, 114, 101, 110, 103, 116, 104], [99, 104, 97, 114, 103, 101], [108, 101, 109, 111, 110, 115], [115, 97, 117, 99, 101, 114, 115], [115, 116, 111, 114, 109, 115], [115, 101, 97, 116, 101, 100], [111, 118, 101, 114], [99, 111, 110, 116, 101, 110, 116], [111, 102], [110, 111, 116], [97, 110, 100], [111, 114], [109, 105, 110], [109, 97, 120], [40], [41], [91], [93], [59], [44], [43], [45], [42], [47], [60], [62], [61], [60, 61], [62, 61], [], [], [], [], []]
/-- the length of the k-th kind's text, and its bytes -/
def kln (k : Nat) : Nat := (kbl.getD k []).length
def kby (k j : Nat) : Int32 := (kbl.getD k []).getD j 0
def smapL : List Int32 := [19, 0, 0, 0, 0, 0, 14, 20, 0, 0, 0, 21, 35, 36, 23, 0, 7, 8, 9, 10, 11, 12, 13, 4, 3, 5, 22, 1, 33, 34, 17, 18, 16, 0, 2, 0, 0, 0, 25, 15, 26, 27, 28, 29, 30, 31, 32, 0, 6, 0, 0, 24]
def smap (k : Nat) : Int32 := smapL.getD k 0
def tkL : List Nat := []
/-- TOLD's k-th word is the text of this kind -/
def tkK (k : Nat) : Nat := tkL.getD k 0
def sfNF : List (String × Nat × String × String × String × String) := [("WeatherTea$Tokens", 83, "WeatherTea", "KINDS", "[LWeatherTea$Kind;", "WeatherTea"), ("WeatherTeaLaw$Node", 57, "WeatherTeaLaw", "WORDS", "[Ljava/lang/String;", "WeatherTeaLaw"), ("WeatherTeaLaw$Node", 98, "WeatherTeaLaw", "SIGNS", "[Ljava/lang/String;", "WeatherTeaLaw")]
def sfNM : List (String × Nat × MethodName × String) := [("WeatherTea$Pot", 105, (⟨"WeatherTea", "oneIf", "(Z)I"⟩ : MethodName), "WeatherTea"), ("WeatherTea$Reckoner", 62, (⟨"WeatherTea", "oneIf", "(Z)I"⟩ : MethodName), "WeatherTea"), ("WeatherTeaLaw$Dice", 14, (⟨"WeatherTeaLaw", "below", "(II)I"⟩ : MethodName), "WeatherTeaLaw"), ("WeatherTeaLaw", 34, (⟨"WeatherTeaLaw$Pot", "<init>", "()V"⟩ : MethodName), "WeatherTeaLaw"), ("WeatherTeaLaw", 52, (⟨"WeatherTeaLaw$Front", "<init>", "()V"⟩ : MethodName), "WeatherTeaLaw"), ("WeatherTeaLaw", 88, (⟨"WeatherTeaLaw$Guest", "<init>", "()V"⟩ : MethodName), "WeatherTeaLaw")]
def sfNC : List (String × String) := [("java/lang/IndexOutOfBoundsException", "java/lang/IndexOutOfBoundsException"), ("java/lang/IllegalArgumentException", "java/lang/IllegalArgumentException"), ("java/lang/IllegalStateException", "java/lang/IllegalStateException"), ("[B", "java/lang/Cloneable")]
def sfND : List MethodName := [(⟨"java/lang/RuntimeException", "<init>", "()V"⟩ : MethodName), (⟨"java/lang/RuntimeException", "<init>", "(Ljava/lang/String;)V"⟩ : MethodName), (⟨"java/lang/Exception", "<init>", "()V"⟩ : MethodName), (⟨"java/lang/Exception", "<init>", "(Ljava/lang/String;)V"⟩ : MethodName), (⟨"java/lang/Throwable", "<init>", "()V"⟩ : MethodName), (⟨"java/lang/Throwable", "<init>", "(Ljava/lang/String;)V"⟩ : MethodName), (⟨"java/lang/Enum", "ordinal", "()I"⟩ : MethodName)]
def sfNN : List (String × String) := []
def sfMs : List (Nat × String) := [(269, "there is no such front"), (273, "there is no such guest"), (275, "hours go by 1 to 30 at a time"), (49, "the tape would be too long"), (60, "the tape has not so many bytes"), (194, "the front is not over the pot"), (200, "there is no lemon"), (205, "there is no saucer"), (210, "the guest is not content"), (212, "tea is not so cold or so warm")]
abbrev SdT : Type := (Nat → Nat) × (Nat → Nat) × (Nat → Nat) × Nat × Nat × Nat
/-- the k-th kind: its static, its object, its ordinal, its text -/
def sfK (sd : SdT) (A : Nat → Prop) (U : State) (H : Heap) (i : Nat) : Prop :=
  va_Z "WeatherTea$Kind" (nmK.getD i "") "LWeatherTea$Kind;" (.ref (sd.1 i)) A U H ∧ va_O "WeatherTea$Kind" (sd.1 i) A U H ∧ va_OF "java/lang/Enum" "ordinal" "I" (.int (nI i)) (sd.1 i) A U H ∧ va_OF "WeatherTea$Kind" "text" "Ljava/lang/String;" (.ref (sd.2.1 i)) (sd.1 i) A U H ∧
  va_O "java/lang/String" (sd.2.1 i) A U H ∧ va_OF "java/lang/String" "coder" "B" (.int 0) (sd.2.1 i) A U H ∧ va_OF "java/lang/String" "value" "[B" (.ref (sd.2.2.1 i)) (sd.2.1 i) A U H ∧ va_T .byte (sd.2.2.1 i) (kln i) (fun j => .int (kby i j)) A U H
/-- the static rows -/
def sfA (sd : SdT) (A : Nat → Prop) (U : State) (H : Heap) : Prop :=
  va_Z "WeatherTea" "KINDS" "[LWeatherTea$Kind;" (.ref sd.2.2.2.1) A U H ∧ va_T (.object "WeatherTea$Kind") sd.2.2.2.1 52 (fun j => .ref (sd.1 j)) A U H ∧
  va_Z "WeatherTea$1" "$SwitchMap$WeatherTea$Kind" "[I" (.ref sd.2.2.2.2.1) A U H ∧ va_T .int sd.2.2.2.2.1 52 (fun j => .int (smap j)) A U H ∧
  True ∧ True ∧
  va_Z "java/lang/String" "COMPACT_STRINGS" "Z" (.int 1) A U H ∧ va_Zq "jdk/internal/util/Preconditions" "SIOOBE_FORMATTER" "Ljava/util/function/BiFunction;" A U H
/-- words that the tables alone decide -/
def sfW (U : State) : Prop :=
  (∀ q ∈ sfNF, va_Nw (.fieldLinkNest q.1 q.2.1 q.2.2.1 q.2.2.2.1 q.2.2.2.2.1 q.2.2.2.2.2) U) ∧ (∀ q ∈ sfNM, va_Nw (.methodLinkNest q.1 q.2.1 q.2.2.1 q.2.2.2) U) ∧ (∀ q ∈ sfNC, va_Nw (.castable q.1 q.2) U) ∧ (∀ q ∈ sfND, va_Nw (.declares q) U) ∧
  (∀ q ∈ sfNN, va_Nc q.1 q.2 U) ∧ va_AO "WeatherTea$Kind" U ∧ ∀ q ∈ sfMs, ∃ a : Nat, vk_R "WeatherTea" q.1 q.2 a U
def SFx (sd : SdT) (A : Nat → Prop) (U : State) (H : Heap) : Prop :=
  (∀ i : Nat, i < 52 → sfK sd A U H i) ∧ sfA sd A U H ∧ sfW U ∧ vx_Zq Bundle.tN "UNASSIGNED_STACK" Bundle.steD A U H ∧ vx_Zq Bundle.tN "SUPPRESSED_SENTINEL" Bundle.listD A U H
theorem sfW_same {U V : State} (h : U.vm = V.vm) (w : sfW U) : sfW V := by
  obtain ⟨h1, h2, h3, h4, h5, h6, h7⟩ := w
  have hv : U.vm.Alike V.vm := by rw [h]; exact Vm.Alike.refl _
  exact ⟨fun q hq => va_Nw.same rfl h (h1 q hq), fun q hq => va_Nw.same rfl h (h2 q hq), fun q hq => va_Nw.same rfl h (h3 q hq), fun q hq => va_Nw.same rfl h (h4 q hq), fun q hq => va_Nc.moved hv (h5 q hq), va_AO.moved hv h6, fun q hq => by obtain ⟨a, ha⟩ := h7 q hq; exact ⟨a, vk_R.same h.symm ha⟩⟩
theorem sfW_warm {U V : State} (hW : U.WarmedH V.vm) (w : sfW U) : sfW V := by
  obtain ⟨h1, h2, h3, h4, h5, h6, h7⟩ := w
  have hv : U.vm.Alike V.vm := hW.alike
  exact ⟨fun q hq => va_Nw.warmF hW (h1 q hq), fun q hq => va_Nw.warmM hW (h2 q hq), fun q hq => va_Nw.warmC hW (h3 q hq), fun q hq => va_Nw.warmD hW (h4 q hq), fun q hq => va_Nc.moved hv (h5 q hq), va_AO.moved hv h6, fun q hq => by obtain ⟨a, ha⟩ := h7 q hq; exact ⟨a, vk_R.warm hW ha⟩⟩
theorem sf_moved {sd : SdT} {A : Nat → Prop} {U V : State} {H : Heap} (hv : U.vm.Alike V.vm) (hw : sfW V) (h : SFx sd A U H) : SFx sd A V H := by
  obtain ⟨h1, ⟨a1, a2, a3, a4, a5, a6, a7, a8⟩, -, h3, h4⟩ := h
  refine ⟨fun i hi => ?_, ⟨va_Z.moved hv a1, va_T.moved hv a2, va_Z.moved hv a3, va_T.moved hv a4, a5, a6, va_Z.moved hv a7, va_Zq.moved hv a8⟩, hw, vx_Zq.moved hv h3, vx_Zq.moved hv h4⟩
  obtain ⟨b1, b2, b3, b4, b5, b6, b7, b8⟩ := h1 i hi
  exact ⟨va_Z.moved hv b1, va_O.moved hv b2, va_OF.moved hv b3, va_OF.moved hv b4, va_O.moved hv b5, va_OF.moved hv b6, va_OF.moved hv b7, va_T.moved hv b8⟩
theorem SFx_ok (sd : SdT) : SFok (SFx sd) := by
  refine ⟨fun A U V H hv h => sf_moved (by rw [hv]; exact Vm.Alike.refl _) (sfW_same hv h.2.2.1) h, fun A U V H hW h => sf_moved hW.alike (sfW_warm hW h.2.2.1) h, fun A U H H1 hq h => ?_, fun A B U H hAB h => ?_⟩
  · obtain ⟨h1, ⟨a1, a2, a3, a4, a5, a6, a7, a8⟩, h2, h3, h4⟩ := h
    refine ⟨fun i hi => ?_, ⟨a1.kept hq, a2.kept hq, a3.kept hq, a4.kept hq, a5, a6, a7.kept hq, va_Zq.kept a8 hq⟩, h2, h3.kept hq, h4.kept hq⟩
    obtain ⟨b1, b2, b3, b4, b5, b6, b7, b8⟩ := h1 i hi
    exact ⟨b1.kept hq, b2.kept hq, b3.kept hq, b4.kept hq, b5.kept hq, b6.kept hq, b7.kept hq, b8.kept hq⟩
  · obtain ⟨h1, ⟨a1, a2, a3, a4, a5, a6, a7, a8⟩, h2, h3, h4⟩ := h
    refine ⟨fun i hi => ?_, ⟨a1.narrow hAB, a2.narrow hAB, a3.narrow hAB, a4.narrow hAB, a5, a6, a7.narrow hAB, va_Zq.narrow a8 hAB⟩, h2, h3.narrow hAB, h4.narrow hAB⟩
    obtain ⟨b1, b2, b3, b4, b5, b6, b7, b8⟩ := h1 i hi
    exact ⟨b1.narrow hAB, b2.narrow hAB, b3.narrow hAB, b4.narrow hAB, b5.narrow hAB, b6.narrow hAB, b7.narrow hAB, b8.narrow hAB⟩
/-- kinds differ, as their ordinals do -/
theorem sf_inj {sd : SdT} {A : Nat → Prop} {U : State} {H : Heap} (h : SFx sd A U H) {i j : Nat} (hi : i < 52) (hj : j < 52) (e : sd.1 i = sd.1 j) : i = j := by
  obtain ⟨cf, k, fi, f, cell, h1, h2, h3, h4, h5, -⟩ := (h.1 i hi).2.2.1
  obtain ⟨cf', k', fi', f', cell', g1, g2, g3, g4, g5, -⟩ := (h.1 j hj).2.2.1
  cases h1.symm.trans g1
  rw [e] at h3
  cases h3.symm.trans g3
  have h6 := Option.some.inj (h5.symm.trans g5)
  have h7 : nI i = nI j := Value.int.inj h6
  exact (nI_eq (by omega) (by omega)).mp h7
section SXS
variable {p : Program} {l : Launch} {e : Env} {R : Room} {s : State} {m : MethodId} {args : Array Value} {below : List Frame} {meth : Method} {c : Code} {Q : State → Prop} {cc : ByteArray} {own : String} {nL : Nat} {ret : Option FieldType} {D : va_G} {T : Nat → ClassId} {A : Nat → Prop} {sd : SdT} {k n : Nat} {ws : va_W} {lv : List (Nat × Value)} {pc : Nat} {st : List Value}
theorem SxC.sf {SF : (Nat → Prop) → State → Heap → Prop} (X : SxC p s m args meth c cc own nL ret D T A SF) : SF A s s.heap := X.2.2.2.2.2.2.2.2.2.1
/-- a kind -/
theorem sx_kst (X : SxC p s m args meth c cc own nL ret D T A (SFx sd)) (i : Nat) (hi : i < 52) {idx : Nat} (hlink : (Cond.fieldLink own idx "WeatherTea$Kind" (nmK.getD i "") "LWeatherTea$Kind;") ∈ BIG) (hdg : decode cc pc = .ok (.getstatic idx, 3)) (kk : SxG p l e R s m args below meth c D A nL k n Q ws lv (pc + 3) (.ref (sd.1 i) :: st)) : SxG p l e R s m args below meth c D A nL k n Q ws lv pc st :=
  fun H locs ls hP b d h => va_gets X.1 X.2.1 (X.sf.1 i hi).1 d X.2.2.2.1 (X.2.2.2.2.1 _ hlink) (fun _ h9 => h9) hdg (kk H locs ls hP b d h)
/-- the switch map -/
theorem sx_mst (X : SxC p s m args meth c cc own nL ret D T A (SFx sd)) {idx : Nat} (hlink : (Cond.fieldLink own idx "WeatherTea$1" "$SwitchMap$WeatherTea$Kind" "[I") ∈ BIG) (hdg : decode cc pc = .ok (.getstatic idx, 3)) (kk : SxG p l e R s m args below meth c D A nL k n Q ws lv (pc + 3) (.ref sd.2.2.2.2.1 :: st)) : SxG p l e R s m args below meth c D A nL k n Q ws lv pc st :=
  fun H locs ls hP b d h => va_gets X.1 X.2.1 X.sf.2.1.2.2.1 d X.2.2.2.1 (X.2.2.2.2.1 _ hlink) (fun _ h9 => h9) hdg (kk H locs ls hP b d h)
theorem sx_mld (X : SxC p s m args meth c cc own nL ret D T A (SFx sd)) (i : Nat) (hi : i < 52) (hdg : decode cc pc = .ok (.iaload, 1)) (kk : SxG p l e R s m args below meth c D A nL k n Q ws lv (pc + 1) (.int (smap i) :: st)) : SxG p l e R s m args below meth c D A nL k n Q ws lv pc (.int (nI i) :: .ref sd.2.2.2.2.1 :: st) :=
  fun H locs ls hP b d h => va_ti X.1 X.2.1 X.sf.2.1.2.2.2.1 d (vp_in_nI hi (by omega)) (by rw [nI_clamp (by omega)]) hdg (kk H locs ls hP b d h)
/-- KINDS -/
theorem sx_Kst (X : SxC p s m args meth c cc own nL ret D T A (SFx sd)) {idx : Nat} {host : String} (hlink : (own, idx, "WeatherTea", "KINDS", "[LWeatherTea$Kind;", host) ∈ sfNF) (hdg : decode cc pc = .ok (.getstatic idx, 3)) (kk : SxG p l e R s m args below meth c D A nL k n Q ws lv (pc + 3) (.ref sd.2.2.2.1 :: st)) : SxG p l e R s m args below meth c D A nL k n Q ws lv pc st :=
  fun H locs ls hP b d h => va_getsN X.1 X.2.1 X.sf.2.1.1 d X.2.2.2.1 (va_Nw.use rfl (X.sf.2.2.1.1 _ hlink)) (fun _ h9 => h9) hdg (kk H locs ls hP b d h)
theorem sx_Klen (X : SxC p s m args meth c cc own nL ret D T A (SFx sd)) (hdg : decode cc pc = .ok (.arraylength, 1)) (kk : SxG p l e R s m args below meth c D A nL k n Q ws lv (pc + 1) (.int 52 :: st)) : SxG p l e R s m args below meth c D A nL k n Q ws lv pc (.ref sd.2.2.2.1 :: st) :=
  fun H locs ls hP b d h => va_tlen X.1 X.2.1 X.sf.2.1.2.1 d rfl hdg (kk H locs ls hP b d h)
theorem sx_Kld (X : SxC p s m args meth c cc own nL ret D T A (SFx sd)) {i : Int32} (hin : ¬ (i < 0 ∨ 52 ≤ i.toNatClampNeg)) (hdg : decode cc pc = .ok (.aaload, 1)) (kk : SxG p l e R s m args below meth c D A nL k n Q ws lv (pc + 1) (.ref (sd.1 i.toNatClampNeg) :: st)) : SxG p l e R s m args below meth c D A nL k n Q ws lv pc (.int i :: .ref sd.2.2.2.1 :: st) :=
  fun H locs ls hP b d h => vb_tq X.1 X.2.1 X.sf.2.1.2.1 d hin rfl hdg (kk H locs ls hP b d h)
/-- a kind's text -/
theorem sx_ktx (X : SxC p s m args meth c cc own nL ret D T A (SFx sd)) (i : Nat) (hi : i < 52) {idx : Nat} (hlink : (Cond.fieldLink own idx "WeatherTea$Kind" "text" "Ljava/lang/String;") ∈ BIG) (hdg : decode cc pc = .ok (.getfield idx, 3)) (kk : SxG p l e R s m args below meth c D A nL k n Q ws lv (pc + 3) (.ref (sd.2.1 i) :: st)) : SxG p l e R s m args below meth c D A nL k n Q ws lv pc (.ref (sd.1 i) :: st) :=
  fun H locs ls hP b d h => vk_getf X.1 X.2.1 (X.sf.1 i hi).2.2.2.1 d X.2.2.2.1 (X.2.2.2.2.1 _ hlink) (fun _ h9 => h9) hdg (kk H locs ls hP b d h)
/-- kinds compared -/
theorem sx_keq (X : SxC p s m args meth c cc own nL ret D T A (SFx sd)) {x y : Nat} {off : Int} (tgt : Nat) (hx : x < 52) (hy : y < 52) (hdg : decode cc pc = .ok (.if_acmp .eq off, 3)) (ht : (pc : Int) + off = (tgt : Int)) (kt : x = y → SxG p l e R s m args below meth c D A nL k n Q ws lv tgt st) (kf : ¬ x = y → SxG p l e R s m args below meth c D A nL k n Q ws lv (pc + 3) st) : SxG p l e R s m args below meth c D A nL k n Q ws lv pc (.ref (sd.1 y) :: .ref (sd.1 x) :: st) :=
  fun H locs ls hP b d h => lv_acmp_eq (rx := some (sd.1 x)) (ry := some (sd.1 y)) X.1 X.2.1 hdg ht (fun z => kt (sf_inj X.sf hx hy (Option.some.inj z)) H locs ls hP b d h) (fun z => kf (fun q => z (by rw [q])) H locs ls hP b d h)
theorem sx_kne (X : SxC p s m args meth c cc own nL ret D T A (SFx sd)) {x y : Nat} {off : Int} (tgt : Nat) (hx : x < 52) (hy : y < 52) (hdg : decode cc pc = .ok (.if_acmp .ne off, 3)) (ht : (pc : Int) + off = (tgt : Int)) (kt : ¬ x = y → SxG p l e R s m args below meth c D A nL k n Q ws lv tgt st) (kf : x = y → SxG p l e R s m args below meth c D A nL k n Q ws lv (pc + 3) st) : SxG p l e R s m args below meth c D A nL k n Q ws lv pc (.ref (sd.1 y) :: .ref (sd.1 x) :: st) :=
  fun H locs ls hP b d h => lv_acmp_ne (rx := some (sd.1 x)) (ry := some (sd.1 y)) X.1 X.2.1 hdg ht (fun z => kt (fun q => z (by rw [q])) H locs ls hP b d h) (fun z => kf (sf_inj X.sf hx hy (Option.some.inj z)) H locs ls hP b d h)
/-- a kind stored -/
theorem sx_kast (X : SxC p s m args meth c cc own nL ret D T A (SFx sd)) {a N : Nat} {f : Nat → Nat} {i : Int32} {x : Nat} {ws' : va_W} (q0 : Nat) (he : ws[q0]? = some (zK T sd.1 a N f)) (hx : x < 52) (hin : ¬ (i < 0 ∨ N ≤ i.toNatClampNeg)) (hw : ws.set q0 (zK T sd.1 a N (va_up f i.toNatClampNeg x)) = ws') (hdg : decode cc pc = .ok (.aastore, 1)) (kk : SxG p l e R s m args below meth c D A nL k n Q ws' lv (pc + 1) st) : SxG p l e R s m args below meth c D A nL k n Q ws lv pc (.ref (sd.1 x) :: .int i :: .ref a :: st) := by
  have hf : va_up (fun j => some (sd.1 (f j))) i.toNatClampNeg (some (sd.1 x)) = fun j => some (sd.1 (va_up f i.toNatClampNeg x j)) := by
    funext j
    unfold va_up
    split <;> rfl
  intro H locs ls hP b d h
  have hr : ∃ cell : Cell, H[sd.1 x]? = some cell ∧ cell.vm.isStatics = false ∧ s.vm.findClass "WeatherTea$Kind" = some cell.cls := by
    obtain ⟨cell, h1, h2, h3, -⟩ := (X.sf.1 x hx).2.1.kept d.2.1
    exact ⟨cell, h1, h2, h3⟩
  refine vb_astq X.1 X.2.1 X.2.2.2.2.2.1 hP b d q0 4 he rfl hr (fun comp c0 h1 h2 => vb_asgS comp c0 h1 h2) hin hdg (fun H1 locs1 p1 d1 s1 => ?_)
  rw [hf] at p1 d1
  subst hw
  exact kk H1 locs1 ls p1 d1 s1 h
/-- fields of a nest mate's objects -/
theorem sx_getN (X : SxC p s m args meth c cc own nL ret D T A (SFx sd)) {C : String} {TT : u_T} {N ci idx a : Nat} {ty : Nat → FieldType} {fs : List Value} {v : Value} {host : String} (hCl : SxCl C TT N ty ci) (q0 : Nat) (he : ws[q0]? = some (a, .inr (ci, fs))) (j : Nat) (hj : j < N) (hlink : (own, idx, (TT j).1, (TT j).2.1, (TT j).2.2.1, host) ∈ sfNF) (hv : fs[j]? = some v) (hdg : decode cc pc = .ok (.getfield idx, 3))
    (kk : SxG p l e R s m args below meth c D A nL k n Q ws lv (pc + 3) (v :: st)) : SxG p l e R s m args below meth c D A nL k n Q ws lv pc (.ref a :: st) :=
  fun H locs ls hP b d h => va_getN X.1 X.2.1 X.2.2.2.2.1 hCl.1 X.2.2.2.1 X.2.2.2.2.2.1 hP q0 he hCl.2.2.2 j hj (va_Nw.use rfl (X.sf.2.2.1.1 _ hlink)) (fun _ h9 => h9) hv hdg (kk H locs ls hP b d h)
theorem sx_putN (X : SxC p s m args meth c cc own nL ret D T A (SFx sd)) {C : String} {TT : u_T} {N ci idx a : Nat} {ty : Nat → FieldType} {fs : List Value} {v : Value} {ws' : va_W} {host : String} (hCl : SxCl C TT N ty ci) (q0 : Nat) (he : ws[q0]? = some (a, .inr (ci, fs))) (j : Nat) (hj : j < N) (hlink : (own, idx, (TT j).1, (TT j).2.1, (TT j).2.2.1, host) ∈ sfNF) (hfin : (TT j).2.2.2 = false) (hn : narrow (ty j) v = v) (hfit : fits (ty j) v = true) (hl : j < fs.length) (hw : ws.set q0 (a, .inr (ci, fs.set j v)) = ws') (hdg : decode cc pc = .ok (.putfield idx, 3))
    (kk : SxG p l e R s m args below meth c D A nL k n Q ws' lv (pc + 3) st) : SxG p l e R s m args below meth c D A nL k n Q ws lv pc (v :: .ref a :: st) :=
  fun H locs ls hP b d h => va_putN X.1 X.2.1 X.2.2.2.2.1 hCl.1 ty hCl.2.1 hCl.2.2.1 X.2.2.2.1 X.2.2.2.2.2.1 hP b d q0 he hCl.2.2.2 j hj (va_Nw.use rfl (X.sf.2.2.1.1 _ hlink)) (fun _ h9 => h9) hfin (hCl.2.1 j hj) hn hfit hl hdg (fun H1 locs1 p1 d1 s1 => by subst hw; exact kk H1 locs1 ls p1 d1 s1 h)
end SXS
