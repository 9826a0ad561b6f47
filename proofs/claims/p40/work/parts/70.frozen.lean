/-! STRINGS and what the law's classes hold in statics; cells that become frozen -/
def lsL : List (String × Nat × String × List Nat) := [("WeatherTeaLaw", 67, "front f", [102, 114, 111, 110, 116, 32, 102]), ("WeatherTeaLaw", 78, " is warm force ", [32, 105, 115, 32, 119, 97, 114, 109, 32, 102, 111, 114, 99, 101, 32]), ("WeatherTeaLaw", 80, " is cold force ", [32, 105, 115, 32, 99, 111, 108, 100, 32, 102, 111, 114, 99, 101, 32]), ("WeatherTeaLaw", 82, " at ", [32, 97, 116, 32]), ("WeatherTeaLaw", 84, " for ", [32, 102, 111, 114, 32]), ("WeatherTeaLaw", 86, ";", [59]), ("WeatherTeaLaw", 99, "guest g", [103, 117, 101, 115, 116, 32, 103]), ("WeatherTeaLaw", 101, " likes ", [32, 108, 105, 107, 101, 115, 32]), ("WeatherTeaLaw", 103, " to ", [32, 116, 111, 32]), ("WeatherTeaLaw", 105, " nerve ", [32, 110, 101, 114, 118, 101, 32]), ("WeatherTeaLaw", 107, ";\n", [59, 10]), ("WeatherTeaLaw", 285, "+", [43]), ("WeatherTeaLaw", 287, "-", [45]), ("WeatherTeaLaw", 289, "*", [42]), ("WeatherTeaLaw", 291, "/", [47]), ("WeatherTeaLaw", 293, "<", [60]), ("WeatherTeaLaw", 295, ">", [62]), ("WeatherTeaLaw", 297, "=", [61]), ("WeatherTeaLaw", 299, "<=", [60, 61]), ("WeatherTeaLaw", 301, ">=", [62, 61]), ("WeatherTeaLaw", 307, "hour", [104, 111, 117, 114]), ("WeatherTeaLaw", 308, "warmth", [119, 97, 114, 109, 116, 104]), ("WeatherTeaLaw", 309, "strength", [115, 116, 114, 101, 110, 103, 116, 104]), ("WeatherTeaLaw", 310, "charge", [99, 104, 97, 114, 103, 101]), ("WeatherTeaLaw", 311, "lemons", [108, 101, 109, 111, 110, 115]), ("WeatherTeaLaw", 312, "saucers", [115, 97, 117, 99, 101, 114, 115]), ("WeatherTeaLaw", 313, "storms", [115, 116, 111, 114, 109, 115]), ("WeatherTeaLaw$Node", 44, "", []), ("WeatherTeaLaw$Node", 63, "force of f", [102, 111, 114, 99, 101, 32, 111, 102, 32, 102]), ("WeatherTeaLaw$Node", 65, "-", [45]), ("WeatherTeaLaw$Node", 70, "min(", [109, 105, 110, 40]), ("WeatherTeaLaw$Node", 72, ",", [44]), ("WeatherTeaLaw$Node", 74, ")", [41]), ("WeatherTeaLaw$Node", 76, "max(", [109, 97, 120, 40]), ("WeatherTeaLaw$Node", 78, " , ", [32, 44, 32]), ("WeatherTeaLaw$Node", 80, "over f", [111, 118, 101, 114, 32, 102]), ("WeatherTeaLaw$Node", 82, "seated g", [115, 101, 97, 116, 101, 100, 32, 103]), ("WeatherTeaLaw$Node", 84, "content g", [99, 111, 110, 116, 101, 110, 116, 32, 103]), ("WeatherTeaLaw$Node", 86, "not ", [110, 111, 116, 32]), ("WeatherTeaLaw$Node", 88, "[", [91]), ("WeatherTeaLaw$Node", 90, " and ", [32, 97, 110, 100, 32]), ("WeatherTeaLaw$Node", 92, "]", [93]), ("WeatherTeaLaw$Node", 94, " or ", [32, 111, 114, 32]), ("WeatherTeaLaw$Node", 96, "(", [40]), ("WeatherTeaLaw$Order", 34, "steep f", [115, 116, 101, 101, 112, 32, 102]), ("WeatherTeaLaw$Order", 47, "serve g", [115, 101, 114, 118, 101, 32, 103]), ("WeatherTeaLaw$Order", 49, "lemon", [108, 101, 109, 111, 110]), ("WeatherTeaLaw$Order", 51, "saucer", [115, 97, 117, 99, 101, 114]), ("WeatherTeaLaw$Order", 53, ";", [59]), ("WeatherTeaLaw$Order", 55, " when ", [32, 119, 104, 101, 110, 32])]
def lsQ (k : Nat) : String × Nat × String × List Nat := lsL.getD k ("", 0, "", [])
/-- the letters of the k-th constant -/
def ltx (k : Nat) : List Nat := (lsQ k).2.2.2
/-- private methods of the builder's class above -/
def lwP : List Cond := [.selects "java/lang/StringBuilder" ⟨"java/lang/AbstractStringBuilder", "newCapacity", "(I)I"⟩ ⟨"java/lang/AbstractStringBuilder", "newCapacity", "(I)I"⟩, .selects "java/lang/StringBuilder" ⟨"java/lang/AbstractStringBuilder", "ensureCapacityInternal", "(I)V"⟩ ⟨"java/lang/AbstractStringBuilder", "ensureCapacityInternal", "(I)V"⟩, .selects "java/lang/StringBuilder" ⟨"java/lang/AbstractStringBuilder", "inflateIfNeededFor", "(Ljava/lang/String;)V"⟩ ⟨"java/lang/AbstractStringBuilder", "inflateIfNeededFor", "(Ljava/lang/String;)V"⟩, .selects "java/lang/StringBuilder" ⟨"java/lang/AbstractStringBuilder", "putStringAt", "(ILjava/lang/String;)V"⟩ ⟨"java/lang/AbstractStringBuilder", "putStringAt", "(ILjava/lang/String;)V"⟩]
theorem lwP_good : ∀ w ∈ lwP, goodWord w = true ∧ w.onTables = true := by decide
def wrdL : List Nat := [20, 21, 22, 23, 24, 25, 26]
def sgnL : List Nat := [11, 12, 13, 14, 15, 16, 17, 18, 19]
def wrdK (j : Nat) : Nat := wrdL.getD j 0
def sgnK (j : Nat) : Nat := sgnL.getD j 0
/-- a text at the address a: letters below 128 -/
def StrAt (a : Nat) (tx : List Nat) (A : Nat → Prop) (U : State) (H : Heap) : Prop := ∃ v : Nat, va_O "java/lang/String" a A U H ∧ va_OF "java/lang/String" "coder" "B" (.int 0) a A U H ∧ va_OF "java/lang/String" "value" "[B" (.ref v) a A U H ∧ va_T .byte v tx.length (fun j => .int (nI (tx.getD j 0))) A U H
theorem StrAt.moved {a : Nat} {tx : List Nat} {A : Nat → Prop} {U V : State} {H : Heap} (hv : U.vm.Alike V.vm) (h : StrAt a tx A U H) : StrAt a tx A V H := by
  obtain ⟨v, h1, h2, h3, h4⟩ := h
  exact ⟨v, h1.moved hv, h2.moved hv, h3.moved hv, h4.moved hv⟩
theorem StrAt_ok (a : Nat) (tx : List Nat) : SFok (StrAt a tx) := by
  refine ⟨fun A U V H hv h => h.moved (by rw [hv]; exact Vm.Alike.refl _), fun A U V H hW h => h.moved hW.alike, fun A U H H1 hq h => ?_, fun A B U H hAB h => ?_⟩
  · obtain ⟨v, h1, h2, h3, h4⟩ := h
    exact ⟨v, h1.kept hq, h2.kept hq, h3.kept hq, h4.kept hq⟩
  · obtain ⟨v, h1, h2, h3, h4⟩ := h
    exact ⟨v, h1.narrow hAB, h2.narrow hAB, h3.narrow hAB, h4.narrow hAB⟩
/-- digits' tables, words, signs, constants: their addresses -/
abbrev JdT : Type := Nat × Nat × Nat × Nat × (Nat → Nat)
def sfJ (jd : JdT) (A : Nat → Prop) (U : State) (H : Heap) : Prop :=
  va_Z "java/lang/Integer" "DigitOnes" "[B" (.ref jd.1) A U H ∧ va_T .byte jd.1 100 (fun k => .int (nI (48 + k % 10))) A U H ∧ va_Z "java/lang/Integer" "DigitTens" "[B" (.ref jd.2.1) A U H ∧ va_T .byte jd.2.1 100 (fun k => .int (nI (48 + k / 10))) A U H ∧
  va_Z "WeatherTeaLaw" "WORDS" "[Ljava/lang/String;" (.ref jd.2.2.1) A U H ∧ va_T (.object "java/lang/String") jd.2.2.1 7 (fun j => .ref (jd.2.2.2.2 (wrdK j))) A U H ∧ va_Z "WeatherTeaLaw" "SIGNS" "[Ljava/lang/String;" (.ref jd.2.2.2.1) A U H ∧ va_T (.object "java/lang/String") jd.2.2.2.1 9 (fun j => .ref (jd.2.2.2.2 (sgnK j))) A U H ∧
  (∀ k : Nat, k < 50 → StrAt (jd.2.2.2.2 k) (ltx k) A U H ∧ vk_R (lsQ k).1 (lsQ k).2.1 (lsQ k).2.2.1 (jd.2.2.2.2 k) U) ∧ va_AO "WeatherTeaLaw$Front" U ∧ va_AO "WeatherTeaLaw$Guest" U ∧ va_AO "WeatherTeaLaw$Order" U ∧ ∀ w ∈ lwP, va_Nw w U
theorem sfJ_ok (jd : JdT) : SFok (sfJ jd) := by
  refine ⟨fun A U V H hv h => ?_, fun A U V H hW h => ?_, fun A U H H1 hq h => ?_, fun A B U H hAB h => ?_⟩
  · obtain ⟨h1, h2, h3, h4, h5, h6, h7, h8, h9, ha, hb, hc, hd⟩ := h
    have hv' : U.vm.Alike V.vm := by rw [hv]; exact Vm.Alike.refl _
    exact ⟨h1.moved hv', h2.moved hv', h3.moved hv', h4.moved hv', h5.moved hv', h6.moved hv', h7.moved hv', h8.moved hv', fun k hk => ⟨(h9 k hk).1.moved hv', vk_R.same hv.symm (h9 k hk).2⟩, ha.moved hv', hb.moved hv', hc.moved hv', fun w hw => va_Nw.same (lwP_good w hw).2 hv (hd w hw)⟩
  · obtain ⟨h1, h2, h3, h4, h5, h6, h7, h8, h9, ha, hb, hc, hd⟩ := h
    have hv' := hW.alike
    exact ⟨h1.moved hv', h2.moved hv', h3.moved hv', h4.moved hv', h5.moved hv', h6.moved hv', h7.moved hv', h8.moved hv', fun k hk => ⟨(h9 k hk).1.moved hv', vk_R.warm hW (h9 k hk).2⟩, ha.moved hv', hb.moved hv', hc.moved hv', fun w hw => word_at hW (good_of_word (lwP_good w hw).1) (hd w hw)⟩
  · obtain ⟨h1, h2, h3, h4, h5, h6, h7, h8, h9, ha, hb, hc, hd⟩ := h
    exact ⟨h1.kept hq, h2.kept hq, h3.kept hq, h4.kept hq, h5.kept hq, h6.kept hq, h7.kept hq, h8.kept hq, fun k hk => ⟨(StrAt_ok _ _).2.2.1 _ _ _ _ hq (h9 k hk).1, (h9 k hk).2⟩, ha, hb, hc, hd⟩
  · obtain ⟨h1, h2, h3, h4, h5, h6, h7, h8, h9, ha, hb, hc, hd⟩ := h
    exact ⟨h1.narrow hAB, h2.narrow hAB, h3.narrow hAB, h4.narrow hAB, h5.narrow hAB, h6.narrow hAB, h7.narrow hAB, h8.narrow hAB, fun k hk => ⟨(StrAt_ok _ _).2.2.2 _ _ _ _ hAB (h9 k hk).1, (h9 k hk).2⟩, ha, hb, hc, hd⟩
/-- all that stands -/
abbrev SFy (sd : SdT) (jd : JdT) : (Nat → Prop) → State → Heap → Prop := SFand (SFx sd) (sfJ jd)
theorem SFy_ok (sd : SdT) (jd : JdT) : SFok (SFy sd jd) := SFand_ok (SFx_ok sd) (sfJ_ok jd)
section FRZ
variable {p : Program} {s : State} {m : MethodId} {args : Array Value} {meth : Method} {c : Code} {cc : ByteArray} {own : String} {nL : Nat} {ret : Option FieldType} {D : va_G} {T : Nat → ClassId} {A A1 : Nat → Prop} {SF : (Nat → Prop) → State → Heap → Prop} {w : va_W} {H : Heap} {a : Nat}
theorem va_OFw (X : SxC p s m args meth c cc own nL ret D T A SF) {C : String} {TT : u_T} {N ci : Nat} {ty : Nat → FieldType} {fs : List Value} {v : Value} (hCl : SxCl C TT N ty ci) (hP : va_P D vwCl w H) (hm : (a, .inr (ci, fs)) ∈ w) {j : Nat} (hj : j < N) (hv : fs[j]? = some v) (hA : ¬ A1 a) : va_OF (TT j).1 (TT j).2.1 (TT j).2.2.1 v a A1 s H := by
  obtain ⟨q0, he⟩ := List.getElem?_of_mem hm
  obtain ⟨r, h1, cell, q1, q2, q3, q4⟩ := hP q0 _ he
  have hr : r = (C, TT, N) := Option.some.inj (h1.symm.trans hCl.2.2.2)
  subst hr
  obtain ⟨hS, hfc, kC, hkC, hkind⟩ := X.2.2.2.2.2.1.1 ci _ hCl.2.2.2
  obtain ⟨cf, kf, fi, f, hi, hsl⟩ := hS j hj
  refine ⟨cf, kf, fi, f, cell, hi, (u_facts hfc hkC (u_lays X.2.2.2.2.1 hCl.1 hj) hi).1, q1, (by rw [q3]; intro h; cases h), (by rw [hsl, q4 j hj]; simp [vp_V, hv]), hA⟩
theorem va_Ow (X : SxC p s m args meth c cc own nL ret D T A SF) {C : String} {TT : u_T} {N ci : Nat} {ty : Nat → FieldType} {fs : List Value} (hCl : SxCl C TT N ty ci) (hP : va_P D vwCl w H) (hm : (a, .inr (ci, fs)) ∈ w) (hA : ¬ A1 a) : va_O C a A1 s H := by
  obtain ⟨q0, he⟩ := List.getElem?_of_mem hm
  obtain ⟨cell, h1, h2, h3⟩ := va_recv X.2.2.2.2.2.1 hP hCl.2.2.2 he
  exact ⟨cell, h1, h2, h3, hA⟩
theorem va_Tw (X : SxC p s m args meth c cc own nL ret D T A SF) {t0 n : Nat} {ty : FieldType} {x : vp_A} {g : Nat → Value} (hP : va_P D vwCl w H) (hm : (a, .inl (T t0, x)) ∈ w) (ht : (tyL T)[t0]? = some (T t0, ty)) (hx : x.1 = n) (hg : vp_cell (T t0) x = arrV (T t0) n g) (hA : ¬ A1 a) : va_T ty a n g A1 s H := by
  obtain ⟨q0, he⟩ := List.getElem?_of_mem hm
  have h1 : H[a]? = some (vp_cell (T t0) x) := hP q0 _ he
  rw [hg] at h1
  exact ⟨_, h1, (X.2.2.2.2.2.1.2 t0 _ ht).1 n g, (fun q => by cases q), (by rw [arrV_size]; exact Nat.le_refl _), (by rw [arrV_size]; try rfl), fun j hj => arrV_read _ _ hj, hA⟩
/-- what lies beside the callee's cells -/
theorem wr_out {wc wr : va_W} (hP : va_P D vwCl (wc ++ wr) H) (hD : va_D A (wc ++ wr)) {q : Nat × va_E} (hq : q ∈ wr) : ¬ va_A wc H.size q.1 := by
  obtain ⟨j, hj⟩ := List.getElem?_of_mem hq
  have h1 : (wc ++ wr)[wc.length + j]? = some q := by rw [List.getElem?_append_right (Nat.le_add_right _ _), Nat.add_sub_cancel_left]; exact hj
  intro h
  rcases h with ⟨i, x, hx⟩ | h
  · have l1 : i < wc.length := (List.getElem?_eq_some_iff.mp hx).1
    have h2 : (wc ++ wr)[i]? = some (q.1, x) := by rw [List.getElem?_append_left l1]; exact hx
    have := hD.1 _ _ _ _ h2 h1 rfl
    omega
  · have := (hP _ q h1).lt
    omega
end FRZ
theorem uJ0 : ∀ w ∈ u_ws RJ0 TJ0 4, w ∈ BIG := by
  show ∀ w ∈ [u_lay RJ0 TJ0 0, u_lay RJ0 TJ0 1, u_lay RJ0 TJ0 2, u_lay RJ0 TJ0 3], w ∈ BIG
  exact List.forall_mem_cons.mpr ⟨qm_1510, List.forall_mem_cons.mpr ⟨qm_1512, List.forall_mem_cons.mpr ⟨qm_1514, List.forall_mem_cons.mpr ⟨qm_1516, fun _ h => absurd h List.not_mem_nil⟩⟩⟩⟩
theorem kJ0 : SxCl RJ0 TJ0 4 tyJ0 0 := ⟨uJ0, tyJ0_ok, nmJ0, rfl⟩
theorem uJ4 : ∀ w ∈ u_ws RJ4 TJ4 4, w ∈ BIG := by
  show ∀ w ∈ [u_lay RJ4 TJ4 0, u_lay RJ4 TJ4 1, u_lay RJ4 TJ4 2, u_lay RJ4 TJ4 3], w ∈ BIG
  exact List.forall_mem_cons.mpr ⟨qm_1451, List.forall_mem_cons.mpr ⟨qm_1453, List.forall_mem_cons.mpr ⟨qm_1455, List.forall_mem_cons.mpr ⟨qm_1457, fun _ h => absurd h List.not_mem_nil⟩⟩⟩⟩
theorem kJ4 : SxCl RJ4 TJ4 4 tyJ4 1 := ⟨uJ4, tyJ4_ok, nmJ4, rfl⟩
abbrev oSB (b q n : Nat) : Nat × va_E := zO b 1 [.ref q, .int 0, .int 0, .int (nI n)]
abbrev oST (a v : Nat) : Nat × va_E := zO a 0 [.ref v, .int 0, .int 0, .int 0]
/-- the builder's bytes hold the text -/
def SBf (tx : List Nat) (m : Nat) (f : Nat → Int32) : Prop := tx.length ≤ m ∧ m ≤ 3000 ∧ sb_Fit f ∧ (∀ x ∈ tx, x < 128) ∧ ∀ j, j < tx.length → f j = nI (tx.getD j 0)
theorem fit128 {c : Nat} (h : c < 128) : fits .byte (.int (nI c)) = true := (show ∀ c, c < 128 → fits .byte (.int (nI c)) = true by decide +kernel) c h
theorem nar128 {c : Nat} (h : c < 128) : vp_nar .byte (nI c) = nI c := (show ∀ c, c < 128 → vp_nar .byte (nI c) = nI c by decide +kernel) c h
theorem gd_mem {t : List Nat} {i : Nat} (h : i < t.length) : t.getD i 0 ∈ t := by
  rw [List.getD_eq_getElem?_getD, List.getElem?_eq_getElem h]
  exact List.getElem_mem h
theorem gd_l {a b : List Nat} {i : Nat} (h : i < a.length) : (a ++ b).getD i 0 = a.getD i 0 := by rw [List.getD_eq_getElem?_getD, List.getD_eq_getElem?_getD, List.getElem?_append_left h]
theorem gd_r {a b : List Nat} {i : Nat} (h : a.length ≤ i) : (a ++ b).getD i 0 = b.getD (i - a.length) 0 := by rw [List.getD_eq_getElem?_getD, List.getD_eq_getElem?_getD, List.getElem?_append_right h]
section SX5
variable {p : Program} {l : Launch} {e : Env} {R : Room} {s : State} {m : MethodId} {args : Array Value} {below : List Frame} {meth : Method} {c : Code} {Q : State → Prop} {cc : ByteArray} {own : String} {nL : Nat} {ret : Option FieldType} {D : va_G} {T : Nat → ClassId} {A : Nat → Prop} {SF : (Nat → Prop) → State → Heap → Prop} {k n : Nat} {ws : va_W} {lv : List (Nat × Value)} {pc : Nat} {st : List Value}
theorem sx_topi {x y : Int32} (h : x = y) (kk : SxG p l e R s m args below meth c D A nL k n Q ws lv pc (.int y :: st)) : SxG p l e R s m args below meth c D A nL k n Q ws lv pc (.int x :: st) := by rw [h]; exact kk
theorem sx_copyb (X : SxC p s m args meth c cc own nL ret D T A SF) {idx a a0 n0 n1 : Nat} {f g : Nat → Int32} {z : Int32} {ws' : va_W} (q0 q1 : Nat) (h0 : ws[q0]? = some (zB T a0 n0 f)) (h1 : ws[q1]? = some (zB T a n1 g)) (hz : ¬ z < 0 ∧ z.toNatClampNeg ≤ n0 ∧ z.toNatClampNeg ≤ n1) (hfit : ∀ i, i < z.toNatClampNeg → fits .byte (.int (f i)) = true) (hl : (Cond.methodLink own idx arraycopyName) ∈ BIG) (hn : (Cond.native arraycopyName) ∈ BIG) (hs : (Cond.static arraycopyName) ∈ BIG) (hi : (Cond.initialized "java/lang/System") ∈ BIG) (hf : 1 ≤ R.frames) (hloc : (st.map fun v => v.category).sum + 40 ≤ R.locals) (hw : ws.set q1 (zB T a n1 (va_cpy f g 0 0 z.toNatClampNeg)) = ws') (hdg : decode cc pc = .ok (.invokestatic idx, 3))
    (kk : SxG p l e R s m args below meth c D A nL k n Q ws' lv (pc + 3) st) : SxG p l e R s m args below meth c D A nL k n Q ws lv pc (.int z :: .int 0 :: .ref a :: .int 0 :: .ref a0 :: st) :=
  fun H locs ls hP b d h => va_copyi X.1 X.2.1 (X.2.2.1.trans h.1.symm) X.2.2.2.1 (X.2.2.2.2.1 _ hl) (X.2.2.2.2.1 _ hn) (X.2.2.2.2.1 _ hs) (X.2.2.2.2.1 _ hi) X.2.2.2.2.2.1 hP b d q0 q1 2 2 h0 h1 rfl rfl rfl (by decide) (by decide) hz.1 (by show 0 + _ ≤ _; omega) (by show 0 + _ ≤ _; omega) (fun i hi => by rw [show (0 : Int32).toNatClampNeg + i = i from Nat.zero_add i]; exact hfit i hi) hf (Nat.le_trans (Nat.add_le_add_left (by decide) _) hloc) hdg (fun H1 locs1 p1 d1 s1 => by subst hw; exact kk H1 locs1 ls p1 d1 s1 h)
/-- from a frozen row of bytes -/
theorem sx_copyt (X : SxC p s m args meth c cc own nL ret D T A SF) {idx a b0 n0 n1 : Nat} {f g : Nat → Int32} {dp z : Int32} {ws' : va_W} (hT : va_T .byte b0 n0 (fun j => .int (f j)) A s s.heap) (q1 : Nat) (h1 : ws[q1]? = some (zB T a n1 g)) (hdp : ¬ dp < 0) (hz : ¬ z < 0 ∧ z.toNatClampNeg ≤ n0 ∧ dp.toNatClampNeg + z.toNatClampNeg ≤ n1) (hfit : ∀ i, i < z.toNatClampNeg → fits .byte (.int (f i)) = true) (hl : (Cond.methodLink own idx arraycopyName) ∈ BIG) (hn : (Cond.native arraycopyName) ∈ BIG) (hs : (Cond.static arraycopyName) ∈ BIG) (hi : (Cond.initialized "java/lang/System") ∈ BIG) (hf : 1 ≤ R.frames) (hloc : (st.map fun v => v.category).sum + 40 ≤ R.locals) (hw : ws.set q1 (zB T a n1 (va_cpy f g 0 dp.toNatClampNeg z.toNatClampNeg)) = ws') (hdg : decode cc pc = .ok (.invokestatic idx, 3))
    (kk : SxG p l e R s m args below meth c D A nL k n Q ws' lv (pc + 3) st) : SxG p l e R s m args below meth c D A nL k n Q ws lv pc (.int z :: .int dp :: .ref a :: .int 0 :: .ref b0 :: st) :=
  fun H locs ls hP b d h => vk_copyt X.1 X.2.1 (X.2.2.1.trans h.1.symm) X.2.2.2.1 (X.2.2.2.2.1 _ hl) (X.2.2.2.2.1 _ hn) (X.2.2.2.2.1 _ hs) (X.2.2.2.2.1 _ hi) X.2.2.2.2.2.1 hP b d hT q1 2 h1 rfl (by decide) hdp hz.1 (by show 0 + _ ≤ _; omega) hz.2.2 (fun i hi => by rw [show (0 : Int32).toNatClampNeg + i = i from Nat.zero_add i]; exact hfit i hi) hf (Nat.le_trans (Nat.add_le_add_left (by decide) _) hloc) hdg (fun H1 locs1 p1 d1 s1 => by subst hw; exact kk H1 locs1 ls p1 d1 s1 h)
variable {Res : Type} {vf : Res → Option Value} {wf : Res → va_W} {res r0 : Res}
/-- the end with a row of bytes -/
theorem sx_aretA {ct : FieldType} (X : SxC p s m args meth c cc own nL (some (.array ct)) D T A SF) {a : Nat} (hdg : decode cc pc = .ok (.areturn, 1)) (er : res = r0) (hv : vf r0 = some (.ref a)) (hw : wf r0 = ws) : SxG p l e R s m args below meth c D A nL k n (SxE below args s D A vf wf res k n) ws lv pc [.ref a] := by
  subst er
  subst hw
  intro H locs ls hP hD hS h
  exact W.aret X.1 X.2.1 X.2.2.2.2.2.2.2.1 (Or.inr ⟨_, rfl⟩) (Or.inr ⟨_, rfl⟩) (fun t ht hW => ⟨by rw [hv], ⟨by rw [ht]; exact hP, hD⟩, hS.F ht⟩) hS.2.2 hdg X.2.2.2.2.2.2.2.2.1
end SX5
/-- a text that lies in the cells beside -/
theorem StrAt_w {p : Program} {s : State} {m : MethodId} {args : Array Value} {meth : Method} {c : Code} {cc : ByteArray} {own : String} {nL : Nat} {ret : Option FieldType} {D : va_G} {T : Nat → ClassId} {A : Nat → Prop} {SF : (Nat → Prop) → State → Heap → Prop} (X : SxC p s m args meth c cc own nL ret D T A SF) {wc wr : va_W} {a v : Nat} {tx : List Nat} {g : Nat → Int32} (h1 : oST a v ∈ wr) (h2 : zB T v tx.length g ∈ wr) (hg : ∀ j, j < tx.length → g j = nI (tx.getD j 0)) : SxM s D A (StrAt a tx) wc wr := by
  refine ⟨StrAt_ok a tx, fun H locs hP hD hS => ?_⟩
  have o1 := wr_out hP hD h1
  have o2 := wr_out hP hD h2
  have m1 : oST a v ∈ wc ++ wr := List.mem_append_right _ h1
  have m2 : zB T v tx.length g ∈ wc ++ wr := List.mem_append_right _ h2
  refine ⟨v, va_Ow X kJ0 hP m1 o1, va_OFw X kJ0 hP m1 (j := 1) (by decide) rfl o1, va_OFw X kJ0 hP m1 (j := 0) (by decide) rfl o1, ?_⟩
  have ht : va_T .byte v tx.length (fun j => .int (g j)) (va_A wc H.size) s H := va_Tw X hP m2 rfl rfl rfl o2
  obtain ⟨cell, q1, q2, q3, q4, q5, q6, q7⟩ := ht
  exact ⟨cell, q1, q2, q3, q4, q5, fun j hj => (q6 j hj).trans (by show some (Value.int (g j)) = _; rw [hg j hj]), q7⟩
