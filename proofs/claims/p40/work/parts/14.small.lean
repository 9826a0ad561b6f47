/-! small methods of the JDK: an enum constant's ordinal, a text's length and letters -/
section SXO
variable {p : Program} {l : Launch} {e : Env} {R : Room} {s : State} {m : MethodId} {args : Array Value} {below : List Frame} {meth : Method} {c : Code} {Q : State → Prop} {cc : ByteArray} {own : String} {nL : Nat} {ret : Option FieldType} {D : va_G} {T : Nat → ClassId} {A : Nat → Prop} {sd : SdT} {k n : Nat} {ws : va_W} {lv : List (Nat × Value)} {pc : Nat} {st : List Value}
variable {SF : (Nat → Prop) → State → Heap → Prop}
theorem sx_gof (X : SxC p s m args meth c cc own nL ret D T A SF) {o nm ds : String} {idx q : Nat} {v : Value} (hO : va_OF o nm ds v q A s s.heap) (hlink : Cond.fieldLink own idx o nm ds ∈ BIG) (hdg : decode cc pc = .ok (.getfield idx, 3)) (kk : SxG p l e R s m args below meth c D A nL k n Q ws lv (pc + 3) (v :: st)) : SxG p l e R s m args below meth c D A nL k n Q ws lv pc (.ref q :: st) :=
  fun H locs ls hP b d h => vk_getf X.1 X.2.1 hO d X.2.2.2.1 (X.2.2.2.2.1 _ hlink) (fun _ h9 => h9) hdg (kk H locs ls hP b d h)
theorem sx_gst (X : SxC p s m args meth c cc own nL ret D T A SF) {o nm ds : String} {idx : Nat} {v : Value} (hO : va_Z o nm ds v A s s.heap) (hlink : Cond.fieldLink own idx o nm ds ∈ BIG) (hdg : decode cc pc = .ok (.getstatic idx, 3)) (kk : SxG p l e R s m args below meth c D A nL k n Q ws lv (pc + 3) (v :: st)) : SxG p l e R s m args below meth c D A nL k n Q ws lv pc st :=
  fun H locs ls hP b d h => va_gets X.1 X.2.1 hO d X.2.2.2.1 (X.2.2.2.2.1 _ hlink) (fun _ h9 => h9) hdg (kk H locs ls hP b d h)
theorem sx_stl (X : SxC p s m args meth c cc own nL ret D T A SF) {ty : FieldType} {t N : Nat} {f : Nat → Value} {v : Int32} (hT : va_T ty t N f A s s.heap) (hv : Int32.ofNat N = v) (hdg : decode cc pc = .ok (.arraylength, 1)) (kk : SxG p l e R s m args below meth c D A nL k n Q ws lv (pc + 1) (.int v :: st)) : SxG p l e R s m args below meth c D A nL k n Q ws lv pc (.ref t :: st) :=
  fun H locs ls hP b d h => va_tlen X.1 X.2.1 hT d hv hdg (kk H locs ls hP b d h)
theorem sx_stb (X : SxC p s m args meth c cc own nL ret D T A SF) {t N : Nat} {f : Nat → Value} {i : Int32} {v : Value} (hT : va_T .byte t N f A s s.heap) (hin : ¬ (i < 0 ∨ N ≤ i.toNatClampNeg)) (hv : f i.toNatClampNeg = v) (hdg : decode cc pc = .ok (.baload, 1)) (kk : SxG p l e R s m args below meth c D A nL k n Q ws lv (pc + 1) (v :: st)) : SxG p l e R s m args below meth c D A nL k n Q ws lv pc (.int i :: .ref t :: st) :=
  fun H locs ls hP b d h => va_tb X.1 X.2.1 hT d hin hv hdg (kk H locs ls hP b d h)
theorem sx_i2c (X : SxC p s m args meth c cc own nL ret D T A SF) {x v : Int32} (hdg : decode cc pc = .ok (.i2c, 1)) (hv : (x.toUInt32 % 65536).toInt32 = v) (kk : SxG p l e R s m args below meth c D A nL k n Q ws lv (pc + 1) (.int v :: st)) : SxG p l e R s m args below meth c D A nL k n Q ws lv pc (.int x :: st) :=
  fun H locs ls hP b d h => lv_i2c X.1 X.2.1 hdg hv (kk H locs ls hP b d h)
variable {Res : Type} {y : MethodName} {cy : ByteArray} {maxLy : Nat} {rty : Option FieldType} {rmy : Room} {As rest : List Value} {wc : va_W} {vf : Res → Option Value} {wf : Res → va_W} {res : Res} {mc ms : Nat}
/-- a call of a method of a known object, that reads statics alone -/
theorem sx_cO (X : SxC p s m args meth c cc own nL ret D T A SF) {b : Nat} (hM : SxK SF l D T y cy maxLy rty rmy (.ref b :: As) [] vf wf res 0 0) {C : String} {idx nA : Nat} (hO : va_O C b A s s.heap) (h1 : Cond.methodLink own idx y ∈ BIG) (h2 : Cond.instanceMethod y ∈ BIG) (h3 : Cond.selects C y y ∈ BIG) (h4 : Cond.initialized y.cls ∈ BIG) (h5 : Cond.code y cy maxLy rty ∈ BIG) (hd : y.cls ≠ "java/lang/invoke/MethodHandle" ∧ y.cls ≠ "java/lang/invoke/VarHandle" ∧ (parseMethodDescriptor y.desc).map (fun d => d.parameters.length) = some nA) (hrm : rmy.cells = 0 ∧ rmy.slots = 0) (hR : rmy.frames + 1 ≤ R.frames ∧ 8 + (maxLy + 11) + rmy.locals ≤ R.locals) (hn : As.length = nA) (hst : st = As.reverse ++ .ref b :: rest) (hroom : (rest.map fun v => v.category).sum ≤ 8) (hw : wf res = []) (hcs : k + 0 ≤ R.cells ∧ n + 0 ≤ R.slots) (hdg : decode cc pc = .ok (.invokevirtual idx, 3)) {st' : List Value} (hst' : (vf res).toList ++ rest = st')
    (kk : SxG p l e R s m args below meth c D A nL k n Q ws lv (pc + 3) st') : SxG p l e R s m args below meth c D A nL k n Q ws lv pc st := by
  subst hst
  subst hst'
  intro H locs ls hP hD hS h
  have hFr := va_free hD hS X.2.2.2.2.2.2.1 [] (wc := []) rfl
  have hpre := sx_pre X hP hD hS [] (wc := []) rfl rfl (.ref b :: As)
  have hrc : ∃ cellB : Cell, H[b]? = some cellB ∧ cellB.vm.isStatics = false ∧ s.vm.findClass C = some cellB.cls := by
    obtain ⟨cell, q1, q2, q3, -⟩ := hO.kept hS.2.1
    exact ⟨cell, q1, q2, q3⟩
  refine sx_after (mc := 0) (ms := 0) (va_runV (As := As) (rest := rest) ⟨X.1, X.2.1, X.2.2.1, X.2.2.2.1, X.2.2.2.2.1⟩ (hM H.size) ⟨callB_of nA X.2.2.2.2.1 (big_in h5) rfl hrm.1 hrm.2 (X.2.2.2.2.1 _ h4) (X.2.2.2.2.1 _ h1) hd hR, X.2.2.2.2.1 _ h2, X.2.2.2.2.1 _ h3⟩ ⟨hpre.1, hrc, hpre.2⟩ rfl hn (h.1) rfl (lv_room hroom) hdg hcs) hS (fun q _ h => hFr q h) hFr (fun t H1 locs1 ht hB hz hk hS1 => ?_)
  obtain ⟨hP1, hD1⟩ := hB
  rw [ht, hw] at hP1
  obtain ⟨p2, d2⟩ := sxPatch_ok hP hD [] (wc := []) (w1 := []) rfl rfl hk hP1
  exact kk H1 locs1 ls p2 d2 hS1 h
/-- the same, of a class above -/
theorem sx_cU (X : SxC p s m args meth c cc own nL ret D T A SF) {b : Nat} (hM : SxK SF l D T y cy maxLy rty rmy (.ref b :: As) [] vf wf res 0 0) {C owner : String} {x : MethodName} {idx nA : Nat} (hO : va_O C b A s s.heap) (h1 : Cond.methodLink own idx x ∈ BIG) (h1s : Cond.sameMethod x.cls owner x.name x.desc ∈ BIG) (h2 : Cond.instanceMethod y ∈ BIG) (h3 : Cond.selects C x y ∈ BIG) (h4 : Cond.initialized y.cls ∈ BIG) (h5 : Cond.code y cy maxLy rty ∈ BIG) (hyx : y = ⟨owner, x.name, x.desc⟩) (hd : owner ≠ "java/lang/invoke/MethodHandle" ∧ owner ≠ "java/lang/invoke/VarHandle" ∧ (parseMethodDescriptor x.desc).map (fun d => d.parameters.length) = some nA) (hrm : rmy.cells = 0 ∧ rmy.slots = 0) (hR : rmy.frames + 1 ≤ R.frames ∧ 8 + (maxLy + 11) + rmy.locals ≤ R.locals) (hn : As.length = nA) (hst : st = As.reverse ++ .ref b :: rest) (hroom : (rest.map fun v => v.category).sum ≤ 8) (hw : wf res = []) (hcs : k + 0 ≤ R.cells ∧ n + 0 ≤ R.slots) (hdg : decode cc pc = .ok (.invokevirtual idx, 3)) {st' : List Value} (hst' : (vf res).toList ++ rest = st')
    (kk : SxG p l e R s m args below meth c D A nL k n Q ws lv (pc + 3) st') : SxG p l e R s m args below meth c D A nL k n Q ws lv pc st := by
  subst hst
  subst hst'
  have hG : GoodIn BIG (va_wsU own idx C owner x y (Cond.code y cy maxLy rty :: BIG)) := fun w hw => by
    unfold va_wsU at hw
    rcases List.mem_append.mp hw with h | h
    · have h' : w ∈ BIG := by
        simp only [List.mem_cons, List.not_mem_nil, or_false] at h
        rcases h with rfl | rfl | rfl | rfl | rfl
        · exact h1
        · exact h1s
        · exact h3
        · exact h2
        · exact h4
      exact ⟨h', big_good _ h'⟩
    · exact big_in h5 w h
  intro H locs ls hP hD hS h
  have hFr := va_free hD hS X.2.2.2.2.2.2.1 [] (wc := []) rfl
  have hpre := sx_pre X hP hD hS [] (wc := []) rfl rfl (.ref b :: As)
  have hrc : ∃ cellB : Cell, H[b]? = some cellB ∧ cellB.vm.isStatics = false ∧ s.vm.findClass C = some cellB.cls := by
    obtain ⟨cell, q1, q2, q3, -⟩ := hO.kept hS.2.1
    exact ⟨cell, q1, q2, q3⟩
  refine sx_after (mc := 0) (ms := 0) (va_runU (As := As) (rest := rest) ⟨X.1, X.2.1, X.2.2.1, X.2.2.2.1, X.2.2.2.2.1⟩ (hM H.size) (va_cwU nA X.2.2.2.2.1 hG rfl hrm.1 hrm.2 hyx hd hR) ⟨hpre.1, hrc, hpre.2⟩ rfl hn (h.1) rfl (lv_room hroom) hdg hcs) hS (fun q _ h => hFr q h) hFr (fun t H1 locs1 ht hB hz hk hS1 => ?_)
  obtain ⟨hP1, hD1⟩ := hB
  rw [ht, hw] at hP1
  obtain ⟨p2, d2⟩ := sxPatch_ok hP hD [] (wc := []) (w1 := []) rfl rfl hk hP1
  exact kk H1 locs1 ls p2 d2 hS1 h
end SXO
abbrev rm_f (f lo : Nat) : Room := { frames := f, cells := 0, slots := 0, locals := lo }
theorem hd_ord : yJx29ce0_ordinal_8abf5.cls ≠ "java/lang/invoke/MethodHandle" ∧ yJx29ce0_ordinal_8abf5.cls ≠ "java/lang/invoke/VarHandle" ∧ (parseMethodDescriptor yJx29ce0_ordinal_8abf5.desc).map (fun d => d.parameters.length) = some 0 := ⟨by decide, by decide, by decide +kernel⟩
theorem c_ord {l : Launch} {D : va_G} {T : Nat → ClassId} {sd : SdT} (k : Nat) (hk : k < 52) : SxK (SFx sd) l D T yJx29ce0_ordinal_8abf5 cJx29ce0_ordinal_8abf5 1 (some .int) (rm_f 0 0) [.ref (sd.1 k)] [] (fun _ : Unit => some (.int (nI k))) (fun _ => []) () 0 0 := by
  refine sx_start (SFx_ok sd) (by decide +kernel) (Nat.le_of_ble_eq_true rfl) (fun p e s m args below meth c A X hnm => ?_)
  refine sx_aload_n X 0 rfl dJx29ce0_ordinal_8abf5_0 rfl ?_
  refine sx_gof X (X.sf.1 k hk).2.2.1 qm_1613 dJx29ce0_ordinal_8abf5_1 ?_
  exact sx_iret X rfl dJx29ce0_ordinal_8abf5_4 rfl rfl rfl
theorem hd_coder : yJ0_coder_7d493.cls ≠ "java/lang/invoke/MethodHandle" ∧ yJ0_coder_7d493.cls ≠ "java/lang/invoke/VarHandle" ∧ (parseMethodDescriptor yJ0_coder_7d493.desc).map (fun d => d.parameters.length) = some 0 := ⟨by decide, by decide, by decide +kernel⟩
theorem c_coder {l : Launch} {D : va_G} {T : Nat → ClassId} {sd : SdT} (k : Nat) (hk : k < 52) : SxK (SFx sd) l D T yJ0_coder_7d493 cJ0_coder_7d493 1 (some .byte) (rm_f 0 0) [.ref (sd.2.1 k)] [] (fun _ : Unit => some (.int 0)) (fun _ => []) () 0 0 := by
  refine sx_start (SFx_ok sd) (by decide +kernel) (Nat.le_of_ble_eq_true rfl) (fun p e s m args below meth c A X hnm => ?_)
  refine sx_gst X X.sf.2.1.2.2.2.2.2.2.1 qm_792 dJ0_coder_7d493_0 ?_
  refine sx_if_eq X 13 dJ0_coder_7d493_3 rfl (fun h => absurd h (by decide)) (fun _ => ?_)
  refine sx_aload_n X 0 rfl dJ0_coder_7d493_6 rfl ?_
  refine sx_gof X (X.sf.1 k hk).2.2.2.2.2.1 qm_1509 dJ0_coder_7d493_7 ?_
  refine sx_goto X 14 dJ0_coder_7d493_10 rfl ?_
  exact sx_iret X rfl dJ0_coder_7d493_14 rfl rfl rfl
theorem hd_latin : yJ0_isLatin1_aae02.cls ≠ "java/lang/invoke/MethodHandle" ∧ yJ0_isLatin1_aae02.cls ≠ "java/lang/invoke/VarHandle" ∧ (parseMethodDescriptor yJ0_isLatin1_aae02.desc).map (fun d => d.parameters.length) = some 0 := ⟨by decide, by decide, by decide +kernel⟩
theorem c_latin {l : Launch} {D : va_G} {T : Nat → ClassId} {sd : SdT} (k : Nat) (hk : k < 52) : SxK (SFx sd) l D T yJ0_isLatin1_aae02 cJ0_isLatin1_aae02 1 (some .boolean) (rm_f 0 0) [.ref (sd.2.1 k)] [] (fun _ : Unit => some (.int 1)) (fun _ => []) () 0 0 := by
  refine sx_start (SFx_ok sd) (by decide +kernel) (Nat.le_of_ble_eq_true rfl) (fun p e s m args below meth c A X hnm => ?_)
  refine sx_gst X X.sf.2.1.2.2.2.2.2.2.1 qm_792 dJ0_isLatin1_aae02_0 ?_
  refine sx_if_eq X 17 dJ0_isLatin1_aae02_3 rfl (fun h => absurd h (by decide)) (fun _ => ?_)
  refine sx_aload_n X 0 rfl dJ0_isLatin1_aae02_6 rfl ?_
  refine sx_gof X (X.sf.1 k hk).2.2.2.2.2.1 qm_1509 dJ0_isLatin1_aae02_7 ?_
  refine sx_if_ne X 17 dJ0_isLatin1_aae02_10 rfl (fun h => absurd rfl h) (fun _ => ?_)
  refine sx_iconst X dJ0_isLatin1_aae02_13 rfl ?_
  refine sx_goto X 18 dJ0_isLatin1_aae02_14 rfl ?_
  exact sx_iret X rfl dJ0_isLatin1_aae02_18 rfl rfl rfl
theorem hd_slen : yJ0_length_8abf5.cls ≠ "java/lang/invoke/MethodHandle" ∧ yJ0_length_8abf5.cls ≠ "java/lang/invoke/VarHandle" ∧ (parseMethodDescriptor yJ0_length_8abf5.desc).map (fun d => d.parameters.length) = some 0 := ⟨by decide, by decide, by decide +kernel⟩
theorem kln_sh : ∀ k : Nat, k < 52 → (nI (kln k)) >>> (0 &&& 31) = nI (kln k) := by decide +kernel
theorem kln_le : ∀ k : Nat, k < 52 → kln k < 10 := by decide +kernel
theorem kby_ch : ∀ k : Nat, k < 52 → ∀ j : Nat, j < 10 → ((kby k j &&& 255).toUInt32 % 65536).toInt32 = kby k j ∧ narrow .char (.int (kby k j)) = .int (kby k j) := by decide +kernel
theorem c_slen {l : Launch} {D : va_G} {T : Nat → ClassId} {sd : SdT} (k : Nat) (hk : k < 52) : SxK (SFx sd) l D T yJ0_length_8abf5 cJ0_length_8abf5 1 (some .int) (rm_f 1 20) [.ref (sd.2.1 k)] [] (fun _ : Unit => some (.int (nI (kln k)))) (fun _ => []) () 0 0 := by
  refine sx_start (SFx_ok sd) (by decide +kernel) (Nat.le_of_ble_eq_true rfl) (fun p e s m args below meth c A X hnm => ?_)
  refine sx_aload_n X 0 rfl dJ0_length_8abf5_0 rfl ?_
  refine sx_gof X (X.sf.1 k hk).2.2.2.2.2.2.1 qm_1508 dJ0_length_8abf5_1 ?_
  refine sx_stl X (v := nI (kln k)) (X.sf.1 k hk).2.2.2.2.2.2.2 rfl dJ0_length_8abf5_4 ?_
  refine sx_aload_n X 0 rfl dJ0_length_8abf5_5 rfl ?_
  refine sx_cO X (c_coder (l := l) (D := D) (T := T) (sd := sd) k hk) (X.sf.1 k hk).2.2.2.2.1 qm_788 qm_789 qm_790 qm_27 qm_791 hd_coder ⟨rfl, rfl⟩ ⟨Nat.le_of_ble_eq_true rfl, Nat.le_of_ble_eq_true rfl⟩ rfl rfl (Nat.le_of_ble_eq_true rfl) rfl ⟨Nat.le_of_ble_eq_true rfl, Nat.le_of_ble_eq_true rfl⟩ dJ0_length_8abf5_6 rfl ?_
  refine sx_ishr X dJ0_length_8abf5_9 ?_
  rw [kln_sh k hk]
  exact sx_iret X rfl dJ0_length_8abf5_10 rfl rfl rfl
theorem hd_ck3 : yJ3_checkIndex_8e157.cls ≠ "java/lang/invoke/MethodHandle" ∧ yJ3_checkIndex_8e157.cls ≠ "java/lang/invoke/VarHandle" ∧ (parseMethodDescriptor yJ3_checkIndex_8e157.desc).map (fun d => d.parameters.length) = some 3 := ⟨by decide, by decide, by decide +kernel⟩
theorem c_ck3n {l : Launch} {D : va_G} {T : Nat → ClassId} {sd : SdT} (i j : Int32) (h0 : ¬ i < 0) (h1 : i < j) : SxK (SFx sd) l D T yJ3_checkIndex_8e157 cJ3_checkIndex_8e157 3 (some .int) (rm_f 0 0) [.int i, .int j, .null] [] (fun _ : Unit => some (.int i)) (fun _ => []) () 0 0 := by
  refine sx_start (SFx_ok sd) (by decide +kernel) (Nat.le_of_ble_eq_true rfl) (fun p e s m args below meth c A X hnm => ?_)
  refine sx_iload_n X 0 rfl dJ3_checkIndex_8e157_0 rfl ?_
  refine sx_if_lt X 9 dJ3_checkIndex_8e157_1 rfl (fun h => absurd h h0) (fun _ => ?_)
  refine sx_iload_n X 0 rfl dJ3_checkIndex_8e157_4 rfl ?_
  refine sx_iload_n X 1 rfl dJ3_checkIndex_8e157_5 rfl ?_
  refine sx_icmp_lt X 16 dJ3_checkIndex_8e157_6 rfl (fun _ => ?_) (fun h => absurd h1 h)
  refine sx_iload_n X 0 rfl dJ3_checkIndex_8e157_16 rfl ?_
  exact sx_iret X rfl dJ3_checkIndex_8e157_17 rfl rfl rfl
theorem c_ck3r {l : Launch} {D : va_G} {T : Nat → ClassId} {sd : SdT} (i j : Int32) (t : Nat) (h0 : ¬ i < 0) (h1 : i < j) : SxK (SFx sd) l D T yJ3_checkIndex_8e157 cJ3_checkIndex_8e157 3 (some .int) (rm_f 0 0) [.int i, .int j, .ref t] [] (fun _ : Unit => some (.int i)) (fun _ => []) () 0 0 := by
  refine sx_start (SFx_ok sd) (by decide +kernel) (Nat.le_of_ble_eq_true rfl) (fun p e s m args below meth c A X hnm => ?_)
  refine sx_iload_n X 0 rfl dJ3_checkIndex_8e157_0 rfl ?_
  refine sx_if_lt X 9 dJ3_checkIndex_8e157_1 rfl (fun h => absurd h h0) (fun _ => ?_)
  refine sx_iload_n X 0 rfl dJ3_checkIndex_8e157_4 rfl ?_
  refine sx_iload_n X 1 rfl dJ3_checkIndex_8e157_5 rfl ?_
  refine sx_icmp_lt X 16 dJ3_checkIndex_8e157_6 rfl (fun _ => ?_) (fun h => absurd h1 h)
  refine sx_iload_n X 0 rfl dJ3_checkIndex_8e157_16 rfl ?_
  exact sx_iret X rfl dJ3_checkIndex_8e157_17 rfl rfl rfl
theorem hd_ck : yJ0_checkIndex_df160.cls ≠ "java/lang/invoke/MethodHandle" ∧ yJ0_checkIndex_df160.cls ≠ "java/lang/invoke/VarHandle" ∧ (parseMethodDescriptor yJ0_checkIndex_df160.desc).map (fun d => d.parameters.length) = some 2 := ⟨by decide, by decide, by decide +kernel⟩
theorem c_ck {l : Launch} {D : va_G} {T : Nat → ClassId} {sd : SdT} (i j : Int32) (h0 : ¬ i < 0) (h1 : i < j) : SxK (SFx sd) l D T yJ0_checkIndex_df160 cJ0_checkIndex_df160 2 none (rm_f 1 22) [.int i, .int j] [] (fun _ : Unit => none) (fun _ => []) () 0 0 := by
  refine sx_start (SFx_ok sd) (by decide +kernel) (Nat.le_of_ble_eq_true rfl) (fun p e s m args below meth c A X hnm => ?_)
  refine sx_iload_n X 0 rfl dJ0_checkIndex_df160_0 rfl ?_
  refine sx_iload_n X 1 rfl dJ0_checkIndex_df160_1 rfl ?_
  rcases X.sf.2.1.2.2.2.2.2.2.2 with hz | ⟨t, hz⟩
  · refine sx_gst X hz qm_808 dJ0_checkIndex_df160_2 ?_
    refine sx_cSr X (c_ck3n (l := l) (D := D) (T := T) (sd := sd) i j h0 h1) qm_810 qm_811 qm_35 qm_812 hd_ck3 ⟨rfl, rfl⟩ ⟨Nat.le_of_ble_eq_true rfl, Nat.le_of_ble_eq_true rfl⟩ rfl rfl (Nat.le_of_ble_eq_true rfl) [] rfl rfl rfl ⟨Nat.le_of_ble_eq_true rfl, Nat.le_of_ble_eq_true rfl⟩ dJ0_checkIndex_df160_5 rfl ?_
    refine sx_pop X dJ0_checkIndex_df160_8 rfl ?_
    exact sx_vret X dJ0_checkIndex_df160_9 rfl rfl rfl
  · refine sx_gst X hz qm_808 dJ0_checkIndex_df160_2 ?_
    refine sx_cSr X (c_ck3r (l := l) (D := D) (T := T) (sd := sd) i j t h0 h1) qm_810 qm_811 qm_35 qm_812 hd_ck3 ⟨rfl, rfl⟩ ⟨Nat.le_of_ble_eq_true rfl, Nat.le_of_ble_eq_true rfl⟩ rfl rfl (Nat.le_of_ble_eq_true rfl) [] rfl rfl rfl ⟨Nat.le_of_ble_eq_true rfl, Nat.le_of_ble_eq_true rfl⟩ dJ0_checkIndex_df160_5 rfl ?_
    refine sx_pop X dJ0_checkIndex_df160_8 rfl ?_
    exact sx_vret X dJ0_checkIndex_df160_9 rfl rfl rfl
theorem hd_ch1 : yJ1_charAt_3b067.cls ≠ "java/lang/invoke/MethodHandle" ∧ yJ1_charAt_3b067.cls ≠ "java/lang/invoke/VarHandle" ∧ (parseMethodDescriptor yJ1_charAt_3b067.desc).map (fun d => d.parameters.length) = some 2 := ⟨by decide, by decide, by decide +kernel⟩
theorem kln_lt (k : Nat) (hk : k < 52) (i : Int32) (hi : ¬ (i < 0 ∨ kln k ≤ i.toNatClampNeg)) : ¬ i < 0 ∧ i < nI (kln k) ∧ i.toNatClampNeg < 10 := by
  have h0 : ¬ i < 0 := fun h => hi (Or.inl h)
  have h1 : i.toNatClampNeg < kln k := Nat.not_le.mp fun h => hi (Or.inr h)
  have h2 := kln_le k hk
  obtain ⟨j, hj, rfl⟩ := nI_of h0
  rw [nI_clamp hj] at h1
  exact ⟨h0, nI_lt h1 (by omega), by rw [nI_clamp hj]; omega⟩
theorem c_ch1 {l : Launch} {D : va_G} {T : Nat → ClassId} {sd : SdT} (k : Nat) (hk : k < 52) (i : Int32) (hi : ¬ (i < 0 ∨ kln k ≤ i.toNatClampNeg)) : SxK (SFx sd) l D T yJ1_charAt_3b067 cJ1_charAt_3b067 2 (some .char) (rm_f 2 43) [.ref (sd.2.2.1 k), .int i] [] (fun _ : Unit => some (.int (kby k i.toNatClampNeg))) (fun _ => []) () 0 0 := by
  refine sx_start (SFx_ok sd) (by decide +kernel) (Nat.le_of_ble_eq_true rfl) (fun p e s m args below meth c A X hnm => ?_)
  obtain ⟨h0, h1, h2⟩ := kln_lt k hk i hi
  refine sx_iload_n X 1 rfl dJ1_charAt_3b067_0 rfl ?_
  refine sx_aload_n X 0 rfl dJ1_charAt_3b067_1 rfl ?_
  refine sx_stl X (v := nI (kln k)) (X.sf.1 k hk).2.2.2.2.2.2.2 rfl dJ1_charAt_3b067_2 ?_
  refine sx_cSr X (c_ck (l := l) (D := D) (T := T) (sd := sd) i (nI (kln k)) h0 h1) qm_805 qm_806 qm_27 qm_807 hd_ck ⟨rfl, rfl⟩ ⟨Nat.le_of_ble_eq_true rfl, Nat.le_of_ble_eq_true rfl⟩ rfl rfl (Nat.le_of_ble_eq_true rfl) [] rfl rfl rfl ⟨Nat.le_of_ble_eq_true rfl, Nat.le_of_ble_eq_true rfl⟩ dJ1_charAt_3b067_3 rfl ?_
  refine sx_aload_n X 0 rfl dJ1_charAt_3b067_6 rfl ?_
  refine sx_iload_n X 1 rfl dJ1_charAt_3b067_7 rfl ?_
  refine sx_stb X (v := .int (kby k i.toNatClampNeg)) (X.sf.1 k hk).2.2.2.2.2.2.2 hi rfl dJ1_charAt_3b067_8 ?_
  refine sx_sipush X (v := 255) dJ1_charAt_3b067_9 rfl ?_
  refine sx_iand X dJ1_charAt_3b067_12 ?_
  refine sx_i2c X dJ1_charAt_3b067_13 (kby_ch k hk _ h2).1 ?_
  exact sx_iret X (kby_ch k hk _ h2).2 dJ1_charAt_3b067_14 rfl rfl rfl
theorem hd_schar : yJ0_charAt_5068e.cls ≠ "java/lang/invoke/MethodHandle" ∧ yJ0_charAt_5068e.cls ≠ "java/lang/invoke/VarHandle" ∧ (parseMethodDescriptor yJ0_charAt_5068e.desc).map (fun d => d.parameters.length) = some 1 := ⟨by decide, by decide, by decide +kernel⟩
theorem c_schar {l : Launch} {D : va_G} {T : Nat → ClassId} {sd : SdT} (k : Nat) (hk : k < 52) (i : Int32) (hi : ¬ (i < 0 ∨ kln k ≤ i.toNatClampNeg)) : SxK (SFx sd) l D T yJ0_charAt_5068e cJ0_charAt_5068e 2 (some .char) (rm_f 3 64) [.ref (sd.2.1 k), .int i] [] (fun _ : Unit => some (.int (kby k i.toNatClampNeg))) (fun _ => []) () 0 0 := by
  refine sx_start (SFx_ok sd) (by decide +kernel) (Nat.le_of_ble_eq_true rfl) (fun p e s m args below meth c A X hnm => ?_)
  obtain ⟨h0, h1, h2⟩ := kln_lt k hk i hi
  refine sx_aload_n X 0 rfl dJ0_charAt_5068e_0 rfl ?_
  refine sx_cO X (c_latin (l := l) (D := D) (T := T) (sd := sd) k hk) (X.sf.1 k hk).2.2.2.2.1 qm_798 qm_799 qm_800 qm_27 qm_801 hd_latin ⟨rfl, rfl⟩ ⟨Nat.le_of_ble_eq_true rfl, Nat.le_of_ble_eq_true rfl⟩ rfl rfl (Nat.le_of_ble_eq_true rfl) rfl ⟨Nat.le_of_ble_eq_true rfl, Nat.le_of_ble_eq_true rfl⟩ dJ0_charAt_5068e_1 rfl ?_
  refine sx_if_eq X 16 dJ0_charAt_5068e_4 rfl (fun h => absurd h (by decide)) (fun _ => ?_)
  refine sx_aload_n X 0 rfl dJ0_charAt_5068e_7 rfl ?_
  refine sx_gof X (X.sf.1 k hk).2.2.2.2.2.2.1 qm_1508 dJ0_charAt_5068e_8 ?_
  refine sx_iload_n X 1 rfl dJ0_charAt_5068e_11 rfl ?_
  refine sx_cSr X (c_ch1 (l := l) (D := D) (T := T) (sd := sd) k hk i hi) qm_802 qm_803 qm_36 qm_804 hd_ch1 ⟨rfl, rfl⟩ ⟨Nat.le_of_ble_eq_true rfl, Nat.le_of_ble_eq_true rfl⟩ rfl rfl (Nat.le_of_ble_eq_true rfl) [] rfl rfl rfl ⟨Nat.le_of_ble_eq_true rfl, Nat.le_of_ble_eq_true rfl⟩ dJ0_charAt_5068e_12 rfl ?_
  exact sx_iret X (kby_ch k hk _ h2).2 dJ0_charAt_5068e_15 rfl rfl rfl
section SXP
variable {p : Program} {l : Launch} {e : Env} {R : Room} {s : State} {m : MethodId} {args : Array Value} {below : List Frame} {meth : Method} {c : Code} {Q : State → Prop} {cc : ByteArray} {own : String} {nL : Nat} {ret : Option FieldType} {D : va_G} {T : Nat → ClassId} {A : Nat → Prop} {sd : SdT} {k n : Nat} {ws : va_W} {lv : List (Nat × Value)} {pc : Nat} {st : List Value}
theorem sx_ord (X : SxC p s m args meth c cc own nL ret D T A (SFx sd)) (i : Nat) (hi : i < 52) {idx : Nat} (hl : Cond.methodLink own idx ⟨"WeatherTea$Kind", "ordinal", "()I"⟩ ∈ BIG) (hf : 1 ≤ R.frames) (hlo : 20 ≤ R.locals) (hroom : (st.map fun v => v.category).sum ≤ 8) (hc : k ≤ R.cells) (hs : n ≤ R.slots) (hdg : decode cc pc = .ok (.invokevirtual idx, 3)) (kk : SxG p l e R s m args below meth c D A nL k n Q ws lv (pc + 3) (.int (nI i) :: st)) : SxG p l e R s m args below meth c D A nL k n Q ws lv pc (.ref (sd.1 i) :: st) :=
  sx_cU X (c_ord (l := l) (D := D) (T := T) (sd := sd) i hi) (owner := "java/lang/Enum") (x := ⟨"WeatherTea$Kind", "ordinal", "()I"⟩) (X.sf.1 i hi).2.1 hl qm_563 qm_566 qm_565 qm_16 qm_567 rfl ⟨by decide, by decide, by decide +kernel⟩ ⟨rfl, rfl⟩ ⟨hf, hlo⟩ rfl rfl hroom rfl ⟨hc, hs⟩ hdg rfl kk
theorem sx_slen (X : SxC p s m args meth c cc own nL ret D T A (SFx sd)) (i : Nat) (hi : i < 52) {idx : Nat} (hl : Cond.methodLink own idx yJ0_length_8abf5 ∈ BIG) (hf : 2 ≤ R.frames) (hlo : 40 ≤ R.locals) (hroom : (st.map fun v => v.category).sum ≤ 8) (hc : k ≤ R.cells) (hs : n ≤ R.slots) (hdg : decode cc pc = .ok (.invokevirtual idx, 3)) (kk : SxG p l e R s m args below meth c D A nL k n Q ws lv (pc + 3) (.int (nI (kln i)) :: st)) : SxG p l e R s m args below meth c D A nL k n Q ws lv pc (.ref (sd.2.1 i) :: st) :=
  sx_cO X (c_slen (l := l) (D := D) (T := T) (sd := sd) i hi) (X.sf.1 i hi).2.2.2.2.1 hl qm_785 qm_786 qm_27 qm_787 hd_slen ⟨rfl, rfl⟩ ⟨hf, hlo⟩ rfl rfl hroom rfl ⟨hc, hs⟩ hdg rfl kk
theorem sx_schar (X : SxC p s m args meth c cc own nL ret D T A (SFx sd)) (i : Nat) (hi : i < 52) {j : Int32} (hj : ¬ (j < 0 ∨ kln i ≤ j.toNatClampNeg)) {idx : Nat} (hl : Cond.methodLink own idx yJ0_charAt_5068e ∈ BIG) (hf : 4 ≤ R.frames) (hlo : 100 ≤ R.locals) (hroom : (st.map fun v => v.category).sum ≤ 8) (hc : k ≤ R.cells) (hs : n ≤ R.slots) (hdg : decode cc pc = .ok (.invokevirtual idx, 3)) (kk : SxG p l e R s m args below meth c D A nL k n Q ws lv (pc + 3) (.int (kby i j.toNatClampNeg) :: st)) : SxG p l e R s m args below meth c D A nL k n Q ws lv pc (.int j :: .ref (sd.2.1 i) :: st) :=
  sx_cO X (c_schar (l := l) (D := D) (T := T) (sd := sd) i hi j hj) (X.sf.1 i hi).2.2.2.2.1 hl qm_795 qm_796 qm_27 qm_797 hd_schar ⟨rfl, rfl⟩ ⟨hf, Nat.le_trans (Nat.le_of_ble_eq_true rfl) hlo⟩ rfl rfl hroom rfl ⟨hc, hs⟩ hdg rfl kk
end SXP
