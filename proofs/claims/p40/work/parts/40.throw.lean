/-! methods that throw: their contracts, throws, calls -/
def SxQo {Res Wr : Type} (vf : Res → Option Value) (wf : Res → va_W) (o : Res ⊕ (String × Wr)) (D : va_G) (A : Nat → Prop) : Array Value → State → Outcome → State → Prop := match o with
  | .inl r => SxQ (vf r) (SxB D A (wf r)) A
  | .inr _ => fun _ _ _ _ => False
def SxXo {Res Wr : Type} (wx : Wr → va_W) (o : Res ⊕ (String × Wr)) (D : va_G) (A : Nat → Prop) : String → State → State → Prop := match o with
  | .inl _ => fun _ _ _ => False
  | .inr e => fun E st t => E = e.1 ∧ SxB D A (wx e.2) t ∧ va_F A st t
/-- the end of a method that answers, or throws with the world wx -/
def SxEx {Res Wr : Type} (below : List Frame) (args : Array Value) (s : State) (D : va_G) (A : Nat → Prop) (vf : Res → Option Value) (wf : Res → va_W) (wx : Wr → va_W) (o : Res ⊕ (String × Wr)) (mc ms : Nat) : State → Prop := vx_MQ below (SxQo vf wf o D A) (SxXo wx o D A) args s mc ms A
/-- its contract: where it throws the world is as it was -/
def SxKx {Res Wr : Type} (SF : (Nat → Prop) → State → Heap → Prop) (l : Launch) (D : va_G) (T : Nat → ClassId) (y : MethodName) (cc : ByteArray) (maxL : Nat) (ret : Option FieldType) (rm : Room) (As : List Value) (wc : va_W) (vf : Res → Option Value) (wf : Res → va_W) (wx : Wr → va_W) (o : Res ⊕ (String × Wr)) (mc ms : Nat) : Prop :=
  ∀ sz : Nat, vx_Met l y (Cond.code y cc maxL ret :: BIG) rm (va_Pc As (SxP SF D T wc sz)) (SxQo vf wf o D (va_A wc sz)) (SxXo wx o D (va_A wc sz)) mc ms (va_A wc sz)
theorem sx_startX {Res Wr : Type} {SF : (Nat → Prop) → State → Heap → Prop} {l : Launch} {D : va_G} {T : Nat → ClassId} {y : MethodName} {cc : ByteArray} {maxL : Nat} {ret : Option FieldType} {rm : Room} {As : List Value} {wc : va_W} {vf : Res → Option Value} {wf : Res → va_W} {wx : Wr → va_W} {o : Res ⊕ (String × Wr)} {mc ms : Nat} (hok : SFok SF) (hy : plainName y.cls = true) (hlen : (lg_sl As).length ≤ maxL)
    (body : ∀ (p : Program) (e : Env) (s : State) (m : MethodId) (args : Array Value) (below : List Frame) (meth : Method) (c : Code) (A : Nat → Prop), SxC p s m args meth c cc y.cls maxL ret D T A SF → (∀ x ∈ c.exceptionTable.toList, False) → SxG p l e rm s m args below meth c D A maxL 0 0 (SxEx below args s D A vf wf wx o mc ms) wc (lv_args 0 As) 0 []) :
    SxKx SF l D T y cc maxL ret rm As wc vf wf wx o mc ms := by
  intro sz
  refine vx_ofW (cc := cc) (maxL := maxL) (ret := ret) hy rfl ?_
  intro p e s m args below meth c s₁ B hml hxt hv
  obtain ⟨rfl, hsz, hP, hK, hD0, hSF⟩ := hv
  subst hsz
  have hts := atoms_spec (ws := Cond.code y cc maxL ret :: BIG) B.pre
  have X : SxC p s m As.toArray meth c cc y.cls maxL ret D T (va_A wc s.heap.size) SF := ⟨B.exec, B.bytes, hml, findClass_of_methodNamed B.named, fun w h => hts w (List.mem_cons_of_mem _ h), hK, fun q h => Or.inr h, B.returns, B.notSynchronized, hSF, hok⟩
  rw [lg_entry_eq]
  exact body p e s m As.toArray below meth c _ X hxt s.heap [] _ hP hD0.self va_S.rf (lv_entry As hlen)
theorem big_list {M : List Cond} (idx : List Nat) (h : (M.filter goodWord).map some = idx.map (fun i => lw_tbl[i]?)) : ∀ w ∈ M.filter goodWord, w ∈ BIG := by
  intro w hw
  obtain ⟨j, hj⟩ := List.getElem?_of_mem hw
  have h1 : ((M.filter goodWord).map some)[j]? = some (some w) := by rw [List.getElem?_map, hj]; rfl
  rw [h, List.getElem?_map] at h1
  cases hi : idx[j]? with
  | none => rw [hi] at h1; cases h1
  | some i => rw [hi] at h1; exact List.mem_filter.mpr ⟨List.mem_of_getElem? (Option.some.inj h1), (List.mem_filter.mp hw).2⟩
theorem ob_m {α β γ ε : Type} {x : Option (α ⊕ ε)} {k : α → Option β} {g : ε → Option β} {κ : β → Option γ} {f : γ} (h : (x.bind (Sum.elim k g)).bind κ = some f) : ∃ o, x = some o ∧ ((∃ u, o = .inl u ∧ (k u).bind κ = some f) ∨ ∃ E, o = .inr E ∧ (g E).bind κ = some f) := by
  cases x with
  | none => cases h
  | some o =>
    cases o with
    | inl u => exact ⟨_, rfl, Or.inl ⟨u, rfl, h⟩⟩
    | inr E => exact ⟨_, rfl, Or.inr ⟨E, rfl, h⟩⟩
theorem xat_0 : ∀ w ∈ (vx_atS "WeatherTea" 51 "java/lang/IllegalStateException" ["java/lang/RuntimeException", "java/lang/Exception"]).filter goodWord, w ∈ BIG := big_list [41, 440, 449, 453, 456, 458, 441, 442, 56, 57, 443, 448, 454, 474, 430, 475, 432, 476, 434, 444, 446, 436, 470, 471, 473, 436, 847, 848, 849, 464, 464, 465, 466, 467, 467, 468, 469, 470, 846, 837, 839, 452, 840, 841, 842, 843, 439, 438, 844] (by decide +kernel)
theorem xno_0 : ((vx_atS "WeatherTea" 51 "java/lang/IllegalStateException" ["java/lang/RuntimeException", "java/lang/Exception"]).filter (fun w => !goodWord w)).all (fun w => [Cond.castable "java/lang/IllegalStateException" "java/lang/IllegalStateException", Cond.declares (⟨"java/lang/RuntimeException", "<init>", "(Ljava/lang/String;)V"⟩ : MethodName), Cond.declares (⟨"java/lang/Exception", "<init>", "(Ljava/lang/String;)V"⟩ : MethodName), Cond.declares (⟨"java/lang/Throwable", "<init>", "(Ljava/lang/String;)V"⟩ : MethodName)].contains w) = true := by decide +kernel
theorem xgd_0 : (Cond.classLink "WeatherTea" 47 "java/lang/IllegalStateException" :: Cond.initialized "java/lang/IllegalStateException" :: vx_atS "WeatherTea" 51 "java/lang/IllegalStateException" ["java/lang/RuntimeException", "java/lang/Exception"]).all vx_ot = true := by decide +kernel
theorem xhat_0 {args : Array Value} {s : State} (hB : ∀ w ∈ BIG, w.before args s = true) (hW : sfW s) : ∀ w ∈ vx_atS "WeatherTea" 51 "java/lang/IllegalStateException" ["java/lang/RuntimeException", "java/lang/Exception"], w.before args s = true :=
  vx_hat (fun w hw => hB w (xat_0 w hw)) (fun w hw => List.contains_iff_mem.mp (List.all_eq_true.mp xno_0 w hw)) (vx_c (va_Nw.use rfl (hW.2.2.1 _ (List.mem_of_getElem? (i := 2) rfl))) (vx_c (va_Nw.use rfl (hW.2.2.2.1 _ (List.mem_of_getElem? (i := 1) rfl))) (vx_c (va_Nw.use rfl (hW.2.2.2.1 _ (List.mem_of_getElem? (i := 3) rfl))) (vx_c (va_Nw.use rfl (hW.2.2.2.1 _ (List.mem_of_getElem? (i := 5) rfl))) vx_n))))
theorem xat_1 : ∀ w ∈ (vx_atS "WeatherTea" 62 "java/lang/IllegalArgumentException" ["java/lang/RuntimeException", "java/lang/Exception"]).filter goodWord, w ∈ BIG := big_list [41, 440, 449, 453, 456, 458, 441, 442, 56, 57, 443, 448, 454, 474, 430, 475, 432, 476, 434, 444, 446, 436, 470, 471, 473, 436, 543, 544, 545, 464, 464, 465, 466, 467, 467, 468, 469, 470, 542, 533, 535, 451, 536, 537, 538, 539, 439, 438, 540] (by decide +kernel)
theorem xno_1 : ((vx_atS "WeatherTea" 62 "java/lang/IllegalArgumentException" ["java/lang/RuntimeException", "java/lang/Exception"]).filter (fun w => !goodWord w)).all (fun w => [Cond.castable "java/lang/IllegalArgumentException" "java/lang/IllegalArgumentException", Cond.declares (⟨"java/lang/RuntimeException", "<init>", "(Ljava/lang/String;)V"⟩ : MethodName), Cond.declares (⟨"java/lang/Exception", "<init>", "(Ljava/lang/String;)V"⟩ : MethodName), Cond.declares (⟨"java/lang/Throwable", "<init>", "(Ljava/lang/String;)V"⟩ : MethodName)].contains w) = true := by decide +kernel
theorem xgd_1 : (Cond.classLink "WeatherTea" 58 "java/lang/IllegalArgumentException" :: Cond.initialized "java/lang/IllegalArgumentException" :: vx_atS "WeatherTea" 62 "java/lang/IllegalArgumentException" ["java/lang/RuntimeException", "java/lang/Exception"]).all vx_ot = true := by decide +kernel
theorem xhat_1 {args : Array Value} {s : State} (hB : ∀ w ∈ BIG, w.before args s = true) (hW : sfW s) : ∀ w ∈ vx_atS "WeatherTea" 62 "java/lang/IllegalArgumentException" ["java/lang/RuntimeException", "java/lang/Exception"], w.before args s = true :=
  vx_hat (fun w hw => hB w (xat_1 w hw)) (fun w hw => List.contains_iff_mem.mp (List.all_eq_true.mp xno_1 w hw)) (vx_c (va_Nw.use rfl (hW.2.2.1 _ (List.mem_of_getElem? (i := 1) rfl))) (vx_c (va_Nw.use rfl (hW.2.2.2.1 _ (List.mem_of_getElem? (i := 1) rfl))) (vx_c (va_Nw.use rfl (hW.2.2.2.1 _ (List.mem_of_getElem? (i := 3) rfl))) (vx_c (va_Nw.use rfl (hW.2.2.2.1 _ (List.mem_of_getElem? (i := 5) rfl))) vx_n))))
theorem xat_2 : ∀ w ∈ (vx_atS "WeatherTea" 271 "java/lang/IndexOutOfBoundsException" ["java/lang/RuntimeException", "java/lang/Exception"]).filter goodWord, w ∈ BIG := big_list [41, 440, 449, 453, 456, 458, 441, 442, 56, 57, 443, 448, 454, 474, 430, 475, 432, 476, 434, 444, 446, 436, 470, 471, 473, 436, 461, 462, 463, 464, 464, 465, 466, 467, 467, 468, 469, 470, 460, 419, 427, 428, 429, 431, 433, 435, 439, 438, 437] (by decide +kernel)
theorem xno_2 : ((vx_atS "WeatherTea" 271 "java/lang/IndexOutOfBoundsException" ["java/lang/RuntimeException", "java/lang/Exception"]).filter (fun w => !goodWord w)).all (fun w => [Cond.castable "java/lang/IndexOutOfBoundsException" "java/lang/IndexOutOfBoundsException", Cond.declares (⟨"java/lang/RuntimeException", "<init>", "(Ljava/lang/String;)V"⟩ : MethodName), Cond.declares (⟨"java/lang/Exception", "<init>", "(Ljava/lang/String;)V"⟩ : MethodName), Cond.declares (⟨"java/lang/Throwable", "<init>", "(Ljava/lang/String;)V"⟩ : MethodName)].contains w) = true := by decide +kernel
theorem xgd_2 : (Cond.classLink "WeatherTea" 267 "java/lang/IndexOutOfBoundsException" :: Cond.initialized "java/lang/IndexOutOfBoundsException" :: vx_atS "WeatherTea" 271 "java/lang/IndexOutOfBoundsException" ["java/lang/RuntimeException", "java/lang/Exception"]).all vx_ot = true := by decide +kernel
theorem xhat_2 {args : Array Value} {s : State} (hB : ∀ w ∈ BIG, w.before args s = true) (hW : sfW s) : ∀ w ∈ vx_atS "WeatherTea" 271 "java/lang/IndexOutOfBoundsException" ["java/lang/RuntimeException", "java/lang/Exception"], w.before args s = true :=
  vx_hat (fun w hw => hB w (xat_2 w hw)) (fun w hw => List.contains_iff_mem.mp (List.all_eq_true.mp xno_2 w hw)) (vx_c (va_Nw.use rfl (hW.2.2.1 _ (List.mem_of_getElem? (i := 0) rfl))) (vx_c (va_Nw.use rfl (hW.2.2.2.1 _ (List.mem_of_getElem? (i := 1) rfl))) (vx_c (va_Nw.use rfl (hW.2.2.2.1 _ (List.mem_of_getElem? (i := 3) rfl))) (vx_c (va_Nw.use rfl (hW.2.2.2.1 _ (List.mem_of_getElem? (i := 5) rfl))) vx_n))))
