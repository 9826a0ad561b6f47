/-! the world at the start: what stands -/
theorem sf_kind {args : Array Value} {s : State} {A : Nat → Prop} (hs : ∀ w ∈ NV, w.before args s = true) (hts : ∀ w ∈ lw_tbl, w.before args s = true) (hA : ∀ a : Nat, a < s.heap.size → ¬ A a) (i : Nat) (hi : i < 52) : ∃ k tx ar : Nat, (nK i).eval args s none [] s = some (.ref k) ∧ (nS i).eval args s none [] s = some (.ref tx) ∧ va_Z "WeatherTea$Kind" (nmK.getD i "") "LWeatherTea$Kind;" (.ref k) A s s.heap ∧ va_O "WeatherTea$Kind" k A s s.heap ∧ va_OF "java/lang/Enum" "ordinal" "I" (.int (nI i)) k A s s.heap ∧ va_OF "WeatherTea$Kind" "text" "Ljava/lang/String;" (.ref tx) k A s s.heap ∧ va_O "java/lang/String" tx A s s.heap ∧ va_OF "java/lang/String" "coder" "B" (.int 0) tx A s s.heap ∧ va_OF "java/lang/String" "value" "[B" (.ref ar) tx A s s.heap ∧ va_T .byte ar (kln i) (fun j => .int (kby i j)) A s s.heap := by
  obtain ⟨k, c1, cA1, kA1, hk, -⟩ := Cond.exactly_spec (args := args) (first := s) (o := none) (s := s) (idx := []) (hs _ (nvE hi))
  obtain ⟨tx, c2, cA2, kA2, ht, -⟩ := Cond.exactly_spec (args := args) (first := s) (o := none) (s := s) (idx := []) (hs _ (nvX hi))
  obtain ⟨ar, har, hT⟩ := va_Tof (f := fun j => .int (kby i j)) (kln_s i hi) (hs _ (nvA hi)) (va_eqt (hs _ (nvN hi))) (fun j hj => va_eqt (hs _ (nvB hi hj))) hA
  exact ⟨k, tx, ar, hk, ht, va_Zof (hts _ (List.mem_of_getElem? (nvLS0 i hi))) (hts _ (List.mem_of_getElem? (i := 17) (by decide +kernel))) hk hA, va_Oof (hs _ (nvE hi)) hk hA, vk_OFof hk (va_eqt (hs _ (nvO hi))) hA, vk_OFof hk (va_eqv (hs _ (nvT hi)) ht) hA, va_Oof (hs _ (nvX hi)) ht hA, vk_OFof ht (va_eqt (hs _ (nvC hi))) hA, vk_OFof ht har hA, hT⟩
theorem sfNF_in : ∀ q ∈ sfNF, (.fieldLinkNest q.1 q.2.1 q.2.2.1 q.2.2.2.1 q.2.2.2.2.1 q.2.2.2.2.2 : Cond) ∈ lw_tbl := by decide +kernel
theorem sfNM_in : ∀ q ∈ sfNM, (.methodLinkNest q.1 q.2.1 q.2.2.1 q.2.2.2 : Cond) ∈ lw_tbl := by decide +kernel
theorem sfNC_in : ∀ q ∈ sfNC, (.castable q.1 q.2 : Cond) ∈ lw_tbl := by decide +kernel
theorem sfND_in : ∀ q ∈ sfND, (.declares q : Cond) ∈ lw_tbl := by decide +kernel
theorem sfMs_in : ∀ q ∈ sfMs, (.stringRef "WeatherTea" q.1 q.2 : Cond) ∈ lw_tbl := by decide +kernel
theorem sfMs_ex : ∀ q ∈ sfMs, (.exactly (.string "WeatherTea" q.1) "java/lang/String" : Cond) ∈ NV := by decide +kernel
theorem sf_words {args : Array Value} {s : State} (hs : ∀ w ∈ NV, w.before args s = true) (hts : ∀ w ∈ lw_tbl, w.before args s = true) : sfW s := by
  refine ⟨fun q hq => va_Nw.of rfl (hts _ (sfNF_in q hq)), fun q hq => va_Nw.of rfl (hts _ (sfNM_in q hq)), fun q hq => va_Nw.of rfl (hts _ (sfNC_in q hq)), fun q hq => va_Nw.of rfl (hts _ (sfND_in q hq)), fun q hq => absurd hq List.not_mem_nil, va_AO.of (hts _ (List.mem_of_getElem? (i := 81) (by decide +kernel))), fun q hq => ?_⟩
  obtain ⟨k, c1, cA1, kA1, hk, -⟩ := Cond.exactly_spec (args := args) (first := s) (o := none) (s := s) (idx := []) (hs _ (sfMs_ex q hq))
  exact ⟨k, vk_R.of (hts _ (sfMs_in q hq)) hk⟩
theorem sf_start {args : Array Value} {s : State} {A : Nat → Prop} (hs : ∀ w ∈ NV, w.before args s = true) (hts : ∀ w ∈ lw_tbl, w.before args s = true) (hA : ∀ a : Nat, a < s.heap.size → ¬ A a) : ∃ sd : SdT, SFx sd A s s.heap := by
  have key : ∀ i : Nat, ∃ x : Nat × Nat × Nat, i < 52 → ((nK i).eval args s none [] s = some (.ref x.1) ∧ (nS i).eval args s none [] s = some (.ref x.2.1) ∧ va_Z "WeatherTea$Kind" (nmK.getD i "") "LWeatherTea$Kind;" (.ref x.1) A s s.heap ∧ va_O "WeatherTea$Kind" x.1 A s s.heap ∧ va_OF "java/lang/Enum" "ordinal" "I" (.int (nI i)) x.1 A s s.heap ∧ va_OF "WeatherTea$Kind" "text" "Ljava/lang/String;" (.ref x.2.1) x.1 A s s.heap ∧ va_O "java/lang/String" x.2.1 A s s.heap ∧ va_OF "java/lang/String" "coder" "B" (.int 0) x.2.1 A s s.heap ∧ va_OF "java/lang/String" "value" "[B" (.ref x.2.2) x.2.1 A s s.heap ∧ va_T .byte x.2.2 (kln i) (fun j => .int (kby i j)) A s s.heap) := by
    intro i
    by_cases hi : i < 52
    · obtain ⟨k, tx, ar, h⟩ := sf_kind hs hts hA i hi
      exact ⟨(k, tx, ar), fun _ => h⟩
    · exact ⟨(0, 0, 0), fun h => absurd h hi⟩
  obtain ⟨f, hf⟩ := Classical.axiomOfChoice key
  obtain ⟨t1, h1, T1⟩ := va_Tof (ty := .object "WeatherTea$Kind") (N := 52) (f := fun j => .ref (f j).1) (by decide) (hs _ (List.mem_of_getElem? (i := 77) (by decide +kernel))) (va_eqt (hs _ (List.mem_of_getElem? (i := 78) (by decide +kernel)))) (fun j hj => va_eqv (hs _ (nvKD hj)) (hf j hj).1) hA
  obtain ⟨t2, h2, T2⟩ := va_Tof (ty := .int) (N := 52) (f := fun j => .int (smap j)) (by decide) (hs _ (List.mem_of_getElem? (i := 10) (by decide +kernel))) (va_eqt (hs _ (List.mem_of_getElem? (i := 11) (by decide +kernel)))) (fun j hj => va_eqt (hs _ (nvSM hj))) hA
  refine ⟨(fun i => (f i).1, fun i => (f i).2.1, fun i => (f i).2.2, t1, t2, 0), fun i hi => (hf i hi).2.2, ⟨va_Zof (hts _ (List.mem_of_getElem? (i := 893) (by decide +kernel))) (hts _ (List.mem_of_getElem? (i := 13) (by decide +kernel))) h1 hA, T1, va_Zof (hts _ (List.mem_of_getElem? (i := 561) (by decide +kernel))) (hts _ (List.mem_of_getElem? (i := 47) (by decide +kernel))) h2 hA, T2, trivial, trivial, va_Zof (hts _ (List.mem_of_getElem? (i := 793) (by decide +kernel))) (hts _ (List.mem_of_getElem? (i := 27) (by decide +kernel))) (va_eqi (hs _ (List.mem_of_getElem? (i := 64) (by decide +kernel)))) hA, va_Zqof (hts _ (List.mem_of_getElem? (i := 809) (by decide +kernel))) (hts _ (List.mem_of_getElem? (i := 35) (by decide +kernel))) (hs _ (List.mem_of_getElem? (i := 65) (by decide +kernel))) hA⟩, sf_words hs hts, ?_, ?_⟩
  · exact vx_Zqof (hts _ (List.mem_of_getElem? (i := 445) (by decide +kernel))) (hts _ (List.mem_of_getElem? (i := 41) (by decide +kernel))) (hs _ (List.mem_of_getElem? (i := 7) (by decide +kernel))) hA
  · exact vx_Zqof (hts _ (List.mem_of_getElem? (i := 447) (by decide +kernel))) (hts _ (List.mem_of_getElem? (i := 41) (by decide +kernel))) (hs _ (List.mem_of_getElem? (i := 8) (by decide +kernel))) hA
theorem ls_const {args : Array Value} {s : State} {A : Nat → Prop} (hs : ∀ w ∈ NV, w.before args s = true) (hts : ∀ w ∈ lw_tbl, w.before args s = true) (hA : ∀ a : Nat, a < s.heap.size → ¬ A a) (i : Nat) (hi : i < 50) : ∃ a : Nat, (nL i).eval args s none [] s = some (.ref a) ∧ StrAt a (ltx i) A s s.heap ∧ vk_R (lsQ i).1 (lsQ i).2.1 (lsQ i).2.2.1 a s := by
  obtain ⟨tx, c2, cA2, kA2, ht, -⟩ := Cond.exactly_spec (args := args) (first := s) (o := none) (s := s) (idx := []) (hs _ (nvLX hi))
  obtain ⟨ar, har, hT⟩ := va_Tof (f := fun j => .int (nI ((ltx i).getD j 0))) (ltx_s i hi) (hs _ (nvLA hi)) (va_eqt (hs _ (nvLN hi))) (fun j hj => va_eqt (hs _ (nvLB hi hj))) hA
  exact ⟨tx, ht, ⟨ar, va_Oof (hs _ (nvLX hi)) ht hA, vk_OFof ht (va_eqt (hs _ (nvLC hi))) hA, vk_OFof ht har hA, hT⟩, vk_R.of (hts _ (List.mem_of_getElem? (nvLR0 i hi))) ht⟩
theorem wrdK_50 : ∀ j, j < 7 → wrdK j < 50 := by decide
theorem sgnK_50 : ∀ j, j < 9 → sgnK j < 50 := by decide
theorem sj_start {args : Array Value} {s : State} {A : Nat → Prop} (hs : ∀ w ∈ NV, w.before args s = true) (hts : ∀ w ∈ lw_tbl, w.before args s = true) (hA : ∀ a : Nat, a < s.heap.size → ¬ A a) : ∃ jd : JdT, sfJ jd A s s.heap := by
  have key : ∀ i : Nat, ∃ a : Nat, i < 50 → ((nL i).eval args s none [] s = some (.ref a) ∧ StrAt a (ltx i) A s s.heap ∧ vk_R (lsQ i).1 (lsQ i).2.1 (lsQ i).2.2.1 a s) := by
    intro i
    by_cases hi : i < 50
    · obtain ⟨a, h⟩ := ls_const hs hts hA i hi
      exact ⟨a, fun _ => h⟩
    · exact ⟨0, fun h => absurd h hi⟩
  obtain ⟨f, hf⟩ := Classical.axiomOfChoice key
  obtain ⟨t1, h1, T1⟩ := va_Tof (ty := .byte) (N := 100) (f := fun j => .int (nI (48 + j % 10))) (by decide) (hs _ (List.mem_of_getElem? (i := 244) (by decide +kernel))) (va_eqt (hs _ (List.mem_of_getElem? (i := 245) (by decide +kernel)))) (fun j hj => va_eqt (hs _ (nvDO hj))) hA
  obtain ⟨t2, h2, T2⟩ := va_Tof (ty := .byte) (N := 100) (f := fun j => .int (nI (48 + j / 10))) (by decide) (hs _ (List.mem_of_getElem? (i := 347) (by decide +kernel))) (va_eqt (hs _ (List.mem_of_getElem? (i := 348) (by decide +kernel)))) (fun j hj => va_eqt (hs _ (nvDT hj))) hA
  obtain ⟨t3, h3, T3⟩ := va_Tof (ty := .object "java/lang/String") (N := 7) (f := fun j => .ref (f (wrdK j))) (by decide) (hs _ (List.mem_of_getElem? (i := 450) (by decide +kernel))) (va_eqt (hs _ (List.mem_of_getElem? (i := 451) (by decide +kernel)))) (fun j hj => va_eqv (hs _ (nvWD hj)) (hf _ (wrdK_50 j hj)).1) hA
  obtain ⟨t4, h4, T4⟩ := va_Tof (ty := .object "java/lang/String") (N := 9) (f := fun j => .ref (f (sgnK j))) (by decide) (hs _ (List.mem_of_getElem? (i := 460) (by decide +kernel))) (va_eqt (hs _ (List.mem_of_getElem? (i := 461) (by decide +kernel)))) (fun j hj => va_eqv (hs _ (nvSG hj)) (hf _ (sgnK_50 j hj)).1) hA
  refine ⟨(t1, t2, t3, t4, f), va_Zof (hts _ (List.mem_of_getElem? (i := 1342) (by decide +kernel))) (hts _ (List.mem_of_getElem? (i := 37) (by decide +kernel))) h1 hA, T1, va_Zof (hts _ (List.mem_of_getElem? (i := 1344) (by decide +kernel))) (hts _ (List.mem_of_getElem? (i := 37) (by decide +kernel))) h2 hA, T2, va_Zof (hts _ (List.mem_of_getElem? (i := 1535) (by decide +kernel))) (hts _ (List.mem_of_getElem? (i := 12) (by decide +kernel))) h3 hA, T3, va_Zof (hts _ (List.mem_of_getElem? (i := 1554) (by decide +kernel))) (hts _ (List.mem_of_getElem? (i := 12) (by decide +kernel))) h4 hA, T4, fun k hk => (hf k hk).2, va_AO.of (hts _ (List.mem_of_getElem? (i := 1138) (by decide +kernel))), va_AO.of (hts _ (List.mem_of_getElem? (i := 1140) (by decide +kernel))), va_AO.of (hts _ (List.mem_of_getElem? (i := 1142) (by decide +kernel))), ?_⟩
  have p1 := k_selU (C := "java/lang/StringBuilder") (args := args) (s := s) (n := 4) (x := ⟨"java/lang/AbstractStringBuilder", "isLatin1", "()Z"⟩) (y := ⟨"java/lang/AbstractStringBuilder", "newCapacity", "(I)I"⟩) ⟨by decide, by decide⟩ (hts _ (List.mem_of_getElem? (i := 1439) (by decide +kernel))) (hts _ (List.mem_of_getElem? (i := 1239) (by decide +kernel))) (hts _ (List.mem_of_getElem? (i := 1240) (by decide +kernel))) rfl (hts _ (List.mem_of_getElem? (i := 1266) (by decide +kernel))) (hts _ (List.mem_of_getElem? (i := 1268) (by decide +kernel)))
  have p2 := k_selU (C := "java/lang/StringBuilder") (args := args) (s := s) (n := 4) (x := ⟨"java/lang/AbstractStringBuilder", "isLatin1", "()Z"⟩) (y := ⟨"java/lang/AbstractStringBuilder", "ensureCapacityInternal", "(I)V"⟩) ⟨by decide, by decide⟩ (hts _ (List.mem_of_getElem? (i := 1439) (by decide +kernel))) (hts _ (List.mem_of_getElem? (i := 1235) (by decide +kernel))) (hts _ (List.mem_of_getElem? (i := 1236) (by decide +kernel))) rfl (hts _ (List.mem_of_getElem? (i := 1266) (by decide +kernel))) (hts _ (List.mem_of_getElem? (i := 1268) (by decide +kernel)))
  have p3 := k_selU (C := "java/lang/StringBuilder") (args := args) (s := s) (n := 4) (x := ⟨"java/lang/AbstractStringBuilder", "isLatin1", "()Z"⟩) (y := ⟨"java/lang/AbstractStringBuilder", "inflateIfNeededFor", "(Ljava/lang/String;)V"⟩) ⟨by decide, by decide⟩ (hts _ (List.mem_of_getElem? (i := 1439) (by decide +kernel))) (hts _ (List.mem_of_getElem? (i := 1292) (by decide +kernel))) (hts _ (List.mem_of_getElem? (i := 1293) (by decide +kernel))) rfl (hts _ (List.mem_of_getElem? (i := 1266) (by decide +kernel))) (hts _ (List.mem_of_getElem? (i := 1268) (by decide +kernel)))
  have p4 := k_selU (C := "java/lang/StringBuilder") (args := args) (s := s) (n := 4) (x := ⟨"java/lang/AbstractStringBuilder", "isLatin1", "()Z"⟩) (y := ⟨"java/lang/AbstractStringBuilder", "putStringAt", "(ILjava/lang/String;)V"⟩) ⟨by decide, by decide⟩ (hts _ (List.mem_of_getElem? (i := 1439) (by decide +kernel))) (hts _ (List.mem_of_getElem? (i := 1288) (by decide +kernel))) (hts _ (List.mem_of_getElem? (i := 1289) (by decide +kernel))) rfl (hts _ (List.mem_of_getElem? (i := 1266) (by decide +kernel))) (hts _ (List.mem_of_getElem? (i := 1268) (by decide +kernel)))
  intro w hw
  simp only [lwP, List.mem_cons, List.not_mem_nil, or_false] at hw
  rcases hw with rfl | rfl | rfl | rfl
  · exact va_Nw.of rfl p1
  · exact va_Nw.of rfl p2
  · exact va_Nw.of rfl p3
  · exact va_Nw.of rfl p4
theorem arr_prim {args : Array Value} {s : State} {ty : FieldType} (h : (Cond.arrayClass ty).before args s = true) : ∃ cA : ClassId, ArrOfT s cA ty ∧ s.vm.findClass ("[" ++ ty.toString) = some cA := by
  obtain ⟨c, k, comp, h1, h2, h3⟩ := Cond.arrayClass_spec (args := args) (first := s) (o := none) (s := s) (idx := []) h
  exact ⟨c, fun n z => ⟨fun k h => (by cases h), k, h2, comp, h3⟩, h1⟩
theorem kn_all {args : Array Value} {s : State} (hts : ∀ w ∈ lw_tbl, w.before args s = true) : ∃ (D : va_G) (T : Nat → ClassId), va_K D vwCl (tyL T) s := by
  have hB : ∀ w ∈ BIG, w.before args s = true := fun w hw => hts w (List.mem_filter.mp hw).1
  have key : ∀ k : Nat, ∃ x : ClassId × (Nat → Nat), ∀ q : vw_C, vwCl[k]? = some q → u_Kn s q.1 q.2.1 q.2.2 x.1 x.2 := by
    intro k
    match k with
    | 0 =>
      obtain ⟨c, i, h⟩ := u_known (C := RJ0) (T := TJ0) (N := 4) (n := 4) hB uJ0 (hts _ (List.mem_of_getElem? (i := 1467) (by decide +kernel)))
      exact ⟨(c, i), fun q hq => by cases hq; exact h⟩
    | 1 =>
      obtain ⟨c, i, h⟩ := u_known (C := RJ4) (T := TJ4) (N := 4) (n := 4) hB uJ4 (hts _ (List.mem_of_getElem? (i := 1439) (by decide +kernel)))
      exact ⟨(c, i), fun q hq => by cases hq; exact h⟩
    | 2 =>
      obtain ⟨c, i, h⟩ := u_known (C := RX2) (T := TX2) (N := 6) (n := 6) hB uX2 (hts _ (List.mem_of_getElem? (i := 139) (by decide +kernel)))
      exact ⟨(c, i), fun q hq => by cases hq; exact h⟩
    | 3 =>
      obtain ⟨c, i, h⟩ := u_known (C := RX4) (T := TX4) (N := 6) (n := 6) hB uX4 (hts _ (List.mem_of_getElem? (i := 175) (by decide +kernel)))
      exact ⟨(c, i), fun q hq => by cases hq; exact h⟩
    | 4 =>
      obtain ⟨c, i, h⟩ := u_known (C := RX6) (T := TX6) (N := 8) (n := 8) hB uX6 (hts _ (List.mem_of_getElem? (i := 208) (by decide +kernel)))
      exact ⟨(c, i), fun q hq => by cases hq; exact h⟩
    | 5 =>
      obtain ⟨c, i, h⟩ := u_known (C := RX7) (T := TX7) (N := 3) (n := 3) hB uX7 (hts _ (List.mem_of_getElem? (i := 133) (by decide +kernel)))
      exact ⟨(c, i), fun q hq => by cases hq; exact h⟩
    | 6 =>
      obtain ⟨c, i, h⟩ := u_known (C := RX8) (T := TX8) (N := 13) (n := 13) hB uX8 (hts _ (List.mem_of_getElem? (i := 114) (by decide +kernel)))
      exact ⟨(c, i), fun q hq => by cases hq; exact h⟩
    | 7 =>
      obtain ⟨c, i, h⟩ := u_known (C := RX9) (T := TX9) (N := 2) (n := 2) hB uX9 (hts _ (List.mem_of_getElem? (i := 120) (by decide +kernel)))
      exact ⟨(c, i), fun q hq => by cases hq; exact h⟩
    | 8 =>
      obtain ⟨c, i, h⟩ := u_known (C := RX10) (T := TX10) (N := 2) (n := 2) hB uX10 (hts _ (List.mem_of_getElem? (i := 59) (by decide +kernel)))
      exact ⟨(c, i), fun q hq => by cases hq; exact h⟩
    | 9 =>
      obtain ⟨c, i, h⟩ := u_known (C := RX11) (T := TX11) (N := 7) (n := 7) hB uX11 (hts _ (List.mem_of_getElem? (i := 75) (by decide +kernel)))
      exact ⟨(c, i), fun q hq => by cases hq; exact h⟩
    | 10 =>
      obtain ⟨c, i, h⟩ := u_known (C := RX12) (T := TX12) (N := 6) (n := 6) hB uX12 (hts _ (List.mem_of_getElem? (i := 51) (by decide +kernel)))
      exact ⟨(c, i), fun q hq => by cases hq; exact h⟩
    | 11 =>
      obtain ⟨c, i, h⟩ := u_known (C := RX13) (T := TX13) (N := 1) (n := 1) hB uX13 (hts _ (List.mem_of_getElem? (i := 681) (by decide +kernel)))
      exact ⟨(c, i), fun q hq => by cases hq; exact h⟩
    | 12 =>
      obtain ⟨c, i, h⟩ := u_known (C := RX14) (T := TX14) (N := 5) (n := 5) hB uX14 (hts _ (List.mem_of_getElem? (i := 1194) (by decide +kernel)))
      exact ⟨(c, i), fun q hq => by cases hq; exact h⟩
    | 13 =>
      obtain ⟨c, i, h⟩ := u_known (C := RX15) (T := TX15) (N := 5) (n := 5) hB uX15 (hts _ (List.mem_of_getElem? (i := 1358) (by decide +kernel)))
      exact ⟨(c, i), fun q hq => by cases hq; exact h⟩
    | 14 =>
      obtain ⟨c, i, h⟩ := u_known (C := RX16) (T := TX16) (N := 4) (n := 4) hB uX16 (hts _ (List.mem_of_getElem? (i := 1401) (by decide +kernel)))
      exact ⟨(c, i), fun q hq => by cases hq; exact h⟩
    | 15 =>
      obtain ⟨c, i, h⟩ := u_known (C := RX17) (T := TX17) (N := 3) (n := 3) hB uX17 (hts _ (List.mem_of_getElem? (i := 1390) (by decide +kernel)))
      exact ⟨(c, i), fun q hq => by cases hq; exact h⟩
    | 16 =>
      obtain ⟨c, i, h⟩ := u_known (C := RX18) (T := TX18) (N := 11) (n := 11) hB uX18 (hts _ (List.mem_of_getElem? (i := 1132) (by decide +kernel)))
      exact ⟨(c, i), fun q hq => by cases hq; exact h⟩
    | k + 17 => exact ⟨(0, fun _ => 0), fun q hq => by simp at hq⟩
  obtain ⟨g, hg⟩ := Classical.axiomOfChoice key
  obtain ⟨c0, a0, b0⟩ := arr_prim (ty := .int) (hts _ (List.mem_of_getElem? (i := 111) (by decide +kernel)))
  obtain ⟨c1, a1, b1⟩ := arr_prim (ty := .boolean) (hts _ (List.mem_of_getElem? (i := 173) (by decide +kernel)))
  obtain ⟨c2, a2, b2⟩ := arr_prim (ty := .byte) (hts _ (List.mem_of_getElem? (i := 73) (by decide +kernel)))
  obtain ⟨c3, a3, b3⟩ := arr_prim (ty := .long) (hts _ (List.mem_of_getElem? (i := 112) (by decide +kernel)))
  obtain ⟨comp4, c4, k4, d14, -, d34, d44, d54⟩ := Cond.arrayOver_spec (n := "WeatherTea$Kind") (args := args) (first := s) (o := none) (s := s) (idx := []) (hts _ (List.mem_of_getElem? (i := 81) (by decide +kernel)))
  obtain ⟨comp5, c5, k5, d15, -, d35, d45, d55⟩ := Cond.arrayOver_spec (n := "WeatherTeaLaw$Front") (args := args) (first := s) (o := none) (s := s) (idx := []) (hts _ (List.mem_of_getElem? (i := 1138) (by decide +kernel)))
  obtain ⟨comp6, c6, k6, d16, -, d36, d46, d56⟩ := Cond.arrayOver_spec (n := "WeatherTeaLaw$Guest") (args := args) (first := s) (o := none) (s := s) (idx := []) (hts _ (List.mem_of_getElem? (i := 1140) (by decide +kernel)))
  obtain ⟨comp7, c7, k7, d17, -, d37, d47, d57⟩ := Cond.arrayOver_spec (n := "WeatherTeaLaw$Order") (args := args) (first := s) (o := none) (s := s) (idx := []) (hts _ (List.mem_of_getElem? (i := 1142) (by decide +kernel)))
  refine ⟨(fun k => (g k).1, fun k => (g k).2), fun i => [c0, c1, c2, c3, c4, c5, c6, c7].getD i 0, fun k q hq => hg k q hq, fun k q hq => ?_⟩
  match k, hq with
  | 0, hq => cases hq; exact ⟨a0, b0⟩
  | 1, hq => cases hq; exact ⟨a1, b1⟩
  | 2, hq => cases hq; exact ⟨a2, b2⟩
  | 3, hq => cases hq; exact ⟨a3, b3⟩
  | 4, hq => cases hq; exact ⟨fun n z => ⟨fun k h => (by cases h), k4, d34, comp4, d44⟩, k4, comp4, d34, d44, d14, d54⟩
  | 5, hq => cases hq; exact ⟨fun n z => ⟨fun k h => (by cases h), k5, d35, comp5, d45⟩, k5, comp5, d35, d45, d15, d55⟩
  | 6, hq => cases hq; exact ⟨fun n z => ⟨fun k h => (by cases h), k6, d36, comp6, d46⟩, k6, comp6, d36, d46, d16, d56⟩
  | 7, hq => cases hq; exact ⟨fun n z => ⟨fun k h => (by cases h), k7, d37, comp7, d47⟩, k7, comp7, d37, d47, d17, d57⟩
  | k + 8, hq => simp at hq
