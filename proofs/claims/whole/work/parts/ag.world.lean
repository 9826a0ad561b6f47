theorem sf_kind {args : Array Value} {s : State} {A : Nat → Prop} (hs : ∀ w ∈ NV, w.before args s = true) (hts : ∀ w ∈ lw_tbl, w.before args s = true) (hA : ∀ a : Nat, a < s.heap.size → ¬ A a) (i : Nat) (hi : i < 52) : ∃ k tx ar : Nat, (nK i).eval args s none [] s = some (.ref k) ∧ (nS i).eval args s none [] s = some (.ref tx) ∧ va_Z "WeatherTea$Kind" (nmK.getD i "") "LWeatherTea$Kind;" (.ref k) A s s.heap ∧ va_O "WeatherTea$Kind" k A s s.heap ∧ va_OF "java/lang/Enum" "ordinal" "I" (.int (nI i)) k A s s.heap ∧ va_OF "WeatherTea$Kind" "text" "Ljava/lang/String;" (.ref tx) k A s s.heap ∧ va_O "java/lang/String" tx A s s.heap ∧ va_OF "java/lang/String" "coder" "B" (.int 0) tx A s s.heap ∧ va_OF "java/lang/String" "value" "[B" (.ref ar) tx A s s.heap ∧ va_T .byte ar (kln i) (fun j => .int (kby i j)) A s s.heap := by
  obtain ⟨k, c1, cA1, kA1, hk, -⟩ := Cond.exactly_spec (args := args) (first := s) (o := none) (s := s) (idx := []) (hs _ (nvE hi))
  obtain ⟨tx, c2, cA2, kA2, ht, -⟩ := Cond.exactly_spec (args := args) (first := s) (o := none) (s := s) (idx := []) (hs _ (nvX hi))
  obtain ⟨ar, har, hT⟩ := va_Tof (f := fun j => .int (kby i j)) (kln_s i hi) (hs _ (nvA hi)) (va_eqt (hs _ (nvN hi))) (fun j hj => va_eqt (hs _ (nvB hi hj))) hA
  exact ⟨k, tx, ar, hk, ht, va_Zof (hts _ (List.mem_of_getElem? (nvLS0 i hi))) (hts _ (List.mem_of_getElem? (i := 72) (by decide +kernel))) hk hA, va_Oof (hs _ (nvE hi)) hk hA, vk_OFof hk (va_eqt (hs _ (nvO hi))) hA, vk_OFof hk (va_eqv (hs _ (nvT hi)) ht) hA, va_Oof (hs _ (nvX hi)) ht hA, vk_OFof ht (va_eqt (hs _ (nvC hi))) hA, vk_OFof ht har hA, hT⟩
theorem sfNF_in : ∀ q ∈ sfNF, (.fieldLinkNest q.1 q.2.1 q.2.2.1 q.2.2.2.1 q.2.2.2.2.1 q.2.2.2.2.2 : Cond) ∈ lw_tbl := by decide +kernel
theorem sfNM_in : ∀ q ∈ sfNM, (.methodLinkNest q.1 q.2.1 q.2.2.1 q.2.2.2 : Cond) ∈ lw_tbl := by decide +kernel
theorem sfNC_in : ∀ q ∈ sfNC, (.castable q.1 q.2 : Cond) ∈ lw_tbl := by decide +kernel
theorem sfND_in : ∀ q ∈ sfND, (.declares q : Cond) ∈ lw_tbl := by decide +kernel
theorem sfNN_in : ∀ q ∈ sfNN, (.not (.castable q.1 q.2) : Cond) ∈ NV := by decide +kernel
theorem sfMs_in : ∀ q ∈ sfMs, (.stringRef "WeatherTea" q.1 q.2 : Cond) ∈ lw_tbl := by decide +kernel
theorem sfMs_ex : ∀ q ∈ sfMs, (.exactly (.string "WeatherTea" q.1) "java/lang/String" : Cond) ∈ NV := by decide +kernel
theorem sf_words {args : Array Value} {s : State} (hs : ∀ w ∈ NV, w.before args s = true) (hts : ∀ w ∈ lw_tbl, w.before args s = true) : sfW s := by
  refine ⟨fun q hq => va_Nw.of rfl (hts _ (sfNF_in q hq)), fun q hq => va_Nw.of rfl (hts _ (sfNM_in q hq)), fun q hq => va_Nw.of rfl (hts _ (sfNC_in q hq)), fun q hq => va_Nw.of rfl (hts _ (sfND_in q hq)), fun q hq => va_Nc.of (hs _ (sfNN_in q hq)), va_AO.of (hts _ (List.mem_of_getElem? (i := 128) (by decide +kernel))), fun q hq => ?_⟩
  obtain ⟨k, c1, cA1, kA1, hk, -⟩ := Cond.exactly_spec (args := args) (first := s) (o := none) (s := s) (idx := []) (hs _ (sfMs_ex q hq))
  exact ⟨k, vk_R.of (hts _ (sfMs_in q hq)) hk⟩
theorem sf_start {args : Array Value} {s : State} {A : Nat → Prop} (hs : ∀ w ∈ NV, w.before args s = true) (hts : ∀ w ∈ lw_tbl, w.before args s = true) (hA : ∀ a : Nat, a < s.heap.size → ¬ A a) : ∃ sd : SdT, SFx sd A s s.heap := by
  have key : ∀ i : Nat, ∃ x : Nat × Nat × Nat, i < 52 → ((nK i).eval args s none [] s = some (.ref x.1) ∧ (nS i).eval args s none [] s = some (.ref x.2.1) ∧ va_Z "WeatherTea$Kind" (nmK.getD i "") "LWeatherTea$Kind;" (.ref x.1) A s s.heap ∧ va_O "WeatherTea$Kind" x.1 A s s.heap ∧ va_OF "java/lang/Enum" "ordinal" "I" (.int (nI i)) x.1 A s s.heap ∧ va_OF "WeatherTea$Kind" "text" "Ljava/lang/String;" (.ref x.2.1) x.1 A s s.heap ∧ va_O "java/lang/String" x.2.1 A s s.heap ∧ va_OF "java/lang/String" "coder" "B" (.int 0) x.2.1 A s s.heap ∧ va_OF "java/lang/String" "value" "[B" (.ref x.2.2) x.2.1 A s s.heap ∧ va_T .byte x.2.2 (kln i) (fun j => .int (kby i j)) A s s.heap) := by
    intro i
    by_cases hi : i < 52
    · obtain ⟨k, tx, ar, h⟩ := sf_kind hs hts hA i hi
      exact ⟨(k, tx, ar), fun _ => h⟩
    · exact ⟨(0, 0, 0), fun h => absurd h hi⟩
  obtain ⟨f, hf⟩ := Classical.axiomOfChoice key
  obtain ⟨t1, h1, T1⟩ := va_Tof (ty := .object "WeatherTea$Kind") (N := 52) (f := fun j => .ref (f j).1) (by decide) (hs _ (List.mem_of_getElem? (i := 15) (by decide +kernel))) (va_eqt (hs _ (List.mem_of_getElem? (i := 16) (by decide +kernel)))) (fun j hj => va_eqv (hs _ (nvKD hj)) (hf j hj).1) hA
  obtain ⟨t2, h2, T2⟩ := va_Tof (ty := .int) (N := 52) (f := fun j => .int (smap j)) (by decide) (hs _ (List.mem_of_getElem? (i := 127) (by decide +kernel))) (va_eqt (hs _ (List.mem_of_getElem? (i := 128) (by decide +kernel)))) (fun j hj => va_eqt (hs _ (nvSM hj))) hA
  obtain ⟨t3, h3, T3⟩ := va_Tof (ty := .object "java/lang/String") (N := 32) (f := fun j => .ref (f (tkK j)).2.1) (by decide) (hs _ (List.mem_of_getElem? (i := 244) (by decide +kernel))) (va_eqt (hs _ (List.mem_of_getElem? (i := 245) (by decide +kernel)))) (fun j hj => va_eqv (hs _ (nvTD hj)) (by
    have ht := (hf (tkK j) (tkK_52 j hj)).2.1
    rcases nvS0 j hj with h | h
    · exact va_eqR (hs _ (List.mem_of_getElem? h)) ht
    · exact va_eqv (hs _ (List.mem_of_getElem? h)) ht)) hA
  refine ⟨(fun i => (f i).1, fun i => (f i).2.1, fun i => (f i).2.2, t1, t2, t3), fun i hi => (hf i hi).2.2, ⟨va_Zof (hts _ (List.mem_of_getElem? (i := 419) (by decide +kernel))) (hts _ (List.mem_of_getElem? (i := 68) (by decide +kernel))) h1 hA, T1, va_Zof (hts _ (List.mem_of_getElem? (i := 561) (by decide +kernel))) (hts _ (List.mem_of_getElem? (i := 91) (by decide +kernel))) h2 hA, T2, va_Zof (hts _ (List.mem_of_getElem? (i := 1383) (by decide +kernel))) (hts _ (List.mem_of_getElem? (i := 79) (by decide +kernel))) h3 hA, T3, va_Zof (hts _ (List.mem_of_getElem? (i := 433) (by decide +kernel))) (hts _ (List.mem_of_getElem? (i := 86) (by decide +kernel))) (va_eqi (hs _ (List.mem_of_getElem? (i := 70) (by decide +kernel)))) hA, va_Zqof (hts _ (List.mem_of_getElem? (i := 450) (by decide +kernel))) (hts _ (List.mem_of_getElem? (i := 88) (by decide +kernel))) (hs _ (List.mem_of_getElem? (i := 71) (by decide +kernel))) hA⟩, sf_words hs hts, ?_, ?_⟩
  · exact vx_Zqof (hts _ (List.mem_of_getElem? (i := 946) (by decide +kernel))) (hts _ (List.mem_of_getElem? (i := 81) (by decide +kernel))) (hs _ (List.mem_of_getElem? (i := 241) (by decide +kernel))) hA
  · exact vx_Zqof (hts _ (List.mem_of_getElem? (i := 948) (by decide +kernel))) (hts _ (List.mem_of_getElem? (i := 81) (by decide +kernel))) (hs _ (List.mem_of_getElem? (i := 242) (by decide +kernel))) hA
theorem arr_prim {args : Array Value} {s : State} {ty : FieldType} (h : (Cond.arrayClass ty).before args s = true) : ∃ cA : ClassId, ArrOfT s cA ty ∧ s.vm.findClass ("[" ++ ty.toString) = some cA := by
  obtain ⟨c, k, comp, h1, h2, h3⟩ := Cond.arrayClass_spec (args := args) (first := s) (o := none) (s := s) (idx := []) h
  exact ⟨c, fun n z => ⟨fun k h => (by cases h), k, h2, comp, h3⟩, h1⟩
theorem kn_all {args : Array Value} {s : State} (hts : ∀ w ∈ lw_tbl, w.before args s = true) : ∃ (D : va_G) (T : Nat → ClassId), va_K D vwCl (tyL T) s := by
  have hB : ∀ w ∈ BIG, w.before args s = true := fun w hw => hts w (List.mem_filter.mp hw).1
  have key : ∀ k : Nat, ∃ x : ClassId × (Nat → Nat), ∀ q : vw_C, vwCl[k]? = some q → u_Kn s q.1 q.2.1 q.2.2 x.1 x.2 := by
    intro k
    match k with
    | 0 =>
      obtain ⟨c, i, h⟩ := u_known (C := RX2) (T := TX2) (N := 6) (n := 6) hB uX2 (hts _ (List.mem_of_getElem? (i := 186) (by decide +kernel)))
      exact ⟨(c, i), fun q hq => by cases hq; exact h⟩
    | 1 =>
      obtain ⟨c, i, h⟩ := u_known (C := RX4) (T := TX4) (N := 6) (n := 6) hB uX4 (hts _ (List.mem_of_getElem? (i := 222) (by decide +kernel)))
      exact ⟨(c, i), fun q hq => by cases hq; exact h⟩
    | 2 =>
      obtain ⟨c, i, h⟩ := u_known (C := RX6) (T := TX6) (N := 8) (n := 8) hB uX6 (hts _ (List.mem_of_getElem? (i := 255) (by decide +kernel)))
      exact ⟨(c, i), fun q hq => by cases hq; exact h⟩
    | 3 =>
      obtain ⟨c, i, h⟩ := u_known (C := RX7) (T := TX7) (N := 3) (n := 3) hB uX7 (hts _ (List.mem_of_getElem? (i := 180) (by decide +kernel)))
      exact ⟨(c, i), fun q hq => by cases hq; exact h⟩
    | 4 =>
      obtain ⟨c, i, h⟩ := u_known (C := RX8) (T := TX8) (N := 13) (n := 13) hB uX8 (hts _ (List.mem_of_getElem? (i := 161) (by decide +kernel)))
      exact ⟨(c, i), fun q hq => by cases hq; exact h⟩
    | 5 =>
      obtain ⟨c, i, h⟩ := u_known (C := RX9) (T := TX9) (N := 2) (n := 2) hB uX9 (hts _ (List.mem_of_getElem? (i := 167) (by decide +kernel)))
      exact ⟨(c, i), fun q hq => by cases hq; exact h⟩
    | 6 =>
      obtain ⟨c, i, h⟩ := u_known (C := RX10) (T := TX10) (N := 2) (n := 2) hB uX10 (hts _ (List.mem_of_getElem? (i := 106) (by decide +kernel)))
      exact ⟨(c, i), fun q hq => by cases hq; exact h⟩
    | 7 =>
      obtain ⟨c, i, h⟩ := u_known (C := RX11) (T := TX11) (N := 7) (n := 7) hB uX11 (hts _ (List.mem_of_getElem? (i := 122) (by decide +kernel)))
      exact ⟨(c, i), fun q hq => by cases hq; exact h⟩
    | 8 =>
      obtain ⟨c, i, h⟩ := u_known (C := RX12) (T := TX12) (N := 6) (n := 6) hB uX12 (hts _ (List.mem_of_getElem? (i := 98) (by decide +kernel)))
      exact ⟨(c, i), fun q hq => by cases hq; exact h⟩
    | 9 =>
      obtain ⟨c, i, h⟩ := u_known (C := RX13) (T := TX13) (N := 20) (n := 20) hB uX13 (hts _ (List.mem_of_getElem? (i := 1174) (by decide +kernel)))
      exact ⟨(c, i), fun q hq => by cases hq; exact h⟩
    | 10 =>
      obtain ⟨c, i, h⟩ := u_known (C := RX14) (T := TX14) (N := 20) (n := 20) hB uX14 (hts _ (List.mem_of_getElem? (i := 1168) (by decide +kernel)))
      exact ⟨(c, i), fun q hq => by cases hq; exact h⟩
    | k + 11 => exact ⟨(0, fun _ => 0), fun q hq => by simp at hq⟩
  obtain ⟨g, hg⟩ := Classical.axiomOfChoice key
  obtain ⟨c0, a0, b0⟩ := arr_prim (ty := .int) (hts _ (List.mem_of_getElem? (i := 158) (by decide +kernel)))
  obtain ⟨c1, a1, b1⟩ := arr_prim (ty := .boolean) (hts _ (List.mem_of_getElem? (i := 220) (by decide +kernel)))
  obtain ⟨c2, a2, b2⟩ := arr_prim (ty := .byte) (hts _ (List.mem_of_getElem? (i := 120) (by decide +kernel)))
  obtain ⟨c3, a3, b3⟩ := arr_prim (ty := .long) (hts _ (List.mem_of_getElem? (i := 159) (by decide +kernel)))
  obtain ⟨comp, c4, k4, d1, -, d3, d4, d5⟩ := Cond.arrayOver_spec (n := "WeatherTea$Kind") (args := args) (first := s) (o := none) (s := s) (idx := []) (hts _ (List.mem_of_getElem? (i := 128) (by decide +kernel)))
  refine ⟨(fun k => (g k).1, fun k => (g k).2), fun i => [c0, c1, c2, c3, c4].getD i 0, fun k q hq => hg k q hq, fun k q hq => ?_⟩
  match k, hq with
  | 0, hq => cases hq; exact ⟨a0, b0⟩
  | 1, hq => cases hq; exact ⟨a1, b1⟩
  | 2, hq => cases hq; exact ⟨a2, b2⟩
  | 3, hq => cases hq; exact ⟨a3, b3⟩
  | 4, hq => cases hq; exact ⟨fun n z => ⟨fun k h => (by cases h), k4, d3, comp, d4⟩, k4, comp, d3, d4, d1, d5⟩
  | k + 5, hq => simp at hq
