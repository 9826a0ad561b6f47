/-! contracts over more cells, in another order -/
theorem va_A_perm {w w' : va_W} (h : w.Perm w') {n q : Nat} : va_A w n q ↔ va_A w' n q := by
  have key : ∀ {u u' : va_W}, u.Perm u' → va_A u n q → va_A u' n q := fun {u u'} hp hq => by
    rcases hq with ⟨i, x, hx⟩ | hq
    · obtain ⟨j, hj⟩ := List.getElem?_of_mem (hp.mem_iff.mp (List.mem_of_getElem? hx))
      exact Or.inl ⟨j, x, hj⟩
    · exact Or.inr hq
  exact ⟨key h, key h.symm⟩
theorem va_A_eq {w w' : va_W} (h : w.Perm w') (n : Nat) : va_A w n = va_A w' n := funext fun q => propext (va_A_perm h)
theorem va_P_mem {D : va_G} {cl : List vw_C} {w w' : va_W} {H : Heap} (hm : ∀ q ∈ w', q ∈ w) (h : va_P D cl w H) : va_P D cl w' H := fun i q hq => by
  obtain ⟨j, hj⟩ := List.getElem?_of_mem (hm q (List.mem_of_getElem? hq))
  exact h j q hj
theorem va_D_perm {A : Nat → Prop} {w w' : va_W} (hp : w.Perm w') (h : va_D A w) : va_D A w' := by
  have hn := (hp.map (·.1)).nodup_iff.mp h.nodup
  refine ⟨fun i j x y hx hy hxy => ?_, fun i q hq => ?_⟩
  · have h1 : (w'.map (·.1))[i]? = some x.1 := by rw [List.getElem?_map, hx]; rfl
    have h2 : (w'.map (·.1))[j]? = some x.1 := by rw [List.getElem?_map, hy]; exact congrArg some hxy.symm
    have l1 := (List.getElem?_eq_some_iff.mp h1).1
    exact (List.getElem?_inj l1 hn).mp (h1.trans h2.symm)
  · obtain ⟨j, hj⟩ := List.getElem?_of_mem (hp.mem_iff.mpr (List.mem_of_getElem? hq))
    exact h.2 j q hj
theorem va_D_mono {A B : Nat → Prop} {w : va_W} (hAB : ∀ q, A q → B q) (h : va_D A w) : va_D B w := ⟨h.1, fun i q hq => hAB _ (h.2 i q hq)⟩
theorem va_D_left {A : Nat → Prop} {w w2 : va_W} (h : va_D A (w ++ w2)) : va_D A w := ⟨fun i j x y hx hy => h.1 i j x y (by rw [List.getElem?_append_left (List.getElem?_eq_some_iff.mp hx).1]; exact hx) (by rw [List.getElem?_append_left (List.getElem?_eq_some_iff.mp hy).1]; exact hy), fun i q hq => h.2 i q (by rw [List.getElem?_append_left (List.getElem?_eq_some_iff.mp hq).1]; exact hq)⟩
theorem va_A_app {w w2 : va_W} {n q : Nat} (h : va_A w n q) : va_A (w ++ w2) n q := by
  rcases h with ⟨i, x, hx⟩ | h
  · exact Or.inl ⟨i, x, by rw [List.getElem?_append_left (List.getElem?_eq_some_iff.mp hx).1]; exact hx⟩
  · exact Or.inr h
section FRAME
variable {Res : Type} {SF : (Nat → Prop) → State → Heap → Prop} {l : Launch} {D : va_G} {T : Nat → ClassId} {y : MethodName} {cc : ByteArray} {maxL : Nat} {ret : Option FieldType} {rm : Room} {As : List Value} {wc wc' : va_W} {vf : Res → Option Value} {wf wf' : Res → va_W} {P : Res → Prop} {mc ms : Nat}
theorem SxKP.perm (h : SxKP SF l D T y cc maxL ret rm As wc vf wf P mc ms) (hw : wc.Perm wc') (hf : ∀ r, P r → (wf r).Perm (wf' r)) : SxKP SF l D T y cc maxL ret rm As wc' vf wf' P mc ms := by
  intro sz
  have e := va_A_eq hw sz
  have h0 := h sz
  rw [e] at h0
  refine MetFree.mono h0 (fun a s q => ?_) (fun _ _ _ _ _ q => q) (fun a s o t hp q => ?_)
  · obtain ⟨q1, q2, q3, q4, q5, q6⟩ := q
    exact ⟨q1, q2, va_P_mem (fun z hz => hw.mem_iff.mp hz) q3, q4, va_D_perm hw.symm q5, by rw [e]; exact q6⟩
  · obtain ⟨⟨r, hr, q1, ⟨q2, q3⟩, q4⟩, q5⟩ := q
    exact ⟨⟨r, hr, q1, ⟨va_P_mem (fun z hz => (hf r hr).mem_iff.mpr hz) q2, va_D_perm (hf r hr) q3⟩, q4⟩, q5⟩
theorem SxKP.frame (hok : SFok SF) (h : SxKP SF l D T y cc maxL ret rm As wc vf wf P mc ms) (wr : va_W) : SxKP SF l D T y cc maxL ret rm As (wc ++ wr) vf (fun r => wf r ++ wr) P mc ms := by
  intro sz
  refine MetFree.mono (h sz) (fun a s q => ?_) (fun _ _ _ _ _ q => q) (fun a s o t hp q => ?_)
  · obtain ⟨q1, q2, q3, q4, q5, q6⟩ := q
    exact ⟨q1, q2, va_P_mem (fun z hz => List.mem_append_left _ hz) q3, q4, va_D_left q5, hok.2.2.2 _ _ _ _ (fun z hz => va_A_app hz) q6⟩
  · obtain ⟨p1, p2, p3, p4, p5, p6⟩ := hp
    obtain ⟨⟨r, hr, q1, ⟨q2, q3⟩, q4⟩, L, q5, q6⟩ := q
    have hs : s.heap.size = sz := p2
    subst hs
    obtain ⟨b1, b2⟩ := sx_back (A0 := va_A (wc ++ wr) s.heap.size) p3 ⟨p5.1, fun i z hz => Or.inl ⟨i, z.2, hz⟩⟩ (fun z hz => Or.inr hz) q4.2 q2 q3
    exact ⟨⟨r, hr, q1, ⟨b1, b2⟩, ⟨q4.1, fun z h1 h2 => q4.2 z h1 (fun h3 => h2 (va_A_app h3))⟩⟩, L, q5, fun z hz => va_A_app (q6 z hz)⟩
end FRAME
theorem perm_idx {ws ws' : va_W} (is : List Nat) (hp : is.isPerm (List.range ws.length) = true) (h : is.map (fun i => ws[i]?) = ws'.map some) : ws.Perm ws' := by
  have h1 := (List.isPerm_iff.mp hp).map (fun i => ws[i]?)
  have h2 : (List.range ws.length).map (fun i => ws[i]?) = ws.map some := by
    apply List.ext_getElem?
    intro j
    rw [List.getElem?_map, List.getElem?_map]
    by_cases hj : j < ws.length
    · rw [List.getElem?_range hj, List.getElem?_eq_getElem hj]
      show some (ws[j]?) = _
      rw [List.getElem?_eq_getElem hj]
      rfl
    · rw [List.getElem?_eq_none (by rw [List.length_range]; omega), List.getElem?_eq_none (by omega)]
      rfl
  rw [h, h2] at h1
  have h3 := h1.filterMap id
  have h4 : ∀ u : va_W, (u.map some).filterMap id = u := fun u => by
    induction u with
    | nil => rfl
    | cons a u ih => simp
  rw [h4, h4] at h3
  exact h3.symm
