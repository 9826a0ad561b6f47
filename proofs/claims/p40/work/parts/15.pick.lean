/-! a world behind a call, place by place; a switch's default -/
theorem sxPatch_len : ∀ (is : List Nat) (ws wc : va_W), (sxPatch ws is wc).length = ws.length := by
  intro is
  induction is with
  | nil => intro ws wc; cases wc <;> rfl
  | cons i is ih =>
    intro ws wc
    cases wc with
    | nil => rfl
    | cons x xs => exact (ih (ws.set i x) xs).trans List.length_set
def sxPk (ws w1 : va_W) (q : Bool × Nat) : Option (Nat × va_E) := match q with
  | (true, p) => w1[p]?
  | (false, j) => ws[j]?
def sxOk (isC : List Nat) (sel : List (Bool × Nat)) : Bool := (List.range sel.length).all (fun j => match sel[j]? with
  | some (true, p) => isC[p]? == some j && (List.range isC.length).all (fun r => r == p || !(isC[r]? == some j))
  | some (false, i) => i == j && !isC.contains j
  | none => false)
theorem sxPatch_pk {ws w1 ws' : va_W} {isC : List Nat} (sel : List (Bool × Nat)) (hok : sxOk isC sel = true) (hN : ws.length = sel.length) (hl : isC.length = w1.length) (hw : sel.map (sxPk ws w1) = ws'.map some) : sxPatch ws isC w1 = ws' := by
  have hlen : ws'.length = sel.length := by
    have h1 := congrArg List.length hw
    simp only [List.length_map] at h1
    exact h1.symm
  apply List.ext_getElem?
  intro j
  by_cases hj : j < sel.length
  · have hp : ∃ q, (sxPatch ws isC w1)[j]? = some q := ⟨_, List.getElem?_eq_getElem (by rw [sxPatch_len, hN]; exact hj)⟩
    obtain ⟨q, hq⟩ := hp
    have hx : ∃ x, ws'[j]? = some x := ⟨_, List.getElem?_eq_getElem (by rw [hlen]; exact hj)⟩
    obtain ⟨x, hx⟩ := hx
    have hs : ∃ s, sel[j]? = some s := ⟨_, List.getElem?_eq_getElem hj⟩
    obtain ⟨s, hs⟩ := hs
    have hwj : sxPk ws w1 s = some x := by
      have h1 := congrArg (fun z => z[j]?) hw
      simp only [List.getElem?_map, hs, hx, Option.map_some] at h1
      exact Option.some.inj h1
    have hc := List.all_eq_true.mp hok j (List.mem_range.mpr hj)
    rw [hs] at hc
    rw [hq, hx]
    rcases s with ⟨b, p⟩
    cases b with
    | true =>
      have hc2 : (isC[p]? == some j && (List.range isC.length).all (fun r => r == p || !(isC[r]? == some j))) = true := hc
      rw [Bool.and_eq_true] at hc2
      have hw2 : w1[p]? = some x := hwj
      rcases sxPatch_at isC w1 ws j q hq with ⟨r, h1, h2⟩ | ⟨h1, h2⟩
      · have hr := List.all_eq_true.mp hc2.2 r (List.mem_range.mpr (List.getElem?_eq_some_iff.mp h1).1)
        have e : r = p := by
          rcases Bool.or_eq_true _ _ |>.mp hr with h | h
          · exact eq_of_beq h
          · rw [h1] at h
            simp at h
        subst e
        exact h2.symm.trans hw2
      · rcases h1 with h1 | h1
        · exact absurd (List.mem_of_getElem? (eq_of_beq hc2.1)) h1
        · exact absurd hl h1
    | false =>
      have hc2 : (p == j && !isC.contains j) = true := hc
      rw [Bool.and_eq_true] at hc2
      have e : p = j := eq_of_beq hc2.1
      subst e
      have hw2 : ws[p]? = some x := hwj
      rcases sxPatch_at isC w1 ws p q hq with ⟨r, h1, h2⟩ | ⟨h1, h2⟩
      · have h3 : isC.contains p = true := List.contains_iff_mem.mpr (List.mem_of_getElem? h1)
        rw [h3] at hc2
        cases hc2.2
      · exact h2.symm.trans hw2
  · rw [List.getElem?_eq_none (by rw [sxPatch_len]; omega), List.getElem?_eq_none (by omega)]
theorem sx_tabd {lo hi off : Int} {offs : Array Int} (vals : List Int32) (x : Int32) (hck : (List.range (hi - lo + 1).toNat).all (fun j => decide (offs[j]? = some off) || (vals.map Int32.toInt).contains (lo + (j : Int))) = true) (hx : ∀ v ∈ vals, ¬ x = v) : SxTab lo hi offs off x := by
  by_cases h1 : x.toInt < lo
  · exact Or.inl (Or.inl h1)
  · by_cases h2 : hi < x.toInt
    · exact Or.inl (Or.inr h2)
    · refine Or.inr ⟨h1, h2, ?_⟩
      have h3 := List.all_eq_true.mp hck (x.toInt - lo).toNat (List.mem_range.mpr (by omega))
      rcases Bool.or_eq_true _ _ |>.mp h3 with h | h
      · exact of_decide_eq_true h
      · obtain ⟨v, hv, e⟩ := List.mem_map.mp (List.contains_iff_mem.mp h)
        exact absurd (Int32.toInt_inj.mp (by omega)) (hx v hv)
