/-! which tokens the class takes for a test -/
/-- what holds of the answer, if there is one -/
def AL {α : Type} (Q : α → Prop) (o : Option α) : Prop := ∀ r, o = some r → Q r
theorem AL_none {α : Type} {Q : α → Prop} : AL Q none := fun _ e => nomatch e
theorem AL_some {α : Type} {Q : α → Prop} {r : α} (h : Q r) : AL Q (some r) := fun r' e => by cases e; exact h
theorem AL_any {α : Type} {o : Option α} : AL (fun _ => True) o := fun _ _ => trivial
theorem AL_bind {α β : Type} {P : α → Prop} {Q : β → Prop} {o : Option α} {κ : α → Option β} (h : AL P o) (k : ∀ u, P u → AL Q (κ u)) : AL Q (o.bind κ) := by
  intro r e
  cases o with
  | none => exact nomatch e
  | some u => exact k u (h u rfl) r e
theorem AL_if {α : Type} {Q : α → Prop} {c : Prop} {i : Decidable c} {a b : Option α} (h1 : c → AL Q a) (h2 : ¬ c → AL Q b) : AL Q (@ite _ c i a b) := by
  by_cases e : c
  · rw [if_pos e]; exact h1 e
  · rw [if_neg e]; exact h2 e
theorem AL_iter {S R : Type} {body : S → Option (S ⊕ R)} {I : S → Prop} {Q : R → Prop} (h : ∀ s, I s → AL (Sum.elim I Q) (body s)) : ∀ (n : Nat) (s : S), I s → AL Q (iter body n s)
  | 0, _, _ => fun _ e => nomatch e
  | n + 1, s, hs => by
    intro r e
    cases hb : body s with
    | none =>
      rw [iter_none hb] at e
      exact nomatch e
    | some u =>
      have hu := h s hs u hb
      cases u with
      | inl s' =>
        rw [iter_inl hb] at e
        exact AL_iter h n s' hu r e
      | inr r' =>
        rw [iter_inr hb] at e
        cases e
        exact hu
/-- a token of a test -/
def ttk (k : Nat) : Prop := k ≠ 0 ∧ k ≠ 7 ∧ k ≠ 11 ∧ k ≠ 12 ∧ k ≠ 13 ∧ k ≠ 14
/-- .. behind which a name stands -/
def tns (k : Nat) : Prop := k = 23 ∨ k = 24 ∨ k = 25 ∨ k = 26
def PB (K : Nat → Nat) (t c0 : Nat) (cu : Int32) : Prop := ∃ c, cu = nI c ∧ c0 ≤ c ∧ c ≤ t ∧ ∀ j, c0 ≤ j → j < c → ttk (K j)
def PS (K : Nat → Nat) (t c0 : Nat) (cu : Int32) : Prop := ∃ c, cu = nI c ∧ c0 ≤ c ∧ c ≤ t ∧ ∀ j, c0 ≤ j → j < c → ttk (K j) ∧ (tns (K j) → j + 1 < c → K (j + 1) = 47)
def PA (K : Nat → Nat) (t c0 : Nat) (cu : Int32) : Prop := ∃ c, cu = nI c ∧ c0 ≤ c ∧ c ≤ t ∧ ∀ j, c0 ≤ j → j < c → ttk (K j) ∧ (tns (K j) → K (j + 1) = 47)
def PR (K : Nat → Nat) (t c0 : Nat) (b cu : Int32) : Prop := PB K t c0 cu ∧ (b ≠ 0 → PA K t c0 cu)
theorem PS_B {K : Nat → Nat} {t c0 : Nat} {cu : Int32} (h : PS K t c0 cu) : PB K t c0 cu := by
  obtain ⟨c, h1, h2, h3, h4⟩ := h
  exact ⟨c, h1, h2, h3, fun j a b => (h4 j a b).1⟩
theorem PA_S {K : Nat → Nat} {t c0 : Nat} {cu : Int32} (h : PA K t c0 cu) : PS K t c0 cu := by
  obtain ⟨c, h1, h2, h3, h4⟩ := h
  exact ⟨c, h1, h2, h3, fun j a b => ⟨(h4 j a b).1, fun x _ => (h4 j a b).2 x⟩⟩
theorem PA_B {K : Nat → Nat} {t c0 : Nat} {cu : Int32} (h : PA K t c0 cu) : PB K t c0 cu := PS_B (PA_S h)
theorem PR_0 {K : Nat → Nat} {t c0 : Nat} {cu : Int32} (h : PB K t c0 cu) : PR K t c0 0 cu := ⟨h, fun q => absurd rfl q⟩
theorem PR_A {K : Nat → Nat} {t c0 : Nat} {b cu : Int32} (h : PA K t c0 cu) : PR K t c0 b cu := ⟨PA_B h, fun _ => h⟩
theorem smap_v0 : ∀ k : Nat, k < 52 → smap k ∈ ([6, 7, 8, 9, 10, 11, 12, 13, 17, 18] : List Int32) → k ∉ ([0, 7, 11, 12, 13, 14, 23, 24, 25, 26, 49, 50, 51] : List Nat) := by decide +kernel
theorem smap_s0 : ∀ k : Nat, k < 52 → smap k ∈ ([3, 4, 5] : List Int32) → k ∉ ([0, 7, 11, 12, 13, 14, 49, 50, 51] : List Nat) := by decide +kernel
theorem smap_v (k : Nat) (hk : k < 52) (h : smap k = 6 ∨ smap k = 7 ∨ smap k = 8 ∨ smap k = 9 ∨ smap k = 10 ∨ smap k = 11 ∨ smap k = 12 ∨ smap k = 13 ∨ smap k = 17 ∨ smap k = 18) : k < 49 ∧ ttk k ∧ ¬ tns k := by
  have q := smap_v0 k hk (by simpa using h)
  simp only [List.mem_cons, List.not_mem_nil, or_false, not_or] at q
  unfold ttk tns
  omega
theorem smap_s (k : Nat) (hk : k < 52) (h : smap k = 3 ∨ smap k = 4 ∨ smap k = 5) : k < 49 ∧ ttk k := by
  have q := smap_s0 k hk (by simpa using h)
  simp only [List.mem_cons, List.not_mem_nil, or_false, not_or] at q
  unfold ttk
  omega
section P44
variable {n : Nat} {K : Nat → Nat} {kd sT : Nat → Int32} {vT : Nat → Int64} {t c0 : Nat} {e1 e2 : Int32}
theorem AL_take (hK : TKO K kd t) {cu : Int32} {k : Nat} (h : PA K t c0 cu) (hk2 : k < 49 ∧ ttk k ∧ ¬ tns k) : AL (fun u => PA K t c0 u.2) (f_X11_take k (K, sT, vT, nI (t + 1), cu, e1, e2)) := by
  obtain ⟨c, rfl, h2, h3, h4⟩ := h
  rw [c_take hK h3 (by omega)]
  by_cases e : K c = k
  · rw [if_pos e]
    have hlt : c < t := lt_of_K hK h3 (by omega)
    refine AL_some ⟨c + 1, rfl, by omega, by omega, fun j a b => ?_⟩
    rcases Nat.lt_or_ge j c with q | q
    · exact h4 j a q
    · have q2 : j = c := by omega
      rw [q2, e]
      exact ⟨hk2.2.1, fun z => absurd z hk2.2.2⟩
  · rw [if_neg e]
    exact AL_some ⟨c, rfl, h2, h3, h4⟩
theorem AL_takeS (hK : TKO K kd t) {cu : Int32} {k : Nat} (h : PA K t c0 cu) (hk2 : k < 49 ∧ ttk k) : AL (fun u => PS K t c0 u.2) (f_X11_take k (K, sT, vT, nI (t + 1), cu, e1, e2)) := by
  obtain ⟨c, rfl, h2, h3, h4⟩ := h
  rw [c_take hK h3 (by omega)]
  by_cases e : K c = k
  · rw [if_pos e]
    have hlt : c < t := lt_of_K hK h3 (by omega)
    refine AL_some ⟨c + 1, rfl, by omega, by omega, fun j a b => ?_⟩
    rcases Nat.lt_or_ge j c with q | q
    · exact ⟨(h4 j a q).1, fun z _ => (h4 j a q).2 z⟩
    · have q2 : j = c := by omega
      rw [q2]
      exact ⟨by rw [e]; exact hk2.2, fun z z2 => by omega⟩
  · rw [if_neg e]
    exact AL_some (PA_S ⟨c, rfl, h2, h3, h4⟩)
theorem AL_takeN (hK : TKO K kd t) {cu : Int32} (h : PS K t c0 cu) : AL (fun u => PR K t c0 u.1 u.2) (f_X11_take 47 (K, sT, vT, nI (t + 1), cu, e1, e2)) := by
  obtain ⟨c, rfl, h2, h3, h4⟩ := h
  rw [c_take hK h3 (by omega)]
  by_cases e : K c = 47
  · rw [if_pos e]
    have hlt : c < t := lt_of_K hK h3 (by omega)
    refine AL_some (PR_A ⟨c + 1, rfl, by omega, by omega, fun j a b => ?_⟩)
    rcases Nat.lt_or_ge j c with q | q
    · refine ⟨(h4 j a q).1, fun z => ?_⟩
      rcases Nat.lt_or_ge (j + 1) c with q3 | q3
      · exact (h4 j a q).2 z q3
      · have q4 : j + 1 = c := by omega
        rw [q4]
        exact e
    · have q2 : j = c := by omega
      rw [q2, e]
      exact ⟨⟨by omega, by omega, by omega, by omega, by omega, by omega⟩, fun z => by rcases z with z | z | z | z <;> omega⟩
  · rw [if_neg e]
    exact AL_some (PR_0 (PS_B ⟨c, rfl, h2, h3, h4⟩))
theorem AL_next (hK : TKO K kd t) {cu : Int32} (h : PA K t c0 cu) : AL (fun u => True) (f_X11_next (K, sT, vT, nI (t + 1), cu, e1, e2)) := AL_any
/-- .. then what comes behind it -/
abbrev rT : Type := Int32 × Int32 × (Nat → Nat) × (Nat → Int32) × Int32
theorem AL_ri {β : Type} {Q : β → Prop} {o : Option rT} {a b : rT → Option β} {i : ∀ u : rT, Decidable (u.1 = 0)} (h : AL (fun u => PR K t c0 u.1 u.2.1) o) (k0 : ∀ u, PB K t c0 u.2.1 → AL Q (a u)) (k1 : ∀ u, PA K t c0 u.2.1 → AL Q (b u)) : AL Q (o.bind fun u => @ite _ (u.1 = 0) (i u) (a u) (b u)) := by
  refine AL_bind h fun u hu => ?_
  by_cases e : u.1 = 0
  · rw [if_pos e]; exact k0 u hu.1
  · rw [if_neg e]; exact k1 u (hu.2 e)
theorem AL_ti (hK : TKO K kd t) {β : Type} {Q : β → Prop} {cu : Int32} {k : Nat} (h : PA K t c0 cu) (hk2 : k < 49 ∧ ttk k ∧ ¬ tns k) {κ : Int32 × Int32 → Option β} (k1 : ∀ u : Int32 × Int32, PA K t c0 u.2 → AL Q (κ u)) : AL Q ((f_X11_take k (K, sT, vT, nI (t + 1), cu, e1, e2)).bind κ) := AL_bind (AL_take hK h hk2) k1
theorem AL_tn (hK : TKO K kd t) {β : Type} {Q : β → Prop} {cu : Int32} {a b : Int32 × Int32 → Option β} {i : ∀ u : Int32 × Int32, Decidable (u.1 = 0)} (h : PS K t c0 cu) (k0 : ∀ u : Int32 × Int32, PB K t c0 u.2 → AL Q (a u)) (k1 : ∀ u : Int32 × Int32, PA K t c0 u.2 → AL Q (b u)) : AL Q ((f_X11_take 47 (K, sT, vT, nI (t + 1), cu, e1, e2)).bind fun u => @ite _ (u.1 = 0) (i u) (a u) (b u)) := by
  refine AL_bind (AL_takeN hK h) fun u hu => ?_
  by_cases e : u.1 = 0
  · rw [if_pos e]; exact k0 u hu.1
  · rw [if_neg e]; exact k1 u (hu.2 e)
theorem AL_s0 {cu : Int32} {x : (Nat → Nat) × (Nat → Int32) × Int32} (h : PB K t c0 cu) : AL (fun r : rT => PR K t c0 r.1 r.2.1) (some ((0 : Int32), cu, x)) := AL_some (PR_0 h)
theorem AL_sA {b cu : Int32} {x : (Nat → Nat) × (Nat → Int32) × Int32} (h : PA K t c0 cu) : AL (fun r : rT => PR K t c0 r.1 r.2.1) (some (b, cu, x)) := AL_some (PR_A h)
end P44
