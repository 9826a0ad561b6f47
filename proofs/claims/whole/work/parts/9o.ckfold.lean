/-! the checker, along the tokens -/
abbrev ckT : Type := Int32 × Int32 × (Nat → Int64) × Int32 × Int32 × (Nat → Int64) × (Nat → Int32) × (Nat → Int32) × (Nat → Int32) × (Nat → Int32) × Int32 × (Nat → Int64) × (Nat → Int32) × (Nat → Int32) × (Nat → Int32) × (Nat → Int32) × Int32
abbrev ckR : Type := (Nat → Int64) × Int32 × Int32 × (Nat → Int64) × (Nat → Int32) × (Nat → Int32) × (Nat → Int32) × (Nat → Int32) × Int32 × (Nat → Int64) × (Nat → Int32) × (Nat → Int32) × (Nat → Int32) × (Nat → Int32) × Int32
def ckS (w i : Int32) (V : Nat → Int64) (e e2 : Int32) (F : bX2) (G : bX4) : ckT := (w, i, V, e, e2, F.1, F.2.1, F.2.2.1, F.2.2.2.1, F.2.2.2.2.1, F.2.2.2.2.2, G.1, G.2.1, G.2.2.1, G.2.2.2.1, G.2.2.2.2.1, G.2.2.2.2.2)
def ckE (V : Nat → Int64) (e e2 : Int32) (F : bX2) (G : bX4) : ckR := (V, e, e2, F.1, F.2.1, F.2.2.1, F.2.2.2.1, F.2.2.2.2.1, F.2.2.2.2.2, G.1, G.2.1, G.2.2.1, G.2.2.2.1, G.2.2.2.2.1, G.2.2.2.2.2)
def ckB (n : Nat) (X : bX11) (B1 : bX2) (B2 : bX4) (s : ckT) : Option (ckT ⊕ ckR) := f_X1_check_L4 n X B1 B2 s.1 s.2.1 s.2.2.1 s.2.2.2.1 s.2.2.2.2.1 s.2.2.2.2.2.1 s.2.2.2.2.2.2.1 s.2.2.2.2.2.2.2.1 s.2.2.2.2.2.2.2.2.1 s.2.2.2.2.2.2.2.2.2.1 s.2.2.2.2.2.2.2.2.2.2.1 s.2.2.2.2.2.2.2.2.2.2.2.1 s.2.2.2.2.2.2.2.2.2.2.2.2.1 s.2.2.2.2.2.2.2.2.2.2.2.2.2.1 s.2.2.2.2.2.2.2.2.2.2.2.2.2.2.1 s.2.2.2.2.2.2.2.2.2.2.2.2.2.2.2.1 s.2.2.2.2.2.2.2.2.2.2.2.2.2.2.2.2
theorem ck_eq (n : Nat) (X : bX11) (B1 : bX2) (B2 : bX4) : f_X1_check n X B1 B2 = iter (ckB n X B1 B2) n (ckS 0 0 (X11_values X) (X11_error X) (X11_errorToken X) B1 B2) := rfl
section P49
variable {n : Nat} {K : Nat → Nat} {kd sT : Nat → Int32} {V vT : Nat → Int64} {t : Nat} {cu e1 e2 : Int32} {F F' : bX2} {G G' : bX4} {i c m g w w' : Nat} {eB : Int32} {B1 : bX2} {B2 : bX4} {V' : Nat → Int64} {a b : Nat → Nat}
/-- the checker has come to the token i without an error -/
def CKA (n : Nat) (K : Nat → Nat) (sT : Nat → Int32) (vT : Nat → Int64) (t : Nat) (cu eB : Int32) (B1 : bX2) (B2 : bX4) (w i : Nat) (V : Nat → Int64) (e2 : Int32) (F : bX2) (G : bX4) : Prop := f_X1_check n (K, sT, vT, nI (t + 1), cu, nI 0, eB) B1 B2 = iter (ckB n (K, sT, vT, nI (t + 1), cu, nI 0, eB) B1 B2) (n - i) (ckS (nI w) (nI i) V (nI 0) e2 F G)
/-- .. or has ended with one -/
def CKF (n : Nat) (K : Nat → Nat) (sT : Nat → Int32) (vT : Nat → Int64) (t : Nat) (cu eB : Int32) (B1 : bX2) (B2 : bX4) (E : Int32 × Int32) : Prop := ∃ (V : Nat → Int64) (F : bX2) (G : bX4), f_X1_check n (K, sT, vT, nI (t + 1), cu, nI 0, eB) B1 B2 = some (ckE V E.1 E.2 F G)
def CKX (n : Nat) (K : Nat → Nat) (sT : Nat → Int32) (vT : Nat → Int64) (t : Nat) (cu eB : Int32) (B1 : bX2) (B2 : bX4) (E : Int32 × Int32) (w i : Nat) (V : Nat → Int64) (F : bX2) (G : bX4) : Prop := (E.1 = nI 0 ∧ CKA n K sT vT t cu eB B1 B2 w i V E.2 F G) ∨ (E.1 ≠ nI 0 ∧ CKF n K sT vT t cu eB B1 B2 E)
theorem ck_err {X : bX11} {x y : Int32} {E : Int32 × Int32} (h : E.1 ≠ nI 0) : ckB n X B1 B2 (ckS x y V E.1 E.2 F G) = some (.inr (ckE V E.1 E.2 F G)) := by
  show f_X1_check_L4 n X B1 B2 x y V E.1 E.2 F.1 F.2.1 F.2.2.1 F.2.2.2.1 F.2.2.2.2.1 F.2.2.2.2.2 G.1 G.2.1 G.2.2.1 G.2.2.2.1 G.2.2.2.2.1 G.2.2.2.2.2 = _
  unfold f_X1_check_L4 ckE
  by_cases q : X11_count X ≤ y
  · rw [if_pos q]
  · rw [if_neg q, if_neg (show ¬ E.1 = 0 from h)]
theorem ckB_eq {X : bX11} {x y e e2 : Int32} : ckB n X B1 B2 (ckS x y V e e2 F G) = f_X1_check_L4 n X B1 B2 x y V e e2 F.1 F.2.1 F.2.2.1 F.2.2.2.1 F.2.2.2.2.1 F.2.2.2.2.2 G.1 G.2.1 G.2.2.1 G.2.2.2.1 G.2.2.2.2.1 G.2.2.2.2.2 := by
  unfold ckB ckS
  rfl
theorem ck_x {E : Int32 × Int32} (h : CKA n K sT vT t cu eB B1 B2 w i V e2 F G) (hn : i + 1 < n) (hb : f_X1_check_L4 n (K, sT, vT, nI (t + 1), cu, nI 0, eB) B1 B2 (nI w) (nI i) V (nI 0) e2 F.1 F.2.1 F.2.2.1 F.2.2.2.1 F.2.2.2.2.1 F.2.2.2.2.2 G.1 G.2.1 G.2.2.1 G.2.2.2.1 G.2.2.2.2.1 G.2.2.2.2.2 = some (.inl (nI w', nI (i + 1), V', E.1, E.2, F'.1, F'.2.1, F'.2.2.1, F'.2.2.2.1, F'.2.2.2.2.1, F'.2.2.2.2.2, G'.1, G'.2.1, G'.2.2.1, G'.2.2.2.1, G'.2.2.2.2.1, G'.2.2.2.2.2))) : CKX n K sT vT t cu eB B1 B2 E w' (i + 1) V' F' G' := by
  unfold CKA at h
  have hb' : ckB n (K, sT, vT, nI (t + 1), cu, nI 0, eB) B1 B2 (ckS (nI w) (nI i) V (nI 0) e2 F G) = some (.inl (ckS (nI w') (nI (i + 1)) V' E.1 E.2 F' G')) := ckB_eq.trans hb
  have e1 : n - i = (n - (i + 1)) + 1 := by omega
  have e2 : n - (i + 1) = (n - (i + 2)) + 1 := by omega
  rw [e1, iter_inl hb'] at h
  by_cases q : E.1 = nI 0
  · refine Or.inl ⟨q, ?_⟩
    rw [q] at h
    exact h
  · refine Or.inr ⟨q, V', F', G', ?_⟩
    rw [h, e2, iter_inr (ck_err q)]
def V1 (K : Nat → Nat) (kF kG : Nat → Int32) (V : Nat → Int64) (i : Nat) : Nat → Int64 := if K i = 11 ∨ K i = 24 ∨ K i = 26 then vp_updL V (i + 1) (Int32.toInt64 (kF (i + 1))) else if K i = 14 ∨ K i = 23 ∨ K i = 25 then vp_updL V (i + 1) (Int32.toInt64 (kG (i + 1))) else V
def VV (K : Nat → Nat) (kF kG : Nat → Int32) (V : Nat → Int64) (c : Nat) : Nat → Nat → Int64
  | 0 => V
  | l + 1 => V1 K kF kG (VV K kF kG V c l) (c + l)
theorem V1_else {kF kG : Nat → Int32} {j : Nat} (h : j ≠ i + 1) : V1 K kF kG V i j = V j := by
  unfold V1
  by_cases q : K i = 11 ∨ K i = 24 ∨ K i = 26
  · rw [if_pos q]; exact if_neg h
  · rw [if_neg q]
    by_cases q2 : K i = 14 ∨ K i = 23 ∨ K i = 25
    · rw [if_pos q2]; exact if_neg h
    · rw [if_neg q2]
theorem VV_else {kF kG : Nat → Int32} {j : Nat} : ∀ {l : Nat}, (j ≤ c ∨ c + l < j) → VV K kF kG V c l j = V j
  | 0, _ => rfl
  | l + 1, h => by
    show V1 K kF kG (VV K kF kG V c l) (c + l) j = V j
    rw [V1_else (by omega), VV_else (by omega)]
theorem VV_no {kF kG : Nat → Int32} {j : Nat} (hj : ¬ (K j = 11 ∨ K j = 24 ∨ K j = 26) ∧ ¬ (K j = 14 ∨ K j = 23 ∨ K j = 25)) : ∀ {l : Nat}, VV K kF kG V c l (j + 1) = V (j + 1)
  | 0 => rfl
  | l + 1 => by
    show V1 K kF kG (VV K kF kG V c l) (c + l) (j + 1) = V (j + 1)
    by_cases e : c + l = j
    · unfold V1
      rw [e, if_neg hj.1, if_neg hj.2, VV_no hj]
    · rw [V1_else (by omega), VV_no hj]
theorem VV_f {kF kG : Nat → Int32} {j : Nat} (hj : K j = 11 ∨ K j = 24 ∨ K j = 26) (h1 : c ≤ j) : ∀ {l : Nat}, j < c + l → VV K kF kG V c l (j + 1) = Int32.toInt64 (kF (j + 1))
  | 0, h => by omega
  | l + 1, h => by
    show V1 K kF kG (VV K kF kG V c l) (c + l) (j + 1) = _
    by_cases e : c + l = j
    · unfold V1
      rw [e, if_pos hj]
      exact if_pos rfl
    · rw [V1_else (by omega), VV_f hj h1 (by omega)]
theorem VV_g {kF kG : Nat → Int32} {j : Nat} (hj : K j = 14 ∨ K j = 23 ∨ K j = 25) (h1 : c ≤ j) : ∀ {l : Nat}, j < c + l → VV K kF kG V c l (j + 1) = Int32.toInt64 (kG (j + 1))
  | 0, h => by omega
  | l + 1, h => by
    show V1 K kF kG (VV K kF kG V c l) (c + l) (j + 1) = _
    by_cases e : c + l = j
    · unfold V1
      rw [e, if_neg (by omega), if_pos hj]
      exact if_pos rfl
    · rw [V1_else (by omega), VV_g hj h1 (by omega)]
theorem mkK_err {kF kG : Nat → Int32} {E : Int32 × Int32} (h : E.1 ≠ nI 0) : mkK K kF kG i E = E := by
  have h3 : ∀ j, mk3 j E = E := fun j => if_neg h
  unfold mkK
  rw [h3]
  by_cases q : (K i = 11 ∨ K i = 24 ∨ K i = 26) ∧ kF (i + 1) = -nI 1
  · rw [if_pos q]
  · rw [if_neg q]
    by_cases q : (K i = 14 ∨ K i = 23 ∨ K i = 25) ∧ kG (i + 1) = -nI 1
    · rw [if_pos q]
    · rw [if_neg q]
/-- the names, alike -/
def NMS (vT : Nat → Int64) (a b : Nat → Nat) (m g : Nat) (F : bX2) (G : bX4) : Prop := m ≤ 10 ∧ g ≤ 10 ∧ X2_count F = nI m ∧ X4_count G = nI g ∧ (∀ k, k < m → X2_names F k = vT (a k)) ∧ (∀ k, k < g → X4_names G k = vT (b k))
theorem nm_F {kF kG : Nat → Int32} {o : Option Nat} {e : Int32 × Int32} (h : K i = 11 ∨ K i = 24 ∨ K i = 26) (hk : kF (i + 1) = fI o) (ho : ∀ k, o = some k → k < 1000) : nmE (i + 1) o e = mkK K kF kG i e := by
  have e3 : (kF (i + 1) = -nI 1) ↔ o = none := by rw [hk, fI_ne ho]
  unfold nmE mkK
  by_cases q : o = none
  · rw [if_pos q, if_pos ⟨h, e3.2 q⟩]; rfl
  · rw [if_neg q, if_neg (fun z => q (e3.1 z.2)), if_neg (fun z => by rcases z.1 with z | z | z <;> omega)]
theorem nm_G {kF kG : Nat → Int32} {o : Option Nat} {e : Int32 × Int32} (h : K i = 14 ∨ K i = 23 ∨ K i = 25) (hk : kG (i + 1) = fI o) (ho : ∀ k, o = some k → k < 1000) : nmE (i + 1) o e = mkK K kF kG i e := by
  have e3 : (kG (i + 1) = -nI 1) ↔ o = none := by rw [hk, fI_ne ho]
  unfold nmE mkK
  rw [if_neg (fun z : (K i = 11 ∨ K i = 24 ∨ K i = 26) ∧ kF (i + 1) = -nI 1 => by rcases z.1 with z | z | z <;> omega)]
  by_cases q : o = none
  · rw [if_pos q, if_pos ⟨h, e3.2 q⟩]; rfl
  · rw [if_neg q, if_neg (fun z => q (e3.1 z.2))]
theorem fn_F (h : NMS vT a b m g F G) (hV : V (i + 1) = vT (i + 1)) : fnd (fun k => decide (X2_names F k = V (i + 1))) m = fnd (fun k => decide (vT (a k) = vT (i + 1))) m := fnd_congr (fun k hk => by rw [h.2.2.2.2.1 k hk, hV])
theorem fn_G (h : NMS vT a b m g F G) (hV : V (i + 1) = vT (i + 1)) : fnd (fun k => decide (X4_names G k = V (i + 1))) g = fnd (fun k => decide (vT (b k) = vT (i + 1))) g := fnd_congr (fun k hk => by rw [h.2.2.2.2.2 k hk, hV])
theorem fnd_k {p : Nat → Bool} (hm : m ≤ 10) : ∀ k, fnd p m = some k → k < 1000 := fun k h => by have := (fnd_some h).1; omega
end P49
