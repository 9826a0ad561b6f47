/-! which tokens the class takes for a test: the readers -/
section P45
variable {n : Nat} {K : Nat → Nat} {kd sT : Nat → Int32} {vT : Nat → Int64} {t : Nat} {e1 e2 : Int32} {rec : Nat → Int32 → bX11 → bX6 → Option rT}
def RCA (K : Nat → Nat) (sT : Nat → Int32) (vT : Nat → Int64) (t : Nat) (e1 e2 : Int32) (rec : Nat → Int32 → bX11 → bX6 → Option rT) : Prop := ∀ (j : Nat) (x cur : Int32) (O : bX6) (c0 : Nat), PA K t c0 cur → AL (fun r => PR K t c0 r.1 r.2.1) (rec j x (K, sT, vT, nI (t + 1), cur, e1, e2) O)
theorem al_test (hK : TKO K kd t) (hr : RCA K sT vT t e1 e2 rec) {x cu : Int32} {O : bX6} {c0 : Nat} (h : PA K t c0 cu) : AL (fun r => PR K t c0 r.1 r.2.1) (f_X3_test n rec x (K, sT, vT, nI (t + 1), cu, e1, e2) O) := by
  unfold f_X3_test
  refine AL_bind (hr _ _ _ _ _ h) (fun u hu => ?_)
  refine AL_iter (I := fun s => PR K t c0 s.1 s.2.2.1) (fun s hs => ?_) _ _ hu
  unfold f_X3_test_L10
  refine AL_if (fun g => AL_if (fun g => AL_some hs) (fun g => AL_none)) (fun g => ?_)
  refine AL_if (fun g => AL_if (fun g => AL_some hs) (fun g => AL_none)) (fun g => ?_)
  have hA := hs.2 g
  refine AL_ti hK hA ⟨by omega, by unfold ttk; omega, by unfold tns; omega⟩ (fun u hu => ?_)
  refine AL_if (fun g => AL_if (fun g => AL_some (PR_A hu)) (fun g => AL_none)) (fun g => ?_)
  refine AL_ri (hr _ _ _ _ _ hu) (fun u hu => AL_some (PR_0 hu)) (fun u hu => ?_)
  refine AL_bind AL_any (fun v hv => ?_)
  exact AL_if (fun g => AL_some (PR_A hu)) (fun g => AL_some (PR_A hu))
theorem al_both (hK : TKO K kd t) (hr : RCA K sT vT t e1 e2 rec) {x cu : Int32} {O : bX6} {c0 : Nat} (h : PA K t c0 cu) : AL (fun r => PR K t c0 r.1 r.2.1) (f_X3_both n rec x (K, sT, vT, nI (t + 1), cu, e1, e2) O) := by
  unfold f_X3_both
  refine AL_bind (hr _ _ _ _ _ h) (fun u hu => ?_)
  refine AL_iter (I := fun s => PR K t c0 s.1 s.2.2.1) (fun s hs => ?_) _ _ hu
  unfold f_X3_both_L10
  refine AL_if (fun g => AL_if (fun g => AL_some hs) (fun g => AL_none)) (fun g => ?_)
  refine AL_if (fun g => AL_if (fun g => AL_some hs) (fun g => AL_none)) (fun g => ?_)
  have hA := hs.2 g
  refine AL_ti hK hA ⟨by omega, by unfold ttk; omega, by unfold tns; omega⟩ (fun u hu => ?_)
  refine AL_if (fun g => AL_if (fun g => AL_some (PR_A hu)) (fun g => AL_none)) (fun g => ?_)
  refine AL_ri (hr _ _ _ _ _ hu) (fun u hu => AL_some (PR_0 hu)) (fun u hu => ?_)
  refine AL_bind AL_any (fun v hv => ?_)
  exact AL_if (fun g => AL_some (PR_A hu)) (fun g => AL_some (PR_A hu))
theorem al_sum (hK : TKO K kd t) (hr : RCA K sT vT t e1 e2 rec) {x cu : Int32} {O : bX6} {c0 : Nat} (h : PA K t c0 cu) : AL (fun r => PR K t c0 r.1 r.2.1) (f_X3_sum n rec x (K, sT, vT, nI (t + 1), cu, e1, e2) O) := by
  have h48 : ∀ {v2 v5 cu2 : Int32} {v4 : Nat} {w1 : Nat → Nat} {w2 : Nat → Int32} {w3 : Int32}, PA K t c0 cu2 → AL (Sum.elim (fun s => PR K t c0 s.1 s.2.2.2.1) (fun r => PR K t c0 r.1 r.2.1)) (f_X3_sum_R48 n rec x (K, sT, vT, nI (t + 1), cu, e1, e2) O v2 v4 v5 cu2 w1 w2 w3) := by
    intro v2 v5 cu2 v4 w1 w2 w3 h
    unfold f_X3_sum_R48 f_X3_sum_R71 f_X3_sum_R72
    refine AL_ri (hr _ _ _ _ _ h) (fun u hu => ?_) (fun u hu => ?_)
    · exact AL_bind AL_any (fun v hv => AL_some (PR_0 hu))
    · refine AL_bind AL_any (fun v hv => ?_)
      exact AL_if (fun g => AL_bind AL_any (fun v hv => AL_some (PR_A hu))) (fun g => AL_bind AL_any (fun v hv => AL_some (PR_A hu)))
  unfold f_X3_sum
  refine AL_bind (hr _ _ _ _ _ h) (fun u hu => ?_)
  refine AL_bind AL_any (fun v hv => ?_)
  refine AL_iter (I := fun s => PR K t c0 s.1 s.2.2.2.1) (fun s hs => ?_) _ _ hu
  unfold f_X3_sum_L16
  refine AL_if (fun g => AL_if (fun g => AL_some hs) (fun g => AL_none)) (fun g => ?_)
  refine AL_if (fun g => AL_if (fun g => AL_some hs) (fun g => AL_none)) (fun g => ?_)
  have hA := hs.2 g
  refine AL_ti hK hA ⟨by omega, by unfold ttk; omega, by unfold tns; omega⟩ (fun u hu => ?_)
  refine AL_if (fun g => ?_) (fun g => h48 hu)
  refine AL_ti hK hu ⟨by omega, by unfold ttk; omega, by unfold tns; omega⟩ (fun u hu => ?_)
  exact AL_if (fun g => AL_if (fun g => AL_some (PR_A hu)) (fun g => AL_none)) (fun g => h48 hu)
theorem al_product (hK : TKO K kd t) (hr : RCA K sT vT t e1 e2 rec) {x cu : Int32} {O : bX6} {c0 : Nat} (h : PA K t c0 cu) : AL (fun r => PR K t c0 r.1 r.2.1) (f_X3_product n rec x (K, sT, vT, nI (t + 1), cu, e1, e2) O) := by
  have h48 : ∀ {v2 v5 cu2 : Int32} {v4 : Nat} {w1 : Nat → Nat} {w2 : Nat → Int32} {w3 : Int32}, PA K t c0 cu2 → AL (Sum.elim (fun s => PR K t c0 s.1 s.2.2.2.1) (fun r => PR K t c0 r.1 r.2.1)) (f_X3_product_R48 n rec x (K, sT, vT, nI (t + 1), cu, e1, e2) O v2 v4 v5 cu2 w1 w2 w3) := by
    intro v2 v5 cu2 v4 w1 w2 w3 h
    unfold f_X3_product_R48 f_X3_product_R71 f_X3_product_R72
    refine AL_ri (hr _ _ _ _ _ h) (fun u hu => ?_) (fun u hu => ?_)
    · exact AL_bind AL_any (fun v hv => AL_some (PR_0 hu))
    · refine AL_bind AL_any (fun v hv => ?_)
      exact AL_if (fun g => AL_bind AL_any (fun v hv => AL_some (PR_A hu))) (fun g => AL_bind AL_any (fun v hv => AL_some (PR_A hu)))
  unfold f_X3_product
  refine AL_bind (hr _ _ _ _ _ h) (fun u hu => ?_)
  refine AL_bind AL_any (fun v hv => ?_)
  refine AL_iter (I := fun s => PR K t c0 s.1 s.2.2.2.1) (fun s hs => ?_) _ _ hu
  unfold f_X3_product_L16
  refine AL_if (fun g => AL_if (fun g => AL_some hs) (fun g => AL_none)) (fun g => ?_)
  refine AL_if (fun g => AL_if (fun g => AL_some hs) (fun g => AL_none)) (fun g => ?_)
  have hA := hs.2 g
  refine AL_ti hK hA ⟨by omega, by unfold ttk; omega, by unfold tns; omega⟩ (fun u hu => ?_)
  refine AL_if (fun g => ?_) (fun g => h48 hu)
  refine AL_ti hK hu ⟨by omega, by unfold ttk; omega, by unfold tns; omega⟩ (fun u hu => ?_)
  exact AL_if (fun g => AL_if (fun g => AL_some (PR_A hu)) (fun g => AL_none)) (fun g => h48 hu)
theorem al_comparison (hK : TKO K kd t) (hr : RCA K sT vT t e1 e2 rec) {x cu : Int32} {O : bX6} {c0 : Nat} (h : PA K t c0 cu) : AL (fun r => PR K t c0 r.1 r.2.1) (f_X3_comparison n rec x (K, sT, vT, nI (t + 1), cu, e1, e2) O) := by
  have h66 : ∀ {v2 cu2 : Int32} {v3 : Nat} {w1 : Nat → Nat} {w2 : Nat → Int32} {w3 : Int32}, PA K t c0 cu2 → AL (fun r => PR K t c0 r.1 r.2.1) (f_X3_comparison_R66 n rec x (K, sT, vT, nI (t + 1), cu, e1, e2) O v2 v3 cu2 w1 w2 w3) := by
    intro v2 cu2 v3 w1 w2 w3 h
    unfold f_X3_comparison_R66 f_X3_comparison_R71
    refine AL_if (fun g => AL_s0 (PA_B h)) (fun g => ?_)
    refine AL_ri (hr _ _ _ _ _ h) (fun u hu => AL_s0 hu) (fun u hu => ?_)
    refine AL_bind AL_any (fun v hv => ?_)
    exact AL_if (fun g => AL_s0 (PA_B hu)) (fun g => AL_sA hu)
  unfold f_X3_comparison
  refine AL_ri (hr _ _ _ _ _ h) (fun u hu => AL_s0 hu) (fun u hu => ?_)
  refine AL_bind AL_any (fun v hv => ?_)
  iterate 5 (
    refine AL_ti hK hu ⟨by omega, by unfold ttk; omega, by unfold tns; omega⟩ (fun u hu => ?_)
    refine AL_if (fun g => ?_) (fun g => h66 hu))
  unfold f_X3_comparison_R71
  exact AL_if (fun g => AL_s0 (PA_B hu)) (fun g => absurd rfl g)
theorem al_single (hK : TKO K kd t) (hr : RCA K sT vT t e1 e2 rec) {x cu : Int32} {O : bX6} {c0 : Nat} (h : PA K t c0 cu) : AL (fun r => PR K t c0 r.1 r.2.1) (f_X3_single n rec x (K, sT, vT, nI (t + 1), cu, e1, e2) O) := by
  unfold f_X3_single
  refine AL_bind AL_any (fun k hk => ?_)
  refine AL_if (fun g52 => ?_) (fun g => AL_none)
  refine AL_if (fun g => ?_) (fun g => ?_)
  · refine AL_if (fun g => AL_s0 (PA_B h)) (fun g => ?_)
    refine AL_ti hK h ⟨by omega, by unfold ttk; omega, by unfold tns; omega⟩ (fun u hu => ?_)
    refine AL_if (fun g => AL_s0 (PA_B hu)) (fun g => ?_)
    refine AL_ri (hr _ _ _ _ _ hu) (fun u hu => AL_s0 hu) (fun u hu => ?_)
    refine AL_bind AL_any (fun v hv => ?_)
    exact AL_if (fun g => AL_s0 (PA_B hu)) (fun g => AL_sA hu)
  refine AL_if (fun g => ?_) (fun g => ?_)
  · refine AL_if (fun g => AL_s0 (PA_B h)) (fun g => ?_)
    refine AL_ti hK h ⟨by omega, by unfold ttk; omega, by unfold tns; omega⟩ (fun u hu => ?_)
    refine AL_if (fun g => AL_s0 (PA_B hu)) (fun g => ?_)
    refine AL_ri (hr _ _ _ _ _ hu) (fun u hu => AL_s0 hu) (fun u hu => ?_)
    refine AL_ti hK hu ⟨by omega, by unfold ttk; omega, by unfold tns; omega⟩ (fun u hu => ?_)
    exact AL_if (fun g => AL_s0 (PA_B hu)) (fun g => AL_sA hu)
  refine AL_if (fun g => ?_) (fun g => ?_)
  · refine AL_bind (AL_takeS hK h (smap_s k g52 g)) (fun u hu => ?_)
    refine AL_if (fun g => AL_s0 (PS_B hu)) (fun g => ?_)
    refine AL_bind AL_any (fun v hv => ?_)
    refine AL_if (fun g => AL_s0 (PS_B hu)) (fun g => ?_)
    exact AL_tn hK hu (fun u hu => AL_s0 hu) (fun u hu => AL_sA hu)
  · refine AL_bind (hr _ _ _ _ _ h) (fun u hu => ?_)
    exact AL_if (fun g => AL_some hu) (fun g => AL_none)
theorem al_value (hK : TKO K kd t) (hr : RCA K sT vT t e1 e2 rec) {x cu : Int32} {O : bX6} {c0 : Nat} (h : PA K t c0 cu) : AL (fun r => PR K t c0 r.1 r.2.1) (f_X3_value n rec x (K, sT, vT, nI (t + 1), cu, e1, e2) O) := by
  unfold f_X3_value
  refine AL_bind AL_any (fun k hk => ?_)
  refine AL_if (fun g52 => ?_) (fun g => AL_none)
  refine AL_if (fun g => ?_) (fun g => ?_)
  · have hs := smap_v k g52 (by rcases g with g | g | g | g | g | g | g | g <;> simp [g])
    refine AL_bind AL_any (fun v hv => ?_)
    refine AL_if (fun g => AL_s0 (PA_B h)) (fun g => ?_)
    refine AL_ti hK h hs (fun u hu => ?_)
    exact AL_if (fun g => AL_s0 (PA_B hu)) (fun g => AL_sA hu)
  refine AL_if (fun g => ?_) (fun g => ?_)
  · refine AL_ti hK h ⟨by omega, by unfold ttk; omega, by unfold tns; omega⟩ (fun u hu => ?_)
    refine AL_if (fun g => AL_s0 (PA_B hu)) (fun g => ?_)
    refine AL_bind (AL_takeS hK hu ⟨by omega, by unfold ttk; omega⟩) (fun u hu => ?_)
    refine AL_if (fun g => AL_s0 (PS_B hu)) (fun g => ?_)
    refine AL_bind AL_any (fun v hv => ?_)
    refine AL_if (fun g => AL_s0 (PS_B hu)) (fun g => ?_)
    exact AL_tn hK hu (fun u hu => AL_s0 hu) (fun u hu => AL_sA hu)
  refine AL_if (fun g => ?_) (fun g => ?_)
  · refine AL_if (fun g => AL_s0 (PA_B h)) (fun g => ?_)
    refine AL_ti hK h ⟨by omega, by unfold ttk; omega, by unfold tns; omega⟩ (fun u hu => ?_)
    refine AL_if (fun g => AL_s0 (PA_B hu)) (fun g => ?_)
    refine AL_ri (hr _ _ _ _ _ hu) (fun u hu => AL_s0 hu) (fun u hu => ?_)
    refine AL_bind AL_any (fun v hv => ?_)
    exact AL_if (fun g => AL_s0 (PA_B hu)) (fun g => AL_sA hu)
  refine AL_if (fun g => ?_) (fun g => ?_)
  · refine AL_if (fun g => AL_s0 (PA_B h)) (fun g => ?_)
    refine AL_ti hK h ⟨by omega, by unfold ttk; omega, by unfold tns; omega⟩ (fun u hu => ?_)
    refine AL_if (fun g => AL_s0 (PA_B hu)) (fun g => ?_)
    refine AL_ri (hr _ _ _ _ _ hu) (fun u hu => AL_s0 hu) (fun u hu => ?_)
    refine AL_ti hK hu ⟨by omega, by unfold ttk; omega, by unfold tns; omega⟩ (fun u hu => ?_)
    exact AL_if (fun g => AL_s0 (PA_B hu)) (fun g => AL_sA hu)
  refine AL_if (fun g => ?_) (fun g => AL_s0 (PA_B h))
  have hs := smap_v k g52 (by rcases g with g | g <;> simp [g])
  refine AL_ti hK h hs (fun u hu => ?_)
  refine AL_if (fun g => AL_s0 (PA_B hu)) (fun g => ?_)
  refine AL_if (fun g => AL_s0 (PA_B hu)) (fun g => ?_)
  refine AL_ti hK hu ⟨by omega, by unfold ttk; omega, by unfold tns; omega⟩ (fun u hu => ?_)
  refine AL_if (fun g => AL_s0 (PA_B hu)) (fun g => ?_)
  refine AL_ri (hr _ _ _ _ _ hu) (fun u hu => AL_s0 hu) (fun u hu => ?_)
  refine AL_ti hK hu ⟨by omega, by unfold ttk; omega, by unfold tns; omega⟩ (fun u hu => ?_)
  refine AL_if (fun g => AL_s0 (PA_B hu)) (fun g => ?_)
  refine AL_ri (hr _ _ _ _ _ hu) (fun u hu => AL_s0 hu) (fun u hu => ?_)
  refine AL_ti hK hu ⟨by omega, by unfold ttk; omega, by unfold tns; omega⟩ (fun u hu => ?_)
  refine AL_if (fun g => AL_s0 (PA_B hu)) (fun g => ?_)
  refine AL_bind AL_any (fun v hv => ?_)
  exact AL_if (fun g => AL_s0 (PA_B hu)) (fun g => AL_sA hu)
theorem al_g (hK : TKO K kd t) : ∀ d : Nat, RCA K sT vT t e1 e2 (g_X3 n d)
  | 0 => fun _ _ _ _ _ _ => AL_none
  | d + 1 => fun j x cu O c0 h => by
    have hr := al_g hK d
    match j with
    | 0 => exact al_test (n := n) hK hr h
    | 1 => exact al_both (n := n) hK hr h
    | 2 => exact al_single (n := n) hK hr h
    | 3 => exact al_comparison (n := n) hK hr h
    | 4 => exact al_sum (n := n) hK hr h
    | 5 => exact al_product (n := n) hK hr h
    | 6 => exact al_value (n := n) hK hr h
    | _ + 7 => exact AL_none
/-- a test that was read: its tokens -/
theorem al_read (hK : TKO K kd t) {d j c c' : Nat} {x : Int32} {O : bX6} {y : (Nat → Nat) × (Nat → Int32) × Int32} (hc : c ≤ t) (h : g_X3 n d j x (K, sT, vT, nI (t + 1), nI c, e1, e2) O = some (nI 1, nI c', y)) (hc' : c' ≤ t) : ∀ i, c ≤ i → i < c' → ttk (K i) ∧ (tns (K i) → K (i + 1) = 47) := by
  obtain ⟨-, h2⟩ := al_g hK d j x (nI c) O c ⟨c, rfl, by omega, hc, fun i a b => by omega⟩ _ h
  obtain ⟨c2, q1, q2, q3, q4⟩ := h2 (show (nI 1 : Int32) ≠ 0 by decide)
  have h0 := hK.1
  have e : c' = c2 := by rw [nJ_eq (by omega) (by omega)] at q1; exact q1
  rw [e]
  exact q4
end P45
