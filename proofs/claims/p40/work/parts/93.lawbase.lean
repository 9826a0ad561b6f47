/-! THE LAW'S WORLD while a pot is brewed: the class, the pot by hand, dice, what else lies about -/
abbrev LW (T : Nat → ClassId) (sd : SdT) (ad pa da : Nat → Nat) (p9 aF aG aO : Nat) (rF rG : Nat → Nat) (r : Nat) (P : Pl) (S : Sp) (σ : CSt) (x : Int32) (tl : va_W) : va_W := CW T sd ad pa da σ ++ (potW T p9 aF aG aO rF rG (hb P S) ++ (zDi r x :: tl))
def TlOk (T : Nat → ClassId) (aO : Nat) (rO : Nat → Nat) (P : Pl) (w : va_W) : Prop := zR T 7 aO P.os.length rO ∈ w ∧ ∀ z : Nat × Od, P.os[z.1]? = some z.2 → OdW (rO z.1) z.2 w
theorem TlOk_mono {T : Nat → ClassId} {aO : Nat} {rO : Nat → Nat} {P : Pl} {w w' : va_W} (h : TlOk T aO rO P w) (hw : ∀ q ∈ w, q ∈ w') : TlOk T aO rO P w' := ⟨hw _ h.1, fun z hz => OdW_mono hw (h.2 z hz)⟩
theorem perm5 (a b c d e u : va_W) : ((a ++ (b ++ (c ++ (d ++ e)))) ++ u).Perm (a ++ (b ++ (c ++ (d ++ (u ++ e))))) := by
  rw [List.append_assoc, List.append_assoc, List.append_assoc, List.append_assoc]
  exact List.Perm.append_left _ (List.Perm.append_left _ (List.Perm.append_left _ (List.Perm.append_left _ List.perm_append_comm)))
section LWS
variable {T : Nat → ClassId} {sd : SdT} {ad pa da : Nat → Nat} {p9 aF aG aO r : Nat} {rF rG : Nat → Nat} {P : Pl} {S : Sp} {σ : CSt} {x : Int32} {tl : va_W}
theorem LW_p : (LW T sd ad pa da p9 aF aG aO rF rG r P S σ x tl)[59]? = some (zO p9 16 [.ref aF, .ref aG, .ref aO, .int (nI S.hour), .int (nI S.warmth), .int (nI S.strength), .int (nI S.charge), .int (nI S.lemons), .int (nI S.saucers), .int (nI S.coins), .int (nI S.storms)]) := rfl
theorem LW_aF : (LW T sd ad pa da p9 aF aG aO rF rG r P S σ x tl)[60]? = some (zR T 5 aF P.nf rF) := rfl
theorem LW_aG : (LW T sd ad pa da p9 aF aG aO rF rG r P S σ x tl)[61]? = some (zR T 6 aG P.ng rG) := rfl
abbrev LWh (T : Nat → ClassId) (sd : SdT) (ad pa da : Nat → Nat) (p9 aF aG aO : Nat) (rF rG : Nat → Nat) (P : Pl) (S : Sp) (σ : CSt) : va_W := CW T sd ad pa da σ ++ [zO p9 16 [.ref aF, .ref aG, .ref aO, .int (nI S.hour), .int (nI S.warmth), .int (nI S.strength), .int (nI S.charge), .int (nI S.lemons), .int (nI S.saucers), .int (nI S.coins), .int (nI S.storms)], zR T 5 aF P.nf rF, zR T 6 aG P.ng rG]
theorem LWh_len : (LWh T sd ad pa da p9 aF aG aO rF rG P S σ).length = 62 := rfl
abbrev zFp (rF : Nat → Nat) (P : Pl) (S : Sp) : va_W := zFr rF P.nf (fun j => nI (P.fr j).1) (fun j => nI (P.fr j).2.1) (fun j => nI (P.fr j).2.2.1) (fun j => nI (P.fr j).2.2.2) (fun j => nI (S.fp j))
abbrev zGp (rG : Nat → Nat) (P : Pl) (S : Sp) : va_W := zGu rG P.ng (fun j => nI (P.gu j).1) (fun j => nI (P.gu j).2.1) (fun j => nI (P.gu j).2.2.1) (fun j => nI (P.gu j).2.2.2) (fun j => nI (S.gp j))
theorem LW_eq : LW T sd ad pa da p9 aF aG aO rF rG r P S σ x tl = LWh T sd ad pa da p9 aF aG aO rF rG P S σ ++ (zFp rF P S ++ (zGp rG P S ++ (zDi r x :: tl))) := by
  show CW T sd ad pa da σ ++ ((_ :: _ :: _ :: (zFp rF P S ++ (zGp rG P S ++ []))) ++ (zDi r x :: tl)) = _
  rw [List.append_nil, List.append_assoc]
  simp only [List.cons_append, List.append_assoc, List.nil_append]
  rfl
theorem LW_fr {f : Nat} (hf : f < P.nf) : (LW T sd ad pa da p9 aF aG aO rF rG r P S σ x tl)[62 + f]? = some (rF f, .inr (12, [.int (nI (P.fr f).1), .int (nI (P.fr f).2.1), .int (nI (P.fr f).2.2.1), .int (nI (P.fr f).2.2.2), .int (nI (S.fp f))])) := by
  rw [LW_eq, List.getElem?_append_right (by rw [LWh_len]; omega), LWh_len, Nat.add_sub_cancel_left]
  exact zFr_at hf
theorem LW_gu {g : Nat} (hg : g < P.ng) : (LW T sd ad pa da p9 aF aG aO rF rG r P S σ x tl)[62 + (P.nf + g)]? = some (rG g, .inr (13, [.int (nI (P.gu g).1), .int (nI (P.gu g).2.1), .int (nI (P.gu g).2.2.1), .int (nI (P.gu g).2.2.2), .int (nI (S.gp g))])) := by
  rw [LW_eq, List.getElem?_append_right (by rw [LWh_len]; omega), LWh_len, Nat.add_sub_cancel_left]
  exact zGu_at hg
theorem LW_tl (j : Nat) : (LW T sd ad pa da p9 aF aG aO rF rG r P S σ x tl)[62 + (P.nf + (P.ng + j))]? = (zDi r x :: tl)[j]? := by
  rw [LW_eq, List.getElem?_append_right (by rw [LWh_len]; omega), LWh_len, Nat.add_sub_cancel_left, List.getElem?_append_right (by rw [zFr_len]; omega), zFr_len, Nat.add_sub_cancel_left, List.getElem?_append_right (by rw [zGu_len]; omega), zGu_len, Nat.add_sub_cancel_left]
theorem LW_set (j : Nat) (y : Nat × va_E) : (LW T sd ad pa da p9 aF aG aO rF rG r P S σ x tl).set (62 + (P.nf + (P.ng + (j + 1)))) y = LW T sd ad pa da p9 aF aG aO rF rG r P S σ x (tl.set j y) := by
  rw [LW_eq, LW_eq, List.set_append_right _ _ (by rw [LWh_len]; omega), LWh_len, Nat.add_sub_cancel_left, List.set_append_right _ _ (by rw [zFr_len]; omega), zFr_len, Nat.add_sub_cancel_left, List.set_append_right _ _ (by rw [zGu_len]; omega), zGu_len, Nat.add_sub_cancel_left]
  rfl
/-- a new cell goes behind the dice -/
theorem LW_new (z : Nat × va_E) : (LW T sd ad pa da p9 aF aG aO rF rG r P S σ x tl ++ [z]).Perm (LW T sd ad pa da p9 aF aG aO rF rG r P S σ x (z :: tl)) := by
  rw [LW_eq, LW_eq]
  exact perm5 _ _ _ [zDi r x] tl [z]
/-- cells that are wanted no more -/
theorem LW_drop {p : Program} {l : Launch} {e : Env} {R : Room} {s : State} {m : MethodId} {args : Array Value} {below : List Frame} {meth : Method} {c : Code} {Q : State → Prop} {nL : Nat} {D : va_G} {A : Nat → Prop} {k n : Nat} {lv : List (Nat × Value)} {pc : Nat} {st : List Value} (u : va_W) (kk : SxG p l e R s m args below meth c D A nL k n Q (LW T sd ad pa da p9 aF aG aO rF rG r P S σ x tl) lv pc st) : SxG p l e R s m args below meth c D A nL k n Q (LW T sd ad pa da p9 aF aG aO rF rG r P S σ x (u ++ tl)) lv pc st := by
  have hp : (LW T sd ad pa da p9 aF aG aO rF rG r P S σ x (u ++ tl)).Perm (LW T sd ad pa da p9 aF aG aO rF rG r P S σ x tl ++ u) := by
    rw [LW_eq, LW_eq]
    exact (perm5 _ _ _ [zDi r x] tl u).symm
  exact sx_perm hp (sx_drop kk)
end LWS
section LSX
variable {p : Program} {l : Launch} {e : Env} {R : Room} {s : State} {m : MethodId} {args : Array Value} {below : List Frame} {meth : Method} {c : Code} {Q : State → Prop} {cc : ByteArray} {own : String} {nL : Nat} {ret : Option FieldType} {D : va_G} {T : Nat → ClassId} {A : Nat → Prop} {SF : (Nat → Prop) → State → Heap → Prop} {k n : Nat} {ws : va_W} {lv : List (Nat × Value)} {pc : Nat} {st : List Value}
/-- is ? 1 : 0 -/
theorem sx_sel01 (X : SxC p s m args meth c cc own nL ret D T A SF) {q : Prop} [Decidable q] (h1 : decode cc pc = .ok (.ifCond .eq 7, 3)) (h2 : decode cc (pc + 3) = .ok (.iconst 1, 1)) (h3 : decode cc (pc + 4) = .ok (.goto 4, 3)) (h4 : decode cc (pc + 7) = .ok (.iconst 0, 1))
    (kk : SxG p l e R s m args below meth c D A nL k n Q ws lv (pc + 8) (.int (nI (b01 q)) :: st)) : SxG p l e R s m args below meth c D A nL k n Q ws lv pc (.int (nI (b01 q)) :: st) := by
  unfold b01 at kk ⊢
  refine sx_if_eq X (pc + 7) h1 rfl (fun hc => ?_) (fun hc => ?_)
  · by_cases z : q
    · rw [if_pos z] at hc
      exact absurd hc (by decide)
    · rw [if_neg z] at kk
      exact sx_iconst X (v := 0) h4 rfl kk
  · by_cases z : q
    · rw [if_pos z] at kk
      exact sx_iconst X (v := 1) h2 rfl (sx_goto X (pc + 8) h3 (by omega) kk)
    · rw [if_neg z] at hc
      exact absurd rfl hc
/-- an element of an array of objects, its place a small number -/
theorem sx_RldN (X : SxC p s m args meth c cc own nL ret D T A SF) {a N t0 i : Nat} {C : String} {f : Nat → Nat} (q0 : Nat) (he : ws[q0]? = some (zR T t0 a N f)) (ht : (tyL T)[t0]? = some (T t0, .object C)) (hi : i < N) (hN : N < 2 ^ 31) (hdg : decode cc pc = .ok (.aaload, 1)) (kk : SxG p l e R s m args below meth c D A nL k n Q ws lv (pc + 1) (.ref (f i) :: st)) : SxG p l e R s m args below meth c D A nL k n Q ws lv pc (.int (nI i) :: .ref a :: st) :=
  sx_Rld X q0 he ht (vp_in_nI hi hN) hdg (by rw [nI_clamp (by omega)]; exact kk)
/-- booleans in an array -/
theorem sx_zaldN (X : SxC p s m args meth c cc own nL ret D T A SF) {a N i : Nat} {f : Nat → Int32} (q0 : Nat) (he : ws[q0]? = some (zZ T a N f)) (hi : i < N) (hN : N < 2 ^ 31) {v : Int32} (hv : f i = v) (hdg : decode cc pc = .ok (.baload, 1)) (kk : SxG p l e R s m args below meth c D A nL k n Q ws lv (pc + 1) (.int v :: st)) : SxG p l e R s m args below meth c D A nL k n Q ws lv pc (.int (nI i) :: .ref a :: st) :=
  sx_zald X q0 he (vp_in_nI hi hN) hdg (by rw [nI_clamp (by omega), hv]; exact kk)
theorem sx_zastN (X : SxC p s m args meth c cc own nL ret D T A SF) {a N i : Nat} {f : Nat → Int32} {q : Prop} [Decidable q] {ws' : va_W} (q0 : Nat) (he : ws[q0]? = some (zZ T a N f)) (hi : i < N) (hN : N < 2 ^ 31) (hw : ws.set q0 (zZ T a N (upd f i (nI (b01 q)))) = ws') (hdg : decode cc pc = .ok (.bastore, 1)) (kk : SxG p l e R s m args below meth c D A nL k n Q ws' lv (pc + 1) st) : SxG p l e R s m args below meth c D A nL k n Q ws lv pc (.int (nI (b01 q)) :: .int (nI i) :: .ref a :: st) :=
  sx_zast X q0 he (vp_in_nI hi hN) (by rw [nI_clamp (by omega), nar_b]; exact hw) hdg kk
/-- a new array of booleans -/
theorem sx_newz (X : SxC p s m args meth c cc own nL ret D T A SF) {N' : Nat} {i : Int32} (hn : ¬ i < 0) (hN : i.toNatClampNeg = N') (hb : N' ≤ 3000) (hcells : k + 1 ≤ R.cells) (hslots : n + N' ≤ R.slots) (harr : Cond.arrayClass .boolean ∈ BIG) (hdg : decode cc pc = .ok (.newarray .boolean, 2))
    (kk : ∀ q : Nat, SxG p l e R s m args below meth c D A nL (k + 1) (n + N') Q (ws ++ [zZ T q N' (fun _ => 0)]) lv (pc + 2) (.ref q :: st)) : SxG p l e R s m args below meth c D A nL k n Q ws lv pc (.int i :: st) :=
  sx_newa X (at0 := .boolean) (t0 := 1) (ty := .boolean) (N' := N') (a0 := (N', .inl (fun _ => 0))) harr rfl rfl rfl (fun _ => rfl) hn hN (by show N' * 1 ≤ _; omega) hcells hslots hdg kk
end LSX
theorem b01_1 {q : Prop} [Decidable q] (h : q) : b01 q = 1 := if_pos h
theorem b01_0 {q : Prop} [Decidable q] (h : ¬ q) : b01 q = 0 := if_neg h
/-- comparisons of small numbers -/
theorem nc_lt {a b : Nat} (h : a < b) (hb : b < 2 ^ 31) : nI a < nI b := (nI_ltI (by omega) hb).mpr h
theorem nc_nlt {a b : Nat} (h : b ≤ a) (ha : a < 2 ^ 31) : ¬ nI a < nI b := fun q => absurd ((nI_ltI ha (by omega)).mp q) (by omega)
theorem nc_le {a b : Nat} (h : a ≤ b) (hb : b < 2 ^ 31) : nI a ≤ nI b := (nI_leI (by omega) hb).mpr h
theorem nc_nle {a b : Nat} (h : b < a) (ha : a < 2 ^ 31) : ¬ nI a ≤ nI b := fun q => absurd ((nI_leI ha (by omega)).mp q) (by omega)
theorem nc_ne {a b : Nat} (h : a ≠ b) (ha : a < 2 ^ 31) (hb : b < 2 ^ 31) : ¬ nI a = nI b := fun q => h ((nI_eq ha hb).mp q)
