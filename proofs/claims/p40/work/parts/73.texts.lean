/-! TEXTS of trees and orders -/
def oT {α : Type} (f : α → List Nat) : Option α → List Nat
  | none => []
  | some x => f x
/-- a tree's text -/
def ntx : (h : Nat) → Nd h → List Nat
  | 0, _ => []
  | h + 1, t => if t.1 = 0 then (([] ++ ltx 27) ++ decL t.2.1) else if t.1 = 1 then ltx (wrdK t.2.1) else if t.1 = 2 then (([] ++ ltx 28) ++ decL t.2.1) else if t.1 = 3 then (([] ++ ltx 29) ++ oT (ntx h) t.2.2.1) else if t.1 = 4 then ((((([] ++ ltx 30) ++ oT (ntx h) t.2.2.1) ++ ltx 31) ++ oT (ntx h) t.2.2.2) ++ ltx 32) else if t.1 = 5 then ((((([] ++ ltx 33) ++ oT (ntx h) t.2.2.1) ++ ltx 34) ++ oT (ntx h) t.2.2.2) ++ ltx 32) else if t.1 = 15 then (([] ++ ltx 35) ++ decL t.2.1) else if t.1 = 16 then (([] ++ ltx 36) ++ decL t.2.1) else if t.1 = 17 then (([] ++ ltx 37) ++ decL t.2.1) else if t.1 = 18 then (([] ++ ltx 38) ++ oT (ntx h) t.2.2.1) else if t.1 = 19 then ((((([] ++ ltx 39) ++ oT (ntx h) t.2.2.1) ++ ltx 40) ++ oT (ntx h) t.2.2.2) ++ ltx 41) else if t.1 = 20 then ((((([] ++ ltx 39) ++ oT (ntx h) t.2.2.1) ++ ltx 42) ++ oT (ntx h) t.2.2.2) ++ ltx 41) else if t.1 < 10 then ((((([] ++ ltx 43) ++ oT (ntx h) t.2.2.1) ++ ltx (sgnK (t.1 - 6))) ++ oT (ntx h) t.2.2.2) ++ ltx 32) else ((([] ++ oT (ntx h) t.2.2.1) ++ ltx (sgnK (t.1 - 6))) ++ oT (ntx h) t.2.2.2)
theorem ntx_s (h : Nat) (t : Nd (h + 1)) : ntx (h + 1) t = if t.1 = 0 then (([] ++ ltx 27) ++ decL t.2.1) else if t.1 = 1 then ltx (wrdK t.2.1) else if t.1 = 2 then (([] ++ ltx 28) ++ decL t.2.1) else if t.1 = 3 then (([] ++ ltx 29) ++ oT (ntx h) t.2.2.1) else if t.1 = 4 then ((((([] ++ ltx 30) ++ oT (ntx h) t.2.2.1) ++ ltx 31) ++ oT (ntx h) t.2.2.2) ++ ltx 32) else if t.1 = 5 then ((((([] ++ ltx 33) ++ oT (ntx h) t.2.2.1) ++ ltx 34) ++ oT (ntx h) t.2.2.2) ++ ltx 32) else if t.1 = 15 then (([] ++ ltx 35) ++ decL t.2.1) else if t.1 = 16 then (([] ++ ltx 36) ++ decL t.2.1) else if t.1 = 17 then (([] ++ ltx 37) ++ decL t.2.1) else if t.1 = 18 then (([] ++ ltx 38) ++ oT (ntx h) t.2.2.1) else if t.1 = 19 then ((((([] ++ ltx 39) ++ oT (ntx h) t.2.2.1) ++ ltx 40) ++ oT (ntx h) t.2.2.2) ++ ltx 41) else if t.1 = 20 then ((((([] ++ ltx 39) ++ oT (ntx h) t.2.2.1) ++ ltx 42) ++ oT (ntx h) t.2.2.2) ++ ltx 41) else if t.1 < 10 then ((((([] ++ ltx 43) ++ oT (ntx h) t.2.2.1) ++ ltx (sgnK (t.1 - 6))) ++ oT (ntx h) t.2.2.2) ++ ltx 32) else ((([] ++ oT (ntx h) t.2.2.1) ++ ltx (sgnK (t.1 - 6))) ++ oT (ntx h) t.2.2.2) := rfl
/-- a tree that can be told: numbers in their bounds, parts where they are wanted -/
def one {α : Type} (P : α → Prop) (o : Option α) : Prop := ∃ x, o = some x ∧ P x
def TxOk : (h : Nat) → Nd h → Prop
  | 0, _ => False
  | h + 1, t => (t.1 = 0 ∧ t.2.1 < 1000000) ∨ (t.1 = 1 ∧ t.2.1 < 7) ∨ (t.1 = 2 ∧ t.2.1 < 1000000) ∨ (t.1 = 3 ∧ one (TxOk h) t.2.2.1) ∨ (t.1 = 4 ∧ one (TxOk h) t.2.2.1 ∧ one (TxOk h) t.2.2.2) ∨ (t.1 = 5 ∧ one (TxOk h) t.2.2.1 ∧ one (TxOk h) t.2.2.2) ∨ (t.1 = 15 ∧ t.2.1 < 1000000) ∨ (t.1 = 16 ∧ t.2.1 < 1000000) ∨ (t.1 = 17 ∧ t.2.1 < 1000000) ∨ (t.1 = 18 ∧ one (TxOk h) t.2.2.1) ∨ (t.1 = 19 ∧ one (TxOk h) t.2.2.1 ∧ one (TxOk h) t.2.2.2) ∨ (t.1 = 20 ∧ one (TxOk h) t.2.2.1 ∧ one (TxOk h) t.2.2.2) ∨ (6 ≤ t.1 ∧ t.1 < 10 ∧ one (TxOk h) t.2.2.1 ∧ one (TxOk h) t.2.2.2) ∨ (10 ≤ t.1 ∧ t.1 < 15 ∧ one (TxOk h) t.2.2.1 ∧ one (TxOk h) t.2.2.2)
theorem ltx_128 : ∀ k, k < 50 → ∀ x ∈ ltx k, x < 128 := by decide +kernel
theorem ltx_len : ∀ k, k < 50 → (ltx k).length ≤ 15 := by decide +kernel
theorem wrd_lt : ∀ j, j < 7 → wrdK j < 50 := by decide +kernel
theorem sgn_lt : ∀ j, j < 9 → sgnK j < 50 := by decide +kernel
theorem app_128 {a b : List Nat} (h : ∀ x ∈ a, x < 128) (g : ∀ x ∈ b, x < 128) : ∀ x ∈ a ++ b, x < 128 := fun x hx => (List.mem_append.mp hx).elim (h x) (g x)
theorem oT_128 {α : Type} {f : α → List Nat} {o : Option α} {P : α → Prop} (h : one P o) (hf : ∀ x, P x → ∀ y ∈ f x, y < 128) : ∀ y ∈ oT f o, y < 128 := by
  obtain ⟨x, rfl, hx⟩ := h
  exact hf x hx
theorem nil_128 : ∀ x ∈ ([] : List Nat), x < 128 := fun _ h => absurd h List.not_mem_nil
theorem ntx_128 : ∀ (h : Nat) (t : Nd h), TxOk h t → ∀ x ∈ ntx h t, x < 128 := by
  intro h
  induction h with
  | zero => intro t; exact t.elim
  | succ h ih =>
    intro t ht
    have L : ∀ k, k < 50 → ∀ x ∈ ltx k, x < 128 := ltx_128
    unfold ntx
    unfold TxOk at ht
    rcases ht with ⟨hs, hn⟩ | ⟨hs, hn⟩ | ⟨hs, hn⟩ | ⟨hs, ha⟩ | ⟨hs, ha, hb⟩ | ⟨hs, ha, hb⟩ | ⟨hs, hn⟩ | ⟨hs, hn⟩ | ⟨hs, hn⟩ | ⟨hs, ha⟩ | ⟨hs, ha, hb⟩ | ⟨hs, ha, hb⟩ | ⟨h6, h9, ha, hb⟩ | ⟨h6, h9, ha, hb⟩
    · rw [hs]
      exact (app_128 (app_128 nil_128 (L 27 (by decide))) (decL_128 (by omega)))
    · rw [hs]
      exact (L _ (wrd_lt _ hn))
    · rw [hs]
      exact (app_128 (app_128 nil_128 (L 28 (by decide))) (decL_128 (by omega)))
    · rw [hs]
      exact (app_128 (app_128 nil_128 (L 29 (by decide))) (oT_128 ha ih))
    · rw [hs]
      exact (app_128 (app_128 (app_128 (app_128 (app_128 nil_128 (L 30 (by decide))) (oT_128 ha ih)) (L 31 (by decide))) (oT_128 hb ih)) (L 32 (by decide)))
    · rw [hs]
      exact (app_128 (app_128 (app_128 (app_128 (app_128 nil_128 (L 33 (by decide))) (oT_128 ha ih)) (L 34 (by decide))) (oT_128 hb ih)) (L 32 (by decide)))
    · rw [hs]
      exact (app_128 (app_128 nil_128 (L 35 (by decide))) (decL_128 (by omega)))
    · rw [hs]
      exact (app_128 (app_128 nil_128 (L 36 (by decide))) (decL_128 (by omega)))
    · rw [hs]
      exact (app_128 (app_128 nil_128 (L 37 (by decide))) (decL_128 (by omega)))
    · rw [hs]
      exact (app_128 (app_128 nil_128 (L 38 (by decide))) (oT_128 ha ih))
    · rw [hs]
      exact (app_128 (app_128 (app_128 (app_128 (app_128 nil_128 (L 39 (by decide))) (oT_128 ha ih)) (L 40 (by decide))) (oT_128 hb ih)) (L 41 (by decide)))
    · rw [hs]
      exact (app_128 (app_128 (app_128 (app_128 (app_128 nil_128 (L 39 (by decide))) (oT_128 ha ih)) (L 42 (by decide))) (oT_128 hb ih)) (L 41 (by decide)))
    · rw [if_neg (show ¬ t.1 = 0 by omega), if_neg (show ¬ t.1 = 1 by omega), if_neg (show ¬ t.1 = 2 by omega), if_neg (show ¬ t.1 = 3 by omega), if_neg (show ¬ t.1 = 4 by omega), if_neg (show ¬ t.1 = 5 by omega), if_neg (show ¬ t.1 = 15 by omega), if_neg (show ¬ t.1 = 16 by omega), if_neg (show ¬ t.1 = 17 by omega), if_neg (show ¬ t.1 = 18 by omega), if_neg (show ¬ t.1 = 19 by omega), if_neg (show ¬ t.1 = 20 by omega), if_pos (show t.1 < 10 by omega)]
      exact (app_128 (app_128 (app_128 (app_128 (app_128 nil_128 (L 43 (by decide))) (oT_128 ha ih)) (L _ (sgn_lt _ (by omega)))) (oT_128 hb ih)) (L 32 (by decide)))
    · rw [if_neg (show ¬ t.1 = 0 by omega), if_neg (show ¬ t.1 = 1 by omega), if_neg (show ¬ t.1 = 2 by omega), if_neg (show ¬ t.1 = 3 by omega), if_neg (show ¬ t.1 = 4 by omega), if_neg (show ¬ t.1 = 5 by omega), if_neg (show ¬ t.1 = 15 by omega), if_neg (show ¬ t.1 = 16 by omega), if_neg (show ¬ t.1 = 17 by omega), if_neg (show ¬ t.1 = 18 by omega), if_neg (show ¬ t.1 = 19 by omega), if_neg (show ¬ t.1 = 20 by omega), if_neg (show ¬ t.1 < 10 by omega)]
      exact (app_128 (app_128 (app_128 nil_128 (oT_128 ha ih)) (L _ (sgn_lt _ (by omega)))) (oT_128 hb ih))
/-- a text that came: one of the constants, or new cells -/
def TxR (T : Nat → ClassId) (jd : JdT) (tx : List Nat) (r : Nat × va_W) : Prop := (r.2 = [] ∧ ∃ k, k < 50 ∧ r.1 = jd.2.2.2.2 k ∧ tx = ltx k) ∨ ∃ (v : Nat) (g : Nat → Int32), r.2 = [oST r.1 v, zB T v tx.length g] ∧ ∀ j, j < tx.length → g j = nI (tx.getD j 0)
theorem TxR_M {p : Program} {s : State} {m : MethodId} {args : Array Value} {meth : Method} {c : Code} {cc : ByteArray} {own : String} {nL : Nat} {ret : Option FieldType} {D : va_G} {T : Nat → ClassId} {A : Nat → Prop} {sd : SdT} {jd : JdT} (XY : SxC p s m args meth c cc own nL ret D T A (SFy sd jd)) {tx : List Nat} {r : Nat × va_W} (h : TxR T jd tx r) {wc w0 : va_W} : SxM s D A (StrAt r.1 tx) wc (w0 ++ r.2) := by
  rcases h with ⟨-, k, hk, h1, rfl⟩ | ⟨v, g, h1, hg⟩
  · rw [h1]
    exact XY.Mf (StrAt_ok _ _) (XY.fz.2.2.2.2.2.2.2.2.1 k hk).1
  · exact StrAt_w (v := v) (g := g) XY (by rw [h1]; simp) (by rw [h1]; simp) hg
def mcT : Nat → Nat
  | 0 => 0
  | h + 1 => 9 + 2 * mcT h
def msT : Nat → Nat
  | 0 => 0
  | h + 1 => 18100 + 2 * msT h
abbrev rmT (h : Nat) : Room := { frames := h + 7, cells := mcT h, slots := msT h, locals := h * 60 + 500 }
theorem rt_f {a h : Nat} (ha : a ≤ 7) : a ≤ (rmT (h + 1)).frames := by show a ≤ h + 1 + 7; omega
theorem rt_l {a h : Nat} (ha : a ≤ 500) : a ≤ (rmT (h + 1)).locals := by show a ≤ (h + 1) * 60 + 500; omega
theorem ob_tx (k : Nat) : ∀ x, 6 ≤ x → x < 15 → SxIn 0 20 #[100, 123, 132, 155, 181, 227, 460, 460, 460, 460, 460, 460, 460, 460, 460, 273, 296, 319, 342, 368, 414] 460 (nI x) := by
  intro x h1 h2
  have : x = 6 ∨ x = 7 ∨ x = 8 ∨ x = 9 ∨ x = 10 ∨ x = 11 ∨ x = 12 ∨ x = 13 ∨ x = 14 := by omega
  rcases this with rfl | rfl | rfl | rfl | rfl | rfl | rfl | rfl | rfl <;> exact ⟨by decide, by decide, by decide⟩
theorem hd_ntx : SxDs yX16_text 0 := ⟨by decide, by decide, by decide +kernel⟩
section SXT
variable {p : Program} {l : Launch} {e : Env} {R : Room} {s : State} {m : MethodId} {args : Array Value} {below : List Frame} {meth : Method} {c : Code} {Q : State → Prop} {cc : ByteArray} {own : String} {nL : Nat} {ret : Option FieldType} {D : va_G} {T : Nat → ClassId} {A : Nat → Prop} {sd : SdT} {k n : Nat} {ws : va_W} {lv : List (Nat × Value)} {pc : Nat} {st : List Value} {SF : (Nat → Prop) → State → Heap → Prop}
theorem sx_gstN (X : SxC p s m args meth c cc own nL ret D T A (SFx sd)) {C nm ds host : String} {idx : Nat} {v : Value} (hO : va_Z C nm ds v A s s.heap) (hlink : (own, idx, C, nm, ds, host) ∈ sfNF) (hdg : decode cc pc = .ok (.getstatic idx, 3)) (kk : SxG p l e R s m args below meth c D A nL k n Q ws lv (pc + 3) (v :: st)) : SxG p l e R s m args below meth c D A nL k n Q ws lv pc st :=
  fun H locs ls hP b d h => va_getsN X.1 X.2.1 hO d X.2.2.2.1 (va_Nw.use rfl (X.sf.2.2.1.1 _ hlink)) (fun _ h9 => h9) hdg (kk H locs ls hP b d h)
theorem sx_stq (X : SxC p s m args meth c cc own nL ret D T A SF) {C : String} {t N : Nat} {f : Nat → Value} {i : Int32} {v : Value} (hT : va_T (.object C) t N f A s s.heap) (hin : ¬ (i < 0 ∨ N ≤ i.toNatClampNeg)) (hv : f i.toNatClampNeg = v) (hdg : decode cc pc = .ok (.aaload, 1)) (kk : SxG p l e R s m args below meth c D A nL k n Q ws lv (pc + 1) (v :: st)) : SxG p l e R s m args below meth c D A nL k n Q ws lv pc (.int i :: .ref t :: st) :=
  fun H locs ls hP b d h => vb_tq X.1 X.2.1 hT d hin hv hdg (kk H locs ls hP b d h)
end SXT
set_option maxRecDepth 100000 in
set_option maxHeartbeats 4000000 in
theorem c_ntx {l : Launch} {D : va_G} {T : Nat → ClassId} {sd : SdT} {jd : JdT} : ∀ (h a9 : Nat) (t : Nd h), TxOk h t → (ntx h t).length ≤ 1500 → SxKP (SFand (SFy sd jd) (FzN h a9 t)) l D T yX16_text cX16_text 1 (some (.object "java/lang/String")) (rmT h) [.ref a9] [] (fun r : Nat × va_W => some (.ref r.1)) (fun r => r.2) (TxR T jd (ntx h t)) (mcT h) (msT h) := by
  intro h
  induction h with
  | zero => exact fun _ t => t.elim
  | succ h ih =>
    intro a9 t hok hlen
    refine sx_startP (SFand_ok (SFy_ok sd jd) (FzN_ok _ _ _)) (by decide +kernel) (Nat.le_of_ble_eq_true rfl) (fun p e s mi args below meth c A XN hnm => ?_)
    obtain ⟨va, vb, ⟨hO, hfs⟩, hA, hB⟩ := XN.fz
    have XY := XN.dn (SFy_ok sd jd)
    have X := XY.dn (SFx_ok sd)
    have XJ := XY.fz
    have hs0 := hfs _ (List.mem_of_getElem? (i := 0) rfl)
    have hn0 := hfs _ (List.mem_of_getElem? (i := 1) rfl)
    have ha0 := hfs _ (List.mem_of_getElem? (i := 2) rfl)
    have hb0 := hfs _ (List.mem_of_getElem? (i := 3) rfl)
    unfold TxOk at hok
    rcases hok with ⟨hs, hn⟩ | ⟨hs, hn⟩ | ⟨hs, hn⟩ | ⟨hs, ha⟩ | ⟨hs, ha, hb⟩ | ⟨hs, ha, hb⟩ | ⟨hs, hn⟩ | ⟨hs, hn⟩ | ⟨hs, hn⟩ | ⟨hs, ha⟩ | ⟨hs, ha, hb⟩ | ⟨hs, ha, hb⟩ | ⟨h6, h9, ha, hb⟩ | ⟨h6, h9, ha, hb⟩
    · have hE : ntx (h + 1) t = (([] ++ ltx 27) ++ decL t.2.1) := by
        rw [ntx_s, hs]
        rfl
      refine sx_aload_n X 0 rfl dX16_text_0 rfl ?_
      refine sx_gof X hs0 qm_1406 dX16_text_1 ?_
      refine sx_topi (y := 0) (by rw [hs]; rfl) ?_
      refine sx_tin X (off := 100) 104 dX16_text_4 rfl ⟨by decide, by decide, by decide⟩ ?_
      refine sx_new X (fs := [.null, .int 0, .int 0, .int 0]) kJ4 qm_1528 qm_1439 qm_26 (by decide) (by show _ ≤ 9 + 2 * mcT h; omega) (by show _ ≤ 18100 + 2 * msT h; omega) dX16_text_104 (fun b1 => ?_)
      refine sx_chg (ws' := [zO b1 1 [.null, .int 0, .int 0, .int 0]]) (st' := [.ref b1]) rfl rfl ?_
      refine sx_dup X dX16_text_107 rfl ?_
      refine sx_pI X (c_sbIn (l := l) (D := D) (T := T) (sd := sd) (jd := jd) b1) XY.M (wr := []) qm_1529 qm_1441 qm_26 qm_1442 rfl hd_sbIn ⟨rfl, rfl⟩ ⟨(rt_f (Nat.le_of_ble_eq_true rfl)), (rt_l (Nat.le_of_ble_eq_true rfl))⟩ rfl rfl (Nat.le_of_ble_eq_true rfl) ⟨(by show _ ≤ 9 + 2 * mcT h; omega), (by show _ ≤ 18100 + 2 * msT h; omega)⟩ dX16_text_108 rfl (fun q2 hq2 => ?_)
      refine sx_chg (ws' := [zO b1 1 [.ref q2, .int 0, .int 0, .int (nI ([] : List Nat).length)], zB T q2 16 (fun _ => 0)]) (st' := [.ref b1]) rfl rfl ?_
      refine sx_ldcS X (show vk_R "WeatherTeaLaw$Node" 44 "" (jd.2.2.2.2 27) s from (XJ.2.2.2.2.2.2.2.2.1 27 (by decide)).2) dX16_text_111 ?_
      refine sx_pV X (c_sbS (l := l) (D := D) (T := T) (sd := sd) (jd := jd) (jd.2.2.2.2 27) b1 q2 16 ([] : List Nat) (ltx 27) (fun _ => 0) SBf_0 (by rw [hE] at hlen; simp only [List.length_append, List.length_nil] at hlen ⊢; omega) (ltx_128 27 (by decide))) (XY.M.and (XY.Mf (StrAt_ok _ _) (XJ.2.2.2.2.2.2.2.2.1 27 (by decide)).1)) (wr := []) (sx_rcv X (q0 := 0) (w := [zO b1 1 [.ref q2, .int 0, .int 0, .int (nI ([] : List Nat).length)], zB T q2 16 (fun _ => 0)]) rfl rfl) qm_1531 qm_1223 qm_1224 qm_26 qm_1225 hd_sbS ⟨rfl, rfl⟩ ⟨(rt_f (Nat.le_of_ble_eq_true rfl)), (rt_l (Nat.le_of_ble_eq_true rfl))⟩ rfl rfl (Nat.le_of_ble_eq_true rfl) ⟨(by show _ ≤ 9 + 2 * mcT h; omega), (by show _ ≤ 18100 + 2 * msT h; omega)⟩ dX16_text_113 rfl (fun w3 hw3 => ?_)
      refine sx_chg (ws' := [zO b1 1 [.ref w3.1, .int 0, .int 0, .int (nI (([] : List Nat) ++ (ltx 27)).length)], zB T w3.1 w3.2.1 w3.2.2]) (st' := [.ref b1]) rfl rfl ?_
      refine sx_aload_n X 0 rfl dX16_text_116 rfl ?_
      refine sx_gof X hn0 qm_1407 dX16_text_117 ?_
      refine sx_pV X (c_sbI (l := l) (D := D) (T := T) (sd := sd) (jd := jd) b1 w3.1 w3.2.1 t.2.1 (([] : List Nat) ++ (ltx 27)) w3.2.2 hw3 (by omega) (by rw [hE] at hlen; simp only [List.length_append, List.length_nil] at hlen ⊢; omega)) XY.M (wr := []) (sx_rcv X (q0 := 0) (w := [zO b1 1 [.ref w3.1, .int 0, .int 0, .int (nI (([] : List Nat) ++ (ltx 27)).length)], zB T w3.1 w3.2.1 w3.2.2]) rfl rfl) qm_1532 qm_1329 qm_1330 qm_26 qm_1331 hd_sbI ⟨rfl, rfl⟩ ⟨(rt_f (Nat.le_of_ble_eq_true rfl)), (rt_l (Nat.le_of_ble_eq_true rfl))⟩ rfl rfl (Nat.le_of_ble_eq_true rfl) ⟨(by show _ ≤ 9 + 2 * mcT h; omega), (by show _ ≤ 18100 + 2 * msT h; omega)⟩ dX16_text_120 rfl (fun w4 hw4 => ?_)
      refine sx_chg (ws' := [zO b1 1 [.ref w4.1, .int 0, .int 0, .int (nI ((([] : List Nat) ++ (ltx 27)) ++ (decL t.2.1)).length)], zB T w4.1 w4.2.1 w4.2.2]) (st' := [.ref b1]) rfl rfl ?_
      refine sx_pV X (c_sbStr (l := l) (D := D) (T := T) (sd := sd) (jd := jd) b1 w4.1 w4.2.1 ((([] : List Nat) ++ (ltx 27)) ++ (decL t.2.1)) w4.2.2 hw4) XY.M (wr := []) (sx_rcv X (q0 := 0) (w := [zO b1 1 [.ref w4.1, .int 0, .int 0, .int (nI ((([] : List Nat) ++ (ltx 27)) ++ (decL t.2.1)).length)], zB T w4.1 w4.2.1 w4.2.2]) rfl rfl) qm_1533 qm_1463 qm_1464 qm_26 qm_1465 hd_sbStr ⟨rfl, rfl⟩ ⟨(rt_f (Nat.le_of_ble_eq_true rfl)), (rt_l (Nat.le_of_ble_eq_true rfl))⟩ rfl rfl (Nat.le_of_ble_eq_true rfl) ⟨(by show _ ≤ 9 + 2 * mcT h; omega), (by show _ ≤ 18100 + 2 * msT h; omega)⟩ dX16_text_123 rfl (fun w5 hw5 => ?_)
      refine sx_chg (ws' := [zO b1 1 [.ref w4.1, .int 0, .int 0, .int (nI ((([] : List Nat) ++ (ltx 27)) ++ (decL t.2.1)).length)], zB T w4.1 w4.2.1 w4.2.2, zO w5.1 0 [.ref w5.2.1, .int 0, .int 0, .int 0], zB T w5.2.1 (((([] : List Nat) ++ (ltx 27)) ++ (decL t.2.1)).length) w5.2.2]) (st' := [.ref w5.1]) rfl rfl ?_
      refine sx_wsub (ws' := [zO w5.1 0 [.ref w5.2.1, .int 0, .int 0, .int 0], zB T w5.2.1 (((([] : List Nat) ++ (ltx 27)) ++ (decL t.2.1)).length) w5.2.2]) [2, 3] rfl rfl ?_
      refine sx_widen (k' := mcT (h + 1)) (n' := msT (h + 1)) (by show _ ≤ 9 + 2 * mcT h; omega) (by show _ ≤ 18100 + 2 * msT h; omega) ?_
      refine sx_pick (w5.1, [oST w5.1 w5.2.1, zB T w5.2.1 ((([] : List Nat) ++ (ltx 27)) ++ (decL t.2.1)).length w5.2.2]) (Or.inr ⟨w5.2.1, w5.2.2, by rw [hE], by rw [hE]; exact hw5⟩) ?_
      exact sx_aret X dX16_text_126 rfl rfl rfl
    · have hE : ntx (h + 1) t = ltx (wrdK t.2.1) := by
        rw [ntx_s, hs]
        rfl
      refine sx_aload_n X 0 rfl dX16_text_0 rfl ?_
      refine sx_gof X hs0 qm_1406 dX16_text_1 ?_
      refine sx_topi (y := 1) (by rw [hs]; rfl) ?_
      refine sx_tin X (off := 123) 127 dX16_text_4 rfl ⟨by decide, by decide, by decide⟩ ?_
      refine sx_gstN X XJ.2.2.2.2.1 (List.mem_of_getElem? (i := 1) rfl) dX16_text_127 ?_
      refine sx_aload_n X 0 rfl dX16_text_130 rfl ?_
      refine sx_gof X hn0 qm_1407 dX16_text_131 ?_
      refine sx_stq X XJ.2.2.2.2.2.1 (v := .ref (jd.2.2.2.2 (wrdK t.2.1))) (nI_in (by omega) (by omega)) (by rw [nI_clamp (by omega)]) dX16_text_134 ?_
      refine sx_widen (k' := mcT (h + 1)) (n' := msT (h + 1)) (Nat.zero_le _) (Nat.zero_le _) ?_
      refine sx_pick (jd.2.2.2.2 (wrdK t.2.1), []) (Or.inl ⟨rfl, wrdK t.2.1, wrd_lt _ hn, rfl, hE⟩) ?_
      exact sx_aret X dX16_text_135 rfl rfl rfl
    · have hE : ntx (h + 1) t = (([] ++ ltx 28) ++ decL t.2.1) := by
        rw [ntx_s, hs]
        rfl
      refine sx_aload_n X 0 rfl dX16_text_0 rfl ?_
      refine sx_gof X hs0 qm_1406 dX16_text_1 ?_
      refine sx_topi (y := 2) (by rw [hs]; rfl) ?_
      refine sx_tin X (off := 132) 136 dX16_text_4 rfl ⟨by decide, by decide, by decide⟩ ?_
      refine sx_new X (fs := [.null, .int 0, .int 0, .int 0]) kJ4 qm_1528 qm_1439 qm_26 (by decide) (by show _ ≤ 9 + 2 * mcT h; omega) (by show _ ≤ 18100 + 2 * msT h; omega) dX16_text_136 (fun b6 => ?_)
      refine sx_chg (ws' := [zO b6 1 [.null, .int 0, .int 0, .int 0]]) (st' := [.ref b6]) rfl rfl ?_
      refine sx_dup X dX16_text_139 rfl ?_
      refine sx_pI X (c_sbIn (l := l) (D := D) (T := T) (sd := sd) (jd := jd) b6) XY.M (wr := []) qm_1529 qm_1441 qm_26 qm_1442 rfl hd_sbIn ⟨rfl, rfl⟩ ⟨(rt_f (Nat.le_of_ble_eq_true rfl)), (rt_l (Nat.le_of_ble_eq_true rfl))⟩ rfl rfl (Nat.le_of_ble_eq_true rfl) ⟨(by show _ ≤ 9 + 2 * mcT h; omega), (by show _ ≤ 18100 + 2 * msT h; omega)⟩ dX16_text_140 rfl (fun q7 hq7 => ?_)
      refine sx_chg (ws' := [zO b6 1 [.ref q7, .int 0, .int 0, .int (nI ([] : List Nat).length)], zB T q7 16 (fun _ => 0)]) (st' := [.ref b6]) rfl rfl ?_
      refine sx_ldcS X (show vk_R "WeatherTeaLaw$Node" 63 "force of f" (jd.2.2.2.2 28) s from (XJ.2.2.2.2.2.2.2.2.1 28 (by decide)).2) dX16_text_143 ?_
      refine sx_pV X (c_sbS (l := l) (D := D) (T := T) (sd := sd) (jd := jd) (jd.2.2.2.2 28) b6 q7 16 ([] : List Nat) (ltx 28) (fun _ => 0) SBf_0 (by rw [hE] at hlen; simp only [List.length_append, List.length_nil] at hlen ⊢; omega) (ltx_128 28 (by decide))) (XY.M.and (XY.Mf (StrAt_ok _ _) (XJ.2.2.2.2.2.2.2.2.1 28 (by decide)).1)) (wr := []) (sx_rcv X (q0 := 0) (w := [zO b6 1 [.ref q7, .int 0, .int 0, .int (nI ([] : List Nat).length)], zB T q7 16 (fun _ => 0)]) rfl rfl) qm_1531 qm_1223 qm_1224 qm_26 qm_1225 hd_sbS ⟨rfl, rfl⟩ ⟨(rt_f (Nat.le_of_ble_eq_true rfl)), (rt_l (Nat.le_of_ble_eq_true rfl))⟩ rfl rfl (Nat.le_of_ble_eq_true rfl) ⟨(by show _ ≤ 9 + 2 * mcT h; omega), (by show _ ≤ 18100 + 2 * msT h; omega)⟩ dX16_text_145 rfl (fun w8 hw8 => ?_)
      refine sx_chg (ws' := [zO b6 1 [.ref w8.1, .int 0, .int 0, .int (nI (([] : List Nat) ++ (ltx 28)).length)], zB T w8.1 w8.2.1 w8.2.2]) (st' := [.ref b6]) rfl rfl ?_
      refine sx_aload_n X 0 rfl dX16_text_148 rfl ?_
      refine sx_gof X hn0 qm_1407 dX16_text_149 ?_
      refine sx_pV X (c_sbI (l := l) (D := D) (T := T) (sd := sd) (jd := jd) b6 w8.1 w8.2.1 t.2.1 (([] : List Nat) ++ (ltx 28)) w8.2.2 hw8 (by omega) (by rw [hE] at hlen; simp only [List.length_append, List.length_nil] at hlen ⊢; omega)) XY.M (wr := []) (sx_rcv X (q0 := 0) (w := [zO b6 1 [.ref w8.1, .int 0, .int 0, .int (nI (([] : List Nat) ++ (ltx 28)).length)], zB T w8.1 w8.2.1 w8.2.2]) rfl rfl) qm_1532 qm_1329 qm_1330 qm_26 qm_1331 hd_sbI ⟨rfl, rfl⟩ ⟨(rt_f (Nat.le_of_ble_eq_true rfl)), (rt_l (Nat.le_of_ble_eq_true rfl))⟩ rfl rfl (Nat.le_of_ble_eq_true rfl) ⟨(by show _ ≤ 9 + 2 * mcT h; omega), (by show _ ≤ 18100 + 2 * msT h; omega)⟩ dX16_text_152 rfl (fun w9 hw9 => ?_)
      refine sx_chg (ws' := [zO b6 1 [.ref w9.1, .int 0, .int 0, .int (nI ((([] : List Nat) ++ (ltx 28)) ++ (decL t.2.1)).length)], zB T w9.1 w9.2.1 w9.2.2]) (st' := [.ref b6]) rfl rfl ?_
      refine sx_pV X (c_sbStr (l := l) (D := D) (T := T) (sd := sd) (jd := jd) b6 w9.1 w9.2.1 ((([] : List Nat) ++ (ltx 28)) ++ (decL t.2.1)) w9.2.2 hw9) XY.M (wr := []) (sx_rcv X (q0 := 0) (w := [zO b6 1 [.ref w9.1, .int 0, .int 0, .int (nI ((([] : List Nat) ++ (ltx 28)) ++ (decL t.2.1)).length)], zB T w9.1 w9.2.1 w9.2.2]) rfl rfl) qm_1533 qm_1463 qm_1464 qm_26 qm_1465 hd_sbStr ⟨rfl, rfl⟩ ⟨(rt_f (Nat.le_of_ble_eq_true rfl)), (rt_l (Nat.le_of_ble_eq_true rfl))⟩ rfl rfl (Nat.le_of_ble_eq_true rfl) ⟨(by show _ ≤ 9 + 2 * mcT h; omega), (by show _ ≤ 18100 + 2 * msT h; omega)⟩ dX16_text_155 rfl (fun w10 hw10 => ?_)
      refine sx_chg (ws' := [zO b6 1 [.ref w9.1, .int 0, .int 0, .int (nI ((([] : List Nat) ++ (ltx 28)) ++ (decL t.2.1)).length)], zB T w9.1 w9.2.1 w9.2.2, zO w10.1 0 [.ref w10.2.1, .int 0, .int 0, .int 0], zB T w10.2.1 (((([] : List Nat) ++ (ltx 28)) ++ (decL t.2.1)).length) w10.2.2]) (st' := [.ref w10.1]) rfl rfl ?_
      refine sx_wsub (ws' := [zO w10.1 0 [.ref w10.2.1, .int 0, .int 0, .int 0], zB T w10.2.1 (((([] : List Nat) ++ (ltx 28)) ++ (decL t.2.1)).length) w10.2.2]) [2, 3] rfl rfl ?_
      refine sx_widen (k' := mcT (h + 1)) (n' := msT (h + 1)) (by show _ ≤ 9 + 2 * mcT h; omega) (by show _ ≤ 18100 + 2 * msT h; omega) ?_
      refine sx_pick (w10.1, [oST w10.1 w10.2.1, zB T w10.2.1 ((([] : List Nat) ++ (ltx 28)) ++ (decL t.2.1)).length w10.2.2]) (Or.inr ⟨w10.2.1, w10.2.2, by rw [hE], by rw [hE]; exact hw10⟩) ?_
      exact sx_aret X dX16_text_158 rfl rfl rfl
    · obtain ⟨ca, hca, hka⟩ := ha
      rw [hca] at hA
      obtain ⟨xa, rfl, hxa⟩ := hA
      have hE : ntx (h + 1) t = (([] ++ ltx 29) ++ ntx h ca) := by
        rw [ntx_s, hs, hca]
        rfl
      refine sx_aload_n X 0 rfl dX16_text_0 rfl ?_
      refine sx_gof X hs0 qm_1406 dX16_text_1 ?_
      refine sx_topi (y := 3) (by rw [hs]; rfl) ?_
      refine sx_tin X (off := 155) 159 dX16_text_4 rfl ⟨by decide, by decide, by decide⟩ ?_
      refine sx_new X (fs := [.null, .int 0, .int 0, .int 0]) kJ4 qm_1528 qm_1439 qm_26 (by decide) (by show _ ≤ 9 + 2 * mcT h; omega) (by show _ ≤ 18100 + 2 * msT h; omega) dX16_text_159 (fun b11 => ?_)
      refine sx_chg (ws' := [zO b11 1 [.null, .int 0, .int 0, .int 0]]) (st' := [.ref b11]) rfl rfl ?_
      refine sx_dup X dX16_text_162 rfl ?_
      refine sx_pI X (c_sbIn (l := l) (D := D) (T := T) (sd := sd) (jd := jd) b11) XY.M (wr := []) qm_1529 qm_1441 qm_26 qm_1442 rfl hd_sbIn ⟨rfl, rfl⟩ ⟨(rt_f (Nat.le_of_ble_eq_true rfl)), (rt_l (Nat.le_of_ble_eq_true rfl))⟩ rfl rfl (Nat.le_of_ble_eq_true rfl) ⟨(by show _ ≤ 9 + 2 * mcT h; omega), (by show _ ≤ 18100 + 2 * msT h; omega)⟩ dX16_text_163 rfl (fun q12 hq12 => ?_)
      refine sx_chg (ws' := [zO b11 1 [.ref q12, .int 0, .int 0, .int (nI ([] : List Nat).length)], zB T q12 16 (fun _ => 0)]) (st' := [.ref b11]) rfl rfl ?_
      refine sx_ldcS X (show vk_R "WeatherTeaLaw$Node" 65 "-" (jd.2.2.2.2 29) s from (XJ.2.2.2.2.2.2.2.2.1 29 (by decide)).2) dX16_text_166 ?_
      refine sx_pV X (c_sbS (l := l) (D := D) (T := T) (sd := sd) (jd := jd) (jd.2.2.2.2 29) b11 q12 16 ([] : List Nat) (ltx 29) (fun _ => 0) SBf_0 (by rw [hE] at hlen; simp only [List.length_append, List.length_nil] at hlen ⊢; omega) (ltx_128 29 (by decide))) (XY.M.and (XY.Mf (StrAt_ok _ _) (XJ.2.2.2.2.2.2.2.2.1 29 (by decide)).1)) (wr := []) (sx_rcv X (q0 := 0) (w := [zO b11 1 [.ref q12, .int 0, .int 0, .int (nI ([] : List Nat).length)], zB T q12 16 (fun _ => 0)]) rfl rfl) qm_1531 qm_1223 qm_1224 qm_26 qm_1225 hd_sbS ⟨rfl, rfl⟩ ⟨(rt_f (Nat.le_of_ble_eq_true rfl)), (rt_l (Nat.le_of_ble_eq_true rfl))⟩ rfl rfl (Nat.le_of_ble_eq_true rfl) ⟨(by show _ ≤ 9 + 2 * mcT h; omega), (by show _ ≤ 18100 + 2 * msT h; omega)⟩ dX16_text_168 rfl (fun w13 hw13 => ?_)
      refine sx_chg (ws' := [zO b11 1 [.ref w13.1, .int 0, .int 0, .int (nI (([] : List Nat) ++ (ltx 29)).length)], zB T w13.1 w13.2.1 w13.2.2]) (st' := [.ref b11]) rfl rfl ?_
      refine sx_aload_n X 0 rfl dX16_text_171 rfl ?_
      refine sx_gof X ha0 qm_1408 dX16_text_172 ?_
      refine sx_pV X (ih xa ca hka (by rw [hE] at hlen; simp only [List.length_append, List.length_nil] at hlen ⊢; omega)) (XY.M.and (XY.Mf (FzN_ok _ _ _) hxa)) (wr := [zO b11 1 [.ref w13.1, .int 0, .int 0, .int (nI (([] : List Nat) ++ (ltx 29)).length)], zB T w13.1 w13.2.1 w13.2.2]) (sx_rcvO (FzN_O hxa)) qm_1538 qm_1525 qm_1526 qm_40 qm_1527 hd_ntx ⟨rfl, rfl⟩ ⟨(show h + 7 + 1 ≤ h + 1 + 7 by omega), (by show 8 + (_ + 11) + (h * 60 + 500) ≤ (h + 1) * 60 + 500; omega)⟩ rfl rfl (Nat.le_of_ble_eq_true rfl) ⟨(by show _ ≤ 9 + 2 * mcT h; omega), (by show _ ≤ 18100 + 2 * msT h; omega)⟩ dX16_text_175 rfl (fun r14 hr14 => ?_)
      refine sx_chg (ws' := r14.2 ++ [zO b11 1 [.ref w13.1, .int 0, .int 0, .int (nI (([] : List Nat) ++ (ltx 29)).length)], zB T w13.1 w13.2.1 w13.2.2]) (st' := [.ref r14.1, .ref b11]) rfl rfl ?_
      refine sx_perm List.perm_append_comm ?_
      refine sx_pV X (c_sbS (l := l) (D := D) (T := T) (sd := sd) (jd := jd) r14.1 b11 w13.1 w13.2.1 (([] : List Nat) ++ (ltx 29)) (ntx h ca) w13.2.2 hw13 (by rw [hE] at hlen; simp only [List.length_append, List.length_nil] at hlen ⊢; omega) (ntx_128 h ca hka)) (XY.M.and (TxR_M XY hr14)) (wr := ([] ++ r14.2)) (sx_rcv X (q0 := 0) (w := ([zO b11 1 [.ref w13.1, .int 0, .int 0, .int (nI (([] : List Nat) ++ (ltx 29)).length)], zB T w13.1 w13.2.1 w13.2.2] ++ r14.2)) rfl rfl) qm_1531 qm_1223 qm_1224 qm_26 qm_1225 hd_sbS ⟨rfl, rfl⟩ ⟨(rt_f (Nat.le_of_ble_eq_true rfl)), (rt_l (Nat.le_of_ble_eq_true rfl))⟩ rfl rfl (Nat.le_of_ble_eq_true rfl) ⟨(by show _ ≤ 9 + 2 * mcT h; omega), (by show _ ≤ 18100 + 2 * msT h; omega)⟩ dX16_text_178 rfl (fun w15 hw15 => ?_)
      refine sx_chg (ws' := [zO b11 1 [.ref w15.1, .int 0, .int 0, .int (nI ((([] : List Nat) ++ (ltx 29)) ++ (ntx h ca)).length)], zB T w15.1 w15.2.1 w15.2.2] ++ r14.2) (st' := [.ref b11]) rfl rfl ?_
      refine sx_drop ?_
      refine sx_pV X (c_sbStr (l := l) (D := D) (T := T) (sd := sd) (jd := jd) b11 w15.1 w15.2.1 ((([] : List Nat) ++ (ltx 29)) ++ (ntx h ca)) w15.2.2 hw15) XY.M (wr := []) (sx_rcv X (q0 := 0) (w := [zO b11 1 [.ref w15.1, .int 0, .int 0, .int (nI ((([] : List Nat) ++ (ltx 29)) ++ (ntx h ca)).length)], zB T w15.1 w15.2.1 w15.2.2]) rfl rfl) qm_1533 qm_1463 qm_1464 qm_26 qm_1465 hd_sbStr ⟨rfl, rfl⟩ ⟨(rt_f (Nat.le_of_ble_eq_true rfl)), (rt_l (Nat.le_of_ble_eq_true rfl))⟩ rfl rfl (Nat.le_of_ble_eq_true rfl) ⟨(by show _ ≤ 9 + 2 * mcT h; omega), (by show _ ≤ 18100 + 2 * msT h; omega)⟩ dX16_text_181 rfl (fun w16 hw16 => ?_)
      refine sx_chg (ws' := [zO b11 1 [.ref w15.1, .int 0, .int 0, .int (nI ((([] : List Nat) ++ (ltx 29)) ++ (ntx h ca)).length)], zB T w15.1 w15.2.1 w15.2.2, zO w16.1 0 [.ref w16.2.1, .int 0, .int 0, .int 0], zB T w16.2.1 (((([] : List Nat) ++ (ltx 29)) ++ (ntx h ca)).length) w16.2.2]) (st' := [.ref w16.1]) rfl rfl ?_
      refine sx_wsub (ws' := [zO w16.1 0 [.ref w16.2.1, .int 0, .int 0, .int 0], zB T w16.2.1 (((([] : List Nat) ++ (ltx 29)) ++ (ntx h ca)).length) w16.2.2]) [2, 3] rfl rfl ?_
      refine sx_widen (k' := mcT (h + 1)) (n' := msT (h + 1)) (by show _ ≤ 9 + 2 * mcT h; omega) (by show _ ≤ 18100 + 2 * msT h; omega) ?_
      refine sx_pick (w16.1, [oST w16.1 w16.2.1, zB T w16.2.1 ((([] : List Nat) ++ (ltx 29)) ++ (ntx h ca)).length w16.2.2]) (Or.inr ⟨w16.2.1, w16.2.2, by rw [hE], by rw [hE]; exact hw16⟩) ?_
      exact sx_aret X dX16_text_184 rfl rfl rfl
    · obtain ⟨ca, hca, hka⟩ := ha
      rw [hca] at hA
      obtain ⟨xa, rfl, hxa⟩ := hA
      obtain ⟨cb, hcb, hkb⟩ := hb
      rw [hcb] at hB
      obtain ⟨xb, rfl, hxb⟩ := hB
      have hE : ntx (h + 1) t = ((((([] ++ ltx 30) ++ ntx h ca) ++ ltx 31) ++ ntx h cb) ++ ltx 32) := by
        rw [ntx_s, hs, hca, hcb]
        rfl
      refine sx_aload_n X 0 rfl dX16_text_0 rfl ?_
      refine sx_gof X hs0 qm_1406 dX16_text_1 ?_
      refine sx_topi (y := 4) (by rw [hs]; rfl) ?_
      refine sx_tin X (off := 181) 185 dX16_text_4 rfl ⟨by decide, by decide, by decide⟩ ?_
      refine sx_new X (fs := [.null, .int 0, .int 0, .int 0]) kJ4 qm_1528 qm_1439 qm_26 (by decide) (by show _ ≤ 9 + 2 * mcT h; omega) (by show _ ≤ 18100 + 2 * msT h; omega) dX16_text_185 (fun b17 => ?_)
      refine sx_chg (ws' := [zO b17 1 [.null, .int 0, .int 0, .int 0]]) (st' := [.ref b17]) rfl rfl ?_
      refine sx_dup X dX16_text_188 rfl ?_
      refine sx_pI X (c_sbIn (l := l) (D := D) (T := T) (sd := sd) (jd := jd) b17) XY.M (wr := []) qm_1529 qm_1441 qm_26 qm_1442 rfl hd_sbIn ⟨rfl, rfl⟩ ⟨(rt_f (Nat.le_of_ble_eq_true rfl)), (rt_l (Nat.le_of_ble_eq_true rfl))⟩ rfl rfl (Nat.le_of_ble_eq_true rfl) ⟨(by show _ ≤ 9 + 2 * mcT h; omega), (by show _ ≤ 18100 + 2 * msT h; omega)⟩ dX16_text_189 rfl (fun q18 hq18 => ?_)
      refine sx_chg (ws' := [zO b17 1 [.ref q18, .int 0, .int 0, .int (nI ([] : List Nat).length)], zB T q18 16 (fun _ => 0)]) (st' := [.ref b17]) rfl rfl ?_
      refine sx_ldcS X (show vk_R "WeatherTeaLaw$Node" 70 "min(" (jd.2.2.2.2 30) s from (XJ.2.2.2.2.2.2.2.2.1 30 (by decide)).2) dX16_text_192 ?_
      refine sx_pV X (c_sbS (l := l) (D := D) (T := T) (sd := sd) (jd := jd) (jd.2.2.2.2 30) b17 q18 16 ([] : List Nat) (ltx 30) (fun _ => 0) SBf_0 (by rw [hE] at hlen; simp only [List.length_append, List.length_nil] at hlen ⊢; omega) (ltx_128 30 (by decide))) (XY.M.and (XY.Mf (StrAt_ok _ _) (XJ.2.2.2.2.2.2.2.2.1 30 (by decide)).1)) (wr := []) (sx_rcv X (q0 := 0) (w := [zO b17 1 [.ref q18, .int 0, .int 0, .int (nI ([] : List Nat).length)], zB T q18 16 (fun _ => 0)]) rfl rfl) qm_1531 qm_1223 qm_1224 qm_26 qm_1225 hd_sbS ⟨rfl, rfl⟩ ⟨(rt_f (Nat.le_of_ble_eq_true rfl)), (rt_l (Nat.le_of_ble_eq_true rfl))⟩ rfl rfl (Nat.le_of_ble_eq_true rfl) ⟨(by show _ ≤ 9 + 2 * mcT h; omega), (by show _ ≤ 18100 + 2 * msT h; omega)⟩ dX16_text_194 rfl (fun w19 hw19 => ?_)
      refine sx_chg (ws' := [zO b17 1 [.ref w19.1, .int 0, .int 0, .int (nI (([] : List Nat) ++ (ltx 30)).length)], zB T w19.1 w19.2.1 w19.2.2]) (st' := [.ref b17]) rfl rfl ?_
      refine sx_aload_n X 0 rfl dX16_text_197 rfl ?_
      refine sx_gof X ha0 qm_1408 dX16_text_198 ?_
      refine sx_pV X (ih xa ca hka (by rw [hE] at hlen; simp only [List.length_append, List.length_nil] at hlen ⊢; omega)) (XY.M.and (XY.Mf (FzN_ok _ _ _) hxa)) (wr := [zO b17 1 [.ref w19.1, .int 0, .int 0, .int (nI (([] : List Nat) ++ (ltx 30)).length)], zB T w19.1 w19.2.1 w19.2.2]) (sx_rcvO (FzN_O hxa)) qm_1538 qm_1525 qm_1526 qm_40 qm_1527 hd_ntx ⟨rfl, rfl⟩ ⟨(show h + 7 + 1 ≤ h + 1 + 7 by omega), (by show 8 + (_ + 11) + (h * 60 + 500) ≤ (h + 1) * 60 + 500; omega)⟩ rfl rfl (Nat.le_of_ble_eq_true rfl) ⟨(by show _ ≤ 9 + 2 * mcT h; omega), (by show _ ≤ 18100 + 2 * msT h; omega)⟩ dX16_text_201 rfl (fun r20 hr20 => ?_)
      refine sx_chg (ws' := r20.2 ++ [zO b17 1 [.ref w19.1, .int 0, .int 0, .int (nI (([] : List Nat) ++ (ltx 30)).length)], zB T w19.1 w19.2.1 w19.2.2]) (st' := [.ref r20.1, .ref b17]) rfl rfl ?_
      refine sx_perm List.perm_append_comm ?_
      refine sx_pV X (c_sbS (l := l) (D := D) (T := T) (sd := sd) (jd := jd) r20.1 b17 w19.1 w19.2.1 (([] : List Nat) ++ (ltx 30)) (ntx h ca) w19.2.2 hw19 (by rw [hE] at hlen; simp only [List.length_append, List.length_nil] at hlen ⊢; omega) (ntx_128 h ca hka)) (XY.M.and (TxR_M XY hr20)) (wr := ([] ++ r20.2)) (sx_rcv X (q0 := 0) (w := ([zO b17 1 [.ref w19.1, .int 0, .int 0, .int (nI (([] : List Nat) ++ (ltx 30)).length)], zB T w19.1 w19.2.1 w19.2.2] ++ r20.2)) rfl rfl) qm_1531 qm_1223 qm_1224 qm_26 qm_1225 hd_sbS ⟨rfl, rfl⟩ ⟨(rt_f (Nat.le_of_ble_eq_true rfl)), (rt_l (Nat.le_of_ble_eq_true rfl))⟩ rfl rfl (Nat.le_of_ble_eq_true rfl) ⟨(by show _ ≤ 9 + 2 * mcT h; omega), (by show _ ≤ 18100 + 2 * msT h; omega)⟩ dX16_text_204 rfl (fun w21 hw21 => ?_)
      refine sx_chg (ws' := [zO b17 1 [.ref w21.1, .int 0, .int 0, .int (nI ((([] : List Nat) ++ (ltx 30)) ++ (ntx h ca)).length)], zB T w21.1 w21.2.1 w21.2.2] ++ r20.2) (st' := [.ref b17]) rfl rfl ?_
      refine sx_drop ?_
      refine sx_ldcS X (show vk_R "WeatherTeaLaw$Node" 72 "," (jd.2.2.2.2 31) s from (XJ.2.2.2.2.2.2.2.2.1 31 (by decide)).2) dX16_text_207 ?_
      refine sx_pV X (c_sbS (l := l) (D := D) (T := T) (sd := sd) (jd := jd) (jd.2.2.2.2 31) b17 w21.1 w21.2.1 ((([] : List Nat) ++ (ltx 30)) ++ (ntx h ca)) (ltx 31) w21.2.2 hw21 (by rw [hE] at hlen; simp only [List.length_append, List.length_nil] at hlen ⊢; omega) (ltx_128 31 (by decide))) (XY.M.and (XY.Mf (StrAt_ok _ _) (XJ.2.2.2.2.2.2.2.2.1 31 (by decide)).1)) (wr := []) (sx_rcv X (q0 := 0) (w := [zO b17 1 [.ref w21.1, .int 0, .int 0, .int (nI ((([] : List Nat) ++ (ltx 30)) ++ (ntx h ca)).length)], zB T w21.1 w21.2.1 w21.2.2]) rfl rfl) qm_1531 qm_1223 qm_1224 qm_26 qm_1225 hd_sbS ⟨rfl, rfl⟩ ⟨(rt_f (Nat.le_of_ble_eq_true rfl)), (rt_l (Nat.le_of_ble_eq_true rfl))⟩ rfl rfl (Nat.le_of_ble_eq_true rfl) ⟨(by show _ ≤ 9 + 2 * mcT h; omega), (by show _ ≤ 18100 + 2 * msT h; omega)⟩ dX16_text_209 rfl (fun w22 hw22 => ?_)
      refine sx_chg (ws' := [zO b17 1 [.ref w22.1, .int 0, .int 0, .int (nI (((([] : List Nat) ++ (ltx 30)) ++ (ntx h ca)) ++ (ltx 31)).length)], zB T w22.1 w22.2.1 w22.2.2]) (st' := [.ref b17]) rfl rfl ?_
      refine sx_aload_n X 0 rfl dX16_text_212 rfl ?_
      refine sx_gof X hb0 qm_1409 dX16_text_213 ?_
      refine sx_pV X (ih xb cb hkb (by rw [hE] at hlen; simp only [List.length_append, List.length_nil] at hlen ⊢; omega)) (XY.M.and (XY.Mf (FzN_ok _ _ _) hxb)) (wr := [zO b17 1 [.ref w22.1, .int 0, .int 0, .int (nI (((([] : List Nat) ++ (ltx 30)) ++ (ntx h ca)) ++ (ltx 31)).length)], zB T w22.1 w22.2.1 w22.2.2]) (sx_rcvO (FzN_O hxb)) qm_1538 qm_1525 qm_1526 qm_40 qm_1527 hd_ntx ⟨rfl, rfl⟩ ⟨(show h + 7 + 1 ≤ h + 1 + 7 by omega), (by show 8 + (_ + 11) + (h * 60 + 500) ≤ (h + 1) * 60 + 500; omega)⟩ rfl rfl (Nat.le_of_ble_eq_true rfl) ⟨(by show _ ≤ 9 + 2 * mcT h; omega), (by show _ ≤ 18100 + 2 * msT h; omega)⟩ dX16_text_216 rfl (fun r23 hr23 => ?_)
      refine sx_chg (ws' := r23.2 ++ [zO b17 1 [.ref w22.1, .int 0, .int 0, .int (nI (((([] : List Nat) ++ (ltx 30)) ++ (ntx h ca)) ++ (ltx 31)).length)], zB T w22.1 w22.2.1 w22.2.2]) (st' := [.ref r23.1, .ref b17]) rfl rfl ?_
      refine sx_perm List.perm_append_comm ?_
      refine sx_pV X (c_sbS (l := l) (D := D) (T := T) (sd := sd) (jd := jd) r23.1 b17 w22.1 w22.2.1 (((([] : List Nat) ++ (ltx 30)) ++ (ntx h ca)) ++ (ltx 31)) (ntx h cb) w22.2.2 hw22 (by rw [hE] at hlen; simp only [List.length_append, List.length_nil] at hlen ⊢; omega) (ntx_128 h cb hkb)) (XY.M.and (TxR_M XY hr23)) (wr := ([] ++ r23.2)) (sx_rcv X (q0 := 0) (w := ([zO b17 1 [.ref w22.1, .int 0, .int 0, .int (nI (((([] : List Nat) ++ (ltx 30)) ++ (ntx h ca)) ++ (ltx 31)).length)], zB T w22.1 w22.2.1 w22.2.2] ++ r23.2)) rfl rfl) qm_1531 qm_1223 qm_1224 qm_26 qm_1225 hd_sbS ⟨rfl, rfl⟩ ⟨(rt_f (Nat.le_of_ble_eq_true rfl)), (rt_l (Nat.le_of_ble_eq_true rfl))⟩ rfl rfl (Nat.le_of_ble_eq_true rfl) ⟨(by show _ ≤ 9 + 2 * mcT h; omega), (by show _ ≤ 18100 + 2 * msT h; omega)⟩ dX16_text_219 rfl (fun w24 hw24 => ?_)
      refine sx_chg (ws' := [zO b17 1 [.ref w24.1, .int 0, .int 0, .int (nI ((((([] : List Nat) ++ (ltx 30)) ++ (ntx h ca)) ++ (ltx 31)) ++ (ntx h cb)).length)], zB T w24.1 w24.2.1 w24.2.2] ++ r23.2) (st' := [.ref b17]) rfl rfl ?_
      refine sx_drop ?_
      refine sx_ldcS X (show vk_R "WeatherTeaLaw$Node" 74 ")" (jd.2.2.2.2 32) s from (XJ.2.2.2.2.2.2.2.2.1 32 (by decide)).2) dX16_text_222 ?_
      refine sx_pV X (c_sbS (l := l) (D := D) (T := T) (sd := sd) (jd := jd) (jd.2.2.2.2 32) b17 w24.1 w24.2.1 ((((([] : List Nat) ++ (ltx 30)) ++ (ntx h ca)) ++ (ltx 31)) ++ (ntx h cb)) (ltx 32) w24.2.2 hw24 (by rw [hE] at hlen; simp only [List.length_append, List.length_nil] at hlen ⊢; omega) (ltx_128 32 (by decide))) (XY.M.and (XY.Mf (StrAt_ok _ _) (XJ.2.2.2.2.2.2.2.2.1 32 (by decide)).1)) (wr := []) (sx_rcv X (q0 := 0) (w := [zO b17 1 [.ref w24.1, .int 0, .int 0, .int (nI ((((([] : List Nat) ++ (ltx 30)) ++ (ntx h ca)) ++ (ltx 31)) ++ (ntx h cb)).length)], zB T w24.1 w24.2.1 w24.2.2]) rfl rfl) qm_1531 qm_1223 qm_1224 qm_26 qm_1225 hd_sbS ⟨rfl, rfl⟩ ⟨(rt_f (Nat.le_of_ble_eq_true rfl)), (rt_l (Nat.le_of_ble_eq_true rfl))⟩ rfl rfl (Nat.le_of_ble_eq_true rfl) ⟨(by show _ ≤ 9 + 2 * mcT h; omega), (by show _ ≤ 18100 + 2 * msT h; omega)⟩ dX16_text_224 rfl (fun w25 hw25 => ?_)
      refine sx_chg (ws' := [zO b17 1 [.ref w25.1, .int 0, .int 0, .int (nI (((((([] : List Nat) ++ (ltx 30)) ++ (ntx h ca)) ++ (ltx 31)) ++ (ntx h cb)) ++ (ltx 32)).length)], zB T w25.1 w25.2.1 w25.2.2]) (st' := [.ref b17]) rfl rfl ?_
      refine sx_pV X (c_sbStr (l := l) (D := D) (T := T) (sd := sd) (jd := jd) b17 w25.1 w25.2.1 (((((([] : List Nat) ++ (ltx 30)) ++ (ntx h ca)) ++ (ltx 31)) ++ (ntx h cb)) ++ (ltx 32)) w25.2.2 hw25) XY.M (wr := []) (sx_rcv X (q0 := 0) (w := [zO b17 1 [.ref w25.1, .int 0, .int 0, .int (nI (((((([] : List Nat) ++ (ltx 30)) ++ (ntx h ca)) ++ (ltx 31)) ++ (ntx h cb)) ++ (ltx 32)).length)], zB T w25.1 w25.2.1 w25.2.2]) rfl rfl) qm_1533 qm_1463 qm_1464 qm_26 qm_1465 hd_sbStr ⟨rfl, rfl⟩ ⟨(rt_f (Nat.le_of_ble_eq_true rfl)), (rt_l (Nat.le_of_ble_eq_true rfl))⟩ rfl rfl (Nat.le_of_ble_eq_true rfl) ⟨(by show _ ≤ 9 + 2 * mcT h; omega), (by show _ ≤ 18100 + 2 * msT h; omega)⟩ dX16_text_227 rfl (fun w26 hw26 => ?_)
      refine sx_chg (ws' := [zO b17 1 [.ref w25.1, .int 0, .int 0, .int (nI (((((([] : List Nat) ++ (ltx 30)) ++ (ntx h ca)) ++ (ltx 31)) ++ (ntx h cb)) ++ (ltx 32)).length)], zB T w25.1 w25.2.1 w25.2.2, zO w26.1 0 [.ref w26.2.1, .int 0, .int 0, .int 0], zB T w26.2.1 ((((((([] : List Nat) ++ (ltx 30)) ++ (ntx h ca)) ++ (ltx 31)) ++ (ntx h cb)) ++ (ltx 32)).length) w26.2.2]) (st' := [.ref w26.1]) rfl rfl ?_
      refine sx_wsub (ws' := [zO w26.1 0 [.ref w26.2.1, .int 0, .int 0, .int 0], zB T w26.2.1 ((((((([] : List Nat) ++ (ltx 30)) ++ (ntx h ca)) ++ (ltx 31)) ++ (ntx h cb)) ++ (ltx 32)).length) w26.2.2]) [2, 3] rfl rfl ?_
      refine sx_widen (k' := mcT (h + 1)) (n' := msT (h + 1)) (by show _ ≤ 9 + 2 * mcT h; omega) (by show _ ≤ 18100 + 2 * msT h; omega) ?_
      refine sx_pick (w26.1, [oST w26.1 w26.2.1, zB T w26.2.1 (((((([] : List Nat) ++ (ltx 30)) ++ (ntx h ca)) ++ (ltx 31)) ++ (ntx h cb)) ++ (ltx 32)).length w26.2.2]) (Or.inr ⟨w26.2.1, w26.2.2, by rw [hE], by rw [hE]; exact hw26⟩) ?_
      exact sx_aret X dX16_text_230 rfl rfl rfl
    · obtain ⟨ca, hca, hka⟩ := ha
      rw [hca] at hA
      obtain ⟨xa, rfl, hxa⟩ := hA
      obtain ⟨cb, hcb, hkb⟩ := hb
      rw [hcb] at hB
      obtain ⟨xb, rfl, hxb⟩ := hB
      have hE : ntx (h + 1) t = ((((([] ++ ltx 33) ++ ntx h ca) ++ ltx 34) ++ ntx h cb) ++ ltx 32) := by
        rw [ntx_s, hs, hca, hcb]
        rfl
      refine sx_aload_n X 0 rfl dX16_text_0 rfl ?_
      refine sx_gof X hs0 qm_1406 dX16_text_1 ?_
      refine sx_topi (y := 5) (by rw [hs]; rfl) ?_
      refine sx_tin X (off := 227) 231 dX16_text_4 rfl ⟨by decide, by decide, by decide⟩ ?_
      refine sx_new X (fs := [.null, .int 0, .int 0, .int 0]) kJ4 qm_1528 qm_1439 qm_26 (by decide) (by show _ ≤ 9 + 2 * mcT h; omega) (by show _ ≤ 18100 + 2 * msT h; omega) dX16_text_231 (fun b27 => ?_)
      refine sx_chg (ws' := [zO b27 1 [.null, .int 0, .int 0, .int 0]]) (st' := [.ref b27]) rfl rfl ?_
      refine sx_dup X dX16_text_234 rfl ?_
      refine sx_pI X (c_sbIn (l := l) (D := D) (T := T) (sd := sd) (jd := jd) b27) XY.M (wr := []) qm_1529 qm_1441 qm_26 qm_1442 rfl hd_sbIn ⟨rfl, rfl⟩ ⟨(rt_f (Nat.le_of_ble_eq_true rfl)), (rt_l (Nat.le_of_ble_eq_true rfl))⟩ rfl rfl (Nat.le_of_ble_eq_true rfl) ⟨(by show _ ≤ 9 + 2 * mcT h; omega), (by show _ ≤ 18100 + 2 * msT h; omega)⟩ dX16_text_235 rfl (fun q28 hq28 => ?_)
      refine sx_chg (ws' := [zO b27 1 [.ref q28, .int 0, .int 0, .int (nI ([] : List Nat).length)], zB T q28 16 (fun _ => 0)]) (st' := [.ref b27]) rfl rfl ?_
      refine sx_ldcS X (show vk_R "WeatherTeaLaw$Node" 76 "max(" (jd.2.2.2.2 33) s from (XJ.2.2.2.2.2.2.2.2.1 33 (by decide)).2) dX16_text_238 ?_
      refine sx_pV X (c_sbS (l := l) (D := D) (T := T) (sd := sd) (jd := jd) (jd.2.2.2.2 33) b27 q28 16 ([] : List Nat) (ltx 33) (fun _ => 0) SBf_0 (by rw [hE] at hlen; simp only [List.length_append, List.length_nil] at hlen ⊢; omega) (ltx_128 33 (by decide))) (XY.M.and (XY.Mf (StrAt_ok _ _) (XJ.2.2.2.2.2.2.2.2.1 33 (by decide)).1)) (wr := []) (sx_rcv X (q0 := 0) (w := [zO b27 1 [.ref q28, .int 0, .int 0, .int (nI ([] : List Nat).length)], zB T q28 16 (fun _ => 0)]) rfl rfl) qm_1531 qm_1223 qm_1224 qm_26 qm_1225 hd_sbS ⟨rfl, rfl⟩ ⟨(rt_f (Nat.le_of_ble_eq_true rfl)), (rt_l (Nat.le_of_ble_eq_true rfl))⟩ rfl rfl (Nat.le_of_ble_eq_true rfl) ⟨(by show _ ≤ 9 + 2 * mcT h; omega), (by show _ ≤ 18100 + 2 * msT h; omega)⟩ dX16_text_240 rfl (fun w29 hw29 => ?_)
      refine sx_chg (ws' := [zO b27 1 [.ref w29.1, .int 0, .int 0, .int (nI (([] : List Nat) ++ (ltx 33)).length)], zB T w29.1 w29.2.1 w29.2.2]) (st' := [.ref b27]) rfl rfl ?_
      refine sx_aload_n X 0 rfl dX16_text_243 rfl ?_
      refine sx_gof X ha0 qm_1408 dX16_text_244 ?_
      refine sx_pV X (ih xa ca hka (by rw [hE] at hlen; simp only [List.length_append, List.length_nil] at hlen ⊢; omega)) (XY.M.and (XY.Mf (FzN_ok _ _ _) hxa)) (wr := [zO b27 1 [.ref w29.1, .int 0, .int 0, .int (nI (([] : List Nat) ++ (ltx 33)).length)], zB T w29.1 w29.2.1 w29.2.2]) (sx_rcvO (FzN_O hxa)) qm_1538 qm_1525 qm_1526 qm_40 qm_1527 hd_ntx ⟨rfl, rfl⟩ ⟨(show h + 7 + 1 ≤ h + 1 + 7 by omega), (by show 8 + (_ + 11) + (h * 60 + 500) ≤ (h + 1) * 60 + 500; omega)⟩ rfl rfl (Nat.le_of_ble_eq_true rfl) ⟨(by show _ ≤ 9 + 2 * mcT h; omega), (by show _ ≤ 18100 + 2 * msT h; omega)⟩ dX16_text_247 rfl (fun r30 hr30 => ?_)
      refine sx_chg (ws' := r30.2 ++ [zO b27 1 [.ref w29.1, .int 0, .int 0, .int (nI (([] : List Nat) ++ (ltx 33)).length)], zB T w29.1 w29.2.1 w29.2.2]) (st' := [.ref r30.1, .ref b27]) rfl rfl ?_
      refine sx_perm List.perm_append_comm ?_
      refine sx_pV X (c_sbS (l := l) (D := D) (T := T) (sd := sd) (jd := jd) r30.1 b27 w29.1 w29.2.1 (([] : List Nat) ++ (ltx 33)) (ntx h ca) w29.2.2 hw29 (by rw [hE] at hlen; simp only [List.length_append, List.length_nil] at hlen ⊢; omega) (ntx_128 h ca hka)) (XY.M.and (TxR_M XY hr30)) (wr := ([] ++ r30.2)) (sx_rcv X (q0 := 0) (w := ([zO b27 1 [.ref w29.1, .int 0, .int 0, .int (nI (([] : List Nat) ++ (ltx 33)).length)], zB T w29.1 w29.2.1 w29.2.2] ++ r30.2)) rfl rfl) qm_1531 qm_1223 qm_1224 qm_26 qm_1225 hd_sbS ⟨rfl, rfl⟩ ⟨(rt_f (Nat.le_of_ble_eq_true rfl)), (rt_l (Nat.le_of_ble_eq_true rfl))⟩ rfl rfl (Nat.le_of_ble_eq_true rfl) ⟨(by show _ ≤ 9 + 2 * mcT h; omega), (by show _ ≤ 18100 + 2 * msT h; omega)⟩ dX16_text_250 rfl (fun w31 hw31 => ?_)
      refine sx_chg (ws' := [zO b27 1 [.ref w31.1, .int 0, .int 0, .int (nI ((([] : List Nat) ++ (ltx 33)) ++ (ntx h ca)).length)], zB T w31.1 w31.2.1 w31.2.2] ++ r30.2) (st' := [.ref b27]) rfl rfl ?_
      refine sx_drop ?_
      refine sx_ldcS X (show vk_R "WeatherTeaLaw$Node" 78 " , " (jd.2.2.2.2 34) s from (XJ.2.2.2.2.2.2.2.2.1 34 (by decide)).2) dX16_text_253 ?_
      refine sx_pV X (c_sbS (l := l) (D := D) (T := T) (sd := sd) (jd := jd) (jd.2.2.2.2 34) b27 w31.1 w31.2.1 ((([] : List Nat) ++ (ltx 33)) ++ (ntx h ca)) (ltx 34) w31.2.2 hw31 (by rw [hE] at hlen; simp only [List.length_append, List.length_nil] at hlen ⊢; omega) (ltx_128 34 (by decide))) (XY.M.and (XY.Mf (StrAt_ok _ _) (XJ.2.2.2.2.2.2.2.2.1 34 (by decide)).1)) (wr := []) (sx_rcv X (q0 := 0) (w := [zO b27 1 [.ref w31.1, .int 0, .int 0, .int (nI ((([] : List Nat) ++ (ltx 33)) ++ (ntx h ca)).length)], zB T w31.1 w31.2.1 w31.2.2]) rfl rfl) qm_1531 qm_1223 qm_1224 qm_26 qm_1225 hd_sbS ⟨rfl, rfl⟩ ⟨(rt_f (Nat.le_of_ble_eq_true rfl)), (rt_l (Nat.le_of_ble_eq_true rfl))⟩ rfl rfl (Nat.le_of_ble_eq_true rfl) ⟨(by show _ ≤ 9 + 2 * mcT h; omega), (by show _ ≤ 18100 + 2 * msT h; omega)⟩ dX16_text_255 rfl (fun w32 hw32 => ?_)
      refine sx_chg (ws' := [zO b27 1 [.ref w32.1, .int 0, .int 0, .int (nI (((([] : List Nat) ++ (ltx 33)) ++ (ntx h ca)) ++ (ltx 34)).length)], zB T w32.1 w32.2.1 w32.2.2]) (st' := [.ref b27]) rfl rfl ?_
      refine sx_aload_n X 0 rfl dX16_text_258 rfl ?_
      refine sx_gof X hb0 qm_1409 dX16_text_259 ?_
      refine sx_pV X (ih xb cb hkb (by rw [hE] at hlen; simp only [List.length_append, List.length_nil] at hlen ⊢; omega)) (XY.M.and (XY.Mf (FzN_ok _ _ _) hxb)) (wr := [zO b27 1 [.ref w32.1, .int 0, .int 0, .int (nI (((([] : List Nat) ++ (ltx 33)) ++ (ntx h ca)) ++ (ltx 34)).length)], zB T w32.1 w32.2.1 w32.2.2]) (sx_rcvO (FzN_O hxb)) qm_1538 qm_1525 qm_1526 qm_40 qm_1527 hd_ntx ⟨rfl, rfl⟩ ⟨(show h + 7 + 1 ≤ h + 1 + 7 by omega), (by show 8 + (_ + 11) + (h * 60 + 500) ≤ (h + 1) * 60 + 500; omega)⟩ rfl rfl (Nat.le_of_ble_eq_true rfl) ⟨(by show _ ≤ 9 + 2 * mcT h; omega), (by show _ ≤ 18100 + 2 * msT h; omega)⟩ dX16_text_262 rfl (fun r33 hr33 => ?_)
      refine sx_chg (ws' := r33.2 ++ [zO b27 1 [.ref w32.1, .int 0, .int 0, .int (nI (((([] : List Nat) ++ (ltx 33)) ++ (ntx h ca)) ++ (ltx 34)).length)], zB T w32.1 w32.2.1 w32.2.2]) (st' := [.ref r33.1, .ref b27]) rfl rfl ?_
      refine sx_perm List.perm_append_comm ?_
      refine sx_pV X (c_sbS (l := l) (D := D) (T := T) (sd := sd) (jd := jd) r33.1 b27 w32.1 w32.2.1 (((([] : List Nat) ++ (ltx 33)) ++ (ntx h ca)) ++ (ltx 34)) (ntx h cb) w32.2.2 hw32 (by rw [hE] at hlen; simp only [List.length_append, List.length_nil] at hlen ⊢; omega) (ntx_128 h cb hkb)) (XY.M.and (TxR_M XY hr33)) (wr := ([] ++ r33.2)) (sx_rcv X (q0 := 0) (w := ([zO b27 1 [.ref w32.1, .int 0, .int 0, .int (nI (((([] : List Nat) ++ (ltx 33)) ++ (ntx h ca)) ++ (ltx 34)).length)], zB T w32.1 w32.2.1 w32.2.2] ++ r33.2)) rfl rfl) qm_1531 qm_1223 qm_1224 qm_26 qm_1225 hd_sbS ⟨rfl, rfl⟩ ⟨(rt_f (Nat.le_of_ble_eq_true rfl)), (rt_l (Nat.le_of_ble_eq_true rfl))⟩ rfl rfl (Nat.le_of_ble_eq_true rfl) ⟨(by show _ ≤ 9 + 2 * mcT h; omega), (by show _ ≤ 18100 + 2 * msT h; omega)⟩ dX16_text_265 rfl (fun w34 hw34 => ?_)
      refine sx_chg (ws' := [zO b27 1 [.ref w34.1, .int 0, .int 0, .int (nI ((((([] : List Nat) ++ (ltx 33)) ++ (ntx h ca)) ++ (ltx 34)) ++ (ntx h cb)).length)], zB T w34.1 w34.2.1 w34.2.2] ++ r33.2) (st' := [.ref b27]) rfl rfl ?_
      refine sx_drop ?_
      refine sx_ldcS X (show vk_R "WeatherTeaLaw$Node" 74 ")" (jd.2.2.2.2 32) s from (XJ.2.2.2.2.2.2.2.2.1 32 (by decide)).2) dX16_text_268 ?_
      refine sx_pV X (c_sbS (l := l) (D := D) (T := T) (sd := sd) (jd := jd) (jd.2.2.2.2 32) b27 w34.1 w34.2.1 ((((([] : List Nat) ++ (ltx 33)) ++ (ntx h ca)) ++ (ltx 34)) ++ (ntx h cb)) (ltx 32) w34.2.2 hw34 (by rw [hE] at hlen; simp only [List.length_append, List.length_nil] at hlen ⊢; omega) (ltx_128 32 (by decide))) (XY.M.and (XY.Mf (StrAt_ok _ _) (XJ.2.2.2.2.2.2.2.2.1 32 (by decide)).1)) (wr := []) (sx_rcv X (q0 := 0) (w := [zO b27 1 [.ref w34.1, .int 0, .int 0, .int (nI ((((([] : List Nat) ++ (ltx 33)) ++ (ntx h ca)) ++ (ltx 34)) ++ (ntx h cb)).length)], zB T w34.1 w34.2.1 w34.2.2]) rfl rfl) qm_1531 qm_1223 qm_1224 qm_26 qm_1225 hd_sbS ⟨rfl, rfl⟩ ⟨(rt_f (Nat.le_of_ble_eq_true rfl)), (rt_l (Nat.le_of_ble_eq_true rfl))⟩ rfl rfl (Nat.le_of_ble_eq_true rfl) ⟨(by show _ ≤ 9 + 2 * mcT h; omega), (by show _ ≤ 18100 + 2 * msT h; omega)⟩ dX16_text_270 rfl (fun w35 hw35 => ?_)
      refine sx_chg (ws' := [zO b27 1 [.ref w35.1, .int 0, .int 0, .int (nI (((((([] : List Nat) ++ (ltx 33)) ++ (ntx h ca)) ++ (ltx 34)) ++ (ntx h cb)) ++ (ltx 32)).length)], zB T w35.1 w35.2.1 w35.2.2]) (st' := [.ref b27]) rfl rfl ?_
      refine sx_pV X (c_sbStr (l := l) (D := D) (T := T) (sd := sd) (jd := jd) b27 w35.1 w35.2.1 (((((([] : List Nat) ++ (ltx 33)) ++ (ntx h ca)) ++ (ltx 34)) ++ (ntx h cb)) ++ (ltx 32)) w35.2.2 hw35) XY.M (wr := []) (sx_rcv X (q0 := 0) (w := [zO b27 1 [.ref w35.1, .int 0, .int 0, .int (nI (((((([] : List Nat) ++ (ltx 33)) ++ (ntx h ca)) ++ (ltx 34)) ++ (ntx h cb)) ++ (ltx 32)).length)], zB T w35.1 w35.2.1 w35.2.2]) rfl rfl) qm_1533 qm_1463 qm_1464 qm_26 qm_1465 hd_sbStr ⟨rfl, rfl⟩ ⟨(rt_f (Nat.le_of_ble_eq_true rfl)), (rt_l (Nat.le_of_ble_eq_true rfl))⟩ rfl rfl (Nat.le_of_ble_eq_true rfl) ⟨(by show _ ≤ 9 + 2 * mcT h; omega), (by show _ ≤ 18100 + 2 * msT h; omega)⟩ dX16_text_273 rfl (fun w36 hw36 => ?_)
      refine sx_chg (ws' := [zO b27 1 [.ref w35.1, .int 0, .int 0, .int (nI (((((([] : List Nat) ++ (ltx 33)) ++ (ntx h ca)) ++ (ltx 34)) ++ (ntx h cb)) ++ (ltx 32)).length)], zB T w35.1 w35.2.1 w35.2.2, zO w36.1 0 [.ref w36.2.1, .int 0, .int 0, .int 0], zB T w36.2.1 ((((((([] : List Nat) ++ (ltx 33)) ++ (ntx h ca)) ++ (ltx 34)) ++ (ntx h cb)) ++ (ltx 32)).length) w36.2.2]) (st' := [.ref w36.1]) rfl rfl ?_
      refine sx_wsub (ws' := [zO w36.1 0 [.ref w36.2.1, .int 0, .int 0, .int 0], zB T w36.2.1 ((((((([] : List Nat) ++ (ltx 33)) ++ (ntx h ca)) ++ (ltx 34)) ++ (ntx h cb)) ++ (ltx 32)).length) w36.2.2]) [2, 3] rfl rfl ?_
      refine sx_widen (k' := mcT (h + 1)) (n' := msT (h + 1)) (by show _ ≤ 9 + 2 * mcT h; omega) (by show _ ≤ 18100 + 2 * msT h; omega) ?_
      refine sx_pick (w36.1, [oST w36.1 w36.2.1, zB T w36.2.1 (((((([] : List Nat) ++ (ltx 33)) ++ (ntx h ca)) ++ (ltx 34)) ++ (ntx h cb)) ++ (ltx 32)).length w36.2.2]) (Or.inr ⟨w36.2.1, w36.2.2, by rw [hE], by rw [hE]; exact hw36⟩) ?_
      exact sx_aret X dX16_text_276 rfl rfl rfl
    · have hE : ntx (h + 1) t = (([] ++ ltx 35) ++ decL t.2.1) := by
        rw [ntx_s, hs]
        rfl
      refine sx_aload_n X 0 rfl dX16_text_0 rfl ?_
      refine sx_gof X hs0 qm_1406 dX16_text_1 ?_
      refine sx_topi (y := 15) (by rw [hs]; rfl) ?_
      refine sx_tin X (off := 273) 277 dX16_text_4 rfl ⟨by decide, by decide, by decide⟩ ?_
      refine sx_new X (fs := [.null, .int 0, .int 0, .int 0]) kJ4 qm_1528 qm_1439 qm_26 (by decide) (by show _ ≤ 9 + 2 * mcT h; omega) (by show _ ≤ 18100 + 2 * msT h; omega) dX16_text_277 (fun b37 => ?_)
      refine sx_chg (ws' := [zO b37 1 [.null, .int 0, .int 0, .int 0]]) (st' := [.ref b37]) rfl rfl ?_
      refine sx_dup X dX16_text_280 rfl ?_
      refine sx_pI X (c_sbIn (l := l) (D := D) (T := T) (sd := sd) (jd := jd) b37) XY.M (wr := []) qm_1529 qm_1441 qm_26 qm_1442 rfl hd_sbIn ⟨rfl, rfl⟩ ⟨(rt_f (Nat.le_of_ble_eq_true rfl)), (rt_l (Nat.le_of_ble_eq_true rfl))⟩ rfl rfl (Nat.le_of_ble_eq_true rfl) ⟨(by show _ ≤ 9 + 2 * mcT h; omega), (by show _ ≤ 18100 + 2 * msT h; omega)⟩ dX16_text_281 rfl (fun q38 hq38 => ?_)
      refine sx_chg (ws' := [zO b37 1 [.ref q38, .int 0, .int 0, .int (nI ([] : List Nat).length)], zB T q38 16 (fun _ => 0)]) (st' := [.ref b37]) rfl rfl ?_
      refine sx_ldcS X (show vk_R "WeatherTeaLaw$Node" 80 "over f" (jd.2.2.2.2 35) s from (XJ.2.2.2.2.2.2.2.2.1 35 (by decide)).2) dX16_text_284 ?_
      refine sx_pV X (c_sbS (l := l) (D := D) (T := T) (sd := sd) (jd := jd) (jd.2.2.2.2 35) b37 q38 16 ([] : List Nat) (ltx 35) (fun _ => 0) SBf_0 (by rw [hE] at hlen; simp only [List.length_append, List.length_nil] at hlen ⊢; omega) (ltx_128 35 (by decide))) (XY.M.and (XY.Mf (StrAt_ok _ _) (XJ.2.2.2.2.2.2.2.2.1 35 (by decide)).1)) (wr := []) (sx_rcv X (q0 := 0) (w := [zO b37 1 [.ref q38, .int 0, .int 0, .int (nI ([] : List Nat).length)], zB T q38 16 (fun _ => 0)]) rfl rfl) qm_1531 qm_1223 qm_1224 qm_26 qm_1225 hd_sbS ⟨rfl, rfl⟩ ⟨(rt_f (Nat.le_of_ble_eq_true rfl)), (rt_l (Nat.le_of_ble_eq_true rfl))⟩ rfl rfl (Nat.le_of_ble_eq_true rfl) ⟨(by show _ ≤ 9 + 2 * mcT h; omega), (by show _ ≤ 18100 + 2 * msT h; omega)⟩ dX16_text_286 rfl (fun w39 hw39 => ?_)
      refine sx_chg (ws' := [zO b37 1 [.ref w39.1, .int 0, .int 0, .int (nI (([] : List Nat) ++ (ltx 35)).length)], zB T w39.1 w39.2.1 w39.2.2]) (st' := [.ref b37]) rfl rfl ?_
      refine sx_aload_n X 0 rfl dX16_text_289 rfl ?_
      refine sx_gof X hn0 qm_1407 dX16_text_290 ?_
      refine sx_pV X (c_sbI (l := l) (D := D) (T := T) (sd := sd) (jd := jd) b37 w39.1 w39.2.1 t.2.1 (([] : List Nat) ++ (ltx 35)) w39.2.2 hw39 (by omega) (by rw [hE] at hlen; simp only [List.length_append, List.length_nil] at hlen ⊢; omega)) XY.M (wr := []) (sx_rcv X (q0 := 0) (w := [zO b37 1 [.ref w39.1, .int 0, .int 0, .int (nI (([] : List Nat) ++ (ltx 35)).length)], zB T w39.1 w39.2.1 w39.2.2]) rfl rfl) qm_1532 qm_1329 qm_1330 qm_26 qm_1331 hd_sbI ⟨rfl, rfl⟩ ⟨(rt_f (Nat.le_of_ble_eq_true rfl)), (rt_l (Nat.le_of_ble_eq_true rfl))⟩ rfl rfl (Nat.le_of_ble_eq_true rfl) ⟨(by show _ ≤ 9 + 2 * mcT h; omega), (by show _ ≤ 18100 + 2 * msT h; omega)⟩ dX16_text_293 rfl (fun w40 hw40 => ?_)
      refine sx_chg (ws' := [zO b37 1 [.ref w40.1, .int 0, .int 0, .int (nI ((([] : List Nat) ++ (ltx 35)) ++ (decL t.2.1)).length)], zB T w40.1 w40.2.1 w40.2.2]) (st' := [.ref b37]) rfl rfl ?_
      refine sx_pV X (c_sbStr (l := l) (D := D) (T := T) (sd := sd) (jd := jd) b37 w40.1 w40.2.1 ((([] : List Nat) ++ (ltx 35)) ++ (decL t.2.1)) w40.2.2 hw40) XY.M (wr := []) (sx_rcv X (q0 := 0) (w := [zO b37 1 [.ref w40.1, .int 0, .int 0, .int (nI ((([] : List Nat) ++ (ltx 35)) ++ (decL t.2.1)).length)], zB T w40.1 w40.2.1 w40.2.2]) rfl rfl) qm_1533 qm_1463 qm_1464 qm_26 qm_1465 hd_sbStr ⟨rfl, rfl⟩ ⟨(rt_f (Nat.le_of_ble_eq_true rfl)), (rt_l (Nat.le_of_ble_eq_true rfl))⟩ rfl rfl (Nat.le_of_ble_eq_true rfl) ⟨(by show _ ≤ 9 + 2 * mcT h; omega), (by show _ ≤ 18100 + 2 * msT h; omega)⟩ dX16_text_296 rfl (fun w41 hw41 => ?_)
      refine sx_chg (ws' := [zO b37 1 [.ref w40.1, .int 0, .int 0, .int (nI ((([] : List Nat) ++ (ltx 35)) ++ (decL t.2.1)).length)], zB T w40.1 w40.2.1 w40.2.2, zO w41.1 0 [.ref w41.2.1, .int 0, .int 0, .int 0], zB T w41.2.1 (((([] : List Nat) ++ (ltx 35)) ++ (decL t.2.1)).length) w41.2.2]) (st' := [.ref w41.1]) rfl rfl ?_
      refine sx_wsub (ws' := [zO w41.1 0 [.ref w41.2.1, .int 0, .int 0, .int 0], zB T w41.2.1 (((([] : List Nat) ++ (ltx 35)) ++ (decL t.2.1)).length) w41.2.2]) [2, 3] rfl rfl ?_
      refine sx_widen (k' := mcT (h + 1)) (n' := msT (h + 1)) (by show _ ≤ 9 + 2 * mcT h; omega) (by show _ ≤ 18100 + 2 * msT h; omega) ?_
      refine sx_pick (w41.1, [oST w41.1 w41.2.1, zB T w41.2.1 ((([] : List Nat) ++ (ltx 35)) ++ (decL t.2.1)).length w41.2.2]) (Or.inr ⟨w41.2.1, w41.2.2, by rw [hE], by rw [hE]; exact hw41⟩) ?_
      exact sx_aret X dX16_text_299 rfl rfl rfl
    · have hE : ntx (h + 1) t = (([] ++ ltx 36) ++ decL t.2.1) := by
        rw [ntx_s, hs]
        rfl
      refine sx_aload_n X 0 rfl dX16_text_0 rfl ?_
      refine sx_gof X hs0 qm_1406 dX16_text_1 ?_
      refine sx_topi (y := 16) (by rw [hs]; rfl) ?_
      refine sx_tin X (off := 296) 300 dX16_text_4 rfl ⟨by decide, by decide, by decide⟩ ?_
      refine sx_new X (fs := [.null, .int 0, .int 0, .int 0]) kJ4 qm_1528 qm_1439 qm_26 (by decide) (by show _ ≤ 9 + 2 * mcT h; omega) (by show _ ≤ 18100 + 2 * msT h; omega) dX16_text_300 (fun b42 => ?_)
      refine sx_chg (ws' := [zO b42 1 [.null, .int 0, .int 0, .int 0]]) (st' := [.ref b42]) rfl rfl ?_
      refine sx_dup X dX16_text_303 rfl ?_
      refine sx_pI X (c_sbIn (l := l) (D := D) (T := T) (sd := sd) (jd := jd) b42) XY.M (wr := []) qm_1529 qm_1441 qm_26 qm_1442 rfl hd_sbIn ⟨rfl, rfl⟩ ⟨(rt_f (Nat.le_of_ble_eq_true rfl)), (rt_l (Nat.le_of_ble_eq_true rfl))⟩ rfl rfl (Nat.le_of_ble_eq_true rfl) ⟨(by show _ ≤ 9 + 2 * mcT h; omega), (by show _ ≤ 18100 + 2 * msT h; omega)⟩ dX16_text_304 rfl (fun q43 hq43 => ?_)
      refine sx_chg (ws' := [zO b42 1 [.ref q43, .int 0, .int 0, .int (nI ([] : List Nat).length)], zB T q43 16 (fun _ => 0)]) (st' := [.ref b42]) rfl rfl ?_
      refine sx_ldcS X (show vk_R "WeatherTeaLaw$Node" 82 "seated g" (jd.2.2.2.2 36) s from (XJ.2.2.2.2.2.2.2.2.1 36 (by decide)).2) dX16_text_307 ?_
      refine sx_pV X (c_sbS (l := l) (D := D) (T := T) (sd := sd) (jd := jd) (jd.2.2.2.2 36) b42 q43 16 ([] : List Nat) (ltx 36) (fun _ => 0) SBf_0 (by rw [hE] at hlen; simp only [List.length_append, List.length_nil] at hlen ⊢; omega) (ltx_128 36 (by decide))) (XY.M.and (XY.Mf (StrAt_ok _ _) (XJ.2.2.2.2.2.2.2.2.1 36 (by decide)).1)) (wr := []) (sx_rcv X (q0 := 0) (w := [zO b42 1 [.ref q43, .int 0, .int 0, .int (nI ([] : List Nat).length)], zB T q43 16 (fun _ => 0)]) rfl rfl) qm_1531 qm_1223 qm_1224 qm_26 qm_1225 hd_sbS ⟨rfl, rfl⟩ ⟨(rt_f (Nat.le_of_ble_eq_true rfl)), (rt_l (Nat.le_of_ble_eq_true rfl))⟩ rfl rfl (Nat.le_of_ble_eq_true rfl) ⟨(by show _ ≤ 9 + 2 * mcT h; omega), (by show _ ≤ 18100 + 2 * msT h; omega)⟩ dX16_text_309 rfl (fun w44 hw44 => ?_)
      refine sx_chg (ws' := [zO b42 1 [.ref w44.1, .int 0, .int 0, .int (nI (([] : List Nat) ++ (ltx 36)).length)], zB T w44.1 w44.2.1 w44.2.2]) (st' := [.ref b42]) rfl rfl ?_
      refine sx_aload_n X 0 rfl dX16_text_312 rfl ?_
      refine sx_gof X hn0 qm_1407 dX16_text_313 ?_
      refine sx_pV X (c_sbI (l := l) (D := D) (T := T) (sd := sd) (jd := jd) b42 w44.1 w44.2.1 t.2.1 (([] : List Nat) ++ (ltx 36)) w44.2.2 hw44 (by omega) (by rw [hE] at hlen; simp only [List.length_append, List.length_nil] at hlen ⊢; omega)) XY.M (wr := []) (sx_rcv X (q0 := 0) (w := [zO b42 1 [.ref w44.1, .int 0, .int 0, .int (nI (([] : List Nat) ++ (ltx 36)).length)], zB T w44.1 w44.2.1 w44.2.2]) rfl rfl) qm_1532 qm_1329 qm_1330 qm_26 qm_1331 hd_sbI ⟨rfl, rfl⟩ ⟨(rt_f (Nat.le_of_ble_eq_true rfl)), (rt_l (Nat.le_of_ble_eq_true rfl))⟩ rfl rfl (Nat.le_of_ble_eq_true rfl) ⟨(by show _ ≤ 9 + 2 * mcT h; omega), (by show _ ≤ 18100 + 2 * msT h; omega)⟩ dX16_text_316 rfl (fun w45 hw45 => ?_)
      refine sx_chg (ws' := [zO b42 1 [.ref w45.1, .int 0, .int 0, .int (nI ((([] : List Nat) ++ (ltx 36)) ++ (decL t.2.1)).length)], zB T w45.1 w45.2.1 w45.2.2]) (st' := [.ref b42]) rfl rfl ?_
      refine sx_pV X (c_sbStr (l := l) (D := D) (T := T) (sd := sd) (jd := jd) b42 w45.1 w45.2.1 ((([] : List Nat) ++ (ltx 36)) ++ (decL t.2.1)) w45.2.2 hw45) XY.M (wr := []) (sx_rcv X (q0 := 0) (w := [zO b42 1 [.ref w45.1, .int 0, .int 0, .int (nI ((([] : List Nat) ++ (ltx 36)) ++ (decL t.2.1)).length)], zB T w45.1 w45.2.1 w45.2.2]) rfl rfl) qm_1533 qm_1463 qm_1464 qm_26 qm_1465 hd_sbStr ⟨rfl, rfl⟩ ⟨(rt_f (Nat.le_of_ble_eq_true rfl)), (rt_l (Nat.le_of_ble_eq_true rfl))⟩ rfl rfl (Nat.le_of_ble_eq_true rfl) ⟨(by show _ ≤ 9 + 2 * mcT h; omega), (by show _ ≤ 18100 + 2 * msT h; omega)⟩ dX16_text_319 rfl (fun w46 hw46 => ?_)
      refine sx_chg (ws' := [zO b42 1 [.ref w45.1, .int 0, .int 0, .int (nI ((([] : List Nat) ++ (ltx 36)) ++ (decL t.2.1)).length)], zB T w45.1 w45.2.1 w45.2.2, zO w46.1 0 [.ref w46.2.1, .int 0, .int 0, .int 0], zB T w46.2.1 (((([] : List Nat) ++ (ltx 36)) ++ (decL t.2.1)).length) w46.2.2]) (st' := [.ref w46.1]) rfl rfl ?_
      refine sx_wsub (ws' := [zO w46.1 0 [.ref w46.2.1, .int 0, .int 0, .int 0], zB T w46.2.1 (((([] : List Nat) ++ (ltx 36)) ++ (decL t.2.1)).length) w46.2.2]) [2, 3] rfl rfl ?_
      refine sx_widen (k' := mcT (h + 1)) (n' := msT (h + 1)) (by show _ ≤ 9 + 2 * mcT h; omega) (by show _ ≤ 18100 + 2 * msT h; omega) ?_
      refine sx_pick (w46.1, [oST w46.1 w46.2.1, zB T w46.2.1 ((([] : List Nat) ++ (ltx 36)) ++ (decL t.2.1)).length w46.2.2]) (Or.inr ⟨w46.2.1, w46.2.2, by rw [hE], by rw [hE]; exact hw46⟩) ?_
      exact sx_aret X dX16_text_322 rfl rfl rfl
    · have hE : ntx (h + 1) t = (([] ++ ltx 37) ++ decL t.2.1) := by
        rw [ntx_s, hs]
        rfl
      refine sx_aload_n X 0 rfl dX16_text_0 rfl ?_
      refine sx_gof X hs0 qm_1406 dX16_text_1 ?_
      refine sx_topi (y := 17) (by rw [hs]; rfl) ?_
      refine sx_tin X (off := 319) 323 dX16_text_4 rfl ⟨by decide, by decide, by decide⟩ ?_
      refine sx_new X (fs := [.null, .int 0, .int 0, .int 0]) kJ4 qm_1528 qm_1439 qm_26 (by decide) (by show _ ≤ 9 + 2 * mcT h; omega) (by show _ ≤ 18100 + 2 * msT h; omega) dX16_text_323 (fun b47 => ?_)
      refine sx_chg (ws' := [zO b47 1 [.null, .int 0, .int 0, .int 0]]) (st' := [.ref b47]) rfl rfl ?_
      refine sx_dup X dX16_text_326 rfl ?_
      refine sx_pI X (c_sbIn (l := l) (D := D) (T := T) (sd := sd) (jd := jd) b47) XY.M (wr := []) qm_1529 qm_1441 qm_26 qm_1442 rfl hd_sbIn ⟨rfl, rfl⟩ ⟨(rt_f (Nat.le_of_ble_eq_true rfl)), (rt_l (Nat.le_of_ble_eq_true rfl))⟩ rfl rfl (Nat.le_of_ble_eq_true rfl) ⟨(by show _ ≤ 9 + 2 * mcT h; omega), (by show _ ≤ 18100 + 2 * msT h; omega)⟩ dX16_text_327 rfl (fun q48 hq48 => ?_)
      refine sx_chg (ws' := [zO b47 1 [.ref q48, .int 0, .int 0, .int (nI ([] : List Nat).length)], zB T q48 16 (fun _ => 0)]) (st' := [.ref b47]) rfl rfl ?_
      refine sx_ldcS X (show vk_R "WeatherTeaLaw$Node" 84 "content g" (jd.2.2.2.2 37) s from (XJ.2.2.2.2.2.2.2.2.1 37 (by decide)).2) dX16_text_330 ?_
      refine sx_pV X (c_sbS (l := l) (D := D) (T := T) (sd := sd) (jd := jd) (jd.2.2.2.2 37) b47 q48 16 ([] : List Nat) (ltx 37) (fun _ => 0) SBf_0 (by rw [hE] at hlen; simp only [List.length_append, List.length_nil] at hlen ⊢; omega) (ltx_128 37 (by decide))) (XY.M.and (XY.Mf (StrAt_ok _ _) (XJ.2.2.2.2.2.2.2.2.1 37 (by decide)).1)) (wr := []) (sx_rcv X (q0 := 0) (w := [zO b47 1 [.ref q48, .int 0, .int 0, .int (nI ([] : List Nat).length)], zB T q48 16 (fun _ => 0)]) rfl rfl) qm_1531 qm_1223 qm_1224 qm_26 qm_1225 hd_sbS ⟨rfl, rfl⟩ ⟨(rt_f (Nat.le_of_ble_eq_true rfl)), (rt_l (Nat.le_of_ble_eq_true rfl))⟩ rfl rfl (Nat.le_of_ble_eq_true rfl) ⟨(by show _ ≤ 9 + 2 * mcT h; omega), (by show _ ≤ 18100 + 2 * msT h; omega)⟩ dX16_text_332 rfl (fun w49 hw49 => ?_)
      refine sx_chg (ws' := [zO b47 1 [.ref w49.1, .int 0, .int 0, .int (nI (([] : List Nat) ++ (ltx 37)).length)], zB T w49.1 w49.2.1 w49.2.2]) (st' := [.ref b47]) rfl rfl ?_
      refine sx_aload_n X 0 rfl dX16_text_335 rfl ?_
      refine sx_gof X hn0 qm_1407 dX16_text_336 ?_
      refine sx_pV X (c_sbI (l := l) (D := D) (T := T) (sd := sd) (jd := jd) b47 w49.1 w49.2.1 t.2.1 (([] : List Nat) ++ (ltx 37)) w49.2.2 hw49 (by omega) (by rw [hE] at hlen; simp only [List.length_append, List.length_nil] at hlen ⊢; omega)) XY.M (wr := []) (sx_rcv X (q0 := 0) (w := [zO b47 1 [.ref w49.1, .int 0, .int 0, .int (nI (([] : List Nat) ++ (ltx 37)).length)], zB T w49.1 w49.2.1 w49.2.2]) rfl rfl) qm_1532 qm_1329 qm_1330 qm_26 qm_1331 hd_sbI ⟨rfl, rfl⟩ ⟨(rt_f (Nat.le_of_ble_eq_true rfl)), (rt_l (Nat.le_of_ble_eq_true rfl))⟩ rfl rfl (Nat.le_of_ble_eq_true rfl) ⟨(by show _ ≤ 9 + 2 * mcT h; omega), (by show _ ≤ 18100 + 2 * msT h; omega)⟩ dX16_text_339 rfl (fun w50 hw50 => ?_)
      refine sx_chg (ws' := [zO b47 1 [.ref w50.1, .int 0, .int 0, .int (nI ((([] : List Nat) ++ (ltx 37)) ++ (decL t.2.1)).length)], zB T w50.1 w50.2.1 w50.2.2]) (st' := [.ref b47]) rfl rfl ?_
      refine sx_pV X (c_sbStr (l := l) (D := D) (T := T) (sd := sd) (jd := jd) b47 w50.1 w50.2.1 ((([] : List Nat) ++ (ltx 37)) ++ (decL t.2.1)) w50.2.2 hw50) XY.M (wr := []) (sx_rcv X (q0 := 0) (w := [zO b47 1 [.ref w50.1, .int 0, .int 0, .int (nI ((([] : List Nat) ++ (ltx 37)) ++ (decL t.2.1)).length)], zB T w50.1 w50.2.1 w50.2.2]) rfl rfl) qm_1533 qm_1463 qm_1464 qm_26 qm_1465 hd_sbStr ⟨rfl, rfl⟩ ⟨(rt_f (Nat.le_of_ble_eq_true rfl)), (rt_l (Nat.le_of_ble_eq_true rfl))⟩ rfl rfl (Nat.le_of_ble_eq_true rfl) ⟨(by show _ ≤ 9 + 2 * mcT h; omega), (by show _ ≤ 18100 + 2 * msT h; omega)⟩ dX16_text_342 rfl (fun w51 hw51 => ?_)
      refine sx_chg (ws' := [zO b47 1 [.ref w50.1, .int 0, .int 0, .int (nI ((([] : List Nat) ++ (ltx 37)) ++ (decL t.2.1)).length)], zB T w50.1 w50.2.1 w50.2.2, zO w51.1 0 [.ref w51.2.1, .int 0, .int 0, .int 0], zB T w51.2.1 (((([] : List Nat) ++ (ltx 37)) ++ (decL t.2.1)).length) w51.2.2]) (st' := [.ref w51.1]) rfl rfl ?_
      refine sx_wsub (ws' := [zO w51.1 0 [.ref w51.2.1, .int 0, .int 0, .int 0], zB T w51.2.1 (((([] : List Nat) ++ (ltx 37)) ++ (decL t.2.1)).length) w51.2.2]) [2, 3] rfl rfl ?_
      refine sx_widen (k' := mcT (h + 1)) (n' := msT (h + 1)) (by show _ ≤ 9 + 2 * mcT h; omega) (by show _ ≤ 18100 + 2 * msT h; omega) ?_
      refine sx_pick (w51.1, [oST w51.1 w51.2.1, zB T w51.2.1 ((([] : List Nat) ++ (ltx 37)) ++ (decL t.2.1)).length w51.2.2]) (Or.inr ⟨w51.2.1, w51.2.2, by rw [hE], by rw [hE]; exact hw51⟩) ?_
      exact sx_aret X dX16_text_345 rfl rfl rfl
    · obtain ⟨ca, hca, hka⟩ := ha
      rw [hca] at hA
      obtain ⟨xa, rfl, hxa⟩ := hA
      have hE : ntx (h + 1) t = (([] ++ ltx 38) ++ ntx h ca) := by
        rw [ntx_s, hs, hca]
        rfl
      refine sx_aload_n X 0 rfl dX16_text_0 rfl ?_
      refine sx_gof X hs0 qm_1406 dX16_text_1 ?_
      refine sx_topi (y := 18) (by rw [hs]; rfl) ?_
      refine sx_tin X (off := 342) 346 dX16_text_4 rfl ⟨by decide, by decide, by decide⟩ ?_
      refine sx_new X (fs := [.null, .int 0, .int 0, .int 0]) kJ4 qm_1528 qm_1439 qm_26 (by decide) (by show _ ≤ 9 + 2 * mcT h; omega) (by show _ ≤ 18100 + 2 * msT h; omega) dX16_text_346 (fun b52 => ?_)
      refine sx_chg (ws' := [zO b52 1 [.null, .int 0, .int 0, .int 0]]) (st' := [.ref b52]) rfl rfl ?_
      refine sx_dup X dX16_text_349 rfl ?_
      refine sx_pI X (c_sbIn (l := l) (D := D) (T := T) (sd := sd) (jd := jd) b52) XY.M (wr := []) qm_1529 qm_1441 qm_26 qm_1442 rfl hd_sbIn ⟨rfl, rfl⟩ ⟨(rt_f (Nat.le_of_ble_eq_true rfl)), (rt_l (Nat.le_of_ble_eq_true rfl))⟩ rfl rfl (Nat.le_of_ble_eq_true rfl) ⟨(by show _ ≤ 9 + 2 * mcT h; omega), (by show _ ≤ 18100 + 2 * msT h; omega)⟩ dX16_text_350 rfl (fun q53 hq53 => ?_)
      refine sx_chg (ws' := [zO b52 1 [.ref q53, .int 0, .int 0, .int (nI ([] : List Nat).length)], zB T q53 16 (fun _ => 0)]) (st' := [.ref b52]) rfl rfl ?_
      refine sx_ldcS X (show vk_R "WeatherTeaLaw$Node" 86 "not " (jd.2.2.2.2 38) s from (XJ.2.2.2.2.2.2.2.2.1 38 (by decide)).2) dX16_text_353 ?_
      refine sx_pV X (c_sbS (l := l) (D := D) (T := T) (sd := sd) (jd := jd) (jd.2.2.2.2 38) b52 q53 16 ([] : List Nat) (ltx 38) (fun _ => 0) SBf_0 (by rw [hE] at hlen; simp only [List.length_append, List.length_nil] at hlen ⊢; omega) (ltx_128 38 (by decide))) (XY.M.and (XY.Mf (StrAt_ok _ _) (XJ.2.2.2.2.2.2.2.2.1 38 (by decide)).1)) (wr := []) (sx_rcv X (q0 := 0) (w := [zO b52 1 [.ref q53, .int 0, .int 0, .int (nI ([] : List Nat).length)], zB T q53 16 (fun _ => 0)]) rfl rfl) qm_1531 qm_1223 qm_1224 qm_26 qm_1225 hd_sbS ⟨rfl, rfl⟩ ⟨(rt_f (Nat.le_of_ble_eq_true rfl)), (rt_l (Nat.le_of_ble_eq_true rfl))⟩ rfl rfl (Nat.le_of_ble_eq_true rfl) ⟨(by show _ ≤ 9 + 2 * mcT h; omega), (by show _ ≤ 18100 + 2 * msT h; omega)⟩ dX16_text_355 rfl (fun w54 hw54 => ?_)
      refine sx_chg (ws' := [zO b52 1 [.ref w54.1, .int 0, .int 0, .int (nI (([] : List Nat) ++ (ltx 38)).length)], zB T w54.1 w54.2.1 w54.2.2]) (st' := [.ref b52]) rfl rfl ?_
      refine sx_aload_n X 0 rfl dX16_text_358 rfl ?_
      refine sx_gof X ha0 qm_1408 dX16_text_359 ?_
      refine sx_pV X (ih xa ca hka (by rw [hE] at hlen; simp only [List.length_append, List.length_nil] at hlen ⊢; omega)) (XY.M.and (XY.Mf (FzN_ok _ _ _) hxa)) (wr := [zO b52 1 [.ref w54.1, .int 0, .int 0, .int (nI (([] : List Nat) ++ (ltx 38)).length)], zB T w54.1 w54.2.1 w54.2.2]) (sx_rcvO (FzN_O hxa)) qm_1538 qm_1525 qm_1526 qm_40 qm_1527 hd_ntx ⟨rfl, rfl⟩ ⟨(show h + 7 + 1 ≤ h + 1 + 7 by omega), (by show 8 + (_ + 11) + (h * 60 + 500) ≤ (h + 1) * 60 + 500; omega)⟩ rfl rfl (Nat.le_of_ble_eq_true rfl) ⟨(by show _ ≤ 9 + 2 * mcT h; omega), (by show _ ≤ 18100 + 2 * msT h; omega)⟩ dX16_text_362 rfl (fun r55 hr55 => ?_)
      refine sx_chg (ws' := r55.2 ++ [zO b52 1 [.ref w54.1, .int 0, .int 0, .int (nI (([] : List Nat) ++ (ltx 38)).length)], zB T w54.1 w54.2.1 w54.2.2]) (st' := [.ref r55.1, .ref b52]) rfl rfl ?_
      refine sx_perm List.perm_append_comm ?_
      refine sx_pV X (c_sbS (l := l) (D := D) (T := T) (sd := sd) (jd := jd) r55.1 b52 w54.1 w54.2.1 (([] : List Nat) ++ (ltx 38)) (ntx h ca) w54.2.2 hw54 (by rw [hE] at hlen; simp only [List.length_append, List.length_nil] at hlen ⊢; omega) (ntx_128 h ca hka)) (XY.M.and (TxR_M XY hr55)) (wr := ([] ++ r55.2)) (sx_rcv X (q0 := 0) (w := ([zO b52 1 [.ref w54.1, .int 0, .int 0, .int (nI (([] : List Nat) ++ (ltx 38)).length)], zB T w54.1 w54.2.1 w54.2.2] ++ r55.2)) rfl rfl) qm_1531 qm_1223 qm_1224 qm_26 qm_1225 hd_sbS ⟨rfl, rfl⟩ ⟨(rt_f (Nat.le_of_ble_eq_true rfl)), (rt_l (Nat.le_of_ble_eq_true rfl))⟩ rfl rfl (Nat.le_of_ble_eq_true rfl) ⟨(by show _ ≤ 9 + 2 * mcT h; omega), (by show _ ≤ 18100 + 2 * msT h; omega)⟩ dX16_text_365 rfl (fun w56 hw56 => ?_)
      refine sx_chg (ws' := [zO b52 1 [.ref w56.1, .int 0, .int 0, .int (nI ((([] : List Nat) ++ (ltx 38)) ++ (ntx h ca)).length)], zB T w56.1 w56.2.1 w56.2.2] ++ r55.2) (st' := [.ref b52]) rfl rfl ?_
      refine sx_drop ?_
      refine sx_pV X (c_sbStr (l := l) (D := D) (T := T) (sd := sd) (jd := jd) b52 w56.1 w56.2.1 ((([] : List Nat) ++ (ltx 38)) ++ (ntx h ca)) w56.2.2 hw56) XY.M (wr := []) (sx_rcv X (q0 := 0) (w := [zO b52 1 [.ref w56.1, .int 0, .int 0, .int (nI ((([] : List Nat) ++ (ltx 38)) ++ (ntx h ca)).length)], zB T w56.1 w56.2.1 w56.2.2]) rfl rfl) qm_1533 qm_1463 qm_1464 qm_26 qm_1465 hd_sbStr ⟨rfl, rfl⟩ ⟨(rt_f (Nat.le_of_ble_eq_true rfl)), (rt_l (Nat.le_of_ble_eq_true rfl))⟩ rfl rfl (Nat.le_of_ble_eq_true rfl) ⟨(by show _ ≤ 9 + 2 * mcT h; omega), (by show _ ≤ 18100 + 2 * msT h; omega)⟩ dX16_text_368 rfl (fun w57 hw57 => ?_)
      refine sx_chg (ws' := [zO b52 1 [.ref w56.1, .int 0, .int 0, .int (nI ((([] : List Nat) ++ (ltx 38)) ++ (ntx h ca)).length)], zB T w56.1 w56.2.1 w56.2.2, zO w57.1 0 [.ref w57.2.1, .int 0, .int 0, .int 0], zB T w57.2.1 (((([] : List Nat) ++ (ltx 38)) ++ (ntx h ca)).length) w57.2.2]) (st' := [.ref w57.1]) rfl rfl ?_
      refine sx_wsub (ws' := [zO w57.1 0 [.ref w57.2.1, .int 0, .int 0, .int 0], zB T w57.2.1 (((([] : List Nat) ++ (ltx 38)) ++ (ntx h ca)).length) w57.2.2]) [2, 3] rfl rfl ?_
      refine sx_widen (k' := mcT (h + 1)) (n' := msT (h + 1)) (by show _ ≤ 9 + 2 * mcT h; omega) (by show _ ≤ 18100 + 2 * msT h; omega) ?_
      refine sx_pick (w57.1, [oST w57.1 w57.2.1, zB T w57.2.1 ((([] : List Nat) ++ (ltx 38)) ++ (ntx h ca)).length w57.2.2]) (Or.inr ⟨w57.2.1, w57.2.2, by rw [hE], by rw [hE]; exact hw57⟩) ?_
      exact sx_aret X dX16_text_371 rfl rfl rfl
    · obtain ⟨ca, hca, hka⟩ := ha
      rw [hca] at hA
      obtain ⟨xa, rfl, hxa⟩ := hA
      obtain ⟨cb, hcb, hkb⟩ := hb
      rw [hcb] at hB
      obtain ⟨xb, rfl, hxb⟩ := hB
      have hE : ntx (h + 1) t = ((((([] ++ ltx 39) ++ ntx h ca) ++ ltx 40) ++ ntx h cb) ++ ltx 41) := by
        rw [ntx_s, hs, hca, hcb]
        rfl
      refine sx_aload_n X 0 rfl dX16_text_0 rfl ?_
      refine sx_gof X hs0 qm_1406 dX16_text_1 ?_
      refine sx_topi (y := 19) (by rw [hs]; rfl) ?_
      refine sx_tin X (off := 368) 372 dX16_text_4 rfl ⟨by decide, by decide, by decide⟩ ?_
      refine sx_new X (fs := [.null, .int 0, .int 0, .int 0]) kJ4 qm_1528 qm_1439 qm_26 (by decide) (by show _ ≤ 9 + 2 * mcT h; omega) (by show _ ≤ 18100 + 2 * msT h; omega) dX16_text_372 (fun b58 => ?_)
      refine sx_chg (ws' := [zO b58 1 [.null, .int 0, .int 0, .int 0]]) (st' := [.ref b58]) rfl rfl ?_
      refine sx_dup X dX16_text_375 rfl ?_
      refine sx_pI X (c_sbIn (l := l) (D := D) (T := T) (sd := sd) (jd := jd) b58) XY.M (wr := []) qm_1529 qm_1441 qm_26 qm_1442 rfl hd_sbIn ⟨rfl, rfl⟩ ⟨(rt_f (Nat.le_of_ble_eq_true rfl)), (rt_l (Nat.le_of_ble_eq_true rfl))⟩ rfl rfl (Nat.le_of_ble_eq_true rfl) ⟨(by show _ ≤ 9 + 2 * mcT h; omega), (by show _ ≤ 18100 + 2 * msT h; omega)⟩ dX16_text_376 rfl (fun q59 hq59 => ?_)
      refine sx_chg (ws' := [zO b58 1 [.ref q59, .int 0, .int 0, .int (nI ([] : List Nat).length)], zB T q59 16 (fun _ => 0)]) (st' := [.ref b58]) rfl rfl ?_
      refine sx_ldcS X (show vk_R "WeatherTeaLaw$Node" 88 "[" (jd.2.2.2.2 39) s from (XJ.2.2.2.2.2.2.2.2.1 39 (by decide)).2) dX16_text_379 ?_
      refine sx_pV X (c_sbS (l := l) (D := D) (T := T) (sd := sd) (jd := jd) (jd.2.2.2.2 39) b58 q59 16 ([] : List Nat) (ltx 39) (fun _ => 0) SBf_0 (by rw [hE] at hlen; simp only [List.length_append, List.length_nil] at hlen ⊢; omega) (ltx_128 39 (by decide))) (XY.M.and (XY.Mf (StrAt_ok _ _) (XJ.2.2.2.2.2.2.2.2.1 39 (by decide)).1)) (wr := []) (sx_rcv X (q0 := 0) (w := [zO b58 1 [.ref q59, .int 0, .int 0, .int (nI ([] : List Nat).length)], zB T q59 16 (fun _ => 0)]) rfl rfl) qm_1531 qm_1223 qm_1224 qm_26 qm_1225 hd_sbS ⟨rfl, rfl⟩ ⟨(rt_f (Nat.le_of_ble_eq_true rfl)), (rt_l (Nat.le_of_ble_eq_true rfl))⟩ rfl rfl (Nat.le_of_ble_eq_true rfl) ⟨(by show _ ≤ 9 + 2 * mcT h; omega), (by show _ ≤ 18100 + 2 * msT h; omega)⟩ dX16_text_381 rfl (fun w60 hw60 => ?_)
      refine sx_chg (ws' := [zO b58 1 [.ref w60.1, .int 0, .int 0, .int (nI (([] : List Nat) ++ (ltx 39)).length)], zB T w60.1 w60.2.1 w60.2.2]) (st' := [.ref b58]) rfl rfl ?_
      refine sx_aload_n X 0 rfl dX16_text_384 rfl ?_
      refine sx_gof X ha0 qm_1408 dX16_text_385 ?_
      refine sx_pV X (ih xa ca hka (by rw [hE] at hlen; simp only [List.length_append, List.length_nil] at hlen ⊢; omega)) (XY.M.and (XY.Mf (FzN_ok _ _ _) hxa)) (wr := [zO b58 1 [.ref w60.1, .int 0, .int 0, .int (nI (([] : List Nat) ++ (ltx 39)).length)], zB T w60.1 w60.2.1 w60.2.2]) (sx_rcvO (FzN_O hxa)) qm_1538 qm_1525 qm_1526 qm_40 qm_1527 hd_ntx ⟨rfl, rfl⟩ ⟨(show h + 7 + 1 ≤ h + 1 + 7 by omega), (by show 8 + (_ + 11) + (h * 60 + 500) ≤ (h + 1) * 60 + 500; omega)⟩ rfl rfl (Nat.le_of_ble_eq_true rfl) ⟨(by show _ ≤ 9 + 2 * mcT h; omega), (by show _ ≤ 18100 + 2 * msT h; omega)⟩ dX16_text_388 rfl (fun r61 hr61 => ?_)
      refine sx_chg (ws' := r61.2 ++ [zO b58 1 [.ref w60.1, .int 0, .int 0, .int (nI (([] : List Nat) ++ (ltx 39)).length)], zB T w60.1 w60.2.1 w60.2.2]) (st' := [.ref r61.1, .ref b58]) rfl rfl ?_
      refine sx_perm List.perm_append_comm ?_
      refine sx_pV X (c_sbS (l := l) (D := D) (T := T) (sd := sd) (jd := jd) r61.1 b58 w60.1 w60.2.1 (([] : List Nat) ++ (ltx 39)) (ntx h ca) w60.2.2 hw60 (by rw [hE] at hlen; simp only [List.length_append, List.length_nil] at hlen ⊢; omega) (ntx_128 h ca hka)) (XY.M.and (TxR_M XY hr61)) (wr := ([] ++ r61.2)) (sx_rcv X (q0 := 0) (w := ([zO b58 1 [.ref w60.1, .int 0, .int 0, .int (nI (([] : List Nat) ++ (ltx 39)).length)], zB T w60.1 w60.2.1 w60.2.2] ++ r61.2)) rfl rfl) qm_1531 qm_1223 qm_1224 qm_26 qm_1225 hd_sbS ⟨rfl, rfl⟩ ⟨(rt_f (Nat.le_of_ble_eq_true rfl)), (rt_l (Nat.le_of_ble_eq_true rfl))⟩ rfl rfl (Nat.le_of_ble_eq_true rfl) ⟨(by show _ ≤ 9 + 2 * mcT h; omega), (by show _ ≤ 18100 + 2 * msT h; omega)⟩ dX16_text_391 rfl (fun w62 hw62 => ?_)
      refine sx_chg (ws' := [zO b58 1 [.ref w62.1, .int 0, .int 0, .int (nI ((([] : List Nat) ++ (ltx 39)) ++ (ntx h ca)).length)], zB T w62.1 w62.2.1 w62.2.2] ++ r61.2) (st' := [.ref b58]) rfl rfl ?_
      refine sx_drop ?_
      refine sx_ldcS X (show vk_R "WeatherTeaLaw$Node" 90 " and " (jd.2.2.2.2 40) s from (XJ.2.2.2.2.2.2.2.2.1 40 (by decide)).2) dX16_text_394 ?_
      refine sx_pV X (c_sbS (l := l) (D := D) (T := T) (sd := sd) (jd := jd) (jd.2.2.2.2 40) b58 w62.1 w62.2.1 ((([] : List Nat) ++ (ltx 39)) ++ (ntx h ca)) (ltx 40) w62.2.2 hw62 (by rw [hE] at hlen; simp only [List.length_append, List.length_nil] at hlen ⊢; omega) (ltx_128 40 (by decide))) (XY.M.and (XY.Mf (StrAt_ok _ _) (XJ.2.2.2.2.2.2.2.2.1 40 (by decide)).1)) (wr := []) (sx_rcv X (q0 := 0) (w := [zO b58 1 [.ref w62.1, .int 0, .int 0, .int (nI ((([] : List Nat) ++ (ltx 39)) ++ (ntx h ca)).length)], zB T w62.1 w62.2.1 w62.2.2]) rfl rfl) qm_1531 qm_1223 qm_1224 qm_26 qm_1225 hd_sbS ⟨rfl, rfl⟩ ⟨(rt_f (Nat.le_of_ble_eq_true rfl)), (rt_l (Nat.le_of_ble_eq_true rfl))⟩ rfl rfl (Nat.le_of_ble_eq_true rfl) ⟨(by show _ ≤ 9 + 2 * mcT h; omega), (by show _ ≤ 18100 + 2 * msT h; omega)⟩ dX16_text_396 rfl (fun w63 hw63 => ?_)
      refine sx_chg (ws' := [zO b58 1 [.ref w63.1, .int 0, .int 0, .int (nI (((([] : List Nat) ++ (ltx 39)) ++ (ntx h ca)) ++ (ltx 40)).length)], zB T w63.1 w63.2.1 w63.2.2]) (st' := [.ref b58]) rfl rfl ?_
      refine sx_aload_n X 0 rfl dX16_text_399 rfl ?_
      refine sx_gof X hb0 qm_1409 dX16_text_400 ?_
      refine sx_pV X (ih xb cb hkb (by rw [hE] at hlen; simp only [List.length_append, List.length_nil] at hlen ⊢; omega)) (XY.M.and (XY.Mf (FzN_ok _ _ _) hxb)) (wr := [zO b58 1 [.ref w63.1, .int 0, .int 0, .int (nI (((([] : List Nat) ++ (ltx 39)) ++ (ntx h ca)) ++ (ltx 40)).length)], zB T w63.1 w63.2.1 w63.2.2]) (sx_rcvO (FzN_O hxb)) qm_1538 qm_1525 qm_1526 qm_40 qm_1527 hd_ntx ⟨rfl, rfl⟩ ⟨(show h + 7 + 1 ≤ h + 1 + 7 by omega), (by show 8 + (_ + 11) + (h * 60 + 500) ≤ (h + 1) * 60 + 500; omega)⟩ rfl rfl (Nat.le_of_ble_eq_true rfl) ⟨(by show _ ≤ 9 + 2 * mcT h; omega), (by show _ ≤ 18100 + 2 * msT h; omega)⟩ dX16_text_403 rfl (fun r64 hr64 => ?_)
      refine sx_chg (ws' := r64.2 ++ [zO b58 1 [.ref w63.1, .int 0, .int 0, .int (nI (((([] : List Nat) ++ (ltx 39)) ++ (ntx h ca)) ++ (ltx 40)).length)], zB T w63.1 w63.2.1 w63.2.2]) (st' := [.ref r64.1, .ref b58]) rfl rfl ?_
      refine sx_perm List.perm_append_comm ?_
      refine sx_pV X (c_sbS (l := l) (D := D) (T := T) (sd := sd) (jd := jd) r64.1 b58 w63.1 w63.2.1 (((([] : List Nat) ++ (ltx 39)) ++ (ntx h ca)) ++ (ltx 40)) (ntx h cb) w63.2.2 hw63 (by rw [hE] at hlen; simp only [List.length_append, List.length_nil] at hlen ⊢; omega) (ntx_128 h cb hkb)) (XY.M.and (TxR_M XY hr64)) (wr := ([] ++ r64.2)) (sx_rcv X (q0 := 0) (w := ([zO b58 1 [.ref w63.1, .int 0, .int 0, .int (nI (((([] : List Nat) ++ (ltx 39)) ++ (ntx h ca)) ++ (ltx 40)).length)], zB T w63.1 w63.2.1 w63.2.2] ++ r64.2)) rfl rfl) qm_1531 qm_1223 qm_1224 qm_26 qm_1225 hd_sbS ⟨rfl, rfl⟩ ⟨(rt_f (Nat.le_of_ble_eq_true rfl)), (rt_l (Nat.le_of_ble_eq_true rfl))⟩ rfl rfl (Nat.le_of_ble_eq_true rfl) ⟨(by show _ ≤ 9 + 2 * mcT h; omega), (by show _ ≤ 18100 + 2 * msT h; omega)⟩ dX16_text_406 rfl (fun w65 hw65 => ?_)
      refine sx_chg (ws' := [zO b58 1 [.ref w65.1, .int 0, .int 0, .int (nI ((((([] : List Nat) ++ (ltx 39)) ++ (ntx h ca)) ++ (ltx 40)) ++ (ntx h cb)).length)], zB T w65.1 w65.2.1 w65.2.2] ++ r64.2) (st' := [.ref b58]) rfl rfl ?_
      refine sx_drop ?_
      refine sx_ldcS X (show vk_R "WeatherTeaLaw$Node" 92 "]" (jd.2.2.2.2 41) s from (XJ.2.2.2.2.2.2.2.2.1 41 (by decide)).2) dX16_text_409 ?_
      refine sx_pV X (c_sbS (l := l) (D := D) (T := T) (sd := sd) (jd := jd) (jd.2.2.2.2 41) b58 w65.1 w65.2.1 ((((([] : List Nat) ++ (ltx 39)) ++ (ntx h ca)) ++ (ltx 40)) ++ (ntx h cb)) (ltx 41) w65.2.2 hw65 (by rw [hE] at hlen; simp only [List.length_append, List.length_nil] at hlen ⊢; omega) (ltx_128 41 (by decide))) (XY.M.and (XY.Mf (StrAt_ok _ _) (XJ.2.2.2.2.2.2.2.2.1 41 (by decide)).1)) (wr := []) (sx_rcv X (q0 := 0) (w := [zO b58 1 [.ref w65.1, .int 0, .int 0, .int (nI ((((([] : List Nat) ++ (ltx 39)) ++ (ntx h ca)) ++ (ltx 40)) ++ (ntx h cb)).length)], zB T w65.1 w65.2.1 w65.2.2]) rfl rfl) qm_1531 qm_1223 qm_1224 qm_26 qm_1225 hd_sbS ⟨rfl, rfl⟩ ⟨(rt_f (Nat.le_of_ble_eq_true rfl)), (rt_l (Nat.le_of_ble_eq_true rfl))⟩ rfl rfl (Nat.le_of_ble_eq_true rfl) ⟨(by show _ ≤ 9 + 2 * mcT h; omega), (by show _ ≤ 18100 + 2 * msT h; omega)⟩ dX16_text_411 rfl (fun w66 hw66 => ?_)
      refine sx_chg (ws' := [zO b58 1 [.ref w66.1, .int 0, .int 0, .int (nI (((((([] : List Nat) ++ (ltx 39)) ++ (ntx h ca)) ++ (ltx 40)) ++ (ntx h cb)) ++ (ltx 41)).length)], zB T w66.1 w66.2.1 w66.2.2]) (st' := [.ref b58]) rfl rfl ?_
      refine sx_pV X (c_sbStr (l := l) (D := D) (T := T) (sd := sd) (jd := jd) b58 w66.1 w66.2.1 (((((([] : List Nat) ++ (ltx 39)) ++ (ntx h ca)) ++ (ltx 40)) ++ (ntx h cb)) ++ (ltx 41)) w66.2.2 hw66) XY.M (wr := []) (sx_rcv X (q0 := 0) (w := [zO b58 1 [.ref w66.1, .int 0, .int 0, .int (nI (((((([] : List Nat) ++ (ltx 39)) ++ (ntx h ca)) ++ (ltx 40)) ++ (ntx h cb)) ++ (ltx 41)).length)], zB T w66.1 w66.2.1 w66.2.2]) rfl rfl) qm_1533 qm_1463 qm_1464 qm_26 qm_1465 hd_sbStr ⟨rfl, rfl⟩ ⟨(rt_f (Nat.le_of_ble_eq_true rfl)), (rt_l (Nat.le_of_ble_eq_true rfl))⟩ rfl rfl (Nat.le_of_ble_eq_true rfl) ⟨(by show _ ≤ 9 + 2 * mcT h; omega), (by show _ ≤ 18100 + 2 * msT h; omega)⟩ dX16_text_414 rfl (fun w67 hw67 => ?_)
      refine sx_chg (ws' := [zO b58 1 [.ref w66.1, .int 0, .int 0, .int (nI (((((([] : List Nat) ++ (ltx 39)) ++ (ntx h ca)) ++ (ltx 40)) ++ (ntx h cb)) ++ (ltx 41)).length)], zB T w66.1 w66.2.1 w66.2.2, zO w67.1 0 [.ref w67.2.1, .int 0, .int 0, .int 0], zB T w67.2.1 ((((((([] : List Nat) ++ (ltx 39)) ++ (ntx h ca)) ++ (ltx 40)) ++ (ntx h cb)) ++ (ltx 41)).length) w67.2.2]) (st' := [.ref w67.1]) rfl rfl ?_
      refine sx_wsub (ws' := [zO w67.1 0 [.ref w67.2.1, .int 0, .int 0, .int 0], zB T w67.2.1 ((((((([] : List Nat) ++ (ltx 39)) ++ (ntx h ca)) ++ (ltx 40)) ++ (ntx h cb)) ++ (ltx 41)).length) w67.2.2]) [2, 3] rfl rfl ?_
      refine sx_widen (k' := mcT (h + 1)) (n' := msT (h + 1)) (by show _ ≤ 9 + 2 * mcT h; omega) (by show _ ≤ 18100 + 2 * msT h; omega) ?_
      refine sx_pick (w67.1, [oST w67.1 w67.2.1, zB T w67.2.1 (((((([] : List Nat) ++ (ltx 39)) ++ (ntx h ca)) ++ (ltx 40)) ++ (ntx h cb)) ++ (ltx 41)).length w67.2.2]) (Or.inr ⟨w67.2.1, w67.2.2, by rw [hE], by rw [hE]; exact hw67⟩) ?_
      exact sx_aret X dX16_text_417 rfl rfl rfl
    · obtain ⟨ca, hca, hka⟩ := ha
      rw [hca] at hA
      obtain ⟨xa, rfl, hxa⟩ := hA
      obtain ⟨cb, hcb, hkb⟩ := hb
      rw [hcb] at hB
      obtain ⟨xb, rfl, hxb⟩ := hB
      have hE : ntx (h + 1) t = ((((([] ++ ltx 39) ++ ntx h ca) ++ ltx 42) ++ ntx h cb) ++ ltx 41) := by
        rw [ntx_s, hs, hca, hcb]
        rfl
      refine sx_aload_n X 0 rfl dX16_text_0 rfl ?_
      refine sx_gof X hs0 qm_1406 dX16_text_1 ?_
      refine sx_topi (y := 20) (by rw [hs]; rfl) ?_
      refine sx_tin X (off := 414) 418 dX16_text_4 rfl ⟨by decide, by decide, by decide⟩ ?_
      refine sx_new X (fs := [.null, .int 0, .int 0, .int 0]) kJ4 qm_1528 qm_1439 qm_26 (by decide) (by show _ ≤ 9 + 2 * mcT h; omega) (by show _ ≤ 18100 + 2 * msT h; omega) dX16_text_418 (fun b68 => ?_)
      refine sx_chg (ws' := [zO b68 1 [.null, .int 0, .int 0, .int 0]]) (st' := [.ref b68]) rfl rfl ?_
      refine sx_dup X dX16_text_421 rfl ?_
      refine sx_pI X (c_sbIn (l := l) (D := D) (T := T) (sd := sd) (jd := jd) b68) XY.M (wr := []) qm_1529 qm_1441 qm_26 qm_1442 rfl hd_sbIn ⟨rfl, rfl⟩ ⟨(rt_f (Nat.le_of_ble_eq_true rfl)), (rt_l (Nat.le_of_ble_eq_true rfl))⟩ rfl rfl (Nat.le_of_ble_eq_true rfl) ⟨(by show _ ≤ 9 + 2 * mcT h; omega), (by show _ ≤ 18100 + 2 * msT h; omega)⟩ dX16_text_422 rfl (fun q69 hq69 => ?_)
      refine sx_chg (ws' := [zO b68 1 [.ref q69, .int 0, .int 0, .int (nI ([] : List Nat).length)], zB T q69 16 (fun _ => 0)]) (st' := [.ref b68]) rfl rfl ?_
      refine sx_ldcS X (show vk_R "WeatherTeaLaw$Node" 88 "[" (jd.2.2.2.2 39) s from (XJ.2.2.2.2.2.2.2.2.1 39 (by decide)).2) dX16_text_425 ?_
      refine sx_pV X (c_sbS (l := l) (D := D) (T := T) (sd := sd) (jd := jd) (jd.2.2.2.2 39) b68 q69 16 ([] : List Nat) (ltx 39) (fun _ => 0) SBf_0 (by rw [hE] at hlen; simp only [List.length_append, List.length_nil] at hlen ⊢; omega) (ltx_128 39 (by decide))) (XY.M.and (XY.Mf (StrAt_ok _ _) (XJ.2.2.2.2.2.2.2.2.1 39 (by decide)).1)) (wr := []) (sx_rcv X (q0 := 0) (w := [zO b68 1 [.ref q69, .int 0, .int 0, .int (nI ([] : List Nat).length)], zB T q69 16 (fun _ => 0)]) rfl rfl) qm_1531 qm_1223 qm_1224 qm_26 qm_1225 hd_sbS ⟨rfl, rfl⟩ ⟨(rt_f (Nat.le_of_ble_eq_true rfl)), (rt_l (Nat.le_of_ble_eq_true rfl))⟩ rfl rfl (Nat.le_of_ble_eq_true rfl) ⟨(by show _ ≤ 9 + 2 * mcT h; omega), (by show _ ≤ 18100 + 2 * msT h; omega)⟩ dX16_text_427 rfl (fun w70 hw70 => ?_)
      refine sx_chg (ws' := [zO b68 1 [.ref w70.1, .int 0, .int 0, .int (nI (([] : List Nat) ++ (ltx 39)).length)], zB T w70.1 w70.2.1 w70.2.2]) (st' := [.ref b68]) rfl rfl ?_
      refine sx_aload_n X 0 rfl dX16_text_430 rfl ?_
      refine sx_gof X ha0 qm_1408 dX16_text_431 ?_
      refine sx_pV X (ih xa ca hka (by rw [hE] at hlen; simp only [List.length_append, List.length_nil] at hlen ⊢; omega)) (XY.M.and (XY.Mf (FzN_ok _ _ _) hxa)) (wr := [zO b68 1 [.ref w70.1, .int 0, .int 0, .int (nI (([] : List Nat) ++ (ltx 39)).length)], zB T w70.1 w70.2.1 w70.2.2]) (sx_rcvO (FzN_O hxa)) qm_1538 qm_1525 qm_1526 qm_40 qm_1527 hd_ntx ⟨rfl, rfl⟩ ⟨(show h + 7 + 1 ≤ h + 1 + 7 by omega), (by show 8 + (_ + 11) + (h * 60 + 500) ≤ (h + 1) * 60 + 500; omega)⟩ rfl rfl (Nat.le_of_ble_eq_true rfl) ⟨(by show _ ≤ 9 + 2 * mcT h; omega), (by show _ ≤ 18100 + 2 * msT h; omega)⟩ dX16_text_434 rfl (fun r71 hr71 => ?_)
      refine sx_chg (ws' := r71.2 ++ [zO b68 1 [.ref w70.1, .int 0, .int 0, .int (nI (([] : List Nat) ++ (ltx 39)).length)], zB T w70.1 w70.2.1 w70.2.2]) (st' := [.ref r71.1, .ref b68]) rfl rfl ?_
      refine sx_perm List.perm_append_comm ?_
      refine sx_pV X (c_sbS (l := l) (D := D) (T := T) (sd := sd) (jd := jd) r71.1 b68 w70.1 w70.2.1 (([] : List Nat) ++ (ltx 39)) (ntx h ca) w70.2.2 hw70 (by rw [hE] at hlen; simp only [List.length_append, List.length_nil] at hlen ⊢; omega) (ntx_128 h ca hka)) (XY.M.and (TxR_M XY hr71)) (wr := ([] ++ r71.2)) (sx_rcv X (q0 := 0) (w := ([zO b68 1 [.ref w70.1, .int 0, .int 0, .int (nI (([] : List Nat) ++ (ltx 39)).length)], zB T w70.1 w70.2.1 w70.2.2] ++ r71.2)) rfl rfl) qm_1531 qm_1223 qm_1224 qm_26 qm_1225 hd_sbS ⟨rfl, rfl⟩ ⟨(rt_f (Nat.le_of_ble_eq_true rfl)), (rt_l (Nat.le_of_ble_eq_true rfl))⟩ rfl rfl (Nat.le_of_ble_eq_true rfl) ⟨(by show _ ≤ 9 + 2 * mcT h; omega), (by show _ ≤ 18100 + 2 * msT h; omega)⟩ dX16_text_437 rfl (fun w72 hw72 => ?_)
      refine sx_chg (ws' := [zO b68 1 [.ref w72.1, .int 0, .int 0, .int (nI ((([] : List Nat) ++ (ltx 39)) ++ (ntx h ca)).length)], zB T w72.1 w72.2.1 w72.2.2] ++ r71.2) (st' := [.ref b68]) rfl rfl ?_
      refine sx_drop ?_
      refine sx_ldcS X (show vk_R "WeatherTeaLaw$Node" 94 " or " (jd.2.2.2.2 42) s from (XJ.2.2.2.2.2.2.2.2.1 42 (by decide)).2) dX16_text_440 ?_
      refine sx_pV X (c_sbS (l := l) (D := D) (T := T) (sd := sd) (jd := jd) (jd.2.2.2.2 42) b68 w72.1 w72.2.1 ((([] : List Nat) ++ (ltx 39)) ++ (ntx h ca)) (ltx 42) w72.2.2 hw72 (by rw [hE] at hlen; simp only [List.length_append, List.length_nil] at hlen ⊢; omega) (ltx_128 42 (by decide))) (XY.M.and (XY.Mf (StrAt_ok _ _) (XJ.2.2.2.2.2.2.2.2.1 42 (by decide)).1)) (wr := []) (sx_rcv X (q0 := 0) (w := [zO b68 1 [.ref w72.1, .int 0, .int 0, .int (nI ((([] : List Nat) ++ (ltx 39)) ++ (ntx h ca)).length)], zB T w72.1 w72.2.1 w72.2.2]) rfl rfl) qm_1531 qm_1223 qm_1224 qm_26 qm_1225 hd_sbS ⟨rfl, rfl⟩ ⟨(rt_f (Nat.le_of_ble_eq_true rfl)), (rt_l (Nat.le_of_ble_eq_true rfl))⟩ rfl rfl (Nat.le_of_ble_eq_true rfl) ⟨(by show _ ≤ 9 + 2 * mcT h; omega), (by show _ ≤ 18100 + 2 * msT h; omega)⟩ dX16_text_442 rfl (fun w73 hw73 => ?_)
      refine sx_chg (ws' := [zO b68 1 [.ref w73.1, .int 0, .int 0, .int (nI (((([] : List Nat) ++ (ltx 39)) ++ (ntx h ca)) ++ (ltx 42)).length)], zB T w73.1 w73.2.1 w73.2.2]) (st' := [.ref b68]) rfl rfl ?_
      refine sx_aload_n X 0 rfl dX16_text_445 rfl ?_
      refine sx_gof X hb0 qm_1409 dX16_text_446 ?_
      refine sx_pV X (ih xb cb hkb (by rw [hE] at hlen; simp only [List.length_append, List.length_nil] at hlen ⊢; omega)) (XY.M.and (XY.Mf (FzN_ok _ _ _) hxb)) (wr := [zO b68 1 [.ref w73.1, .int 0, .int 0, .int (nI (((([] : List Nat) ++ (ltx 39)) ++ (ntx h ca)) ++ (ltx 42)).length)], zB T w73.1 w73.2.1 w73.2.2]) (sx_rcvO (FzN_O hxb)) qm_1538 qm_1525 qm_1526 qm_40 qm_1527 hd_ntx ⟨rfl, rfl⟩ ⟨(show h + 7 + 1 ≤ h + 1 + 7 by omega), (by show 8 + (_ + 11) + (h * 60 + 500) ≤ (h + 1) * 60 + 500; omega)⟩ rfl rfl (Nat.le_of_ble_eq_true rfl) ⟨(by show _ ≤ 9 + 2 * mcT h; omega), (by show _ ≤ 18100 + 2 * msT h; omega)⟩ dX16_text_449 rfl (fun r74 hr74 => ?_)
      refine sx_chg (ws' := r74.2 ++ [zO b68 1 [.ref w73.1, .int 0, .int 0, .int (nI (((([] : List Nat) ++ (ltx 39)) ++ (ntx h ca)) ++ (ltx 42)).length)], zB T w73.1 w73.2.1 w73.2.2]) (st' := [.ref r74.1, .ref b68]) rfl rfl ?_
      refine sx_perm List.perm_append_comm ?_
      refine sx_pV X (c_sbS (l := l) (D := D) (T := T) (sd := sd) (jd := jd) r74.1 b68 w73.1 w73.2.1 (((([] : List Nat) ++ (ltx 39)) ++ (ntx h ca)) ++ (ltx 42)) (ntx h cb) w73.2.2 hw73 (by rw [hE] at hlen; simp only [List.length_append, List.length_nil] at hlen ⊢; omega) (ntx_128 h cb hkb)) (XY.M.and (TxR_M XY hr74)) (wr := ([] ++ r74.2)) (sx_rcv X (q0 := 0) (w := ([zO b68 1 [.ref w73.1, .int 0, .int 0, .int (nI (((([] : List Nat) ++ (ltx 39)) ++ (ntx h ca)) ++ (ltx 42)).length)], zB T w73.1 w73.2.1 w73.2.2] ++ r74.2)) rfl rfl) qm_1531 qm_1223 qm_1224 qm_26 qm_1225 hd_sbS ⟨rfl, rfl⟩ ⟨(rt_f (Nat.le_of_ble_eq_true rfl)), (rt_l (Nat.le_of_ble_eq_true rfl))⟩ rfl rfl (Nat.le_of_ble_eq_true rfl) ⟨(by show _ ≤ 9 + 2 * mcT h; omega), (by show _ ≤ 18100 + 2 * msT h; omega)⟩ dX16_text_452 rfl (fun w75 hw75 => ?_)
      refine sx_chg (ws' := [zO b68 1 [.ref w75.1, .int 0, .int 0, .int (nI ((((([] : List Nat) ++ (ltx 39)) ++ (ntx h ca)) ++ (ltx 42)) ++ (ntx h cb)).length)], zB T w75.1 w75.2.1 w75.2.2] ++ r74.2) (st' := [.ref b68]) rfl rfl ?_
      refine sx_drop ?_
      refine sx_ldcS X (show vk_R "WeatherTeaLaw$Node" 92 "]" (jd.2.2.2.2 41) s from (XJ.2.2.2.2.2.2.2.2.1 41 (by decide)).2) dX16_text_455 ?_
      refine sx_pV X (c_sbS (l := l) (D := D) (T := T) (sd := sd) (jd := jd) (jd.2.2.2.2 41) b68 w75.1 w75.2.1 ((((([] : List Nat) ++ (ltx 39)) ++ (ntx h ca)) ++ (ltx 42)) ++ (ntx h cb)) (ltx 41) w75.2.2 hw75 (by rw [hE] at hlen; simp only [List.length_append, List.length_nil] at hlen ⊢; omega) (ltx_128 41 (by decide))) (XY.M.and (XY.Mf (StrAt_ok _ _) (XJ.2.2.2.2.2.2.2.2.1 41 (by decide)).1)) (wr := []) (sx_rcv X (q0 := 0) (w := [zO b68 1 [.ref w75.1, .int 0, .int 0, .int (nI ((((([] : List Nat) ++ (ltx 39)) ++ (ntx h ca)) ++ (ltx 42)) ++ (ntx h cb)).length)], zB T w75.1 w75.2.1 w75.2.2]) rfl rfl) qm_1531 qm_1223 qm_1224 qm_26 qm_1225 hd_sbS ⟨rfl, rfl⟩ ⟨(rt_f (Nat.le_of_ble_eq_true rfl)), (rt_l (Nat.le_of_ble_eq_true rfl))⟩ rfl rfl (Nat.le_of_ble_eq_true rfl) ⟨(by show _ ≤ 9 + 2 * mcT h; omega), (by show _ ≤ 18100 + 2 * msT h; omega)⟩ dX16_text_457 rfl (fun w76 hw76 => ?_)
      refine sx_chg (ws' := [zO b68 1 [.ref w76.1, .int 0, .int 0, .int (nI (((((([] : List Nat) ++ (ltx 39)) ++ (ntx h ca)) ++ (ltx 42)) ++ (ntx h cb)) ++ (ltx 41)).length)], zB T w76.1 w76.2.1 w76.2.2]) (st' := [.ref b68]) rfl rfl ?_
      refine sx_pV X (c_sbStr (l := l) (D := D) (T := T) (sd := sd) (jd := jd) b68 w76.1 w76.2.1 (((((([] : List Nat) ++ (ltx 39)) ++ (ntx h ca)) ++ (ltx 42)) ++ (ntx h cb)) ++ (ltx 41)) w76.2.2 hw76) XY.M (wr := []) (sx_rcv X (q0 := 0) (w := [zO b68 1 [.ref w76.1, .int 0, .int 0, .int (nI (((((([] : List Nat) ++ (ltx 39)) ++ (ntx h ca)) ++ (ltx 42)) ++ (ntx h cb)) ++ (ltx 41)).length)], zB T w76.1 w76.2.1 w76.2.2]) rfl rfl) qm_1533 qm_1463 qm_1464 qm_26 qm_1465 hd_sbStr ⟨rfl, rfl⟩ ⟨(rt_f (Nat.le_of_ble_eq_true rfl)), (rt_l (Nat.le_of_ble_eq_true rfl))⟩ rfl rfl (Nat.le_of_ble_eq_true rfl) ⟨(by show _ ≤ 9 + 2 * mcT h; omega), (by show _ ≤ 18100 + 2 * msT h; omega)⟩ dX16_text_460 rfl (fun w77 hw77 => ?_)
      refine sx_chg (ws' := [zO b68 1 [.ref w76.1, .int 0, .int 0, .int (nI (((((([] : List Nat) ++ (ltx 39)) ++ (ntx h ca)) ++ (ltx 42)) ++ (ntx h cb)) ++ (ltx 41)).length)], zB T w76.1 w76.2.1 w76.2.2, zO w77.1 0 [.ref w77.2.1, .int 0, .int 0, .int 0], zB T w77.2.1 ((((((([] : List Nat) ++ (ltx 39)) ++ (ntx h ca)) ++ (ltx 42)) ++ (ntx h cb)) ++ (ltx 41)).length) w77.2.2]) (st' := [.ref w77.1]) rfl rfl ?_
      refine sx_wsub (ws' := [zO w77.1 0 [.ref w77.2.1, .int 0, .int 0, .int 0], zB T w77.2.1 ((((((([] : List Nat) ++ (ltx 39)) ++ (ntx h ca)) ++ (ltx 42)) ++ (ntx h cb)) ++ (ltx 41)).length) w77.2.2]) [2, 3] rfl rfl ?_
      refine sx_widen (k' := mcT (h + 1)) (n' := msT (h + 1)) (by show _ ≤ 9 + 2 * mcT h; omega) (by show _ ≤ 18100 + 2 * msT h; omega) ?_
      refine sx_pick (w77.1, [oST w77.1 w77.2.1, zB T w77.2.1 (((((([] : List Nat) ++ (ltx 39)) ++ (ntx h ca)) ++ (ltx 42)) ++ (ntx h cb)) ++ (ltx 41)).length w77.2.2]) (Or.inr ⟨w77.2.1, w77.2.2, by rw [hE], by rw [hE]; exact hw77⟩) ?_
      exact sx_aret X dX16_text_463 rfl rfl rfl
    · obtain ⟨ca, hca, hka⟩ := ha
      rw [hca] at hA
      obtain ⟨xa, rfl, hxa⟩ := hA
      obtain ⟨cb, hcb, hkb⟩ := hb
      rw [hcb] at hB
      obtain ⟨xb, rfl, hxb⟩ := hB
      have hE : ntx (h + 1) t = ((((([] ++ ltx 43) ++ ntx h ca) ++ ltx (sgnK (t.1 - 6))) ++ ntx h cb) ++ ltx 32) := by
        rw [ntx_s, if_neg (show ¬ t.1 = 0 by omega), if_neg (show ¬ t.1 = 1 by omega), if_neg (show ¬ t.1 = 2 by omega), if_neg (show ¬ t.1 = 3 by omega), if_neg (show ¬ t.1 = 4 by omega), if_neg (show ¬ t.1 = 5 by omega), if_neg (show ¬ t.1 = 15 by omega), if_neg (show ¬ t.1 = 16 by omega), if_neg (show ¬ t.1 = 17 by omega), if_neg (show ¬ t.1 = 18 by omega), if_neg (show ¬ t.1 = 19 by omega), if_neg (show ¬ t.1 = 20 by omega), if_pos (show t.1 < 10 by omega), hca, hcb]
        rfl
      refine sx_aload_n X 0 rfl dX16_text_0 rfl ?_
      refine sx_gof X hs0 qm_1406 dX16_text_1 ?_
      refine sx_tin X 464 dX16_text_4 rfl (ob_tx 0 t.1 (by omega) (by omega)) ?_
      refine sx_aload_n X 0 rfl dX16_text_464 rfl ?_
      refine sx_gof X hs0 qm_1406 dX16_text_465 ?_
      refine sx_bipush X (v := 10) dX16_text_468 rfl ?_
      refine sx_icmp_ge X 530 dX16_text_470 rfl (fun hc => absurd hc (nI_ge (by omega) (by decide))) (fun _ => ?_)
      refine sx_new X (fs := [.null, .int 0, .int 0, .int 0]) kJ4 qm_1528 qm_1439 qm_26 (by decide) (by show _ ≤ 9 + 2 * mcT h; omega) (by show _ ≤ 18100 + 2 * msT h; omega) dX16_text_473 (fun b78 => ?_)
      refine sx_chg (ws' := [zO b78 1 [.null, .int 0, .int 0, .int 0]]) (st' := [.ref b78]) rfl rfl ?_
      refine sx_dup X dX16_text_476 rfl ?_
      refine sx_pI X (c_sbIn (l := l) (D := D) (T := T) (sd := sd) (jd := jd) b78) XY.M (wr := []) qm_1529 qm_1441 qm_26 qm_1442 rfl hd_sbIn ⟨rfl, rfl⟩ ⟨(rt_f (Nat.le_of_ble_eq_true rfl)), (rt_l (Nat.le_of_ble_eq_true rfl))⟩ rfl rfl (Nat.le_of_ble_eq_true rfl) ⟨(by show _ ≤ 9 + 2 * mcT h; omega), (by show _ ≤ 18100 + 2 * msT h; omega)⟩ dX16_text_477 rfl (fun q79 hq79 => ?_)
      refine sx_chg (ws' := [zO b78 1 [.ref q79, .int 0, .int 0, .int (nI ([] : List Nat).length)], zB T q79 16 (fun _ => 0)]) (st' := [.ref b78]) rfl rfl ?_
      refine sx_ldcS X (show vk_R "WeatherTeaLaw$Node" 96 "(" (jd.2.2.2.2 43) s from (XJ.2.2.2.2.2.2.2.2.1 43 (by decide)).2) dX16_text_480 ?_
      refine sx_pV X (c_sbS (l := l) (D := D) (T := T) (sd := sd) (jd := jd) (jd.2.2.2.2 43) b78 q79 16 ([] : List Nat) (ltx 43) (fun _ => 0) SBf_0 (by rw [hE] at hlen; simp only [List.length_append, List.length_nil] at hlen ⊢; omega) (ltx_128 43 (by decide))) (XY.M.and (XY.Mf (StrAt_ok _ _) (XJ.2.2.2.2.2.2.2.2.1 43 (by decide)).1)) (wr := []) (sx_rcv X (q0 := 0) (w := [zO b78 1 [.ref q79, .int 0, .int 0, .int (nI ([] : List Nat).length)], zB T q79 16 (fun _ => 0)]) rfl rfl) qm_1531 qm_1223 qm_1224 qm_26 qm_1225 hd_sbS ⟨rfl, rfl⟩ ⟨(rt_f (Nat.le_of_ble_eq_true rfl)), (rt_l (Nat.le_of_ble_eq_true rfl))⟩ rfl rfl (Nat.le_of_ble_eq_true rfl) ⟨(by show _ ≤ 9 + 2 * mcT h; omega), (by show _ ≤ 18100 + 2 * msT h; omega)⟩ dX16_text_482 rfl (fun w80 hw80 => ?_)
      refine sx_chg (ws' := [zO b78 1 [.ref w80.1, .int 0, .int 0, .int (nI (([] : List Nat) ++ (ltx 43)).length)], zB T w80.1 w80.2.1 w80.2.2]) (st' := [.ref b78]) rfl rfl ?_
      refine sx_aload_n X 0 rfl dX16_text_485 rfl ?_
      refine sx_gof X ha0 qm_1408 dX16_text_486 ?_
      refine sx_pV X (ih xa ca hka (by rw [hE] at hlen; simp only [List.length_append, List.length_nil] at hlen ⊢; omega)) (XY.M.and (XY.Mf (FzN_ok _ _ _) hxa)) (wr := [zO b78 1 [.ref w80.1, .int 0, .int 0, .int (nI (([] : List Nat) ++ (ltx 43)).length)], zB T w80.1 w80.2.1 w80.2.2]) (sx_rcvO (FzN_O hxa)) qm_1538 qm_1525 qm_1526 qm_40 qm_1527 hd_ntx ⟨rfl, rfl⟩ ⟨(show h + 7 + 1 ≤ h + 1 + 7 by omega), (by show 8 + (_ + 11) + (h * 60 + 500) ≤ (h + 1) * 60 + 500; omega)⟩ rfl rfl (Nat.le_of_ble_eq_true rfl) ⟨(by show _ ≤ 9 + 2 * mcT h; omega), (by show _ ≤ 18100 + 2 * msT h; omega)⟩ dX16_text_489 rfl (fun r81 hr81 => ?_)
      refine sx_chg (ws' := r81.2 ++ [zO b78 1 [.ref w80.1, .int 0, .int 0, .int (nI (([] : List Nat) ++ (ltx 43)).length)], zB T w80.1 w80.2.1 w80.2.2]) (st' := [.ref r81.1, .ref b78]) rfl rfl ?_
      refine sx_perm List.perm_append_comm ?_
      refine sx_pV X (c_sbS (l := l) (D := D) (T := T) (sd := sd) (jd := jd) r81.1 b78 w80.1 w80.2.1 (([] : List Nat) ++ (ltx 43)) (ntx h ca) w80.2.2 hw80 (by rw [hE] at hlen; simp only [List.length_append, List.length_nil] at hlen ⊢; omega) (ntx_128 h ca hka)) (XY.M.and (TxR_M XY hr81)) (wr := ([] ++ r81.2)) (sx_rcv X (q0 := 0) (w := ([zO b78 1 [.ref w80.1, .int 0, .int 0, .int (nI (([] : List Nat) ++ (ltx 43)).length)], zB T w80.1 w80.2.1 w80.2.2] ++ r81.2)) rfl rfl) qm_1531 qm_1223 qm_1224 qm_26 qm_1225 hd_sbS ⟨rfl, rfl⟩ ⟨(rt_f (Nat.le_of_ble_eq_true rfl)), (rt_l (Nat.le_of_ble_eq_true rfl))⟩ rfl rfl (Nat.le_of_ble_eq_true rfl) ⟨(by show _ ≤ 9 + 2 * mcT h; omega), (by show _ ≤ 18100 + 2 * msT h; omega)⟩ dX16_text_492 rfl (fun w82 hw82 => ?_)
      refine sx_chg (ws' := [zO b78 1 [.ref w82.1, .int 0, .int 0, .int (nI ((([] : List Nat) ++ (ltx 43)) ++ (ntx h ca)).length)], zB T w82.1 w82.2.1 w82.2.2] ++ r81.2) (st' := [.ref b78]) rfl rfl ?_
      refine sx_drop ?_
      refine sx_gstN X XJ.2.2.2.2.2.2.1 (List.mem_of_getElem? (i := 2) rfl) dX16_text_495 ?_
      refine sx_aload_n X 0 rfl dX16_text_498 rfl ?_
      refine sx_gof X hs0 qm_1406 dX16_text_499 ?_
      refine sx_bipush X (v := 6) dX16_text_502 rfl ?_
      refine sx_isub X dX16_text_504 ?_
      refine sx_topi (y := nI (t.1 - 6)) (pk_sub (show 6 ≤ t.1 by omega)) ?_
      refine sx_stq X XJ.2.2.2.2.2.2.2.1 (v := .ref (jd.2.2.2.2 (sgnK (t.1 - 6)))) (nI_in (by omega) (by omega)) (by rw [nI_clamp (by omega)]) dX16_text_505 ?_
      refine sx_pV X (c_sbS (l := l) (D := D) (T := T) (sd := sd) (jd := jd) (jd.2.2.2.2 (sgnK (t.1 - 6))) b78 w82.1 w82.2.1 ((([] : List Nat) ++ (ltx 43)) ++ (ntx h ca)) (ltx (sgnK (t.1 - 6))) w82.2.2 hw82 (by rw [hE] at hlen; simp only [List.length_append, List.length_nil] at hlen ⊢; omega) (ltx_128 _ (sgn_lt _ (by omega)))) (XY.M.and (XY.Mf (StrAt_ok _ _) (XJ.2.2.2.2.2.2.2.2.1 _ (sgn_lt _ (by omega))).1)) (wr := []) (sx_rcv X (q0 := 0) (w := [zO b78 1 [.ref w82.1, .int 0, .int 0, .int (nI ((([] : List Nat) ++ (ltx 43)) ++ (ntx h ca)).length)], zB T w82.1 w82.2.1 w82.2.2]) rfl rfl) qm_1531 qm_1223 qm_1224 qm_26 qm_1225 hd_sbS ⟨rfl, rfl⟩ ⟨(rt_f (Nat.le_of_ble_eq_true rfl)), (rt_l (Nat.le_of_ble_eq_true rfl))⟩ rfl rfl (Nat.le_of_ble_eq_true rfl) ⟨(by show _ ≤ 9 + 2 * mcT h; omega), (by show _ ≤ 18100 + 2 * msT h; omega)⟩ dX16_text_506 rfl (fun w83 hw83 => ?_)
      refine sx_chg (ws' := [zO b78 1 [.ref w83.1, .int 0, .int 0, .int (nI (((([] : List Nat) ++ (ltx 43)) ++ (ntx h ca)) ++ (ltx (sgnK (t.1 - 6)))).length)], zB T w83.1 w83.2.1 w83.2.2]) (st' := [.ref b78]) rfl rfl ?_
      refine sx_aload_n X 0 rfl dX16_text_509 rfl ?_
      refine sx_gof X hb0 qm_1409 dX16_text_510 ?_
      refine sx_pV X (ih xb cb hkb (by rw [hE] at hlen; simp only [List.length_append, List.length_nil] at hlen ⊢; omega)) (XY.M.and (XY.Mf (FzN_ok _ _ _) hxb)) (wr := [zO b78 1 [.ref w83.1, .int 0, .int 0, .int (nI (((([] : List Nat) ++ (ltx 43)) ++ (ntx h ca)) ++ (ltx (sgnK (t.1 - 6)))).length)], zB T w83.1 w83.2.1 w83.2.2]) (sx_rcvO (FzN_O hxb)) qm_1538 qm_1525 qm_1526 qm_40 qm_1527 hd_ntx ⟨rfl, rfl⟩ ⟨(show h + 7 + 1 ≤ h + 1 + 7 by omega), (by show 8 + (_ + 11) + (h * 60 + 500) ≤ (h + 1) * 60 + 500; omega)⟩ rfl rfl (Nat.le_of_ble_eq_true rfl) ⟨(by show _ ≤ 9 + 2 * mcT h; omega), (by show _ ≤ 18100 + 2 * msT h; omega)⟩ dX16_text_513 rfl (fun r84 hr84 => ?_)
      refine sx_chg (ws' := r84.2 ++ [zO b78 1 [.ref w83.1, .int 0, .int 0, .int (nI (((([] : List Nat) ++ (ltx 43)) ++ (ntx h ca)) ++ (ltx (sgnK (t.1 - 6)))).length)], zB T w83.1 w83.2.1 w83.2.2]) (st' := [.ref r84.1, .ref b78]) rfl rfl ?_
      refine sx_perm List.perm_append_comm ?_
      refine sx_pV X (c_sbS (l := l) (D := D) (T := T) (sd := sd) (jd := jd) r84.1 b78 w83.1 w83.2.1 (((([] : List Nat) ++ (ltx 43)) ++ (ntx h ca)) ++ (ltx (sgnK (t.1 - 6)))) (ntx h cb) w83.2.2 hw83 (by rw [hE] at hlen; simp only [List.length_append, List.length_nil] at hlen ⊢; omega) (ntx_128 h cb hkb)) (XY.M.and (TxR_M XY hr84)) (wr := ([] ++ r84.2)) (sx_rcv X (q0 := 0) (w := ([zO b78 1 [.ref w83.1, .int 0, .int 0, .int (nI (((([] : List Nat) ++ (ltx 43)) ++ (ntx h ca)) ++ (ltx (sgnK (t.1 - 6)))).length)], zB T w83.1 w83.2.1 w83.2.2] ++ r84.2)) rfl rfl) qm_1531 qm_1223 qm_1224 qm_26 qm_1225 hd_sbS ⟨rfl, rfl⟩ ⟨(rt_f (Nat.le_of_ble_eq_true rfl)), (rt_l (Nat.le_of_ble_eq_true rfl))⟩ rfl rfl (Nat.le_of_ble_eq_true rfl) ⟨(by show _ ≤ 9 + 2 * mcT h; omega), (by show _ ≤ 18100 + 2 * msT h; omega)⟩ dX16_text_516 rfl (fun w85 hw85 => ?_)
      refine sx_chg (ws' := [zO b78 1 [.ref w85.1, .int 0, .int 0, .int (nI ((((([] : List Nat) ++ (ltx 43)) ++ (ntx h ca)) ++ (ltx (sgnK (t.1 - 6)))) ++ (ntx h cb)).length)], zB T w85.1 w85.2.1 w85.2.2] ++ r84.2) (st' := [.ref b78]) rfl rfl ?_
      refine sx_drop ?_
      refine sx_ldcS X (show vk_R "WeatherTeaLaw$Node" 74 ")" (jd.2.2.2.2 32) s from (XJ.2.2.2.2.2.2.2.2.1 32 (by decide)).2) dX16_text_519 ?_
      refine sx_pV X (c_sbS (l := l) (D := D) (T := T) (sd := sd) (jd := jd) (jd.2.2.2.2 32) b78 w85.1 w85.2.1 ((((([] : List Nat) ++ (ltx 43)) ++ (ntx h ca)) ++ (ltx (sgnK (t.1 - 6)))) ++ (ntx h cb)) (ltx 32) w85.2.2 hw85 (by rw [hE] at hlen; simp only [List.length_append, List.length_nil] at hlen ⊢; omega) (ltx_128 32 (by decide))) (XY.M.and (XY.Mf (StrAt_ok _ _) (XJ.2.2.2.2.2.2.2.2.1 32 (by decide)).1)) (wr := []) (sx_rcv X (q0 := 0) (w := [zO b78 1 [.ref w85.1, .int 0, .int 0, .int (nI ((((([] : List Nat) ++ (ltx 43)) ++ (ntx h ca)) ++ (ltx (sgnK (t.1 - 6)))) ++ (ntx h cb)).length)], zB T w85.1 w85.2.1 w85.2.2]) rfl rfl) qm_1531 qm_1223 qm_1224 qm_26 qm_1225 hd_sbS ⟨rfl, rfl⟩ ⟨(rt_f (Nat.le_of_ble_eq_true rfl)), (rt_l (Nat.le_of_ble_eq_true rfl))⟩ rfl rfl (Nat.le_of_ble_eq_true rfl) ⟨(by show _ ≤ 9 + 2 * mcT h; omega), (by show _ ≤ 18100 + 2 * msT h; omega)⟩ dX16_text_521 rfl (fun w86 hw86 => ?_)
      refine sx_chg (ws' := [zO b78 1 [.ref w86.1, .int 0, .int 0, .int (nI (((((([] : List Nat) ++ (ltx 43)) ++ (ntx h ca)) ++ (ltx (sgnK (t.1 - 6)))) ++ (ntx h cb)) ++ (ltx 32)).length)], zB T w86.1 w86.2.1 w86.2.2]) (st' := [.ref b78]) rfl rfl ?_
      refine sx_pV X (c_sbStr (l := l) (D := D) (T := T) (sd := sd) (jd := jd) b78 w86.1 w86.2.1 (((((([] : List Nat) ++ (ltx 43)) ++ (ntx h ca)) ++ (ltx (sgnK (t.1 - 6)))) ++ (ntx h cb)) ++ (ltx 32)) w86.2.2 hw86) XY.M (wr := []) (sx_rcv X (q0 := 0) (w := [zO b78 1 [.ref w86.1, .int 0, .int 0, .int (nI (((((([] : List Nat) ++ (ltx 43)) ++ (ntx h ca)) ++ (ltx (sgnK (t.1 - 6)))) ++ (ntx h cb)) ++ (ltx 32)).length)], zB T w86.1 w86.2.1 w86.2.2]) rfl rfl) qm_1533 qm_1463 qm_1464 qm_26 qm_1465 hd_sbStr ⟨rfl, rfl⟩ ⟨(rt_f (Nat.le_of_ble_eq_true rfl)), (rt_l (Nat.le_of_ble_eq_true rfl))⟩ rfl rfl (Nat.le_of_ble_eq_true rfl) ⟨(by show _ ≤ 9 + 2 * mcT h; omega), (by show _ ≤ 18100 + 2 * msT h; omega)⟩ dX16_text_524 rfl (fun w87 hw87 => ?_)
      refine sx_chg (ws' := [zO b78 1 [.ref w86.1, .int 0, .int 0, .int (nI (((((([] : List Nat) ++ (ltx 43)) ++ (ntx h ca)) ++ (ltx (sgnK (t.1 - 6)))) ++ (ntx h cb)) ++ (ltx 32)).length)], zB T w86.1 w86.2.1 w86.2.2, zO w87.1 0 [.ref w87.2.1, .int 0, .int 0, .int 0], zB T w87.2.1 ((((((([] : List Nat) ++ (ltx 43)) ++ (ntx h ca)) ++ (ltx (sgnK (t.1 - 6)))) ++ (ntx h cb)) ++ (ltx 32)).length) w87.2.2]) (st' := [.ref w87.1]) rfl rfl ?_
      refine sx_goto X 574 dX16_text_527 rfl ?_
      refine sx_wsub (ws' := [zO w87.1 0 [.ref w87.2.1, .int 0, .int 0, .int 0], zB T w87.2.1 ((((((([] : List Nat) ++ (ltx 43)) ++ (ntx h ca)) ++ (ltx (sgnK (t.1 - 6)))) ++ (ntx h cb)) ++ (ltx 32)).length) w87.2.2]) [2, 3] rfl rfl ?_
      refine sx_widen (k' := mcT (h + 1)) (n' := msT (h + 1)) (by show _ ≤ 9 + 2 * mcT h; omega) (by show _ ≤ 18100 + 2 * msT h; omega) ?_
      refine sx_pick (w87.1, [oST w87.1 w87.2.1, zB T w87.2.1 (((((([] : List Nat) ++ (ltx 43)) ++ (ntx h ca)) ++ (ltx (sgnK (t.1 - 6)))) ++ (ntx h cb)) ++ (ltx 32)).length w87.2.2]) (Or.inr ⟨w87.2.1, w87.2.2, by rw [hE], by rw [hE]; exact hw87⟩) ?_
      exact sx_aret X dX16_text_574 rfl rfl rfl
    · obtain ⟨ca, hca, hka⟩ := ha
      rw [hca] at hA
      obtain ⟨xa, rfl, hxa⟩ := hA
      obtain ⟨cb, hcb, hkb⟩ := hb
      rw [hcb] at hB
      obtain ⟨xb, rfl, hxb⟩ := hB
      have hE : ntx (h + 1) t = ((([] ++ ntx h ca) ++ ltx (sgnK (t.1 - 6))) ++ ntx h cb) := by
        rw [ntx_s, if_neg (show ¬ t.1 = 0 by omega), if_neg (show ¬ t.1 = 1 by omega), if_neg (show ¬ t.1 = 2 by omega), if_neg (show ¬ t.1 = 3 by omega), if_neg (show ¬ t.1 = 4 by omega), if_neg (show ¬ t.1 = 5 by omega), if_neg (show ¬ t.1 = 15 by omega), if_neg (show ¬ t.1 = 16 by omega), if_neg (show ¬ t.1 = 17 by omega), if_neg (show ¬ t.1 = 18 by omega), if_neg (show ¬ t.1 = 19 by omega), if_neg (show ¬ t.1 = 20 by omega), if_neg (show ¬ t.1 < 10 by omega), hca, hcb]
        rfl
      refine sx_aload_n X 0 rfl dX16_text_0 rfl ?_
      refine sx_gof X hs0 qm_1406 dX16_text_1 ?_
      refine sx_tin X 464 dX16_text_4 rfl (ob_tx 0 t.1 (by omega) (by omega)) ?_
      refine sx_aload_n X 0 rfl dX16_text_464 rfl ?_
      refine sx_gof X hs0 qm_1406 dX16_text_465 ?_
      refine sx_bipush X (v := 10) dX16_text_468 rfl ?_
      refine sx_icmp_ge X 530 dX16_text_470 rfl (fun _ => ?_) (fun hc => absurd (nI_le (a := 10) (by omega) (by omega)) hc)
      refine sx_new X (fs := [.null, .int 0, .int 0, .int 0]) kJ4 qm_1528 qm_1439 qm_26 (by decide) (by show _ ≤ 9 + 2 * mcT h; omega) (by show _ ≤ 18100 + 2 * msT h; omega) dX16_text_530 (fun b88 => ?_)
      refine sx_chg (ws' := [zO b88 1 [.null, .int 0, .int 0, .int 0]]) (st' := [.ref b88]) rfl rfl ?_
      refine sx_dup X dX16_text_533 rfl ?_
      refine sx_pI X (c_sbIn (l := l) (D := D) (T := T) (sd := sd) (jd := jd) b88) XY.M (wr := []) qm_1529 qm_1441 qm_26 qm_1442 rfl hd_sbIn ⟨rfl, rfl⟩ ⟨(rt_f (Nat.le_of_ble_eq_true rfl)), (rt_l (Nat.le_of_ble_eq_true rfl))⟩ rfl rfl (Nat.le_of_ble_eq_true rfl) ⟨(by show _ ≤ 9 + 2 * mcT h; omega), (by show _ ≤ 18100 + 2 * msT h; omega)⟩ dX16_text_534 rfl (fun q89 hq89 => ?_)
      refine sx_chg (ws' := [zO b88 1 [.ref q89, .int 0, .int 0, .int (nI ([] : List Nat).length)], zB T q89 16 (fun _ => 0)]) (st' := [.ref b88]) rfl rfl ?_
      refine sx_aload_n X 0 rfl dX16_text_537 rfl ?_
      refine sx_gof X ha0 qm_1408 dX16_text_538 ?_
      refine sx_pV X (ih xa ca hka (by rw [hE] at hlen; simp only [List.length_append, List.length_nil] at hlen ⊢; omega)) (XY.M.and (XY.Mf (FzN_ok _ _ _) hxa)) (wr := [zO b88 1 [.ref q89, .int 0, .int 0, .int (nI ([] : List Nat).length)], zB T q89 16 (fun _ => 0)]) (sx_rcvO (FzN_O hxa)) qm_1538 qm_1525 qm_1526 qm_40 qm_1527 hd_ntx ⟨rfl, rfl⟩ ⟨(show h + 7 + 1 ≤ h + 1 + 7 by omega), (by show 8 + (_ + 11) + (h * 60 + 500) ≤ (h + 1) * 60 + 500; omega)⟩ rfl rfl (Nat.le_of_ble_eq_true rfl) ⟨(by show _ ≤ 9 + 2 * mcT h; omega), (by show _ ≤ 18100 + 2 * msT h; omega)⟩ dX16_text_541 rfl (fun r90 hr90 => ?_)
      refine sx_chg (ws' := r90.2 ++ [zO b88 1 [.ref q89, .int 0, .int 0, .int (nI ([] : List Nat).length)], zB T q89 16 (fun _ => 0)]) (st' := [.ref r90.1, .ref b88]) rfl rfl ?_
      refine sx_perm List.perm_append_comm ?_
      refine sx_pV X (c_sbS (l := l) (D := D) (T := T) (sd := sd) (jd := jd) r90.1 b88 q89 16 ([] : List Nat) (ntx h ca) (fun _ => 0) SBf_0 (by rw [hE] at hlen; simp only [List.length_append, List.length_nil] at hlen ⊢; omega) (ntx_128 h ca hka)) (XY.M.and (TxR_M XY hr90)) (wr := ([] ++ r90.2)) (sx_rcv X (q0 := 0) (w := ([zO b88 1 [.ref q89, .int 0, .int 0, .int (nI ([] : List Nat).length)], zB T q89 16 (fun _ => 0)] ++ r90.2)) rfl rfl) qm_1531 qm_1223 qm_1224 qm_26 qm_1225 hd_sbS ⟨rfl, rfl⟩ ⟨(rt_f (Nat.le_of_ble_eq_true rfl)), (rt_l (Nat.le_of_ble_eq_true rfl))⟩ rfl rfl (Nat.le_of_ble_eq_true rfl) ⟨(by show _ ≤ 9 + 2 * mcT h; omega), (by show _ ≤ 18100 + 2 * msT h; omega)⟩ dX16_text_544 rfl (fun w91 hw91 => ?_)
      refine sx_chg (ws' := [zO b88 1 [.ref w91.1, .int 0, .int 0, .int (nI (([] : List Nat) ++ (ntx h ca)).length)], zB T w91.1 w91.2.1 w91.2.2] ++ r90.2) (st' := [.ref b88]) rfl rfl ?_
      refine sx_drop ?_
      refine sx_gstN X XJ.2.2.2.2.2.2.1 (List.mem_of_getElem? (i := 2) rfl) dX16_text_547 ?_
      refine sx_aload_n X 0 rfl dX16_text_550 rfl ?_
      refine sx_gof X hs0 qm_1406 dX16_text_551 ?_
      refine sx_bipush X (v := 6) dX16_text_554 rfl ?_
      refine sx_isub X dX16_text_556 ?_
      refine sx_topi (y := nI (t.1 - 6)) (pk_sub (show 6 ≤ t.1 by omega)) ?_
      refine sx_stq X XJ.2.2.2.2.2.2.2.1 (v := .ref (jd.2.2.2.2 (sgnK (t.1 - 6)))) (nI_in (by omega) (by omega)) (by rw [nI_clamp (by omega)]) dX16_text_557 ?_
      refine sx_pV X (c_sbS (l := l) (D := D) (T := T) (sd := sd) (jd := jd) (jd.2.2.2.2 (sgnK (t.1 - 6))) b88 w91.1 w91.2.1 (([] : List Nat) ++ (ntx h ca)) (ltx (sgnK (t.1 - 6))) w91.2.2 hw91 (by rw [hE] at hlen; simp only [List.length_append, List.length_nil] at hlen ⊢; omega) (ltx_128 _ (sgn_lt _ (by omega)))) (XY.M.and (XY.Mf (StrAt_ok _ _) (XJ.2.2.2.2.2.2.2.2.1 _ (sgn_lt _ (by omega))).1)) (wr := []) (sx_rcv X (q0 := 0) (w := [zO b88 1 [.ref w91.1, .int 0, .int 0, .int (nI (([] : List Nat) ++ (ntx h ca)).length)], zB T w91.1 w91.2.1 w91.2.2]) rfl rfl) qm_1531 qm_1223 qm_1224 qm_26 qm_1225 hd_sbS ⟨rfl, rfl⟩ ⟨(rt_f (Nat.le_of_ble_eq_true rfl)), (rt_l (Nat.le_of_ble_eq_true rfl))⟩ rfl rfl (Nat.le_of_ble_eq_true rfl) ⟨(by show _ ≤ 9 + 2 * mcT h; omega), (by show _ ≤ 18100 + 2 * msT h; omega)⟩ dX16_text_558 rfl (fun w92 hw92 => ?_)
      refine sx_chg (ws' := [zO b88 1 [.ref w92.1, .int 0, .int 0, .int (nI ((([] : List Nat) ++ (ntx h ca)) ++ (ltx (sgnK (t.1 - 6)))).length)], zB T w92.1 w92.2.1 w92.2.2]) (st' := [.ref b88]) rfl rfl ?_
      refine sx_aload_n X 0 rfl dX16_text_561 rfl ?_
      refine sx_gof X hb0 qm_1409 dX16_text_562 ?_
      refine sx_pV X (ih xb cb hkb (by rw [hE] at hlen; simp only [List.length_append, List.length_nil] at hlen ⊢; omega)) (XY.M.and (XY.Mf (FzN_ok _ _ _) hxb)) (wr := [zO b88 1 [.ref w92.1, .int 0, .int 0, .int (nI ((([] : List Nat) ++ (ntx h ca)) ++ (ltx (sgnK (t.1 - 6)))).length)], zB T w92.1 w92.2.1 w92.2.2]) (sx_rcvO (FzN_O hxb)) qm_1538 qm_1525 qm_1526 qm_40 qm_1527 hd_ntx ⟨rfl, rfl⟩ ⟨(show h + 7 + 1 ≤ h + 1 + 7 by omega), (by show 8 + (_ + 11) + (h * 60 + 500) ≤ (h + 1) * 60 + 500; omega)⟩ rfl rfl (Nat.le_of_ble_eq_true rfl) ⟨(by show _ ≤ 9 + 2 * mcT h; omega), (by show _ ≤ 18100 + 2 * msT h; omega)⟩ dX16_text_565 rfl (fun r93 hr93 => ?_)
      refine sx_chg (ws' := r93.2 ++ [zO b88 1 [.ref w92.1, .int 0, .int 0, .int (nI ((([] : List Nat) ++ (ntx h ca)) ++ (ltx (sgnK (t.1 - 6)))).length)], zB T w92.1 w92.2.1 w92.2.2]) (st' := [.ref r93.1, .ref b88]) rfl rfl ?_
      refine sx_perm List.perm_append_comm ?_
      refine sx_pV X (c_sbS (l := l) (D := D) (T := T) (sd := sd) (jd := jd) r93.1 b88 w92.1 w92.2.1 ((([] : List Nat) ++ (ntx h ca)) ++ (ltx (sgnK (t.1 - 6)))) (ntx h cb) w92.2.2 hw92 (by rw [hE] at hlen; simp only [List.length_append, List.length_nil] at hlen ⊢; omega) (ntx_128 h cb hkb)) (XY.M.and (TxR_M XY hr93)) (wr := ([] ++ r93.2)) (sx_rcv X (q0 := 0) (w := ([zO b88 1 [.ref w92.1, .int 0, .int 0, .int (nI ((([] : List Nat) ++ (ntx h ca)) ++ (ltx (sgnK (t.1 - 6)))).length)], zB T w92.1 w92.2.1 w92.2.2] ++ r93.2)) rfl rfl) qm_1531 qm_1223 qm_1224 qm_26 qm_1225 hd_sbS ⟨rfl, rfl⟩ ⟨(rt_f (Nat.le_of_ble_eq_true rfl)), (rt_l (Nat.le_of_ble_eq_true rfl))⟩ rfl rfl (Nat.le_of_ble_eq_true rfl) ⟨(by show _ ≤ 9 + 2 * mcT h; omega), (by show _ ≤ 18100 + 2 * msT h; omega)⟩ dX16_text_568 rfl (fun w94 hw94 => ?_)
      refine sx_chg (ws' := [zO b88 1 [.ref w94.1, .int 0, .int 0, .int (nI (((([] : List Nat) ++ (ntx h ca)) ++ (ltx (sgnK (t.1 - 6)))) ++ (ntx h cb)).length)], zB T w94.1 w94.2.1 w94.2.2] ++ r93.2) (st' := [.ref b88]) rfl rfl ?_
      refine sx_drop ?_
      refine sx_pV X (c_sbStr (l := l) (D := D) (T := T) (sd := sd) (jd := jd) b88 w94.1 w94.2.1 (((([] : List Nat) ++ (ntx h ca)) ++ (ltx (sgnK (t.1 - 6)))) ++ (ntx h cb)) w94.2.2 hw94) XY.M (wr := []) (sx_rcv X (q0 := 0) (w := [zO b88 1 [.ref w94.1, .int 0, .int 0, .int (nI (((([] : List Nat) ++ (ntx h ca)) ++ (ltx (sgnK (t.1 - 6)))) ++ (ntx h cb)).length)], zB T w94.1 w94.2.1 w94.2.2]) rfl rfl) qm_1533 qm_1463 qm_1464 qm_26 qm_1465 hd_sbStr ⟨rfl, rfl⟩ ⟨(rt_f (Nat.le_of_ble_eq_true rfl)), (rt_l (Nat.le_of_ble_eq_true rfl))⟩ rfl rfl (Nat.le_of_ble_eq_true rfl) ⟨(by show _ ≤ 9 + 2 * mcT h; omega), (by show _ ≤ 18100 + 2 * msT h; omega)⟩ dX16_text_571 rfl (fun w95 hw95 => ?_)
      refine sx_chg (ws' := [zO b88 1 [.ref w94.1, .int 0, .int 0, .int (nI (((([] : List Nat) ++ (ntx h ca)) ++ (ltx (sgnK (t.1 - 6)))) ++ (ntx h cb)).length)], zB T w94.1 w94.2.1 w94.2.2, zO w95.1 0 [.ref w95.2.1, .int 0, .int 0, .int 0], zB T w95.2.1 ((((([] : List Nat) ++ (ntx h ca)) ++ (ltx (sgnK (t.1 - 6)))) ++ (ntx h cb)).length) w95.2.2]) (st' := [.ref w95.1]) rfl rfl ?_
      refine sx_wsub (ws' := [zO w95.1 0 [.ref w95.2.1, .int 0, .int 0, .int 0], zB T w95.2.1 ((((([] : List Nat) ++ (ntx h ca)) ++ (ltx (sgnK (t.1 - 6)))) ++ (ntx h cb)).length) w95.2.2]) [2, 3] rfl rfl ?_
      refine sx_widen (k' := mcT (h + 1)) (n' := msT (h + 1)) (by show _ ≤ 9 + 2 * mcT h; omega) (by show _ ≤ 18100 + 2 * msT h; omega) ?_
      refine sx_pick (w95.1, [oST w95.1 w95.2.1, zB T w95.2.1 (((([] : List Nat) ++ (ntx h ca)) ++ (ltx (sgnK (t.1 - 6)))) ++ (ntx h cb)).length w95.2.2]) (Or.inr ⟨w95.2.1, w95.2.2, by rw [hE], by rw [hE]; exact hw95⟩) ?_
      exact sx_aret X dX16_text_574 rfl rfl rfl
