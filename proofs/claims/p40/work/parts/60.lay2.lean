/-! LAYER 2: more instructions; rows of objects held in arrays; calls with a tail of cells; what stays as it is (frozen) -/
section SX2
variable {p : Program} {l : Launch} {e : Env} {R : Room} {s : State} {m : MethodId} {args : Array Value} {below : List Frame} {meth : Method} {c : Code} {Q : State → Prop} {cc : ByteArray} {own : String} {nL : Nat} {ret : Option FieldType} {D : va_G} {T : Nat → ClassId} {A : Nat → Prop} {SF : (Nat → Prop) → State → Heap → Prop} {k n : Nat} {ws : va_W} {lv : List (Nat × Value)} {pc : Nat} {st : List Value}
theorem sx_ixor (X : SxC p s m args meth c cc own nL ret D T A SF) {x y : Int32} (hdg : decode cc pc = .ok (.ixor, 1)) (kk : SxG p l e R s m args below meth c D A nL k n Q ws lv (pc + 1) (.int (x ^^^ y) :: st)) : SxG p l e R s m args below meth c D A nL k n Q ws lv pc (.int y :: .int x :: st) := fun H locs ls a b d h => lv_ixor X.1 X.2.1 hdg (kk H locs ls a b d h)
theorem sx_ishl (X : SxC p s m args meth c cc own nL ret D T A SF) {x y : Int32} (hdg : decode cc pc = .ok (.ishl, 1)) (kk : SxG p l e R s m args below meth c D A nL k n Q ws lv (pc + 1) (.int (x <<< (y &&& 31)) :: st)) : SxG p l e R s m args below meth c D A nL k n Q ws lv pc (.int y :: .int x :: st) := fun H locs ls a b d h => lv_ishl X.1 X.2.1 hdg (kk H locs ls a b d h)
theorem sx_irem (X : SxC p s m args meth c cc own nL ret D T A SF) {x y : Int32} (hne : ¬ y = 0) (hdg : decode cc pc = .ok (.irem, 1)) (kk : SxG p l e R s m args below meth c D A nL k n Q ws lv (pc + 1) (.int (x - x / y * y) :: st)) : SxG p l e R s m args below meth c D A nL k n Q ws lv pc (.int y :: .int x :: st) := fun H locs ls a b d h => lv_irem X.1 X.2.1 hdg hne (kk H locs ls a b d h)
theorem sx_null (X : SxC p s m args meth c cc own nL ret D T A SF) (hdg : decode cc pc = .ok (.aconst_null, 1)) (kk : SxG p l e R s m args below meth c D A nL k n Q ws lv (pc + 1) (.null :: st)) : SxG p l e R s m args below meth c D A nL k n Q ws lv pc st := fun H locs ls a b d h => lv_null X.1 X.2.1 hdg (kk H locs ls a b d h)
theorem sx_ifnull (X : SxC p s m args meth c cc own nL ret D T A SF) {x : Nat} {off : Int} (hdg : decode cc pc = .ok (.ifnull off, 3)) (kk : SxG p l e R s m args below meth c D A nL k n Q ws lv (pc + 3) st) : SxG p l e R s m args below meth c D A nL k n Q ws lv pc (.ref x :: st) := fun H locs ls a b d h => lv_ifnull X.1 X.2.1 hdg (kk H locs ls a b d h)
theorem sx_ifnullN (X : SxC p s m args meth c cc own nL ret D T A SF) {off : Int} (tgt : Nat) (hdg : decode cc pc = .ok (.ifnull off, 3)) (ht : (pc : Int) + off = (tgt : Int)) (kk : SxG p l e R s m args below meth c D A nL k n Q ws lv tgt st) : SxG p l e R s m args below meth c D A nL k n Q ws lv pc (.null :: st) := fun H locs ls a b d h => lv_ifnullN X.1 X.2.1 hdg ht (kk H locs ls a b d h)
theorem sx_ifnonnull (X : SxC p s m args meth c cc own nL ret D T A SF) {x : Nat} {off : Int} (tgt : Nat) (hdg : decode cc pc = .ok (.ifnonnull off, 3)) (ht : (pc : Int) + off = (tgt : Int)) (kk : SxG p l e R s m args below meth c D A nL k n Q ws lv tgt st) : SxG p l e R s m args below meth c D A nL k n Q ws lv pc (.ref x :: st) := fun H locs ls a b d h => lv_ifnonnull X.1 X.2.1 hdg ht (kk H locs ls a b d h)
theorem sx_ldc (X : SxC p s m args meth c cc own nL ret D T A SF) {i : Nat} {v : Int32} (hw : (Cond.constant own i v) ∈ BIG) (hdg : decode cc pc = .ok (.ldc i, 2)) (kk : SxG p l e R s m args below meth c D A nL k n Q ws lv (pc + 2) (.int v :: st)) : SxG p l e R s m args below meth c D A nL k n Q ws lv pc st := fun H locs ls a b d h => lv_ldc X.1 X.2.1 X.2.2.2.1 (X.2.2.2.2.1 _ hw) hdg (kk H locs ls a b d h)
theorem sx_ldcS (X : SxC p s m args meth c cc own nL ret D T A SF) {i q : Nat} {tx : String} (hz : vk_R own i tx q s) (hdg : decode cc pc = .ok (.ldc i, 2)) (kk : SxG p l e R s m args below meth c D A nL k n Q ws lv (pc + 2) (.ref q :: st)) : SxG p l e R s m args below meth c D A nL k n Q ws lv pc st := fun H locs ls a b d h => va_ldcS X.1 X.2.1 X.2.2.2.1 hz hdg (kk H locs ls a b d h)
/-- an element of an array of objects -/
theorem sx_Rld (X : SxC p s m args meth c cc own nL ret D T A SF) {a N t0 : Nat} {C : String} {f : Nat → Nat} {i : Int32} (q0 : Nat) (he : ws[q0]? = some (a, .inl (T t0, N, .inr (.inr (.inr (.inr (fun j => some (f j)))))))) (ht : (tyL T)[t0]? = some (T t0, .object C)) (hin : ¬ (i < 0 ∨ N ≤ i.toNatClampNeg)) (hdg : decode cc pc = .ok (.aaload, 1)) (kk : SxG p l e R s m args below meth c D A nL k n Q ws lv (pc + 1) (.ref (f i.toNatClampNeg) :: st)) : SxG p l e R s m args below meth c D A nL k n Q ws lv pc (.int i :: .ref a :: st) :=
  fun H locs ls hP b d h => va_aldq X.1 X.2.1 X.2.2.2.2.2.1 hP q0 t0 he ht hin hdg (kk H locs ls hP b d h)
end SX2
abbrev zR (T : Nat → ClassId) (t a n : Nat) (f : Nat → Nat) : Nat × va_E := (a, .inl (T t, n, .inr (.inr (.inr (.inr (fun j => some (f j)))))))
/-! the fronts and the guests of the pot by hand -/
def zFr (rF : Nat → Nat) (nf : Nat) (W F A S P : Nat → Int32) : va_W := (List.range nf).map (fun i => zO (rF i) 12 [.int (W i), .int (F i), .int (A i), .int (S i), .int (P i)])
def zGu (rG : Nat → Nat) (ng : Nat) (A L H N P : Nat → Int32) : va_W := (List.range ng).map (fun i => zO (rG i) 13 [.int (A i), .int (L i), .int (H i), .int (N i), .int (P i)])
theorem zFr_len {rF : Nat → Nat} {nf : Nat} {W F A S P : Nat → Int32} : (zFr rF nf W F A S P).length = nf := by unfold zFr; rw [List.length_map, List.length_range]
theorem zGu_len {rG : Nat → Nat} {ng : Nat} {A L H N P : Nat → Int32} : (zGu rG ng A L H N P).length = ng := by unfold zGu; rw [List.length_map, List.length_range]
theorem zFr_fst {rF : Nat → Nat} {nf : Nat} {W F A S P : Nat → Int32} : (zFr rF nf W F A S P).map (·.1) = (List.range nf).map rF := by unfold zFr; rw [List.map_map]; rfl
theorem zGu_fst {rG : Nat → Nat} {ng : Nat} {A L H N P : Nat → Int32} : (zGu rG ng A L H N P).map (·.1) = (List.range ng).map rG := by unfold zGu; rw [List.map_map]; rfl
theorem zFr_at {rF : Nat → Nat} {nf : Nat} {W F A S P : Nat → Int32} {Y : va_W} {f : Nat} (h : f < nf) : (zFr rF nf W F A S P ++ Y)[f]? = some (rF f, .inr (12, [.int (W f), .int (F f), .int (A f), .int (S f), .int (P f)])) := by
  rw [List.getElem?_append_left (by rw [zFr_len]; exact h)]
  unfold zFr
  rw [List.getElem?_map, List.getElem?_range h]
  rfl
theorem zGu_at {rF rG : Nat → Nat} {nf ng : Nat} {W F A S P A2 L H N P2 : Nat → Int32} {Y : va_W} {g : Nat} (h : g < ng) : (zFr rF nf W F A S P ++ (zGu rG ng A2 L H N P2 ++ Y))[nf + g]? = some (rG g, .inr (13, [.int (A2 g), .int (L g), .int (H g), .int (N g), .int (P2 g)])) := by
  rw [List.getElem?_append_right (by rw [zFr_len]; omega), zFr_len, Nat.add_sub_cancel_left, List.getElem?_append_left (by rw [zGu_len]; exact h)]
  unfold zGu
  rw [List.getElem?_map, List.getElem?_range h]
  rfl
theorem rg_set {α : Type} {n f : Nat} {g g' : Nat → α} (hf : f < n) (h : ∀ i, i ≠ f → g' i = g i) : ((List.range n).map g).set f (g' f) = (List.range n).map g' := by
  apply List.ext_getElem?
  intro j
  rw [List.getElem?_set, List.length_map, List.length_range, List.getElem?_map]
  by_cases hj : f = j
  · subst hj
    rw [if_pos rfl, if_pos hf, List.getElem?_map, List.getElem?_range hf]
    rfl
  · rw [if_neg hj, List.getElem?_map]
    by_cases hn : j < n
    · rw [List.getElem?_range hn]
      show some (g j) = some (g' j)
      rw [h j (fun z => hj z.symm)]
    · rw [List.getElem?_eq_none (by rw [List.length_range]; omega)]
      rfl
theorem zFr_set {rF : Nat → Nat} {nf : Nat} {W F A S P : Nat → Int32} {Y : va_W} {f : Nat} {x : Int32} (h : f < nf) : (zFr rF nf W F A S P ++ Y).set f (rF f, .inr (12, [.int (W f), .int (F f), .int (A f), .int (S f), .int x])) = zFr rF nf W F A S (upd P f x) ++ Y := by
  rw [List.set_append_left _ _ (by rw [zFr_len]; exact h)]
  refine congrArg (· ++ Y) ?_
  have h1 := rg_set (g := fun i => zO (rF i) 12 [.int (W i), .int (F i), .int (A i), .int (S i), .int (P i)]) (g' := fun i => zO (rF i) 12 [.int (W i), .int (F i), .int (A i), .int (S i), .int (upd P f x i)]) h (fun i hi => by
    show zO (rF i) 12 [.int (W i), .int (F i), .int (A i), .int (S i), .int (if i = f then x else P i)] = _
    rw [if_neg hi])
  have h2 : upd P f x f = x := by
    show (if f = f then x else P f) = x
    rw [if_pos rfl]
  unfold zFr
  rw [← h1]
  show _ = ((List.range nf).map _).set f (zO (rF f) 12 [.int (W f), .int (F f), .int (A f), .int (S f), .int (upd P f x f)])
  rw [h2]
theorem zGu_set {rF rG : Nat → Nat} {nf ng : Nat} {W F A S P A2 L H N P2 : Nat → Int32} {Y : va_W} {g : Nat} {x : Int32} (h : g < ng) : (zFr rF nf W F A S P ++ (zGu rG ng A2 L H N P2 ++ Y)).set (nf + g) (rG g, .inr (13, [.int (A2 g), .int (L g), .int (H g), .int (N g), .int x])) = zFr rF nf W F A S P ++ (zGu rG ng A2 L H N (upd P2 g x) ++ Y) := by
  rw [List.set_append_right _ _ (by rw [zFr_len]; omega), zFr_len, Nat.add_sub_cancel_left, List.set_append_left _ _ (by rw [zGu_len]; exact h)]
  refine congrArg (fun z => zFr rF nf W F A S P ++ (z ++ Y)) ?_
  have h1 := rg_set (g := fun i => zO (rG i) 13 [.int (A2 i), .int (L i), .int (H i), .int (N i), .int (P2 i)]) (g' := fun i => zO (rG i) 13 [.int (A2 i), .int (L i), .int (H i), .int (N i), .int (upd P2 g x i)]) h (fun i hi => by
    show zO (rG i) 13 [.int (A2 i), .int (L i), .int (H i), .int (N i), .int (if i = g then x else P2 i)] = _
    rw [if_neg hi])
  have h2 : upd P2 g x g = x := by
    show (if g = g then x else P2 g) = x
    rw [if_pos rfl]
  unfold zGu
  rw [← h1]
  show _ = ((List.range ng).map _).set g (zO (rG g) 13 [.int (A2 g), .int (L g), .int (H g), .int (N g), .int (upd P2 g x g)])
  rw [h2]
/-- fronts and guests, with what follows -/
def zT (rF rG : Nat → Nat) (nf ng : Nat) (W F A S P A2 L H N P2 : Nat → Int32) : va_W := zFr rF nf W F A S P ++ (zGu rG ng A2 L H N P2 ++ [])
theorem zT_fst {rF rG : Nat → Nat} {nf ng : Nat} {W F A S P A2 L H N P2 W' F' A' S' P' A2' L' H' N' P2' : Nat → Int32} : (zT rF rG nf ng W F A S P A2 L H N P2).map (·.1) = (zT rF rG nf ng W' F' A' S' P' A2' L' H' N' P2').map (·.1) := by
  unfold zT
  rw [List.map_append, List.map_append, List.map_append, List.map_append, zFr_fst, zGu_fst, zFr_fst, zGu_fst]
theorem zT_F {rF rG : Nat → Nat} {nf ng : Nat} {W F A S P A2 L H N P2 : Nat → Int32} {f : Nat} (h : f < nf) : (zT rF rG nf ng W F A S P A2 L H N P2)[f]? = some (rF f, .inr (12, [.int (W f), .int (F f), .int (A f), .int (S f), .int (P f)])) := zFr_at h
theorem zT_G {rF rG : Nat → Nat} {nf ng : Nat} {W F A S P A2 L H N P2 : Nat → Int32} {g : Nat} (h : g < ng) : (zT rF rG nf ng W F A S P A2 L H N P2)[nf + g]? = some (rG g, .inr (13, [.int (A2 g), .int (L g), .int (H g), .int (N g), .int (P2 g)])) := zGu_at h
theorem zT_Fs {rF rG : Nat → Nat} {nf ng : Nat} {W F A S P A2 L H N P2 : Nat → Int32} {f : Nat} {x : Int32} (h : f < nf) : (zT rF rG nf ng W F A S P A2 L H N P2).set f (rF f, .inr (12, [.int (W f), .int (F f), .int (A f), .int (S f), .int x])) = zT rF rG nf ng W F A S (upd P f x) A2 L H N P2 := zFr_set h
theorem zT_Gs {rF rG : Nat → Nat} {nf ng : Nat} {W F A S P A2 L H N P2 : Nat → Int32} {g : Nat} {x : Int32} (h : g < ng) : (zT rF rG nf ng W F A S P A2 L H N P2).set (nf + g) (rG g, .inr (13, [.int (A2 g), .int (L g), .int (H g), .int (N g), .int x])) = zT rF rG nf ng W F A S P A2 L H N (upd P2 g x) := zGu_set h
theorem at_s {α : Type} {a : α} {l : List α} {i : Nat} {o : Option α} (h : l[i]? = o) : (a :: l)[i + 1]? = o := by rw [List.getElem?_cons_succ]; exact h
theorem set_s {α : Type} {a x : α} {l l' : List α} {i : Nat} (h : l.set i x = l') : (a :: l).set (i + 1) x = a :: l' := by rw [List.set_cons_succ, h]
/-! a call's cells: some of the first ones, and the tail -/
theorem tl_C {fx fc tl fz : va_W} {is : List Nat} (h : is.map (fun i => fx[i]?) = fc.map some) (hl : is.all (fun i => decide (i < fx.length)) = true) : (is ++ List.range' fx.length tl.length).map (fun i => (fx ++ (tl ++ fz))[i]?) = (fc ++ tl).map some := by
  rw [List.map_append, List.map_append]
  congr 1
  · rw [← h]
    apply List.map_congr_left
    intro i hi
    exact List.getElem?_append_left (of_decide_eq_true (List.all_eq_true.mp hl i hi))
  · apply List.ext_getElem?
    intro j
    rw [List.getElem?_map, List.getElem?_map]
    by_cases hj : j < tl.length
    · rw [List.getElem?_range' (by simpa using hj), Option.map_some, List.getElem?_append_right (by omega), List.getElem?_append_left (by omega)]
      have : fx.length + 1 * j - fx.length = j := by omega
      rw [this, List.getElem?_eq_getElem hj]
      rfl
    · rw [List.getElem?_eq_none (by simpa using hj), List.getElem?_eq_none (by omega)]
      rfl
theorem tl_len {fx tl : va_W} {is : List Nat} : (is ++ List.range' fx.length tl.length).length = is.length + tl.length := by rw [List.length_append, List.length_range']
theorem va_nd_of {l : List Nat} (h : l.Nodup) : va_nd l = true := by
  induction l with
  | nil => rfl
  | cons a l ih =>
    have h1 := List.nodup_cons.mp h
    unfold va_nd
    simp [h1.1, ih h1.2]
theorem nd_va {l : List Nat} (h : va_nd l = true) : l.Nodup := by
  induction l with
  | nil => exact List.nodup_nil
  | cons a l ih =>
    unfold va_nd at h
    simp at h
    exact List.nodup_cons.mpr ⟨h.1, ih h.2⟩
theorem tl_nd {is : List Nat} {n m : Nat} (h : va_nd is = true) (hl : is.all (fun i => decide (i < n)) = true) : va_nd (is ++ List.range' n m) = true := by
  refine va_nd_of (List.nodup_append.mpr ⟨nd_va h, List.nodup_range', fun a ha b hb hab => ?_⟩)
  have h1 := of_decide_eq_true (List.all_eq_true.mp hl a ha)
  have h2 := (List.mem_range'_1.mp hb).1
  omega
theorem patch_app : ∀ (is1 is2 : List Nat) (ws w1 w2 : va_W), is1.length = w1.length → sxPatch ws (is1 ++ is2) (w1 ++ w2) = sxPatch (sxPatch ws is1 w1) is2 w2 := by
  intro is1
  induction is1 with
  | nil => intro is2 ws w1 w2 h; cases w1 with
    | nil => rfl
    | cons x xs => cases h
  | cons i is ih => intro is2 ws w1 w2 h; cases w1 with
    | nil => cases h
    | cons x xs => exact ih is2 (ws.set i x) xs w2 (Nat.succ.inj h)
theorem patch_left : ∀ (is : List Nat) (fx Y w1 : va_W), is.all (fun i => decide (i < fx.length)) = true → is.length = w1.length → sxPatch (fx ++ Y) is w1 = sxPatch fx is w1 ++ Y := by
  intro is
  induction is with
  | nil => intro fx Y w1 h hl; cases w1 <;> rfl
  | cons i is ih => intro fx Y w1 h hl; cases w1 with
    | nil => cases hl
    | cons x xs =>
      rw [List.all_cons, Bool.and_eq_true] at h
      show sxPatch ((fx ++ Y).set i x) is xs = sxPatch (fx.set i x) is xs ++ Y
      rw [List.set_append_left _ _ (of_decide_eq_true h.1)]
      exact ih (fx.set i x) Y xs (by rw [List.length_set]; exact h.2) (Nat.succ.inj hl)
theorem patch_tail : ∀ (tl tl' fx fz : va_W), tl'.length = tl.length → sxPatch (fx ++ (tl ++ fz)) (List.range' fx.length tl.length) tl' = fx ++ (tl' ++ fz) := by
  intro tl
  induction tl with
  | nil => intro tl' fx fz h; cases tl' with
    | nil => rfl
    | cons => cases h
  | cons x xs ih => intro tl' fx fz h; cases tl' with
    | nil => cases h
    | cons y ys =>
      show sxPatch (fx ++ (x :: xs ++ fz)) (List.range' fx.length (xs.length + 1)) (y :: ys) = _
      rw [List.range'_succ]
      show sxPatch ((fx ++ (x :: (xs ++ fz))).set fx.length y) (List.range' (fx.length + 1) xs.length) ys = _
      have h1 : (fx ++ (x :: (xs ++ fz))).set fx.length y = (fx ++ [y]) ++ (xs ++ fz) := by
        rw [List.set_append_right _ _ (Nat.le_refl _), Nat.sub_self]
        simp
      have h2 : fx.length + 1 = (fx ++ [y]).length := by simp
      rw [h1, h2, ih ys (fx ++ [y]) fz (Nat.succ.inj h)]
      simp
theorem tl_W {fx fc' tl tl' fz : va_W} {is : List Nat} (h1 : is.length = fc'.length) (h2 : tl'.length = tl.length) (hl : is.all (fun i => decide (i < fx.length)) = true) : sxPatch (fx ++ (tl ++ fz)) (is ++ List.range' fx.length tl.length) (fc' ++ tl') = sxPatch fx is fc' ++ (tl' ++ fz) := by
  rw [patch_app _ _ _ _ _ h1, patch_left is fx _ fc' hl h1]
  have h3 : fx.length = (sxPatch fx is fc').length := (sxPatch_len is fx fc').symm
  rw [h3]
  exact patch_tail tl tl' (sxPatch fx is fc') fz h2
