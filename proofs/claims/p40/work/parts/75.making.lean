/-! MAKING trees and orders: contracts -/
section SXN
variable {p : Program} {l : Launch} {e : Env} {R : Room} {s : State} {m : MethodId} {args : Array Value} {below : List Frame} {meth : Method} {c : Code} {Q : State → Prop} {cc : ByteArray} {own : String} {nL : Nat} {ret : Option FieldType} {D : va_G} {T : Nat → ClassId} {A : Nat → Prop} {SF : (Nat → Prop) → State → Heap → Prop} {k n : Nat} {ws : va_W} {lv : List (Nat × Value)} {pc : Nat} {st : List Value}
theorem sx_aload_nN (X : SxC p s m args meth c cc own nL ret D T A SF) {j : Fin 4} {i : Nat} (q : Nat) (hq : lv[q]? = some (i, .null)) (hdg : decode cc pc = .ok (.aload_n j, 1)) (hi : (j : Nat) = i) (kk : SxG p l e R s m args below meth c D A nL k n Q ws lv (pc + 1) (.null :: st)) : SxG p l e R s m args below meth c D A nL k n Q ws lv pc st := fun H locs ls a b d h => lv_aload_nN X.1 X.2.1 hdg hi (lv_at h q hq) (kk H locs ls a b d h)
theorem sx_aloadN (X : SxC p s m args meth c cc own nL ret D T A SF) {i : Nat} (q : Nat) (hq : lv[q]? = some (i, .null)) (hdg : decode cc pc = .ok (.aload i, 2)) (kk : SxG p l e R s m args below meth c D A nL k n Q ws lv (pc + 2) (.null :: st)) : SxG p l e R s m args below meth c D A nL k n Q ws lv pc st := fun H locs ls a b d h => lv_aloadN X.1 X.2.1 hdg (lv_at h q hq) (kk H locs ls a b d h)
end SXN
/-! dice -/
abbrev zDi (r : Nat) (x : Int32) : Nat × va_E := zO r 11 [.int x]
theorem dice_v {n : Nat} (h0 : 0 < n) (hn : n < 2 ^ 31) (x : Int32) : ∃ v y, v < n ∧ f_X13_next (nI n) x = some (nI v, y) := by
  obtain ⟨j, hj, ej⟩ := pk_andE ((((x * 1103515245) + 12345) >>> (9 &&& 31))) (m := 2147483647) 31 (by decide)
  refine ⟨j % n, ((x * 1103515245) + 12345), Nat.mod_lt _ h0, ?_⟩
  unfold f_X13_next f_L_below
  rw [if_neg (nI_ne0 h0 hn)]
  show some (_ , _) = some (_, _)
  rw [show (((X13_state x * 1103515245 + 12345) >>> (9 &&& 31)) &&& 2147483647) = nI j from ej, pk_rem hj h0 hn]
/-! trees in cells -/
def TrR {α : Type} (R : Nat → α → va_W → Prop) (v : Value) (t : Option α) (w : va_W) : Prop := match t with
  | none => v = .null
  | some x => ∃ a : Nat, v = .ref a ∧ R a x w
def TrW : (h : Nat) → Nat → Nd h → va_W → Prop
  | 0, _, _ => fun _ => False
  | h + 1, a, t => fun w => ∃ va vb : Value, zO a 14 [.int (nI t.1), .int (nI t.2.1), va, vb] ∈ w ∧ TrR (TrW h) va t.2.2.1 w ∧ TrR (TrW h) vb t.2.2.2 w
theorem TrR_mono {α : Type} {R : Nat → α → va_W → Prop} {w w' : va_W} (hR : ∀ a x, R a x w → R a x w') {v : Value} {t : Option α} (h : TrR R v t w) : TrR R v t w' := by
  cases t with
  | none => exact h
  | some x =>
    obtain ⟨a, h1, h2⟩ := h
    exact ⟨a, h1, hR a x h2⟩
theorem TrW_mono : ∀ (h a : Nat) (t : Nd h) {w w' : va_W}, (∀ q ∈ w, q ∈ w') → TrW h a t w → TrW h a t w' := by
  intro h
  induction h with
  | zero => intro a t; exact t.elim
  | succ h ih =>
    intro a t w w' hw ⟨va, vb, h1, h2, h3⟩
    exact ⟨va, vb, hw _ h1, TrR_mono (fun a x => ih a x hw) h2, TrR_mono (fun a x => ih a x hw) h3⟩
def OdW (a : Nat) (o : Od) (w : va_W) : Prop := ∃ v : Value, zO a 15 [.int (nI o.1), .int (nI o.2.1), v] ∈ w ∧ TrR (TrW 4) v o.2.2 w
theorem OdW_mono {a : Nat} {o : Od} {w w' : va_W} (hw : ∀ q ∈ w, q ∈ w') (h : OdW a o w) : OdW a o w' := by
  obtain ⟨v, h1, h2⟩ := h
  exact ⟨v, hw _ h1, TrR_mono (fun a x => TrW_mono 4 a x hw) h2⟩
section TRM
variable {p : Program} {s : State} {m : MethodId} {args : Array Value} {meth : Method} {c : Code} {cc : ByteArray} {own : String} {nL : Nat} {ret : Option FieldType} {D : va_G} {T : Nat → ClassId} {A : Nat → Prop} {SF : (Nat → Prop) → State → Heap → Prop} {wc wr : va_W}
theorem FzR_of {α : Type} {R : Nat → α → (Nat → Prop) → State → Heap → Prop} {R' : Nat → α → va_W → Prop} {w : va_W} {A1 : Nat → Prop} {H : Heap} (hR : ∀ a x, R' a x w → R a x A1 s H) {v : Value} {t : Option α} (h : TrR R' v t w) : FzR R v t A1 s H := by
  cases t with
  | none => exact h
  | some x =>
    obtain ⟨a, h1, h2⟩ := h
    exact ⟨a, h1, hR a x h2⟩
theorem FzN_of (X : SxC p s m args meth c cc own nL ret D T A SF) {H : Heap} (hP : va_P D vwCl (wc ++ wr) H) (hD : va_D A (wc ++ wr)) : ∀ (h a : Nat) (t : Nd h), TrW h a t wr → FzN h a t (va_A wc H.size) s H := by
  intro h
  induction h with
  | zero => intro a t; exact t.elim
  | succ h ih =>
    intro a t ⟨va, vb, h1, h2, h3⟩
    have o1 := wr_out hP hD h1
    have m1 := List.mem_append_right wc h1
    refine ⟨va, vb, ⟨va_Ow X kX16 hP m1 o1, fun q hq => ?_⟩, FzR_of ih h2, FzR_of ih h3⟩
    simp only [List.mem_cons, List.not_mem_nil, or_false] at hq
    rcases hq with rfl | rfl | rfl | rfl
    · exact va_OFw X kX16 hP m1 (j := 0) (by decide) rfl o1
    · exact va_OFw X kX16 hP m1 (j := 1) (by decide) rfl o1
    · exact va_OFw X kX16 hP m1 (j := 2) (by decide) rfl o1
    · exact va_OFw X kX16 hP m1 (j := 3) (by decide) rfl o1
theorem FzQ_of (X : SxC p s m args meth c cc own nL ret D T A SF) {H : Heap} (hP : va_P D vwCl (wc ++ wr) H) (hD : va_D A (wc ++ wr)) {a : Nat} {o : Od} (h : OdW a o wr) : FzQ a o (va_A wc H.size) s H := by
  obtain ⟨v, h1, h2⟩ := h
  have o1 := wr_out hP hD h1
  have m1 := List.mem_append_right wc h1
  refine ⟨v, ⟨va_Ow X kX17 hP m1 o1, fun q hq => ?_⟩, FzR_of (FzN_of X hP hD 4) h2⟩
  simp only [List.mem_cons, List.not_mem_nil, or_false] at hq
  rcases hq with rfl | rfl | rfl
  · exact va_OFw X kX17 hP m1 (j := 0) (by decide) rfl o1
  · exact va_OFw X kX17 hP m1 (j := 1) (by decide) rfl o1
  · exact va_OFw X kX17 hP m1 (j := 2) (by decide) rfl o1
theorem FzQ_M (X : SxC p s m args meth c cc own nL ret D T A SF) {a : Nat} {o : Od} (h : OdW a o wr) : SxM s D A (FzQ a o) wc wr := ⟨FzQ_ok a o, fun H locs hP hD hS => FzQ_of X hP hD h⟩
end TRM
/-! which trees are made -/
def S0 (nf h : Nat) (t : Nd (h + 1)) : Prop := ((t.1 = 0 ∧ t.2.1 < 1000000) ∨ (t.1 = 1 ∧ t.2.1 < 7) ∨ (t.1 = 2 ∧ t.2.1 < nf)) ∧ t.2.2 = (none, none)
def S1 (nf h : Nat) (t : Nd (h + 2)) : Prop := S0 nf (h + 1) t ∨ (t.1 = 3 ∧ one (S0 nf h) t.2.2.1 ∧ t.2.2.2 = none) ∨ (4 ≤ t.1 ∧ t.1 < 10 ∧ one (S0 nf h) t.2.2.1 ∧ one (S0 nf h) t.2.2.2)
def T0 (nf ng h : Nat) (t : Nd (h + 3)) : Prop := (t.1 = 15 ∧ t.2.1 < nf ∧ t.2.2 = (none, none)) ∨ ((t.1 = 16 ∨ t.1 = 17) ∧ t.2.1 < ng ∧ t.2.2 = (none, none)) ∨ (10 ≤ t.1 ∧ t.1 < 15 ∧ one (S1 nf h) t.2.2.1 ∧ one (S0 nf (h + 1)) t.2.2.2)
def T1 (nf ng h : Nat) (t : Nd (h + 4)) : Prop := T0 nf ng (h + 1) t ∨ (t.1 = 18 ∧ one (T0 nf ng h) t.2.2.1 ∧ t.2.2.2 = none) ∨ ((t.1 = 19 ∨ t.1 = 20) ∧ one (T0 nf ng h) t.2.2.1 ∧ one (T0 nf ng h) t.2.2.2)
def OdOk (nf ng : Nat) (o : Od) : Prop := ((o.1 = 0 ∧ o.2.1 < nf) ∨ (o.1 = 1 ∧ o.2.1 < ng) ∨ ((o.1 = 2 ∨ o.1 = 3) ∧ o.2.1 = 0)) ∧ (o.2.2 = none ∨ one (T1 nf ng 0) o.2.2)
theorem hd_dice : SxDs yX13_next 1 := ⟨by decide, by decide, by decide +kernel⟩
theorem c_dice {l : Launch} {D : va_G} {T : Nat → ClassId} {sd : SdT} (r n : Nat) (x : Int32) (h0 : 0 < n) (hn : n < 2 ^ 31) : SxKP (SFx sd) l D T yX13_next cX13_next 2 (some .int) (rm_X13_next) [.ref r, .int (nI n)] [zDi r x] (fun w : Nat × Int32 => some (.int (nI w.1))) (fun w => [zDi r w.2]) (fun w => w.1 < n) 0 0 := by
  obtain ⟨v, y, hv, hf⟩ := dice_v h0 hn x
  exact (c_X13_next (l := l) (D := D) (T := T) (sd := sd) r (nI n) x hf).toP.map (fun r' hr' => ⟨(v, y), hv, by rw [hr'], by rw [hr']⟩)
theorem hd_ndIn : SxDs yX16_init 4 := ⟨by decide, by decide, by decide +kernel⟩
set_option maxRecDepth 100000 in
theorem c_nd00 {l : Launch} {D : va_G} {T : Nat → ClassId} {sd : SdT} (q : Nat) (x y : Int32) : SxK (SFx sd) l D T yX16_init cX16_init 5 none (rmL 0 0 0) [.ref q, .int x, .int y, .null, .null] [zO q 14 [.int 0, .int 0, .null, .null]] (fun _ : Unit => none) (fun _ => [zO q 14 [.int x, .int y, .null, .null]]) () 0 0 := by
  refine sx_start (SFx_ok sd) (by decide +kernel) (Nat.le_of_ble_eq_true rfl) (fun p e s mi args below meth c A X hnm => ?_)
  refine sx_aload_n X 0 rfl dX16_init_0 rfl ?_
  refine sx_objInit X qm_1405 qm_56 qm_57 dX16_init_1 (Nat.le_of_ble_eq_true rfl) (Nat.le_of_ble_eq_true rfl) ?_
  refine sx_aload_n X 0 rfl dX16_init_4 rfl ?_
  refine sx_iload_n X 1 rfl dX16_init_5 rfl ?_
  refine sx_putF X hnm (ws' := [zO q 14 [.int x, .int 0, .null, .null]]) kX16 0 rfl 0 (Nat.le_of_ble_eq_true rfl) qm_1406 rfl rfl rfl rfl (Nat.le_of_ble_eq_true rfl) rfl dX16_init_6 ?_
  refine sx_aload_n X 0 rfl dX16_init_9 rfl ?_
  refine sx_iload_n X 2 rfl dX16_init_10 rfl ?_
  refine sx_putF X hnm (ws' := [zO q 14 [.int x, .int y, .null, .null]]) kX16 0 rfl 1 (Nat.le_of_ble_eq_true rfl) qm_1407 rfl rfl rfl rfl (Nat.le_of_ble_eq_true rfl) rfl dX16_init_11 ?_
  refine sx_aload_n X 0 rfl dX16_init_14 rfl ?_
  refine sx_aload_nN X 3 rfl dX16_init_15 rfl ?_
  refine sx_putF X hnm (ws' := [zO q 14 [.int x, .int y, .null, .null]]) kX16 0 rfl 2 (Nat.le_of_ble_eq_true rfl) qm_1408 rfl rfl rfl rfl (Nat.le_of_ble_eq_true rfl) rfl dX16_init_16 ?_
  refine sx_aload_n X 0 rfl dX16_init_19 rfl ?_
  refine sx_aloadN X 4 rfl dX16_init_20 ?_
  refine sx_putF X hnm (ws' := [zO q 14 [.int x, .int y, .null, .null]]) kX16 0 rfl 3 (Nat.le_of_ble_eq_true rfl) qm_1409 rfl rfl rfl rfl (Nat.le_of_ble_eq_true rfl) rfl dX16_init_22 ?_
  exact sx_vret X dX16_init_25 rfl rfl rfl
set_option maxRecDepth 100000 in
theorem c_nd10 {l : Launch} {D : va_G} {T : Nat → ClassId} {sd : SdT} (q : Nat) (x y : Int32) (a : Nat) : SxK (SFx sd) l D T yX16_init cX16_init 5 none (rmL 0 0 0) [.ref q, .int x, .int y, .ref a, .null] [zO q 14 [.int 0, .int 0, .null, .null]] (fun _ : Unit => none) (fun _ => [zO q 14 [.int x, .int y, .ref a, .null]]) () 0 0 := by
  refine sx_start (SFx_ok sd) (by decide +kernel) (Nat.le_of_ble_eq_true rfl) (fun p e s mi args below meth c A X hnm => ?_)
  refine sx_aload_n X 0 rfl dX16_init_0 rfl ?_
  refine sx_objInit X qm_1405 qm_56 qm_57 dX16_init_1 (Nat.le_of_ble_eq_true rfl) (Nat.le_of_ble_eq_true rfl) ?_
  refine sx_aload_n X 0 rfl dX16_init_4 rfl ?_
  refine sx_iload_n X 1 rfl dX16_init_5 rfl ?_
  refine sx_putF X hnm (ws' := [zO q 14 [.int x, .int 0, .null, .null]]) kX16 0 rfl 0 (Nat.le_of_ble_eq_true rfl) qm_1406 rfl rfl rfl rfl (Nat.le_of_ble_eq_true rfl) rfl dX16_init_6 ?_
  refine sx_aload_n X 0 rfl dX16_init_9 rfl ?_
  refine sx_iload_n X 2 rfl dX16_init_10 rfl ?_
  refine sx_putF X hnm (ws' := [zO q 14 [.int x, .int y, .null, .null]]) kX16 0 rfl 1 (Nat.le_of_ble_eq_true rfl) qm_1407 rfl rfl rfl rfl (Nat.le_of_ble_eq_true rfl) rfl dX16_init_11 ?_
  refine sx_aload_n X 0 rfl dX16_init_14 rfl ?_
  refine sx_aload_n X 3 rfl dX16_init_15 rfl ?_
  refine sx_putF X hnm (ws' := [zO q 14 [.int x, .int y, .ref a, .null]]) kX16 0 rfl 2 (Nat.le_of_ble_eq_true rfl) qm_1408 rfl rfl rfl rfl (Nat.le_of_ble_eq_true rfl) rfl dX16_init_16 ?_
  refine sx_aload_n X 0 rfl dX16_init_19 rfl ?_
  refine sx_aloadN X 4 rfl dX16_init_20 ?_
  refine sx_putF X hnm (ws' := [zO q 14 [.int x, .int y, .ref a, .null]]) kX16 0 rfl 3 (Nat.le_of_ble_eq_true rfl) qm_1409 rfl rfl rfl rfl (Nat.le_of_ble_eq_true rfl) rfl dX16_init_22 ?_
  exact sx_vret X dX16_init_25 rfl rfl rfl
set_option maxRecDepth 100000 in
theorem c_nd11 {l : Launch} {D : va_G} {T : Nat → ClassId} {sd : SdT} (q : Nat) (x y : Int32) (a b : Nat) : SxK (SFx sd) l D T yX16_init cX16_init 5 none (rmL 0 0 0) [.ref q, .int x, .int y, .ref a, .ref b] [zO q 14 [.int 0, .int 0, .null, .null]] (fun _ : Unit => none) (fun _ => [zO q 14 [.int x, .int y, .ref a, .ref b]]) () 0 0 := by
  refine sx_start (SFx_ok sd) (by decide +kernel) (Nat.le_of_ble_eq_true rfl) (fun p e s mi args below meth c A X hnm => ?_)
  refine sx_aload_n X 0 rfl dX16_init_0 rfl ?_
  refine sx_objInit X qm_1405 qm_56 qm_57 dX16_init_1 (Nat.le_of_ble_eq_true rfl) (Nat.le_of_ble_eq_true rfl) ?_
  refine sx_aload_n X 0 rfl dX16_init_4 rfl ?_
  refine sx_iload_n X 1 rfl dX16_init_5 rfl ?_
  refine sx_putF X hnm (ws' := [zO q 14 [.int x, .int 0, .null, .null]]) kX16 0 rfl 0 (Nat.le_of_ble_eq_true rfl) qm_1406 rfl rfl rfl rfl (Nat.le_of_ble_eq_true rfl) rfl dX16_init_6 ?_
  refine sx_aload_n X 0 rfl dX16_init_9 rfl ?_
  refine sx_iload_n X 2 rfl dX16_init_10 rfl ?_
  refine sx_putF X hnm (ws' := [zO q 14 [.int x, .int y, .null, .null]]) kX16 0 rfl 1 (Nat.le_of_ble_eq_true rfl) qm_1407 rfl rfl rfl rfl (Nat.le_of_ble_eq_true rfl) rfl dX16_init_11 ?_
  refine sx_aload_n X 0 rfl dX16_init_14 rfl ?_
  refine sx_aload_n X 3 rfl dX16_init_15 rfl ?_
  refine sx_putF X hnm (ws' := [zO q 14 [.int x, .int y, .ref a, .null]]) kX16 0 rfl 2 (Nat.le_of_ble_eq_true rfl) qm_1408 rfl rfl rfl rfl (Nat.le_of_ble_eq_true rfl) rfl dX16_init_16 ?_
  refine sx_aload_n X 0 rfl dX16_init_19 rfl ?_
  refine sx_aload X 4 rfl dX16_init_20 ?_
  refine sx_putF X hnm (ws' := [zO q 14 [.int x, .int y, .ref a, .ref b]]) kX16 0 rfl 3 (Nat.le_of_ble_eq_true rfl) qm_1409 rfl rfl rfl rfl (Nat.le_of_ble_eq_true rfl) rfl dX16_init_22 ?_
  exact sx_vret X dX16_init_25 rfl rfl rfl
theorem hd_sum : SxDs yX16_sum 3 := ⟨by decide, by decide, by decide +kernel⟩
set_option maxRecDepth 100000 in
set_option maxHeartbeats 4000000 in
theorem c_sum0 {l : Launch} {D : va_G} {T : Nat → ClassId} {sd : SdT} (h r nf : Nat) (x : Int32) (hnf : nf ≤ 8) : SxKP (SFx sd) l D T yX16_sum cX16_sum 6 (some (.object "WeatherTeaLaw$Node")) (rmL 2 1 4) [.ref r, .int (nI nf), .int 0] [zDi r x] (fun w : Int32 × Nat × Nd (h + 1) × va_W => some (.ref w.2.1)) (fun w => zDi r w.1 :: w.2.2.2) (fun w => S0 nf h w.2.2.1 ∧ TrW (h + 1) w.2.1 w.2.2.1 w.2.2.2) 1 4 := by
  refine sx_startP (SFx_ok sd) (by decide +kernel) (Nat.le_of_ble_eq_true rfl) (fun p e s mi args below meth c A X hnm => ?_)
  refine sx_aload_n X 0 rfl dX16_sum_0 rfl ?_
  refine sx_iload_n X 2 rfl dX16_sum_1 rfl ?_
  refine sx_if_ne X 9 dX16_sum_2 rfl (fun hc => absurd rfl hc) (fun _ => ?_)
  refine sx_iconst X (v := 5) dX16_sum_5 rfl ?_
  refine sx_goto X 11 dX16_sum_6 rfl ?_
  refine sx_topi (y := nI 5) rfl ?_
  refine sx_pV X (c_dice (l := l) (D := D) (T := T) (sd := sd) r 5 x (by decide) (by decide)) X.M (wr := []) (sx_rcv X (q0 := 0) (w := [zO r 11 [.int x]]) rfl rfl) qm_1399 qm_691 qm_692 qm_24 qm_693 hd_dice ⟨rfl, rfl⟩ ⟨Nat.le_of_ble_eq_true rfl, Nat.le_of_ble_eq_true rfl⟩ rfl rfl (Nat.le_of_ble_eq_true rfl) ⟨(Nat.le_of_ble_eq_true rfl), (Nat.le_of_ble_eq_true rfl)⟩ dX16_sum_11 rfl (fun w1 hw1 => ?_)
  refine sx_chg (ws' := [zO r 11 [.int w1.2]]) (st' := [.int (nI w1.1)]) rfl rfl ?_
  refine sx_istore_n X (lv' := [(3, .int (nI w1.1)), (0, .ref r), (1, .int (nI nf)), (2, .int 0)]) dX16_sum_14 rfl (by decide) rfl ?_
  refine sx_iload_n X 0 rfl dX16_sum_15 rfl ?_
  refine sx_iconst X (v := 2) dX16_sum_16 rfl ?_
  by_cases h2 : w1.1 < 2
  · refine sx_icmp_lt X 29 dX16_sum_17 rfl (fun _ => ?_) (fun hc => absurd (nI_lt (b := 2) (by omega) (by decide)) hc)
    refine sx_new X (fs := [.int 0, .int 0, .null, .null]) kX16 qm_1400 qm_1401 qm_40 (by decide) (Nat.le_of_ble_eq_true rfl) (Nat.le_of_ble_eq_true rfl) dX16_sum_29 (fun n2 => ?_)
    refine sx_perm List.perm_append_comm ?_
    refine sx_chg (ws' := [zO n2 14 [.int 0, .int 0, .null, .null], zO r 11 [.int w1.2]]) (st' := [.ref n2]) rfl rfl ?_
    refine sx_dup X dX16_sum_32 rfl ?_
    refine sx_iconst X (v := 0) dX16_sum_33 rfl ?_
    refine sx_aload_n X 1 rfl dX16_sum_34 rfl ?_
    refine sx_bipush X (v := 7) dX16_sum_35 rfl ?_
    refine sx_topi (y := nI 7) rfl ?_
    refine sx_wsub (ws' := [zO r 11 [.int w1.2], zO n2 14 [.int 0, .int 0, .null, .null]]) [1, 0] rfl rfl ?_
    refine sx_pV X (c_dice (l := l) (D := D) (T := T) (sd := sd) r 7 w1.2 (by decide) (by decide)) X.M (wr := [zO n2 14 [.int 0, .int 0, .null, .null]]) (sx_rcv X (q0 := 0) (w := [zO r 11 [.int w1.2], zO n2 14 [.int 0, .int 0, .null, .null]]) rfl rfl) qm_1399 qm_691 qm_692 qm_24 qm_693 hd_dice ⟨rfl, rfl⟩ ⟨Nat.le_of_ble_eq_true rfl, Nat.le_of_ble_eq_true rfl⟩ rfl rfl (Nat.le_of_ble_eq_true rfl) ⟨(Nat.le_of_ble_eq_true rfl), (Nat.le_of_ble_eq_true rfl)⟩ dX16_sum_37 rfl (fun w3 hw3 => ?_)
    refine sx_chg (ws' := [zO r 11 [.int w3.2], zO n2 14 [.int 0, .int 0, .null, .null]]) (st' := [.int (nI w3.1), .int 0, .ref n2, .ref n2]) rfl rfl ?_
    refine sx_if_ne X 52 dX16_sum_40 rfl (fun hc => ?_) (fun hc => ?_)
    · refine sx_aload_n X 1 rfl dX16_sum_52 rfl ?_
      refine sx_bipush X (v := 22) dX16_sum_53 rfl ?_
      refine sx_topi (y := nI 22) rfl ?_
      refine sx_pV X (c_dice (l := l) (D := D) (T := T) (sd := sd) r 22 w3.2 (by decide) (by decide)) X.M (wr := [zO n2 14 [.int 0, .int 0, .null, .null]]) (sx_rcv X (q0 := 0) (w := [zO r 11 [.int w3.2], zO n2 14 [.int 0, .int 0, .null, .null]]) rfl rfl) qm_1399 qm_691 qm_692 qm_24 qm_693 hd_dice ⟨rfl, rfl⟩ ⟨Nat.le_of_ble_eq_true rfl, Nat.le_of_ble_eq_true rfl⟩ rfl rfl (Nat.le_of_ble_eq_true rfl) ⟨(Nat.le_of_ble_eq_true rfl), (Nat.le_of_ble_eq_true rfl)⟩ dX16_sum_55 rfl (fun w4 hw4 => ?_)
      refine sx_chg (ws' := [zO r 11 [.int w4.2], zO n2 14 [.int 0, .int 0, .null, .null]]) (st' := [.int (nI w4.1), .int 0, .ref n2, .ref n2]) rfl rfl ?_
      refine sx_null X dX16_sum_58 ?_
      refine sx_null X dX16_sum_59 ?_
      refine sx_chg (ws' := [zO r 11 [.int w4.2], zO n2 14 [.int 0, .int 0, .null, .null]]) (st' := [.null, .null, .int (nI w4.1), .int (nI 0), .ref n2, .ref n2]) rfl rfl ?_
      refine sx_wsub (ws' := [zO n2 14 [.int 0, .int 0, .null, .null], zO r 11 [.int w4.2]]) [1, 0] rfl rfl ?_
      refine sx_pI X ((c_nd00 (l := l) (D := D) (T := T) (sd := sd) n2 (nI 0) (nI w4.1)).toP) X.M (wr := [zO r 11 [.int w4.2]]) qm_1402 qm_1403 qm_40 qm_1404 rfl hd_ndIn ⟨rfl, rfl⟩ ⟨Nat.le_of_ble_eq_true rfl, Nat.le_of_ble_eq_true rfl⟩ rfl rfl (Nat.le_of_ble_eq_true rfl) ⟨(Nat.le_of_ble_eq_true rfl), (Nat.le_of_ble_eq_true rfl)⟩ dX16_sum_60 rfl (fun u9 hu9 => ?_)
      refine sx_chg (ws' := [zO n2 14 [.int (nI 0), .int (nI w4.1), .null, .null], zO r 11 [.int w4.2]]) (st' := [.ref n2]) rfl rfl ?_
      refine sx_perm (List.perm_middle (l₁ := [zO n2 14 [.int (nI 0), .int (nI w4.1), .null, .null]]) (a := zO r 11 [.int w4.2]) (l₂ := [])) ?_
      refine sx_chg (ws' := [zO r 11 [.int w4.2], zO n2 14 [.int (nI 0), .int (nI w4.1), .null, .null]]) (st' := [.ref n2]) rfl rfl ?_
      refine sx_widen (k' := 1) (n' := 4) (Nat.le_of_ble_eq_true rfl) (Nat.le_of_ble_eq_true rfl) ?_
      refine sx_pick (w4.2, n2, (0, w4.1, none, none), [zO n2 14 [.int (nI 0), .int (nI w4.1), .null, .null]]) ⟨⟨Or.inl ⟨rfl, (Nat.lt_of_lt_of_le hw4 (by decide))⟩, rfl⟩, ⟨.null, .null, List.mem_cons_self, rfl, rfl⟩⟩ ?_
      exact sx_aret X dX16_sum_63 rfl rfl rfl
    · refine sx_aload_n X 1 rfl dX16_sum_43 rfl ?_
      refine sx_ldc X qm_1422 dX16_sum_44 ?_
      refine sx_topi (y := nI 1000000) rfl ?_
      refine sx_pV X (c_dice (l := l) (D := D) (T := T) (sd := sd) r 1000000 w3.2 (by decide) (by decide)) X.M (wr := [zO n2 14 [.int 0, .int 0, .null, .null]]) (sx_rcv X (q0 := 0) (w := [zO r 11 [.int w3.2], zO n2 14 [.int 0, .int 0, .null, .null]]) rfl rfl) qm_1399 qm_691 qm_692 qm_24 qm_693 hd_dice ⟨rfl, rfl⟩ ⟨Nat.le_of_ble_eq_true rfl, Nat.le_of_ble_eq_true rfl⟩ rfl rfl (Nat.le_of_ble_eq_true rfl) ⟨(Nat.le_of_ble_eq_true rfl), (Nat.le_of_ble_eq_true rfl)⟩ dX16_sum_46 rfl (fun w5 hw5 => ?_)
      refine sx_chg (ws' := [zO r 11 [.int w5.2], zO n2 14 [.int 0, .int 0, .null, .null]]) (st' := [.int (nI w5.1), .int 0, .ref n2, .ref n2]) rfl rfl ?_
      refine sx_goto X 58 dX16_sum_49 rfl ?_
      refine sx_null X dX16_sum_58 ?_
      refine sx_null X dX16_sum_59 ?_
      refine sx_chg (ws' := [zO r 11 [.int w5.2], zO n2 14 [.int 0, .int 0, .null, .null]]) (st' := [.null, .null, .int (nI w5.1), .int (nI 0), .ref n2, .ref n2]) rfl rfl ?_
      refine sx_wsub (ws' := [zO n2 14 [.int 0, .int 0, .null, .null], zO r 11 [.int w5.2]]) [1, 0] rfl rfl ?_
      refine sx_pI X ((c_nd00 (l := l) (D := D) (T := T) (sd := sd) n2 (nI 0) (nI w5.1)).toP) X.M (wr := [zO r 11 [.int w5.2]]) qm_1402 qm_1403 qm_40 qm_1404 rfl hd_ndIn ⟨rfl, rfl⟩ ⟨Nat.le_of_ble_eq_true rfl, Nat.le_of_ble_eq_true rfl⟩ rfl rfl (Nat.le_of_ble_eq_true rfl) ⟨(Nat.le_of_ble_eq_true rfl), (Nat.le_of_ble_eq_true rfl)⟩ dX16_sum_60 rfl (fun u9 hu9 => ?_)
      refine sx_chg (ws' := [zO n2 14 [.int (nI 0), .int (nI w5.1), .null, .null], zO r 11 [.int w5.2]]) (st' := [.ref n2]) rfl rfl ?_
      refine sx_perm (List.perm_middle (l₁ := [zO n2 14 [.int (nI 0), .int (nI w5.1), .null, .null]]) (a := zO r 11 [.int w5.2]) (l₂ := [])) ?_
      refine sx_chg (ws' := [zO r 11 [.int w5.2], zO n2 14 [.int (nI 0), .int (nI w5.1), .null, .null]]) (st' := [.ref n2]) rfl rfl ?_
      refine sx_widen (k' := 1) (n' := 4) (Nat.le_of_ble_eq_true rfl) (Nat.le_of_ble_eq_true rfl) ?_
      refine sx_pick (w5.2, n2, (0, w5.1, none, none), [zO n2 14 [.int (nI 0), .int (nI w5.1), .null, .null]]) ⟨⟨Or.inl ⟨rfl, (Nat.lt_of_lt_of_le hw5 (by decide))⟩, rfl⟩, ⟨.null, .null, List.mem_cons_self, rfl, rfl⟩⟩ ?_
      exact sx_aret X dX16_sum_63 rfl rfl rfl
  refine sx_icmp_lt X 29 dX16_sum_17 rfl (fun hc => absurd hc (nI_nlt (a := w1.1) (b := 2) (by omega) (by omega))) (fun _ => ?_)
  refine sx_iload_n X 0 rfl dX16_sum_20 rfl ?_
  refine sx_iconst X (v := 3) dX16_sum_21 rfl ?_
  by_cases h3 : w1.1 < 3
  · refine sx_icmp_ge X 64 dX16_sum_22 rfl (fun hc => absurd hc (nI_ge (a := w1.1) (b := 3) (by omega) (by decide))) (fun _ => ?_)
    refine sx_iload_n X 2 rfl dX16_sum_25 rfl ?_
    by_cases h0 : nf = 0
    · refine sx_if_ne X 64 dX16_sum_26 rfl (fun hc => absurd (show nI nf = 0 from by rw [h0]; rfl) hc) (fun _ => ?_)
      refine sx_new X (fs := [.int 0, .int 0, .null, .null]) kX16 qm_1400 qm_1401 qm_40 (by decide) (Nat.le_of_ble_eq_true rfl) (Nat.le_of_ble_eq_true rfl) dX16_sum_29 (fun n6 => ?_)
      refine sx_perm List.perm_append_comm ?_
      refine sx_chg (ws' := [zO n6 14 [.int 0, .int 0, .null, .null], zO r 11 [.int w1.2]]) (st' := [.ref n6]) rfl rfl ?_
      refine sx_dup X dX16_sum_32 rfl ?_
      refine sx_iconst X (v := 0) dX16_sum_33 rfl ?_
      refine sx_aload_n X 1 rfl dX16_sum_34 rfl ?_
      refine sx_bipush X (v := 7) dX16_sum_35 rfl ?_
      refine sx_topi (y := nI 7) rfl ?_
      refine sx_wsub (ws' := [zO r 11 [.int w1.2], zO n6 14 [.int 0, .int 0, .null, .null]]) [1, 0] rfl rfl ?_
      refine sx_pV X (c_dice (l := l) (D := D) (T := T) (sd := sd) r 7 w1.2 (by decide) (by decide)) X.M (wr := [zO n6 14 [.int 0, .int 0, .null, .null]]) (sx_rcv X (q0 := 0) (w := [zO r 11 [.int w1.2], zO n6 14 [.int 0, .int 0, .null, .null]]) rfl rfl) qm_1399 qm_691 qm_692 qm_24 qm_693 hd_dice ⟨rfl, rfl⟩ ⟨Nat.le_of_ble_eq_true rfl, Nat.le_of_ble_eq_true rfl⟩ rfl rfl (Nat.le_of_ble_eq_true rfl) ⟨(Nat.le_of_ble_eq_true rfl), (Nat.le_of_ble_eq_true rfl)⟩ dX16_sum_37 rfl (fun w7 hw7 => ?_)
      refine sx_chg (ws' := [zO r 11 [.int w7.2], zO n6 14 [.int 0, .int 0, .null, .null]]) (st' := [.int (nI w7.1), .int 0, .ref n6, .ref n6]) rfl rfl ?_
      refine sx_if_ne X 52 dX16_sum_40 rfl (fun hc => ?_) (fun hc => ?_)
      · refine sx_aload_n X 1 rfl dX16_sum_52 rfl ?_
        refine sx_bipush X (v := 22) dX16_sum_53 rfl ?_
        refine sx_topi (y := nI 22) rfl ?_
        refine sx_pV X (c_dice (l := l) (D := D) (T := T) (sd := sd) r 22 w7.2 (by decide) (by decide)) X.M (wr := [zO n6 14 [.int 0, .int 0, .null, .null]]) (sx_rcv X (q0 := 0) (w := [zO r 11 [.int w7.2], zO n6 14 [.int 0, .int 0, .null, .null]]) rfl rfl) qm_1399 qm_691 qm_692 qm_24 qm_693 hd_dice ⟨rfl, rfl⟩ ⟨Nat.le_of_ble_eq_true rfl, Nat.le_of_ble_eq_true rfl⟩ rfl rfl (Nat.le_of_ble_eq_true rfl) ⟨(Nat.le_of_ble_eq_true rfl), (Nat.le_of_ble_eq_true rfl)⟩ dX16_sum_55 rfl (fun w8 hw8 => ?_)
        refine sx_chg (ws' := [zO r 11 [.int w8.2], zO n6 14 [.int 0, .int 0, .null, .null]]) (st' := [.int (nI w8.1), .int 0, .ref n6, .ref n6]) rfl rfl ?_
        refine sx_null X dX16_sum_58 ?_
        refine sx_null X dX16_sum_59 ?_
        refine sx_chg (ws' := [zO r 11 [.int w8.2], zO n6 14 [.int 0, .int 0, .null, .null]]) (st' := [.null, .null, .int (nI w8.1), .int (nI 0), .ref n6, .ref n6]) rfl rfl ?_
        refine sx_wsub (ws' := [zO n6 14 [.int 0, .int 0, .null, .null], zO r 11 [.int w8.2]]) [1, 0] rfl rfl ?_
        refine sx_pI X ((c_nd00 (l := l) (D := D) (T := T) (sd := sd) n6 (nI 0) (nI w8.1)).toP) X.M (wr := [zO r 11 [.int w8.2]]) qm_1402 qm_1403 qm_40 qm_1404 rfl hd_ndIn ⟨rfl, rfl⟩ ⟨Nat.le_of_ble_eq_true rfl, Nat.le_of_ble_eq_true rfl⟩ rfl rfl (Nat.le_of_ble_eq_true rfl) ⟨(Nat.le_of_ble_eq_true rfl), (Nat.le_of_ble_eq_true rfl)⟩ dX16_sum_60 rfl (fun u9 hu9 => ?_)
        refine sx_chg (ws' := [zO n6 14 [.int (nI 0), .int (nI w8.1), .null, .null], zO r 11 [.int w8.2]]) (st' := [.ref n6]) rfl rfl ?_
        refine sx_perm (List.perm_middle (l₁ := [zO n6 14 [.int (nI 0), .int (nI w8.1), .null, .null]]) (a := zO r 11 [.int w8.2]) (l₂ := [])) ?_
        refine sx_chg (ws' := [zO r 11 [.int w8.2], zO n6 14 [.int (nI 0), .int (nI w8.1), .null, .null]]) (st' := [.ref n6]) rfl rfl ?_
        refine sx_widen (k' := 1) (n' := 4) (Nat.le_of_ble_eq_true rfl) (Nat.le_of_ble_eq_true rfl) ?_
        refine sx_pick (w8.2, n6, (0, w8.1, none, none), [zO n6 14 [.int (nI 0), .int (nI w8.1), .null, .null]]) ⟨⟨Or.inl ⟨rfl, (Nat.lt_of_lt_of_le hw8 (by decide))⟩, rfl⟩, ⟨.null, .null, List.mem_cons_self, rfl, rfl⟩⟩ ?_
        exact sx_aret X dX16_sum_63 rfl rfl rfl
      · refine sx_aload_n X 1 rfl dX16_sum_43 rfl ?_
        refine sx_ldc X qm_1422 dX16_sum_44 ?_
        refine sx_topi (y := nI 1000000) rfl ?_
        refine sx_pV X (c_dice (l := l) (D := D) (T := T) (sd := sd) r 1000000 w7.2 (by decide) (by decide)) X.M (wr := [zO n6 14 [.int 0, .int 0, .null, .null]]) (sx_rcv X (q0 := 0) (w := [zO r 11 [.int w7.2], zO n6 14 [.int 0, .int 0, .null, .null]]) rfl rfl) qm_1399 qm_691 qm_692 qm_24 qm_693 hd_dice ⟨rfl, rfl⟩ ⟨Nat.le_of_ble_eq_true rfl, Nat.le_of_ble_eq_true rfl⟩ rfl rfl (Nat.le_of_ble_eq_true rfl) ⟨(Nat.le_of_ble_eq_true rfl), (Nat.le_of_ble_eq_true rfl)⟩ dX16_sum_46 rfl (fun w9 hw9 => ?_)
        refine sx_chg (ws' := [zO r 11 [.int w9.2], zO n6 14 [.int 0, .int 0, .null, .null]]) (st' := [.int (nI w9.1), .int 0, .ref n6, .ref n6]) rfl rfl ?_
        refine sx_goto X 58 dX16_sum_49 rfl ?_
        refine sx_null X dX16_sum_58 ?_
        refine sx_null X dX16_sum_59 ?_
        refine sx_chg (ws' := [zO r 11 [.int w9.2], zO n6 14 [.int 0, .int 0, .null, .null]]) (st' := [.null, .null, .int (nI w9.1), .int (nI 0), .ref n6, .ref n6]) rfl rfl ?_
        refine sx_wsub (ws' := [zO n6 14 [.int 0, .int 0, .null, .null], zO r 11 [.int w9.2]]) [1, 0] rfl rfl ?_
        refine sx_pI X ((c_nd00 (l := l) (D := D) (T := T) (sd := sd) n6 (nI 0) (nI w9.1)).toP) X.M (wr := [zO r 11 [.int w9.2]]) qm_1402 qm_1403 qm_40 qm_1404 rfl hd_ndIn ⟨rfl, rfl⟩ ⟨Nat.le_of_ble_eq_true rfl, Nat.le_of_ble_eq_true rfl⟩ rfl rfl (Nat.le_of_ble_eq_true rfl) ⟨(Nat.le_of_ble_eq_true rfl), (Nat.le_of_ble_eq_true rfl)⟩ dX16_sum_60 rfl (fun u9 hu9 => ?_)
        refine sx_chg (ws' := [zO n6 14 [.int (nI 0), .int (nI w9.1), .null, .null], zO r 11 [.int w9.2]]) (st' := [.ref n6]) rfl rfl ?_
        refine sx_perm (List.perm_middle (l₁ := [zO n6 14 [.int (nI 0), .int (nI w9.1), .null, .null]]) (a := zO r 11 [.int w9.2]) (l₂ := [])) ?_
        refine sx_chg (ws' := [zO r 11 [.int w9.2], zO n6 14 [.int (nI 0), .int (nI w9.1), .null, .null]]) (st' := [.ref n6]) rfl rfl ?_
        refine sx_widen (k' := 1) (n' := 4) (Nat.le_of_ble_eq_true rfl) (Nat.le_of_ble_eq_true rfl) ?_
        refine sx_pick (w9.2, n6, (0, w9.1, none, none), [zO n6 14 [.int (nI 0), .int (nI w9.1), .null, .null]]) ⟨⟨Or.inl ⟨rfl, (Nat.lt_of_lt_of_le hw9 (by decide))⟩, rfl⟩, ⟨.null, .null, List.mem_cons_self, rfl, rfl⟩⟩ ?_
        exact sx_aret X dX16_sum_63 rfl rfl rfl
    refine sx_if_ne X 64 dX16_sum_26 rfl (fun _ => ?_) (fun hc => absurd hc (nI_ne0 (by omega) (by omega)))
    refine sx_iload_n X 0 rfl dX16_sum_64 rfl ?_
    refine sx_iconst X (v := 2) dX16_sum_65 rfl ?_
    refine sx_icmp_ne X 85 dX16_sum_66 rfl (fun hc => absurd (show nI w1.1 = nI 2 from congrArg nI (by omega)) hc) (fun _ => ?_)
    refine sx_new X (fs := [.int 0, .int 0, .null, .null]) kX16 qm_1400 qm_1401 qm_40 (by decide) (Nat.le_of_ble_eq_true rfl) (Nat.le_of_ble_eq_true rfl) dX16_sum_69 (fun n10 => ?_)
    refine sx_perm List.perm_append_comm ?_
    refine sx_chg (ws' := [zO n10 14 [.int 0, .int 0, .null, .null], zO r 11 [.int w1.2]]) (st' := [.ref n10]) rfl rfl ?_
    refine sx_dup X dX16_sum_72 rfl ?_
    refine sx_iconst X (v := 2) dX16_sum_73 rfl ?_
    refine sx_aload_n X 1 rfl dX16_sum_74 rfl ?_
    refine sx_iload_n X 2 rfl dX16_sum_75 rfl ?_
    refine sx_wsub (ws' := [zO r 11 [.int w1.2], zO n10 14 [.int 0, .int 0, .null, .null]]) [1, 0] rfl rfl ?_
    refine sx_pV X (c_dice (l := l) (D := D) (T := T) (sd := sd) r nf w1.2 (by omega) (by omega)) X.M (wr := [zO n10 14 [.int 0, .int 0, .null, .null]]) (sx_rcv X (q0 := 0) (w := [zO r 11 [.int w1.2], zO n10 14 [.int 0, .int 0, .null, .null]]) rfl rfl) qm_1399 qm_691 qm_692 qm_24 qm_693 hd_dice ⟨rfl, rfl⟩ ⟨Nat.le_of_ble_eq_true rfl, Nat.le_of_ble_eq_true rfl⟩ rfl rfl (Nat.le_of_ble_eq_true rfl) ⟨(Nat.le_of_ble_eq_true rfl), (Nat.le_of_ble_eq_true rfl)⟩ dX16_sum_76 rfl (fun w11 hw11 => ?_)
    refine sx_chg (ws' := [zO r 11 [.int w11.2], zO n10 14 [.int 0, .int 0, .null, .null]]) (st' := [.int (nI w11.1), .int 2, .ref n10, .ref n10]) rfl rfl ?_
    refine sx_null X dX16_sum_79 ?_
    refine sx_null X dX16_sum_80 ?_
    refine sx_chg (ws' := [zO r 11 [.int w11.2], zO n10 14 [.int 0, .int 0, .null, .null]]) (st' := [.null, .null, .int (nI w11.1), .int (nI 2), .ref n10, .ref n10]) rfl rfl ?_
    refine sx_wsub (ws' := [zO n10 14 [.int 0, .int 0, .null, .null], zO r 11 [.int w11.2]]) [1, 0] rfl rfl ?_
    refine sx_pI X ((c_nd00 (l := l) (D := D) (T := T) (sd := sd) n10 (nI 2) (nI w11.1)).toP) X.M (wr := [zO r 11 [.int w11.2]]) qm_1402 qm_1403 qm_40 qm_1404 rfl hd_ndIn ⟨rfl, rfl⟩ ⟨Nat.le_of_ble_eq_true rfl, Nat.le_of_ble_eq_true rfl⟩ rfl rfl (Nat.le_of_ble_eq_true rfl) ⟨(Nat.le_of_ble_eq_true rfl), (Nat.le_of_ble_eq_true rfl)⟩ dX16_sum_81 rfl (fun u9 hu9 => ?_)
    refine sx_chg (ws' := [zO n10 14 [.int (nI 2), .int (nI w11.1), .null, .null], zO r 11 [.int w11.2]]) (st' := [.ref n10]) rfl rfl ?_
    refine sx_perm (List.perm_middle (l₁ := [zO n10 14 [.int (nI 2), .int (nI w11.1), .null, .null]]) (a := zO r 11 [.int w11.2]) (l₂ := [])) ?_
    refine sx_chg (ws' := [zO r 11 [.int w11.2], zO n10 14 [.int (nI 2), .int (nI w11.1), .null, .null]]) (st' := [.ref n10]) rfl rfl ?_
    refine sx_widen (k' := 1) (n' := 4) (Nat.le_of_ble_eq_true rfl) (Nat.le_of_ble_eq_true rfl) ?_
    refine sx_pick (w11.2, n10, (2, w11.1, none, none), [zO n10 14 [.int (nI 2), .int (nI w11.1), .null, .null]]) ⟨⟨Or.inr (Or.inr ⟨rfl, hw11⟩), rfl⟩, ⟨.null, .null, List.mem_cons_self, rfl, rfl⟩⟩ ?_
    exact sx_aret X dX16_sum_84 rfl rfl rfl
  refine sx_icmp_ge X 64 dX16_sum_22 rfl (fun _ => ?_) (fun hc => absurd (nI_le (a := 3) (b := w1.1) (by omega) (by omega)) hc)
  refine sx_iload_n X 0 rfl dX16_sum_64 rfl ?_
  refine sx_iconst X (v := 2) dX16_sum_65 rfl ?_
  refine sx_icmp_ne X 85 dX16_sum_66 rfl (fun _ => ?_) (fun hc => absurd hc (fun z => by have := (nI_eq (a := w1.1) (b := 2) (by omega) (by decide)).mp z; omega))
  refine sx_iload_n X 0 rfl dX16_sum_85 rfl ?_
  refine sx_iconst X (v := 5) dX16_sum_86 rfl ?_
  refine sx_icmp_ge X 107 dX16_sum_87 rfl (fun hc => absurd hc (nI_ge (a := w1.1) (b := 5) (by omega) (by decide))) (fun _ => ?_)
  refine sx_new X (fs := [.int 0, .int 0, .null, .null]) kX16 qm_1400 qm_1401 qm_40 (by decide) (Nat.le_of_ble_eq_true rfl) (Nat.le_of_ble_eq_true rfl) dX16_sum_90 (fun n12 => ?_)
  refine sx_perm List.perm_append_comm ?_
  refine sx_chg (ws' := [zO n12 14 [.int 0, .int 0, .null, .null], zO r 11 [.int w1.2]]) (st' := [.ref n12]) rfl rfl ?_
  refine sx_dup X dX16_sum_93 rfl ?_
  refine sx_iconst X (v := 1) dX16_sum_94 rfl ?_
  refine sx_aload_n X 1 rfl dX16_sum_95 rfl ?_
  refine sx_bipush X (v := 7) dX16_sum_96 rfl ?_
  refine sx_topi (y := nI 7) rfl ?_
  refine sx_wsub (ws' := [zO r 11 [.int w1.2], zO n12 14 [.int 0, .int 0, .null, .null]]) [1, 0] rfl rfl ?_
  refine sx_pV X (c_dice (l := l) (D := D) (T := T) (sd := sd) r 7 w1.2 (by decide) (by decide)) X.M (wr := [zO n12 14 [.int 0, .int 0, .null, .null]]) (sx_rcv X (q0 := 0) (w := [zO r 11 [.int w1.2], zO n12 14 [.int 0, .int 0, .null, .null]]) rfl rfl) qm_1399 qm_691 qm_692 qm_24 qm_693 hd_dice ⟨rfl, rfl⟩ ⟨Nat.le_of_ble_eq_true rfl, Nat.le_of_ble_eq_true rfl⟩ rfl rfl (Nat.le_of_ble_eq_true rfl) ⟨(Nat.le_of_ble_eq_true rfl), (Nat.le_of_ble_eq_true rfl)⟩ dX16_sum_98 rfl (fun w13 hw13 => ?_)
  refine sx_chg (ws' := [zO r 11 [.int w13.2], zO n12 14 [.int 0, .int 0, .null, .null]]) (st' := [.int (nI w13.1), .int 1, .ref n12, .ref n12]) rfl rfl ?_
  refine sx_null X dX16_sum_101 ?_
  refine sx_null X dX16_sum_102 ?_
  refine sx_chg (ws' := [zO r 11 [.int w13.2], zO n12 14 [.int 0, .int 0, .null, .null]]) (st' := [.null, .null, .int (nI w13.1), .int (nI 1), .ref n12, .ref n12]) rfl rfl ?_
  refine sx_wsub (ws' := [zO n12 14 [.int 0, .int 0, .null, .null], zO r 11 [.int w13.2]]) [1, 0] rfl rfl ?_
  refine sx_pI X ((c_nd00 (l := l) (D := D) (T := T) (sd := sd) n12 (nI 1) (nI w13.1)).toP) X.M (wr := [zO r 11 [.int w13.2]]) qm_1402 qm_1403 qm_40 qm_1404 rfl hd_ndIn ⟨rfl, rfl⟩ ⟨Nat.le_of_ble_eq_true rfl, Nat.le_of_ble_eq_true rfl⟩ rfl rfl (Nat.le_of_ble_eq_true rfl) ⟨(Nat.le_of_ble_eq_true rfl), (Nat.le_of_ble_eq_true rfl)⟩ dX16_sum_103 rfl (fun u9 hu9 => ?_)
  refine sx_chg (ws' := [zO n12 14 [.int (nI 1), .int (nI w13.1), .null, .null], zO r 11 [.int w13.2]]) (st' := [.ref n12]) rfl rfl ?_
  refine sx_perm (List.perm_middle (l₁ := [zO n12 14 [.int (nI 1), .int (nI w13.1), .null, .null]]) (a := zO r 11 [.int w13.2]) (l₂ := [])) ?_
  refine sx_chg (ws' := [zO r 11 [.int w13.2], zO n12 14 [.int (nI 1), .int (nI w13.1), .null, .null]]) (st' := [.ref n12]) rfl rfl ?_
  refine sx_widen (k' := 1) (n' := 4) (Nat.le_of_ble_eq_true rfl) (Nat.le_of_ble_eq_true rfl) ?_
  refine sx_pick (w13.2, n12, (1, w13.1, none, none), [zO n12 14 [.int (nI 1), .int (nI w13.1), .null, .null]]) ⟨⟨Or.inr (Or.inl ⟨rfl, hw13⟩), rfl⟩, ⟨.null, .null, List.mem_cons_self, rfl, rfl⟩⟩ ?_
  exact sx_aret X dX16_sum_106 rfl rfl rfl
set_option maxRecDepth 100000 in
set_option maxHeartbeats 4000000 in
theorem c_sum1 {l : Launch} {D : va_G} {T : Nat → ClassId} {sd : SdT} (h r nf : Nat) (x : Int32) (hnf : nf ≤ 8) : SxKP (SFx sd) l D T yX16_sum cX16_sum 6 (some (.object "WeatherTeaLaw$Node")) (rmL 4 3 12) [.ref r, .int (nI nf), .int 1] [zDi r x] (fun w : Int32 × Nat × Nd (h + 2) × va_W => some (.ref w.2.1)) (fun w => zDi r w.1 :: w.2.2.2) (fun w => S1 nf h w.2.2.1 ∧ TrW (h + 2) w.2.1 w.2.2.1 w.2.2.2) 3 12 := by
  refine sx_startP (SFx_ok sd) (by decide +kernel) (Nat.le_of_ble_eq_true rfl) (fun p e s mi args below meth c A X hnm => ?_)
  refine sx_aload_n X 0 rfl dX16_sum_0 rfl ?_
  refine sx_iload_n X 2 rfl dX16_sum_1 rfl ?_
  refine sx_if_ne X 9 dX16_sum_2 rfl (fun _ => ?_) (fun hc => absurd hc (by decide))
  refine sx_bipush X (v := 10) dX16_sum_9 rfl ?_
  refine sx_topi (y := nI 10) rfl ?_
  refine sx_pV X (c_dice (l := l) (D := D) (T := T) (sd := sd) r 10 x (by decide) (by decide)) X.M (wr := []) (sx_rcv X (q0 := 0) (w := [zO r 11 [.int x]]) rfl rfl) qm_1399 qm_691 qm_692 qm_24 qm_693 hd_dice ⟨rfl, rfl⟩ ⟨Nat.le_of_ble_eq_true rfl, Nat.le_of_ble_eq_true rfl⟩ rfl rfl (Nat.le_of_ble_eq_true rfl) ⟨(Nat.le_of_ble_eq_true rfl), (Nat.le_of_ble_eq_true rfl)⟩ dX16_sum_11 rfl (fun w14 hw14 => ?_)
  refine sx_chg (ws' := [zO r 11 [.int w14.2]]) (st' := [.int (nI w14.1)]) rfl rfl ?_
  refine sx_istore_n X (lv' := [(3, .int (nI w14.1)), (0, .ref r), (1, .int (nI nf)), (2, .int 1)]) dX16_sum_14 rfl (by decide) rfl ?_
  refine sx_iload_n X 0 rfl dX16_sum_15 rfl ?_
  refine sx_iconst X (v := 2) dX16_sum_16 rfl ?_
  by_cases h2 : w14.1 < 2
  · refine sx_icmp_lt X 29 dX16_sum_17 rfl (fun _ => ?_) (fun hc => absurd (nI_lt (b := 2) (by omega) (by decide)) hc)
    refine sx_new X (fs := [.int 0, .int 0, .null, .null]) kX16 qm_1400 qm_1401 qm_40 (by decide) (Nat.le_of_ble_eq_true rfl) (Nat.le_of_ble_eq_true rfl) dX16_sum_29 (fun n15 => ?_)
    refine sx_perm List.perm_append_comm ?_
    refine sx_chg (ws' := [zO n15 14 [.int 0, .int 0, .null, .null], zO r 11 [.int w14.2]]) (st' := [.ref n15]) rfl rfl ?_
    refine sx_dup X dX16_sum_32 rfl ?_
    refine sx_iconst X (v := 0) dX16_sum_33 rfl ?_
    refine sx_aload_n X 1 rfl dX16_sum_34 rfl ?_
    refine sx_bipush X (v := 7) dX16_sum_35 rfl ?_
    refine sx_topi (y := nI 7) rfl ?_
    refine sx_wsub (ws' := [zO r 11 [.int w14.2], zO n15 14 [.int 0, .int 0, .null, .null]]) [1, 0] rfl rfl ?_
    refine sx_pV X (c_dice (l := l) (D := D) (T := T) (sd := sd) r 7 w14.2 (by decide) (by decide)) X.M (wr := [zO n15 14 [.int 0, .int 0, .null, .null]]) (sx_rcv X (q0 := 0) (w := [zO r 11 [.int w14.2], zO n15 14 [.int 0, .int 0, .null, .null]]) rfl rfl) qm_1399 qm_691 qm_692 qm_24 qm_693 hd_dice ⟨rfl, rfl⟩ ⟨Nat.le_of_ble_eq_true rfl, Nat.le_of_ble_eq_true rfl⟩ rfl rfl (Nat.le_of_ble_eq_true rfl) ⟨(Nat.le_of_ble_eq_true rfl), (Nat.le_of_ble_eq_true rfl)⟩ dX16_sum_37 rfl (fun w16 hw16 => ?_)
    refine sx_chg (ws' := [zO r 11 [.int w16.2], zO n15 14 [.int 0, .int 0, .null, .null]]) (st' := [.int (nI w16.1), .int 0, .ref n15, .ref n15]) rfl rfl ?_
    refine sx_if_ne X 52 dX16_sum_40 rfl (fun hc => ?_) (fun hc => ?_)
    · refine sx_aload_n X 1 rfl dX16_sum_52 rfl ?_
      refine sx_bipush X (v := 22) dX16_sum_53 rfl ?_
      refine sx_topi (y := nI 22) rfl ?_
      refine sx_pV X (c_dice (l := l) (D := D) (T := T) (sd := sd) r 22 w16.2 (by decide) (by decide)) X.M (wr := [zO n15 14 [.int 0, .int 0, .null, .null]]) (sx_rcv X (q0 := 0) (w := [zO r 11 [.int w16.2], zO n15 14 [.int 0, .int 0, .null, .null]]) rfl rfl) qm_1399 qm_691 qm_692 qm_24 qm_693 hd_dice ⟨rfl, rfl⟩ ⟨Nat.le_of_ble_eq_true rfl, Nat.le_of_ble_eq_true rfl⟩ rfl rfl (Nat.le_of_ble_eq_true rfl) ⟨(Nat.le_of_ble_eq_true rfl), (Nat.le_of_ble_eq_true rfl)⟩ dX16_sum_55 rfl (fun w17 hw17 => ?_)
      refine sx_chg (ws' := [zO r 11 [.int w17.2], zO n15 14 [.int 0, .int 0, .null, .null]]) (st' := [.int (nI w17.1), .int 0, .ref n15, .ref n15]) rfl rfl ?_
      refine sx_null X dX16_sum_58 ?_
      refine sx_null X dX16_sum_59 ?_
      refine sx_chg (ws' := [zO r 11 [.int w17.2], zO n15 14 [.int 0, .int 0, .null, .null]]) (st' := [.null, .null, .int (nI w17.1), .int (nI 0), .ref n15, .ref n15]) rfl rfl ?_
      refine sx_wsub (ws' := [zO n15 14 [.int 0, .int 0, .null, .null], zO r 11 [.int w17.2]]) [1, 0] rfl rfl ?_
      refine sx_pI X ((c_nd00 (l := l) (D := D) (T := T) (sd := sd) n15 (nI 0) (nI w17.1)).toP) X.M (wr := [zO r 11 [.int w17.2]]) qm_1402 qm_1403 qm_40 qm_1404 rfl hd_ndIn ⟨rfl, rfl⟩ ⟨Nat.le_of_ble_eq_true rfl, Nat.le_of_ble_eq_true rfl⟩ rfl rfl (Nat.le_of_ble_eq_true rfl) ⟨(Nat.le_of_ble_eq_true rfl), (Nat.le_of_ble_eq_true rfl)⟩ dX16_sum_60 rfl (fun u9 hu9 => ?_)
      refine sx_chg (ws' := [zO n15 14 [.int (nI 0), .int (nI w17.1), .null, .null], zO r 11 [.int w17.2]]) (st' := [.ref n15]) rfl rfl ?_
      refine sx_perm (List.perm_middle (l₁ := [zO n15 14 [.int (nI 0), .int (nI w17.1), .null, .null]]) (a := zO r 11 [.int w17.2]) (l₂ := [])) ?_
      refine sx_chg (ws' := [zO r 11 [.int w17.2], zO n15 14 [.int (nI 0), .int (nI w17.1), .null, .null]]) (st' := [.ref n15]) rfl rfl ?_
      refine sx_widen (k' := 3) (n' := 12) (Nat.le_of_ble_eq_true rfl) (Nat.le_of_ble_eq_true rfl) ?_
      refine sx_pick (w17.2, n15, (0, w17.1, none, none), [zO n15 14 [.int (nI 0), .int (nI w17.1), .null, .null]]) ⟨Or.inl ⟨Or.inl ⟨rfl, (Nat.lt_of_lt_of_le hw17 (by decide))⟩, rfl⟩, ⟨.null, .null, List.mem_cons_self, rfl, rfl⟩⟩ ?_
      exact sx_aret X dX16_sum_63 rfl rfl rfl
    · refine sx_aload_n X 1 rfl dX16_sum_43 rfl ?_
      refine sx_ldc X qm_1422 dX16_sum_44 ?_
      refine sx_topi (y := nI 1000000) rfl ?_
      refine sx_pV X (c_dice (l := l) (D := D) (T := T) (sd := sd) r 1000000 w16.2 (by decide) (by decide)) X.M (wr := [zO n15 14 [.int 0, .int 0, .null, .null]]) (sx_rcv X (q0 := 0) (w := [zO r 11 [.int w16.2], zO n15 14 [.int 0, .int 0, .null, .null]]) rfl rfl) qm_1399 qm_691 qm_692 qm_24 qm_693 hd_dice ⟨rfl, rfl⟩ ⟨Nat.le_of_ble_eq_true rfl, Nat.le_of_ble_eq_true rfl⟩ rfl rfl (Nat.le_of_ble_eq_true rfl) ⟨(Nat.le_of_ble_eq_true rfl), (Nat.le_of_ble_eq_true rfl)⟩ dX16_sum_46 rfl (fun w18 hw18 => ?_)
      refine sx_chg (ws' := [zO r 11 [.int w18.2], zO n15 14 [.int 0, .int 0, .null, .null]]) (st' := [.int (nI w18.1), .int 0, .ref n15, .ref n15]) rfl rfl ?_
      refine sx_goto X 58 dX16_sum_49 rfl ?_
      refine sx_null X dX16_sum_58 ?_
      refine sx_null X dX16_sum_59 ?_
      refine sx_chg (ws' := [zO r 11 [.int w18.2], zO n15 14 [.int 0, .int 0, .null, .null]]) (st' := [.null, .null, .int (nI w18.1), .int (nI 0), .ref n15, .ref n15]) rfl rfl ?_
      refine sx_wsub (ws' := [zO n15 14 [.int 0, .int 0, .null, .null], zO r 11 [.int w18.2]]) [1, 0] rfl rfl ?_
      refine sx_pI X ((c_nd00 (l := l) (D := D) (T := T) (sd := sd) n15 (nI 0) (nI w18.1)).toP) X.M (wr := [zO r 11 [.int w18.2]]) qm_1402 qm_1403 qm_40 qm_1404 rfl hd_ndIn ⟨rfl, rfl⟩ ⟨Nat.le_of_ble_eq_true rfl, Nat.le_of_ble_eq_true rfl⟩ rfl rfl (Nat.le_of_ble_eq_true rfl) ⟨(Nat.le_of_ble_eq_true rfl), (Nat.le_of_ble_eq_true rfl)⟩ dX16_sum_60 rfl (fun u9 hu9 => ?_)
      refine sx_chg (ws' := [zO n15 14 [.int (nI 0), .int (nI w18.1), .null, .null], zO r 11 [.int w18.2]]) (st' := [.ref n15]) rfl rfl ?_
      refine sx_perm (List.perm_middle (l₁ := [zO n15 14 [.int (nI 0), .int (nI w18.1), .null, .null]]) (a := zO r 11 [.int w18.2]) (l₂ := [])) ?_
      refine sx_chg (ws' := [zO r 11 [.int w18.2], zO n15 14 [.int (nI 0), .int (nI w18.1), .null, .null]]) (st' := [.ref n15]) rfl rfl ?_
      refine sx_widen (k' := 3) (n' := 12) (Nat.le_of_ble_eq_true rfl) (Nat.le_of_ble_eq_true rfl) ?_
      refine sx_pick (w18.2, n15, (0, w18.1, none, none), [zO n15 14 [.int (nI 0), .int (nI w18.1), .null, .null]]) ⟨Or.inl ⟨Or.inl ⟨rfl, (Nat.lt_of_lt_of_le hw18 (by decide))⟩, rfl⟩, ⟨.null, .null, List.mem_cons_self, rfl, rfl⟩⟩ ?_
      exact sx_aret X dX16_sum_63 rfl rfl rfl
  refine sx_icmp_lt X 29 dX16_sum_17 rfl (fun hc => absurd hc (nI_nlt (a := w14.1) (b := 2) (by omega) (by omega))) (fun _ => ?_)
  refine sx_iload_n X 0 rfl dX16_sum_20 rfl ?_
  refine sx_iconst X (v := 3) dX16_sum_21 rfl ?_
  by_cases h3 : w14.1 < 3
  · refine sx_icmp_ge X 64 dX16_sum_22 rfl (fun hc => absurd hc (nI_ge (a := w14.1) (b := 3) (by omega) (by decide))) (fun _ => ?_)
    refine sx_iload_n X 2 rfl dX16_sum_25 rfl ?_
    by_cases h0 : nf = 0
    · refine sx_if_ne X 64 dX16_sum_26 rfl (fun hc => absurd (show nI nf = 0 from by rw [h0]; rfl) hc) (fun _ => ?_)
      refine sx_new X (fs := [.int 0, .int 0, .null, .null]) kX16 qm_1400 qm_1401 qm_40 (by decide) (Nat.le_of_ble_eq_true rfl) (Nat.le_of_ble_eq_true rfl) dX16_sum_29 (fun n19 => ?_)
      refine sx_perm List.perm_append_comm ?_
      refine sx_chg (ws' := [zO n19 14 [.int 0, .int 0, .null, .null], zO r 11 [.int w14.2]]) (st' := [.ref n19]) rfl rfl ?_
      refine sx_dup X dX16_sum_32 rfl ?_
      refine sx_iconst X (v := 0) dX16_sum_33 rfl ?_
      refine sx_aload_n X 1 rfl dX16_sum_34 rfl ?_
      refine sx_bipush X (v := 7) dX16_sum_35 rfl ?_
      refine sx_topi (y := nI 7) rfl ?_
      refine sx_wsub (ws' := [zO r 11 [.int w14.2], zO n19 14 [.int 0, .int 0, .null, .null]]) [1, 0] rfl rfl ?_
      refine sx_pV X (c_dice (l := l) (D := D) (T := T) (sd := sd) r 7 w14.2 (by decide) (by decide)) X.M (wr := [zO n19 14 [.int 0, .int 0, .null, .null]]) (sx_rcv X (q0 := 0) (w := [zO r 11 [.int w14.2], zO n19 14 [.int 0, .int 0, .null, .null]]) rfl rfl) qm_1399 qm_691 qm_692 qm_24 qm_693 hd_dice ⟨rfl, rfl⟩ ⟨Nat.le_of_ble_eq_true rfl, Nat.le_of_ble_eq_true rfl⟩ rfl rfl (Nat.le_of_ble_eq_true rfl) ⟨(Nat.le_of_ble_eq_true rfl), (Nat.le_of_ble_eq_true rfl)⟩ dX16_sum_37 rfl (fun w20 hw20 => ?_)
      refine sx_chg (ws' := [zO r 11 [.int w20.2], zO n19 14 [.int 0, .int 0, .null, .null]]) (st' := [.int (nI w20.1), .int 0, .ref n19, .ref n19]) rfl rfl ?_
      refine sx_if_ne X 52 dX16_sum_40 rfl (fun hc => ?_) (fun hc => ?_)
      · refine sx_aload_n X 1 rfl dX16_sum_52 rfl ?_
        refine sx_bipush X (v := 22) dX16_sum_53 rfl ?_
        refine sx_topi (y := nI 22) rfl ?_
        refine sx_pV X (c_dice (l := l) (D := D) (T := T) (sd := sd) r 22 w20.2 (by decide) (by decide)) X.M (wr := [zO n19 14 [.int 0, .int 0, .null, .null]]) (sx_rcv X (q0 := 0) (w := [zO r 11 [.int w20.2], zO n19 14 [.int 0, .int 0, .null, .null]]) rfl rfl) qm_1399 qm_691 qm_692 qm_24 qm_693 hd_dice ⟨rfl, rfl⟩ ⟨Nat.le_of_ble_eq_true rfl, Nat.le_of_ble_eq_true rfl⟩ rfl rfl (Nat.le_of_ble_eq_true rfl) ⟨(Nat.le_of_ble_eq_true rfl), (Nat.le_of_ble_eq_true rfl)⟩ dX16_sum_55 rfl (fun w21 hw21 => ?_)
        refine sx_chg (ws' := [zO r 11 [.int w21.2], zO n19 14 [.int 0, .int 0, .null, .null]]) (st' := [.int (nI w21.1), .int 0, .ref n19, .ref n19]) rfl rfl ?_
        refine sx_null X dX16_sum_58 ?_
        refine sx_null X dX16_sum_59 ?_
        refine sx_chg (ws' := [zO r 11 [.int w21.2], zO n19 14 [.int 0, .int 0, .null, .null]]) (st' := [.null, .null, .int (nI w21.1), .int (nI 0), .ref n19, .ref n19]) rfl rfl ?_
        refine sx_wsub (ws' := [zO n19 14 [.int 0, .int 0, .null, .null], zO r 11 [.int w21.2]]) [1, 0] rfl rfl ?_
        refine sx_pI X ((c_nd00 (l := l) (D := D) (T := T) (sd := sd) n19 (nI 0) (nI w21.1)).toP) X.M (wr := [zO r 11 [.int w21.2]]) qm_1402 qm_1403 qm_40 qm_1404 rfl hd_ndIn ⟨rfl, rfl⟩ ⟨Nat.le_of_ble_eq_true rfl, Nat.le_of_ble_eq_true rfl⟩ rfl rfl (Nat.le_of_ble_eq_true rfl) ⟨(Nat.le_of_ble_eq_true rfl), (Nat.le_of_ble_eq_true rfl)⟩ dX16_sum_60 rfl (fun u9 hu9 => ?_)
        refine sx_chg (ws' := [zO n19 14 [.int (nI 0), .int (nI w21.1), .null, .null], zO r 11 [.int w21.2]]) (st' := [.ref n19]) rfl rfl ?_
        refine sx_perm (List.perm_middle (l₁ := [zO n19 14 [.int (nI 0), .int (nI w21.1), .null, .null]]) (a := zO r 11 [.int w21.2]) (l₂ := [])) ?_
        refine sx_chg (ws' := [zO r 11 [.int w21.2], zO n19 14 [.int (nI 0), .int (nI w21.1), .null, .null]]) (st' := [.ref n19]) rfl rfl ?_
        refine sx_widen (k' := 3) (n' := 12) (Nat.le_of_ble_eq_true rfl) (Nat.le_of_ble_eq_true rfl) ?_
        refine sx_pick (w21.2, n19, (0, w21.1, none, none), [zO n19 14 [.int (nI 0), .int (nI w21.1), .null, .null]]) ⟨Or.inl ⟨Or.inl ⟨rfl, (Nat.lt_of_lt_of_le hw21 (by decide))⟩, rfl⟩, ⟨.null, .null, List.mem_cons_self, rfl, rfl⟩⟩ ?_
        exact sx_aret X dX16_sum_63 rfl rfl rfl
      · refine sx_aload_n X 1 rfl dX16_sum_43 rfl ?_
        refine sx_ldc X qm_1422 dX16_sum_44 ?_
        refine sx_topi (y := nI 1000000) rfl ?_
        refine sx_pV X (c_dice (l := l) (D := D) (T := T) (sd := sd) r 1000000 w20.2 (by decide) (by decide)) X.M (wr := [zO n19 14 [.int 0, .int 0, .null, .null]]) (sx_rcv X (q0 := 0) (w := [zO r 11 [.int w20.2], zO n19 14 [.int 0, .int 0, .null, .null]]) rfl rfl) qm_1399 qm_691 qm_692 qm_24 qm_693 hd_dice ⟨rfl, rfl⟩ ⟨Nat.le_of_ble_eq_true rfl, Nat.le_of_ble_eq_true rfl⟩ rfl rfl (Nat.le_of_ble_eq_true rfl) ⟨(Nat.le_of_ble_eq_true rfl), (Nat.le_of_ble_eq_true rfl)⟩ dX16_sum_46 rfl (fun w22 hw22 => ?_)
        refine sx_chg (ws' := [zO r 11 [.int w22.2], zO n19 14 [.int 0, .int 0, .null, .null]]) (st' := [.int (nI w22.1), .int 0, .ref n19, .ref n19]) rfl rfl ?_
        refine sx_goto X 58 dX16_sum_49 rfl ?_
        refine sx_null X dX16_sum_58 ?_
        refine sx_null X dX16_sum_59 ?_
        refine sx_chg (ws' := [zO r 11 [.int w22.2], zO n19 14 [.int 0, .int 0, .null, .null]]) (st' := [.null, .null, .int (nI w22.1), .int (nI 0), .ref n19, .ref n19]) rfl rfl ?_
        refine sx_wsub (ws' := [zO n19 14 [.int 0, .int 0, .null, .null], zO r 11 [.int w22.2]]) [1, 0] rfl rfl ?_
        refine sx_pI X ((c_nd00 (l := l) (D := D) (T := T) (sd := sd) n19 (nI 0) (nI w22.1)).toP) X.M (wr := [zO r 11 [.int w22.2]]) qm_1402 qm_1403 qm_40 qm_1404 rfl hd_ndIn ⟨rfl, rfl⟩ ⟨Nat.le_of_ble_eq_true rfl, Nat.le_of_ble_eq_true rfl⟩ rfl rfl (Nat.le_of_ble_eq_true rfl) ⟨(Nat.le_of_ble_eq_true rfl), (Nat.le_of_ble_eq_true rfl)⟩ dX16_sum_60 rfl (fun u9 hu9 => ?_)
        refine sx_chg (ws' := [zO n19 14 [.int (nI 0), .int (nI w22.1), .null, .null], zO r 11 [.int w22.2]]) (st' := [.ref n19]) rfl rfl ?_
        refine sx_perm (List.perm_middle (l₁ := [zO n19 14 [.int (nI 0), .int (nI w22.1), .null, .null]]) (a := zO r 11 [.int w22.2]) (l₂ := [])) ?_
        refine sx_chg (ws' := [zO r 11 [.int w22.2], zO n19 14 [.int (nI 0), .int (nI w22.1), .null, .null]]) (st' := [.ref n19]) rfl rfl ?_
        refine sx_widen (k' := 3) (n' := 12) (Nat.le_of_ble_eq_true rfl) (Nat.le_of_ble_eq_true rfl) ?_
        refine sx_pick (w22.2, n19, (0, w22.1, none, none), [zO n19 14 [.int (nI 0), .int (nI w22.1), .null, .null]]) ⟨Or.inl ⟨Or.inl ⟨rfl, (Nat.lt_of_lt_of_le hw22 (by decide))⟩, rfl⟩, ⟨.null, .null, List.mem_cons_self, rfl, rfl⟩⟩ ?_
        exact sx_aret X dX16_sum_63 rfl rfl rfl
    refine sx_if_ne X 64 dX16_sum_26 rfl (fun _ => ?_) (fun hc => absurd hc (nI_ne0 (by omega) (by omega)))
    refine sx_iload_n X 0 rfl dX16_sum_64 rfl ?_
    refine sx_iconst X (v := 2) dX16_sum_65 rfl ?_
    refine sx_icmp_ne X 85 dX16_sum_66 rfl (fun hc => absurd (show nI w14.1 = nI 2 from congrArg nI (by omega)) hc) (fun _ => ?_)
    refine sx_new X (fs := [.int 0, .int 0, .null, .null]) kX16 qm_1400 qm_1401 qm_40 (by decide) (Nat.le_of_ble_eq_true rfl) (Nat.le_of_ble_eq_true rfl) dX16_sum_69 (fun n23 => ?_)
    refine sx_perm List.perm_append_comm ?_
    refine sx_chg (ws' := [zO n23 14 [.int 0, .int 0, .null, .null], zO r 11 [.int w14.2]]) (st' := [.ref n23]) rfl rfl ?_
    refine sx_dup X dX16_sum_72 rfl ?_
    refine sx_iconst X (v := 2) dX16_sum_73 rfl ?_
    refine sx_aload_n X 1 rfl dX16_sum_74 rfl ?_
    refine sx_iload_n X 2 rfl dX16_sum_75 rfl ?_
    refine sx_wsub (ws' := [zO r 11 [.int w14.2], zO n23 14 [.int 0, .int 0, .null, .null]]) [1, 0] rfl rfl ?_
    refine sx_pV X (c_dice (l := l) (D := D) (T := T) (sd := sd) r nf w14.2 (by omega) (by omega)) X.M (wr := [zO n23 14 [.int 0, .int 0, .null, .null]]) (sx_rcv X (q0 := 0) (w := [zO r 11 [.int w14.2], zO n23 14 [.int 0, .int 0, .null, .null]]) rfl rfl) qm_1399 qm_691 qm_692 qm_24 qm_693 hd_dice ⟨rfl, rfl⟩ ⟨Nat.le_of_ble_eq_true rfl, Nat.le_of_ble_eq_true rfl⟩ rfl rfl (Nat.le_of_ble_eq_true rfl) ⟨(Nat.le_of_ble_eq_true rfl), (Nat.le_of_ble_eq_true rfl)⟩ dX16_sum_76 rfl (fun w24 hw24 => ?_)
    refine sx_chg (ws' := [zO r 11 [.int w24.2], zO n23 14 [.int 0, .int 0, .null, .null]]) (st' := [.int (nI w24.1), .int 2, .ref n23, .ref n23]) rfl rfl ?_
    refine sx_null X dX16_sum_79 ?_
    refine sx_null X dX16_sum_80 ?_
    refine sx_chg (ws' := [zO r 11 [.int w24.2], zO n23 14 [.int 0, .int 0, .null, .null]]) (st' := [.null, .null, .int (nI w24.1), .int (nI 2), .ref n23, .ref n23]) rfl rfl ?_
    refine sx_wsub (ws' := [zO n23 14 [.int 0, .int 0, .null, .null], zO r 11 [.int w24.2]]) [1, 0] rfl rfl ?_
    refine sx_pI X ((c_nd00 (l := l) (D := D) (T := T) (sd := sd) n23 (nI 2) (nI w24.1)).toP) X.M (wr := [zO r 11 [.int w24.2]]) qm_1402 qm_1403 qm_40 qm_1404 rfl hd_ndIn ⟨rfl, rfl⟩ ⟨Nat.le_of_ble_eq_true rfl, Nat.le_of_ble_eq_true rfl⟩ rfl rfl (Nat.le_of_ble_eq_true rfl) ⟨(Nat.le_of_ble_eq_true rfl), (Nat.le_of_ble_eq_true rfl)⟩ dX16_sum_81 rfl (fun u9 hu9 => ?_)
    refine sx_chg (ws' := [zO n23 14 [.int (nI 2), .int (nI w24.1), .null, .null], zO r 11 [.int w24.2]]) (st' := [.ref n23]) rfl rfl ?_
    refine sx_perm (List.perm_middle (l₁ := [zO n23 14 [.int (nI 2), .int (nI w24.1), .null, .null]]) (a := zO r 11 [.int w24.2]) (l₂ := [])) ?_
    refine sx_chg (ws' := [zO r 11 [.int w24.2], zO n23 14 [.int (nI 2), .int (nI w24.1), .null, .null]]) (st' := [.ref n23]) rfl rfl ?_
    refine sx_widen (k' := 3) (n' := 12) (Nat.le_of_ble_eq_true rfl) (Nat.le_of_ble_eq_true rfl) ?_
    refine sx_pick (w24.2, n23, (2, w24.1, none, none), [zO n23 14 [.int (nI 2), .int (nI w24.1), .null, .null]]) ⟨Or.inl ⟨Or.inr (Or.inr ⟨rfl, hw24⟩), rfl⟩, ⟨.null, .null, List.mem_cons_self, rfl, rfl⟩⟩ ?_
    exact sx_aret X dX16_sum_84 rfl rfl rfl
  refine sx_icmp_ge X 64 dX16_sum_22 rfl (fun _ => ?_) (fun hc => absurd (nI_le (a := 3) (b := w14.1) (by omega) (by omega)) hc)
  refine sx_iload_n X 0 rfl dX16_sum_64 rfl ?_
  refine sx_iconst X (v := 2) dX16_sum_65 rfl ?_
  refine sx_icmp_ne X 85 dX16_sum_66 rfl (fun _ => ?_) (fun hc => absurd hc (fun z => by have := (nI_eq (a := w14.1) (b := 2) (by omega) (by decide)).mp z; omega))
  refine sx_iload_n X 0 rfl dX16_sum_85 rfl ?_
  refine sx_iconst X (v := 5) dX16_sum_86 rfl ?_
  by_cases h5 : w14.1 < 5
  · refine sx_icmp_ge X 107 dX16_sum_87 rfl (fun hc => absurd hc (nI_ge (a := w14.1) (b := 5) (by omega) (by decide))) (fun _ => ?_)
    refine sx_new X (fs := [.int 0, .int 0, .null, .null]) kX16 qm_1400 qm_1401 qm_40 (by decide) (Nat.le_of_ble_eq_true rfl) (Nat.le_of_ble_eq_true rfl) dX16_sum_90 (fun n25 => ?_)
    refine sx_perm List.perm_append_comm ?_
    refine sx_chg (ws' := [zO n25 14 [.int 0, .int 0, .null, .null], zO r 11 [.int w14.2]]) (st' := [.ref n25]) rfl rfl ?_
    refine sx_dup X dX16_sum_93 rfl ?_
    refine sx_iconst X (v := 1) dX16_sum_94 rfl ?_
    refine sx_aload_n X 1 rfl dX16_sum_95 rfl ?_
    refine sx_bipush X (v := 7) dX16_sum_96 rfl ?_
    refine sx_topi (y := nI 7) rfl ?_
    refine sx_wsub (ws' := [zO r 11 [.int w14.2], zO n25 14 [.int 0, .int 0, .null, .null]]) [1, 0] rfl rfl ?_
    refine sx_pV X (c_dice (l := l) (D := D) (T := T) (sd := sd) r 7 w14.2 (by decide) (by decide)) X.M (wr := [zO n25 14 [.int 0, .int 0, .null, .null]]) (sx_rcv X (q0 := 0) (w := [zO r 11 [.int w14.2], zO n25 14 [.int 0, .int 0, .null, .null]]) rfl rfl) qm_1399 qm_691 qm_692 qm_24 qm_693 hd_dice ⟨rfl, rfl⟩ ⟨Nat.le_of_ble_eq_true rfl, Nat.le_of_ble_eq_true rfl⟩ rfl rfl (Nat.le_of_ble_eq_true rfl) ⟨(Nat.le_of_ble_eq_true rfl), (Nat.le_of_ble_eq_true rfl)⟩ dX16_sum_98 rfl (fun w26 hw26 => ?_)
    refine sx_chg (ws' := [zO r 11 [.int w26.2], zO n25 14 [.int 0, .int 0, .null, .null]]) (st' := [.int (nI w26.1), .int 1, .ref n25, .ref n25]) rfl rfl ?_
    refine sx_null X dX16_sum_101 ?_
    refine sx_null X dX16_sum_102 ?_
    refine sx_chg (ws' := [zO r 11 [.int w26.2], zO n25 14 [.int 0, .int 0, .null, .null]]) (st' := [.null, .null, .int (nI w26.1), .int (nI 1), .ref n25, .ref n25]) rfl rfl ?_
    refine sx_wsub (ws' := [zO n25 14 [.int 0, .int 0, .null, .null], zO r 11 [.int w26.2]]) [1, 0] rfl rfl ?_
    refine sx_pI X ((c_nd00 (l := l) (D := D) (T := T) (sd := sd) n25 (nI 1) (nI w26.1)).toP) X.M (wr := [zO r 11 [.int w26.2]]) qm_1402 qm_1403 qm_40 qm_1404 rfl hd_ndIn ⟨rfl, rfl⟩ ⟨Nat.le_of_ble_eq_true rfl, Nat.le_of_ble_eq_true rfl⟩ rfl rfl (Nat.le_of_ble_eq_true rfl) ⟨(Nat.le_of_ble_eq_true rfl), (Nat.le_of_ble_eq_true rfl)⟩ dX16_sum_103 rfl (fun u9 hu9 => ?_)
    refine sx_chg (ws' := [zO n25 14 [.int (nI 1), .int (nI w26.1), .null, .null], zO r 11 [.int w26.2]]) (st' := [.ref n25]) rfl rfl ?_
    refine sx_perm (List.perm_middle (l₁ := [zO n25 14 [.int (nI 1), .int (nI w26.1), .null, .null]]) (a := zO r 11 [.int w26.2]) (l₂ := [])) ?_
    refine sx_chg (ws' := [zO r 11 [.int w26.2], zO n25 14 [.int (nI 1), .int (nI w26.1), .null, .null]]) (st' := [.ref n25]) rfl rfl ?_
    refine sx_widen (k' := 3) (n' := 12) (Nat.le_of_ble_eq_true rfl) (Nat.le_of_ble_eq_true rfl) ?_
    refine sx_pick (w26.2, n25, (1, w26.1, none, none), [zO n25 14 [.int (nI 1), .int (nI w26.1), .null, .null]]) ⟨Or.inl ⟨Or.inr (Or.inl ⟨rfl, hw26⟩), rfl⟩, ⟨.null, .null, List.mem_cons_self, rfl, rfl⟩⟩ ?_
    exact sx_aret X dX16_sum_106 rfl rfl rfl
  refine sx_icmp_ge X 107 dX16_sum_87 rfl (fun _ => ?_) (fun hc => absurd (nI_le (a := 5) (b := w14.1) (by omega) (by omega)) hc)
  refine sx_iload_n X 0 rfl dX16_sum_107 rfl ?_
  refine sx_iconst X (v := 5) dX16_sum_108 rfl ?_
  by_cases h6 : w14.1 = 5
  · refine sx_icmp_ne X 131 dX16_sum_109 rfl (fun hc => absurd (show nI w14.1 = nI 5 from congrArg nI (by omega)) hc) (fun _ => ?_)
    refine sx_new X (fs := [.int 0, .int 0, .null, .null]) kX16 qm_1400 qm_1401 qm_40 (by decide) (Nat.le_of_ble_eq_true rfl) (Nat.le_of_ble_eq_true rfl) dX16_sum_112 (fun n27 => ?_)
    refine sx_perm List.perm_append_comm ?_
    refine sx_chg (ws' := [zO n27 14 [.int 0, .int 0, .null, .null], zO r 11 [.int w14.2]]) (st' := [.ref n27]) rfl rfl ?_
    refine sx_dup X dX16_sum_115 rfl ?_
    refine sx_iconst X (v := 3) dX16_sum_116 rfl ?_
    refine sx_iconst X (v := 0) dX16_sum_117 rfl ?_
    refine sx_aload_n X 1 rfl dX16_sum_118 rfl ?_
    refine sx_iload_n X 2 rfl dX16_sum_119 rfl ?_
    refine sx_iload_n X 3 rfl dX16_sum_120 rfl ?_
    refine sx_iconst X (v := 1) dX16_sum_121 rfl ?_
    refine sx_isub X dX16_sum_122 ?_
    refine sx_topi (y := 0) (by decide) ?_
    refine sx_wsub (ws' := [zO r 11 [.int w14.2], zO n27 14 [.int 0, .int 0, .null, .null]]) [1, 0] rfl rfl ?_
    refine sx_pS X (c_sum0 (l := l) (D := D) (T := T) (sd := sd) h r nf w14.2 hnf) X.M (wr := [zO n27 14 [.int 0, .int 0, .null, .null]]) qm_1419 qm_1420 qm_40 qm_1421 hd_sum ⟨rfl, rfl⟩ ⟨Nat.le_of_ble_eq_true rfl, Nat.le_of_ble_eq_true rfl⟩ rfl rfl (Nat.le_of_ble_eq_true rfl) ⟨(Nat.le_of_ble_eq_true rfl), (Nat.le_of_ble_eq_true rfl)⟩ dX16_sum_123 rfl (fun z28 hz28 => ?_)
    refine sx_chg (ws' := zDi r z28.1 :: (z28.2.2.2 ++ ([zO n27 14 [.int 0, .int 0, .null, .null]]))) (st' := [.ref z28.2.1, .int 0, .int 3, .ref n27, .ref n27]) rfl rfl ?_
    refine sx_perm (List.Perm.cons _ List.perm_append_comm) ?_
    refine sx_chgw (ws' := zO r 11 [.int z28.1] :: zO n27 14 [.int 0, .int 0, .null, .null] :: z28.2.2.2) rfl ?_
    refine sx_null X dX16_sum_126 ?_
    refine sx_chg (ws' := zO r 11 [.int z28.1] :: zO n27 14 [.int 0, .int 0, .null, .null] :: z28.2.2.2) (st' := [.null, .ref z28.2.1, .int (nI 0), .int (nI 3), .ref n27, .ref n27]) rfl rfl ?_
    refine sx_perm (List.perm_middle (l₁ := [zO r 11 [.int z28.1]]) (a := zO n27 14 [.int 0, .int 0, .null, .null]) (l₂ := z28.2.2.2)) ?_
    refine sx_chg (ws' := zO n27 14 [.int 0, .int 0, .null, .null] :: zO r 11 [.int z28.1] :: z28.2.2.2) (st' := [.null, .ref z28.2.1, .int (nI 0), .int (nI 3), .ref n27, .ref n27]) rfl rfl ?_
    refine sx_pI X ((c_nd10 (l := l) (D := D) (T := T) (sd := sd) n27 (nI 3) (nI 0) z28.2.1).toP) X.M (wr := zO r 11 [.int z28.1] :: z28.2.2.2) qm_1402 qm_1403 qm_40 qm_1404 rfl hd_ndIn ⟨rfl, rfl⟩ ⟨Nat.le_of_ble_eq_true rfl, Nat.le_of_ble_eq_true rfl⟩ rfl rfl (Nat.le_of_ble_eq_true rfl) ⟨(Nat.le_of_ble_eq_true rfl), (Nat.le_of_ble_eq_true rfl)⟩ dX16_sum_127 rfl (fun u9 hu9 => ?_)
    refine sx_chg (ws' := zO n27 14 [.int (nI 3), .int (nI 0), .ref z28.2.1, .null] :: zO r 11 [.int z28.1] :: z28.2.2.2) (st' := [.ref n27]) rfl rfl ?_
    refine sx_perm (List.perm_middle (l₁ := [zO n27 14 [.int (nI 3), .int (nI 0), .ref z28.2.1, .null]]) (a := zO r 11 [.int z28.1]) (l₂ := z28.2.2.2)) ?_
    refine sx_chg (ws' := zO r 11 [.int z28.1] :: zO n27 14 [.int (nI 3), .int (nI 0), .ref z28.2.1, .null] :: z28.2.2.2) (st' := [.ref n27]) rfl rfl ?_
    refine sx_widen (k' := 3) (n' := 12) (Nat.le_of_ble_eq_true rfl) (Nat.le_of_ble_eq_true rfl) ?_
    refine sx_pick (z28.1, n27, (3, 0, some z28.2.2.1, none), zO n27 14 [.int (nI 3), .int (nI 0), .ref z28.2.1, .null] :: z28.2.2.2) ⟨Or.inr (Or.inl ⟨rfl, ⟨_, rfl, hz28.1⟩, rfl⟩), ⟨.ref z28.2.1, .null, List.mem_cons_self, ⟨_, rfl, TrW_mono _ _ _ (fun q hq => by simp [hq]) hz28.2⟩, rfl⟩⟩ ?_
    exact sx_aret X dX16_sum_130 rfl rfl rfl
  refine sx_icmp_ne X 131 dX16_sum_109 rfl (fun _ => ?_) (fun hc => absurd hc (fun z => by have := (nI_eq (a := w14.1) (b := 5) (by omega) (by decide)).mp z; omega))
  refine sx_aload_n X 1 rfl dX16_sum_131 rfl ?_
  refine sx_iload_n X 2 rfl dX16_sum_132 rfl ?_
  refine sx_iload_n X 3 rfl dX16_sum_133 rfl ?_
  refine sx_iconst X (v := 1) dX16_sum_134 rfl ?_
  refine sx_isub X dX16_sum_135 ?_
  refine sx_topi (y := 0) (by decide) ?_
  refine sx_pS X (c_sum0 (l := l) (D := D) (T := T) (sd := sd) h r nf w14.2 hnf) X.M (wr := []) qm_1419 qm_1420 qm_40 qm_1421 hd_sum ⟨rfl, rfl⟩ ⟨Nat.le_of_ble_eq_true rfl, Nat.le_of_ble_eq_true rfl⟩ rfl rfl (Nat.le_of_ble_eq_true rfl) ⟨(Nat.le_of_ble_eq_true rfl), (Nat.le_of_ble_eq_true rfl)⟩ dX16_sum_136 rfl (fun z29 hz29 => ?_)
  refine sx_chg (ws' := zDi r z29.1 :: (z29.2.2.2 ++ ([]))) (st' := [.ref z29.2.1]) rfl rfl ?_
  refine sx_perm (List.Perm.cons _ List.perm_append_comm) ?_
  refine sx_chgw (ws' := zO r 11 [.int z29.1] :: z29.2.2.2) rfl ?_
  refine sx_astore X (lv' := [(4, .ref z29.2.1), (3, .int (nI w14.1)), (0, .ref r), (1, .int (nI nf)), (2, .int 1)]) dX16_sum_139 (by decide) rfl ?_
  refine sx_aload_n X 2 rfl dX16_sum_141 rfl ?_
  refine sx_bipush X (v := 6) dX16_sum_142 rfl ?_
  refine sx_topi (y := nI 6) rfl ?_
  refine sx_pV X (c_dice (l := l) (D := D) (T := T) (sd := sd) r 6 z29.1 (by decide) (by decide)) X.M (wr := z29.2.2.2) (sx_rcv X (q0 := 0) (w := zO r 11 [.int z29.1] :: z29.2.2.2) rfl rfl) qm_1399 qm_691 qm_692 qm_24 qm_693 hd_dice ⟨rfl, rfl⟩ ⟨Nat.le_of_ble_eq_true rfl, Nat.le_of_ble_eq_true rfl⟩ rfl rfl (Nat.le_of_ble_eq_true rfl) ⟨(Nat.le_of_ble_eq_true rfl), (Nat.le_of_ble_eq_true rfl)⟩ dX16_sum_144 rfl (fun w30 hw30 => ?_)
  refine sx_chg (ws' := zO r 11 [.int w30.2] :: z29.2.2.2) (st' := [.int (nI w30.1)]) rfl rfl ?_
  refine sx_istore X (lv' := [(5, .int (nI w30.1)), (4, .ref z29.2.1), (3, .int (nI w14.1)), (0, .ref r), (1, .int (nI nf)), (2, .int 1)]) dX16_sum_147 (by decide) rfl ?_
  refine sx_new X (fs := [.int 0, .int 0, .null, .null]) kX16 qm_1400 qm_1401 qm_40 (by decide) (Nat.le_of_ble_eq_true rfl) (Nat.le_of_ble_eq_true rfl) dX16_sum_149 (fun n31 => ?_)
  refine sx_perm List.perm_append_comm ?_
  refine sx_chg (ws' := zO n31 14 [.int 0, .int 0, .null, .null] :: zO r 11 [.int w30.2] :: z29.2.2.2) (st' := [.ref n31]) rfl rfl ?_
  refine sx_dup X dX16_sum_152 rfl ?_
  refine sx_iconst X (v := 4) dX16_sum_153 rfl ?_
  refine sx_iload X 0 rfl dX16_sum_154 ?_
  refine sx_iadd X dX16_sum_156 ?_
  refine sx_topi (y := nI (4 + w30.1)) (nI_add 4 _) ?_
  refine sx_iconst X (v := 0) dX16_sum_157 rfl ?_
  refine sx_aload X 1 rfl dX16_sum_158 ?_
  refine sx_aload_n X 3 rfl dX16_sum_160 rfl ?_
  refine sx_iload_n X 4 rfl dX16_sum_161 rfl ?_
  refine sx_iload_n X 5 rfl dX16_sum_162 rfl ?_
  refine sx_iconst X (v := 1) dX16_sum_163 rfl ?_
  refine sx_isub X dX16_sum_164 ?_
  refine sx_topi (y := 0) (by decide) ?_
  refine sx_perm (List.perm_middle (l₁ := [zO n31 14 [.int 0, .int 0, .null, .null]]) (a := zO r 11 [.int w30.2]) (l₂ := z29.2.2.2)) ?_
  refine sx_chg (ws' := zO r 11 [.int w30.2] :: zO n31 14 [.int 0, .int 0, .null, .null] :: z29.2.2.2) (st' := [.int 0, .int (nI nf), .ref r, .ref z29.2.1, .int 0, .int (nI (4 + w30.1)), .ref n31, .ref n31]) rfl rfl ?_
  refine sx_pS X (c_sum0 (l := l) (D := D) (T := T) (sd := sd) h r nf w30.2 hnf) X.M (wr := zO n31 14 [.int 0, .int 0, .null, .null] :: z29.2.2.2) qm_1419 qm_1420 qm_40 qm_1421 hd_sum ⟨rfl, rfl⟩ ⟨Nat.le_of_ble_eq_true rfl, Nat.le_of_ble_eq_true rfl⟩ rfl rfl (Nat.le_of_ble_eq_true rfl) ⟨(Nat.le_of_ble_eq_true rfl), (Nat.le_of_ble_eq_true rfl)⟩ dX16_sum_165 rfl (fun z32 hz32 => ?_)
  refine sx_chg (ws' := zDi r z32.1 :: (z32.2.2.2 ++ (zO n31 14 [.int 0, .int 0, .null, .null] :: z29.2.2.2))) (st' := [.ref z32.2.1, .ref z29.2.1, .int 0, .int (nI (4 + w30.1)), .ref n31, .ref n31]) rfl rfl ?_
  refine sx_perm (List.Perm.cons _ List.perm_append_comm) ?_
  refine sx_chgw (ws' := zO r 11 [.int z32.1] :: zO n31 14 [.int 0, .int 0, .null, .null] :: (z29.2.2.2 ++ z32.2.2.2)) (by simp) ?_
  refine sx_chg (ws' := zO r 11 [.int z32.1] :: zO n31 14 [.int 0, .int 0, .null, .null] :: (z29.2.2.2 ++ z32.2.2.2)) (st' := [.ref z32.2.1, .ref z29.2.1, .int (nI 0), .int (nI (4 + w30.1)), .ref n31, .ref n31]) rfl rfl ?_
  refine sx_perm (List.perm_middle (l₁ := [zO r 11 [.int z32.1]]) (a := zO n31 14 [.int 0, .int 0, .null, .null]) (l₂ := (z29.2.2.2 ++ z32.2.2.2))) ?_
  refine sx_chg (ws' := zO n31 14 [.int 0, .int 0, .null, .null] :: zO r 11 [.int z32.1] :: (z29.2.2.2 ++ z32.2.2.2)) (st' := [.ref z32.2.1, .ref z29.2.1, .int (nI 0), .int (nI (4 + w30.1)), .ref n31, .ref n31]) rfl rfl ?_
  refine sx_pI X ((c_nd11 (l := l) (D := D) (T := T) (sd := sd) n31 (nI (4 + w30.1)) (nI 0) z29.2.1 z32.2.1).toP) X.M (wr := zO r 11 [.int z32.1] :: (z29.2.2.2 ++ z32.2.2.2)) qm_1402 qm_1403 qm_40 qm_1404 rfl hd_ndIn ⟨rfl, rfl⟩ ⟨Nat.le_of_ble_eq_true rfl, Nat.le_of_ble_eq_true rfl⟩ rfl rfl (Nat.le_of_ble_eq_true rfl) ⟨(Nat.le_of_ble_eq_true rfl), (Nat.le_of_ble_eq_true rfl)⟩ dX16_sum_168 rfl (fun u9 hu9 => ?_)
  refine sx_chg (ws' := zO n31 14 [.int (nI (4 + w30.1)), .int (nI 0), .ref z29.2.1, .ref z32.2.1] :: zO r 11 [.int z32.1] :: (z29.2.2.2 ++ z32.2.2.2)) (st' := [.ref n31]) rfl rfl ?_
  refine sx_perm (List.perm_middle (l₁ := [zO n31 14 [.int (nI (4 + w30.1)), .int (nI 0), .ref z29.2.1, .ref z32.2.1]]) (a := zO r 11 [.int z32.1]) (l₂ := (z29.2.2.2 ++ z32.2.2.2))) ?_
  refine sx_chg (ws' := zO r 11 [.int z32.1] :: zO n31 14 [.int (nI (4 + w30.1)), .int (nI 0), .ref z29.2.1, .ref z32.2.1] :: (z29.2.2.2 ++ z32.2.2.2)) (st' := [.ref n31]) rfl rfl ?_
  refine sx_widen (k' := 3) (n' := 12) (Nat.le_of_ble_eq_true rfl) (Nat.le_of_ble_eq_true rfl) ?_
  refine sx_pick (z32.1, n31, (4 + w30.1, 0, some z29.2.2.1, some z32.2.2.1), zO n31 14 [.int (nI (4 + w30.1)), .int (nI 0), .ref z29.2.1, .ref z32.2.1] :: (z29.2.2.2 ++ z32.2.2.2)) ⟨Or.inr (Or.inr ⟨Nat.le_add_right _ _, (show 4 + w30.1 < 10 by omega), ⟨_, rfl, hz29.1⟩, ⟨_, rfl, hz32.1⟩⟩), ⟨.ref z29.2.1, .ref z32.2.1, List.mem_cons_self, ⟨_, rfl, TrW_mono _ _ _ (fun q hq => by simp [hq]) hz29.2⟩, ⟨_, rfl, TrW_mono _ _ _ (fun q hq => by simp [hq]) hz32.2⟩⟩⟩ ?_
  exact sx_aret X dX16_sum_171 rfl rfl rfl
theorem hd_test : SxDs yX16_test 4 := ⟨by decide, by decide, by decide +kernel⟩
set_option maxRecDepth 100000 in
set_option maxHeartbeats 4000000 in
theorem c_test0 {l : Launch} {D : va_G} {T : Nat → ClassId} {sd : SdT} (h r nf ng : Nat) (x : Int32) (hnf : nf ≤ 8) (hng : ng ≤ 8) : SxKP (SFx sd) l D T yX16_test cX16_test 6 (some (.object "WeatherTeaLaw$Node")) (rmL 6 5 20) [.ref r, .int (nI nf), .int (nI ng), .int 0] [zDi r x] (fun w : Int32 × Nat × Nd (h + 3) × va_W => some (.ref w.2.1)) (fun w => zDi r w.1 :: w.2.2.2) (fun w => T0 nf ng h w.2.2.1 ∧ TrW (h + 3) w.2.1 w.2.2.1 w.2.2.2) 5 20 := by
  refine sx_startP (SFx_ok sd) (by decide +kernel) (Nat.le_of_ble_eq_true rfl) (fun p e s mi args below meth c A X hnm => ?_)
  refine sx_aload_n X 0 rfl dX16_test_0 rfl ?_
  refine sx_iload_n X 3 rfl dX16_test_1 rfl ?_
  refine sx_if_ne X 10 dX16_test_2 rfl (fun hc => absurd rfl hc) (fun _ => ?_)
  refine sx_bipush X (v := 6) dX16_test_5 rfl ?_
  refine sx_goto X 12 dX16_test_7 rfl ?_
  refine sx_topi (y := nI 6) rfl ?_
  refine sx_pV X (c_dice (l := l) (D := D) (T := T) (sd := sd) r 6 x (by decide) (by decide)) X.M (wr := []) (sx_rcv X (q0 := 0) (w := [zO r 11 [.int x]]) rfl rfl) qm_1399 qm_691 qm_692 qm_24 qm_693 hd_dice ⟨rfl, rfl⟩ ⟨Nat.le_of_ble_eq_true rfl, Nat.le_of_ble_eq_true rfl⟩ rfl rfl (Nat.le_of_ble_eq_true rfl) ⟨(Nat.le_of_ble_eq_true rfl), (Nat.le_of_ble_eq_true rfl)⟩ dX16_test_12 rfl (fun w33 hw33 => ?_)
  refine sx_chg (ws' := [zO r 11 [.int w33.2]]) (st' := [.int (nI w33.1)]) rfl rfl ?_
  refine sx_istore X (lv' := [(4, .int (nI w33.1)), (0, .ref r), (1, .int (nI nf)), (2, .int (nI ng)), (3, .int 0)]) dX16_test_15 (by decide) rfl ?_
  refine sx_iload X 0 rfl dX16_test_17 ?_
  by_cases h0 : w33.1 = 0
  · refine sx_if_ne X 43 dX16_test_19 rfl (fun hc => absurd (show nI w33.1 = 0 from by rw [h0]; rfl) hc) (fun _ => ?_)
    refine sx_iload_n X 2 rfl dX16_test_22 rfl ?_
    by_cases hf0 : nf = 0
    · refine sx_if_le X 43 dX16_test_23 rfl (fun _ => ?_) (fun hc => absurd (show nI nf ≤ 0 from by rw [hf0]; decide) hc)
      refine sx_iload X 0 rfl dX16_test_43 ?_
      refine sx_if_le X 78 dX16_test_45 rfl (fun _ => ?_) (fun hc => absurd (show nI w33.1 ≤ 0 from by rw [h0]; decide) hc)
      refine sx_iload X 0 rfl dX16_test_78 ?_
      refine sx_bipush X (v := 6) dX16_test_80 rfl ?_
      refine sx_icmp_ge X 114 dX16_test_82 rfl (fun hc => absurd hc (nI_ge (a := w33.1) (b := 6) (by omega) (by decide))) (fun _ => ?_)
      refine sx_new X (fs := [.int 0, .int 0, .null, .null]) kX16 qm_1400 qm_1401 qm_40 (by decide) (Nat.le_of_ble_eq_true rfl) (Nat.le_of_ble_eq_true rfl) dX16_test_85 (fun n36 => ?_)
      refine sx_perm List.perm_append_comm ?_
      refine sx_chg (ws' := [zO n36 14 [.int 0, .int 0, .null, .null], zO r 11 [.int w33.2]]) (st' := [.ref n36]) rfl rfl ?_
      refine sx_dup X dX16_test_88 rfl ?_
      refine sx_bipush X (v := 10) dX16_test_89 rfl ?_
      refine sx_aload_n X 1 rfl dX16_test_91 rfl ?_
      refine sx_iconst X (v := 5) dX16_test_92 rfl ?_
      refine sx_topi (y := nI 5) rfl ?_
      refine sx_wsub (ws' := [zO r 11 [.int w33.2], zO n36 14 [.int 0, .int 0, .null, .null]]) [1, 0] rfl rfl ?_
      refine sx_pV X (c_dice (l := l) (D := D) (T := T) (sd := sd) r 5 w33.2 (by decide) (by decide)) X.M (wr := [zO n36 14 [.int 0, .int 0, .null, .null]]) (sx_rcv X (q0 := 0) (w := [zO r 11 [.int w33.2], zO n36 14 [.int 0, .int 0, .null, .null]]) rfl rfl) qm_1399 qm_691 qm_692 qm_24 qm_693 hd_dice ⟨rfl, rfl⟩ ⟨Nat.le_of_ble_eq_true rfl, Nat.le_of_ble_eq_true rfl⟩ rfl rfl (Nat.le_of_ble_eq_true rfl) ⟨(Nat.le_of_ble_eq_true rfl), (Nat.le_of_ble_eq_true rfl)⟩ dX16_test_93 rfl (fun w37 hw37 => ?_)
      refine sx_chg (ws' := [zO r 11 [.int w37.2], zO n36 14 [.int 0, .int 0, .null, .null]]) (st' := [.int (nI w37.1), .int 10, .ref n36, .ref n36]) rfl rfl ?_
      refine sx_iadd X dX16_test_96 ?_
      refine sx_topi (y := nI (10 + w37.1)) (nI_add 10 _) ?_
      refine sx_iconst X (v := 0) dX16_test_97 rfl ?_
      refine sx_aload_n X 1 rfl dX16_test_98 rfl ?_
      refine sx_iload_n X 2 rfl dX16_test_99 rfl ?_
      refine sx_iconst X (v := 1) dX16_test_100 rfl ?_
      refine sx_pS X (c_sum1 (l := l) (D := D) (T := T) (sd := sd) h r nf w37.2 hnf) X.M (wr := [zO n36 14 [.int 0, .int 0, .null, .null]]) qm_1419 qm_1420 qm_40 qm_1421 hd_sum ⟨rfl, rfl⟩ ⟨Nat.le_of_ble_eq_true rfl, Nat.le_of_ble_eq_true rfl⟩ rfl rfl (Nat.le_of_ble_eq_true rfl) ⟨(Nat.le_of_ble_eq_true rfl), (Nat.le_of_ble_eq_true rfl)⟩ dX16_test_101 rfl (fun z38 hz38 => ?_)
      refine sx_chg (ws' := zDi r z38.1 :: (z38.2.2.2 ++ ([zO n36 14 [.int 0, .int 0, .null, .null]]))) (st' := [.ref z38.2.1, .int 0, .int (nI (10 + w37.1)), .ref n36, .ref n36]) rfl rfl ?_
      refine sx_perm (List.Perm.cons _ List.perm_append_comm) ?_
      refine sx_chgw (ws' := zO r 11 [.int z38.1] :: zO n36 14 [.int 0, .int 0, .null, .null] :: z38.2.2.2) rfl ?_
      refine sx_aload_n X 1 rfl dX16_test_104 rfl ?_
      refine sx_iload_n X 2 rfl dX16_test_105 rfl ?_
      refine sx_iconst X (v := 0) dX16_test_106 rfl ?_
      refine sx_pS X (c_sum0 (l := l) (D := D) (T := T) (sd := sd) (h + 1) r nf z38.1 hnf) X.M (wr := zO n36 14 [.int 0, .int 0, .null, .null] :: z38.2.2.2) qm_1419 qm_1420 qm_40 qm_1421 hd_sum ⟨rfl, rfl⟩ ⟨Nat.le_of_ble_eq_true rfl, Nat.le_of_ble_eq_true rfl⟩ rfl rfl (Nat.le_of_ble_eq_true rfl) ⟨(Nat.le_of_ble_eq_true rfl), (Nat.le_of_ble_eq_true rfl)⟩ dX16_test_107 rfl (fun z39 hz39 => ?_)
      refine sx_chg (ws' := zDi r z39.1 :: (z39.2.2.2 ++ (zO n36 14 [.int 0, .int 0, .null, .null] :: z38.2.2.2))) (st' := [.ref z39.2.1, .ref z38.2.1, .int 0, .int (nI (10 + w37.1)), .ref n36, .ref n36]) rfl rfl ?_
      refine sx_perm (List.Perm.cons _ List.perm_append_comm) ?_
      refine sx_chgw (ws' := zO r 11 [.int z39.1] :: zO n36 14 [.int 0, .int 0, .null, .null] :: (z38.2.2.2 ++ z39.2.2.2)) (by simp) ?_
      refine sx_chg (ws' := zO r 11 [.int z39.1] :: zO n36 14 [.int 0, .int 0, .null, .null] :: (z38.2.2.2 ++ z39.2.2.2)) (st' := [.ref z39.2.1, .ref z38.2.1, .int (nI 0), .int (nI (10 + w37.1)), .ref n36, .ref n36]) rfl rfl ?_
      refine sx_perm (List.perm_middle (l₁ := [zO r 11 [.int z39.1]]) (a := zO n36 14 [.int 0, .int 0, .null, .null]) (l₂ := (z38.2.2.2 ++ z39.2.2.2))) ?_
      refine sx_chg (ws' := zO n36 14 [.int 0, .int 0, .null, .null] :: zO r 11 [.int z39.1] :: (z38.2.2.2 ++ z39.2.2.2)) (st' := [.ref z39.2.1, .ref z38.2.1, .int (nI 0), .int (nI (10 + w37.1)), .ref n36, .ref n36]) rfl rfl ?_
      refine sx_pI X ((c_nd11 (l := l) (D := D) (T := T) (sd := sd) n36 (nI (10 + w37.1)) (nI 0) z38.2.1 z39.2.1).toP) X.M (wr := zO r 11 [.int z39.1] :: (z38.2.2.2 ++ z39.2.2.2)) qm_1402 qm_1403 qm_40 qm_1404 rfl hd_ndIn ⟨rfl, rfl⟩ ⟨Nat.le_of_ble_eq_true rfl, Nat.le_of_ble_eq_true rfl⟩ rfl rfl (Nat.le_of_ble_eq_true rfl) ⟨(Nat.le_of_ble_eq_true rfl), (Nat.le_of_ble_eq_true rfl)⟩ dX16_test_110 rfl (fun u9 hu9 => ?_)
      refine sx_chg (ws' := zO n36 14 [.int (nI (10 + w37.1)), .int (nI 0), .ref z38.2.1, .ref z39.2.1] :: zO r 11 [.int z39.1] :: (z38.2.2.2 ++ z39.2.2.2)) (st' := [.ref n36]) rfl rfl ?_
      refine sx_perm (List.perm_middle (l₁ := [zO n36 14 [.int (nI (10 + w37.1)), .int (nI 0), .ref z38.2.1, .ref z39.2.1]]) (a := zO r 11 [.int z39.1]) (l₂ := (z38.2.2.2 ++ z39.2.2.2))) ?_
      refine sx_chg (ws' := zO r 11 [.int z39.1] :: zO n36 14 [.int (nI (10 + w37.1)), .int (nI 0), .ref z38.2.1, .ref z39.2.1] :: (z38.2.2.2 ++ z39.2.2.2)) (st' := [.ref n36]) rfl rfl ?_
      refine sx_widen (k' := 5) (n' := 20) (Nat.le_of_ble_eq_true rfl) (Nat.le_of_ble_eq_true rfl) ?_
      refine sx_pick (z39.1, n36, (10 + w37.1, 0, some z38.2.2.1, some z39.2.2.1), zO n36 14 [.int (nI (10 + w37.1)), .int (nI 0), .ref z38.2.1, .ref z39.2.1] :: (z38.2.2.2 ++ z39.2.2.2)) ⟨Or.inr (Or.inr ⟨Nat.le_add_right _ _, (show 10 + w37.1 < 15 by omega), ⟨_, rfl, hz38.1⟩, ⟨_, rfl, hz39.1⟩⟩), ⟨.ref z38.2.1, .ref z39.2.1, List.mem_cons_self, ⟨_, rfl, TrW_mono _ _ _ (fun q hq => by simp [hq]) hz38.2⟩, ⟨_, rfl, TrW_mono _ _ _ (fun q hq => by simp [hq]) hz39.2⟩⟩⟩ ?_
      exact sx_aret X dX16_test_113 rfl rfl rfl
    refine sx_if_le X 43 dX16_test_23 rfl (fun hc => absurd hc (nI_nle (by omega) (by omega))) (fun _ => ?_)
    refine sx_new X (fs := [.int 0, .int 0, .null, .null]) kX16 qm_1400 qm_1401 qm_40 (by decide) (Nat.le_of_ble_eq_true rfl) (Nat.le_of_ble_eq_true rfl) dX16_test_26 (fun n34 => ?_)
    refine sx_perm List.perm_append_comm ?_
    refine sx_chg (ws' := [zO n34 14 [.int 0, .int 0, .null, .null], zO r 11 [.int w33.2]]) (st' := [.ref n34]) rfl rfl ?_
    refine sx_dup X dX16_test_29 rfl ?_
    refine sx_bipush X (v := 15) dX16_test_30 rfl ?_
    refine sx_aload_n X 1 rfl dX16_test_32 rfl ?_
    refine sx_iload_n X 2 rfl dX16_test_33 rfl ?_
    refine sx_wsub (ws' := [zO r 11 [.int w33.2], zO n34 14 [.int 0, .int 0, .null, .null]]) [1, 0] rfl rfl ?_
    refine sx_pV X (c_dice (l := l) (D := D) (T := T) (sd := sd) r nf w33.2 (by omega) (by omega)) X.M (wr := [zO n34 14 [.int 0, .int 0, .null, .null]]) (sx_rcv X (q0 := 0) (w := [zO r 11 [.int w33.2], zO n34 14 [.int 0, .int 0, .null, .null]]) rfl rfl) qm_1399 qm_691 qm_692 qm_24 qm_693 hd_dice ⟨rfl, rfl⟩ ⟨Nat.le_of_ble_eq_true rfl, Nat.le_of_ble_eq_true rfl⟩ rfl rfl (Nat.le_of_ble_eq_true rfl) ⟨(Nat.le_of_ble_eq_true rfl), (Nat.le_of_ble_eq_true rfl)⟩ dX16_test_34 rfl (fun w35 hw35 => ?_)
    refine sx_chg (ws' := [zO r 11 [.int w35.2], zO n34 14 [.int 0, .int 0, .null, .null]]) (st' := [.int (nI w35.1), .int 15, .ref n34, .ref n34]) rfl rfl ?_
    refine sx_null X dX16_test_37 ?_
    refine sx_null X dX16_test_38 ?_
    refine sx_chg (ws' := [zO r 11 [.int w35.2], zO n34 14 [.int 0, .int 0, .null, .null]]) (st' := [.null, .null, .int (nI w35.1), .int (nI 15), .ref n34, .ref n34]) rfl rfl ?_
    refine sx_wsub (ws' := [zO n34 14 [.int 0, .int 0, .null, .null], zO r 11 [.int w35.2]]) [1, 0] rfl rfl ?_
    refine sx_pI X ((c_nd00 (l := l) (D := D) (T := T) (sd := sd) n34 (nI 15) (nI w35.1)).toP) X.M (wr := [zO r 11 [.int w35.2]]) qm_1402 qm_1403 qm_40 qm_1404 rfl hd_ndIn ⟨rfl, rfl⟩ ⟨Nat.le_of_ble_eq_true rfl, Nat.le_of_ble_eq_true rfl⟩ rfl rfl (Nat.le_of_ble_eq_true rfl) ⟨(Nat.le_of_ble_eq_true rfl), (Nat.le_of_ble_eq_true rfl)⟩ dX16_test_39 rfl (fun u9 hu9 => ?_)
    refine sx_chg (ws' := [zO n34 14 [.int (nI 15), .int (nI w35.1), .null, .null], zO r 11 [.int w35.2]]) (st' := [.ref n34]) rfl rfl ?_
    refine sx_perm (List.perm_middle (l₁ := [zO n34 14 [.int (nI 15), .int (nI w35.1), .null, .null]]) (a := zO r 11 [.int w35.2]) (l₂ := [])) ?_
    refine sx_chg (ws' := [zO r 11 [.int w35.2], zO n34 14 [.int (nI 15), .int (nI w35.1), .null, .null]]) (st' := [.ref n34]) rfl rfl ?_
    refine sx_widen (k' := 5) (n' := 20) (Nat.le_of_ble_eq_true rfl) (Nat.le_of_ble_eq_true rfl) ?_
    refine sx_pick (w35.2, n34, (15, w35.1, none, none), [zO n34 14 [.int (nI 15), .int (nI w35.1), .null, .null]]) ⟨Or.inl ⟨rfl, hw35, rfl⟩, ⟨.null, .null, List.mem_cons_self, rfl, rfl⟩⟩ ?_
    exact sx_aret X dX16_test_42 rfl rfl rfl
  refine sx_if_ne X 43 dX16_test_19 rfl (fun _ => ?_) (fun hc => absurd hc (nI_ne0 (by omega) (by omega)))
  refine sx_iload X 0 rfl dX16_test_43 ?_
  refine sx_if_le X 78 dX16_test_45 rfl (fun hc => absurd hc (nI_nle (by omega) (by omega))) (fun _ => ?_)
  refine sx_iload X 0 rfl dX16_test_48 ?_
  refine sx_iconst X (v := 3) dX16_test_50 rfl ?_
  by_cases h3 : w33.1 < 3
  · refine sx_icmp_ge X 78 dX16_test_51 rfl (fun hc => absurd hc (nI_ge (a := w33.1) (b := 3) (by omega) (by decide))) (fun _ => ?_)
    refine sx_iload_n X 3 rfl dX16_test_54 rfl ?_
    by_cases hg0 : ng = 0
    · refine sx_if_le X 78 dX16_test_55 rfl (fun _ => ?_) (fun hc => absurd (show nI ng ≤ 0 from by rw [hg0]; decide) hc)
      refine sx_iload X 0 rfl dX16_test_78 ?_
      refine sx_bipush X (v := 6) dX16_test_80 rfl ?_
      refine sx_icmp_ge X 114 dX16_test_82 rfl (fun hc => absurd hc (nI_ge (a := w33.1) (b := 6) (by omega) (by decide))) (fun _ => ?_)
      refine sx_new X (fs := [.int 0, .int 0, .null, .null]) kX16 qm_1400 qm_1401 qm_40 (by decide) (Nat.le_of_ble_eq_true rfl) (Nat.le_of_ble_eq_true rfl) dX16_test_85 (fun n40 => ?_)
      refine sx_perm List.perm_append_comm ?_
      refine sx_chg (ws' := [zO n40 14 [.int 0, .int 0, .null, .null], zO r 11 [.int w33.2]]) (st' := [.ref n40]) rfl rfl ?_
      refine sx_dup X dX16_test_88 rfl ?_
      refine sx_bipush X (v := 10) dX16_test_89 rfl ?_
      refine sx_aload_n X 1 rfl dX16_test_91 rfl ?_
      refine sx_iconst X (v := 5) dX16_test_92 rfl ?_
      refine sx_topi (y := nI 5) rfl ?_
      refine sx_wsub (ws' := [zO r 11 [.int w33.2], zO n40 14 [.int 0, .int 0, .null, .null]]) [1, 0] rfl rfl ?_
      refine sx_pV X (c_dice (l := l) (D := D) (T := T) (sd := sd) r 5 w33.2 (by decide) (by decide)) X.M (wr := [zO n40 14 [.int 0, .int 0, .null, .null]]) (sx_rcv X (q0 := 0) (w := [zO r 11 [.int w33.2], zO n40 14 [.int 0, .int 0, .null, .null]]) rfl rfl) qm_1399 qm_691 qm_692 qm_24 qm_693 hd_dice ⟨rfl, rfl⟩ ⟨Nat.le_of_ble_eq_true rfl, Nat.le_of_ble_eq_true rfl⟩ rfl rfl (Nat.le_of_ble_eq_true rfl) ⟨(Nat.le_of_ble_eq_true rfl), (Nat.le_of_ble_eq_true rfl)⟩ dX16_test_93 rfl (fun w41 hw41 => ?_)
      refine sx_chg (ws' := [zO r 11 [.int w41.2], zO n40 14 [.int 0, .int 0, .null, .null]]) (st' := [.int (nI w41.1), .int 10, .ref n40, .ref n40]) rfl rfl ?_
      refine sx_iadd X dX16_test_96 ?_
      refine sx_topi (y := nI (10 + w41.1)) (nI_add 10 _) ?_
      refine sx_iconst X (v := 0) dX16_test_97 rfl ?_
      refine sx_aload_n X 1 rfl dX16_test_98 rfl ?_
      refine sx_iload_n X 2 rfl dX16_test_99 rfl ?_
      refine sx_iconst X (v := 1) dX16_test_100 rfl ?_
      refine sx_pS X (c_sum1 (l := l) (D := D) (T := T) (sd := sd) h r nf w41.2 hnf) X.M (wr := [zO n40 14 [.int 0, .int 0, .null, .null]]) qm_1419 qm_1420 qm_40 qm_1421 hd_sum ⟨rfl, rfl⟩ ⟨Nat.le_of_ble_eq_true rfl, Nat.le_of_ble_eq_true rfl⟩ rfl rfl (Nat.le_of_ble_eq_true rfl) ⟨(Nat.le_of_ble_eq_true rfl), (Nat.le_of_ble_eq_true rfl)⟩ dX16_test_101 rfl (fun z42 hz42 => ?_)
      refine sx_chg (ws' := zDi r z42.1 :: (z42.2.2.2 ++ ([zO n40 14 [.int 0, .int 0, .null, .null]]))) (st' := [.ref z42.2.1, .int 0, .int (nI (10 + w41.1)), .ref n40, .ref n40]) rfl rfl ?_
      refine sx_perm (List.Perm.cons _ List.perm_append_comm) ?_
      refine sx_chgw (ws' := zO r 11 [.int z42.1] :: zO n40 14 [.int 0, .int 0, .null, .null] :: z42.2.2.2) rfl ?_
      refine sx_aload_n X 1 rfl dX16_test_104 rfl ?_
      refine sx_iload_n X 2 rfl dX16_test_105 rfl ?_
      refine sx_iconst X (v := 0) dX16_test_106 rfl ?_
      refine sx_pS X (c_sum0 (l := l) (D := D) (T := T) (sd := sd) (h + 1) r nf z42.1 hnf) X.M (wr := zO n40 14 [.int 0, .int 0, .null, .null] :: z42.2.2.2) qm_1419 qm_1420 qm_40 qm_1421 hd_sum ⟨rfl, rfl⟩ ⟨Nat.le_of_ble_eq_true rfl, Nat.le_of_ble_eq_true rfl⟩ rfl rfl (Nat.le_of_ble_eq_true rfl) ⟨(Nat.le_of_ble_eq_true rfl), (Nat.le_of_ble_eq_true rfl)⟩ dX16_test_107 rfl (fun z43 hz43 => ?_)
      refine sx_chg (ws' := zDi r z43.1 :: (z43.2.2.2 ++ (zO n40 14 [.int 0, .int 0, .null, .null] :: z42.2.2.2))) (st' := [.ref z43.2.1, .ref z42.2.1, .int 0, .int (nI (10 + w41.1)), .ref n40, .ref n40]) rfl rfl ?_
      refine sx_perm (List.Perm.cons _ List.perm_append_comm) ?_
      refine sx_chgw (ws' := zO r 11 [.int z43.1] :: zO n40 14 [.int 0, .int 0, .null, .null] :: (z42.2.2.2 ++ z43.2.2.2)) (by simp) ?_
      refine sx_chg (ws' := zO r 11 [.int z43.1] :: zO n40 14 [.int 0, .int 0, .null, .null] :: (z42.2.2.2 ++ z43.2.2.2)) (st' := [.ref z43.2.1, .ref z42.2.1, .int (nI 0), .int (nI (10 + w41.1)), .ref n40, .ref n40]) rfl rfl ?_
      refine sx_perm (List.perm_middle (l₁ := [zO r 11 [.int z43.1]]) (a := zO n40 14 [.int 0, .int 0, .null, .null]) (l₂ := (z42.2.2.2 ++ z43.2.2.2))) ?_
      refine sx_chg (ws' := zO n40 14 [.int 0, .int 0, .null, .null] :: zO r 11 [.int z43.1] :: (z42.2.2.2 ++ z43.2.2.2)) (st' := [.ref z43.2.1, .ref z42.2.1, .int (nI 0), .int (nI (10 + w41.1)), .ref n40, .ref n40]) rfl rfl ?_
      refine sx_pI X ((c_nd11 (l := l) (D := D) (T := T) (sd := sd) n40 (nI (10 + w41.1)) (nI 0) z42.2.1 z43.2.1).toP) X.M (wr := zO r 11 [.int z43.1] :: (z42.2.2.2 ++ z43.2.2.2)) qm_1402 qm_1403 qm_40 qm_1404 rfl hd_ndIn ⟨rfl, rfl⟩ ⟨Nat.le_of_ble_eq_true rfl, Nat.le_of_ble_eq_true rfl⟩ rfl rfl (Nat.le_of_ble_eq_true rfl) ⟨(Nat.le_of_ble_eq_true rfl), (Nat.le_of_ble_eq_true rfl)⟩ dX16_test_110 rfl (fun u9 hu9 => ?_)
      refine sx_chg (ws' := zO n40 14 [.int (nI (10 + w41.1)), .int (nI 0), .ref z42.2.1, .ref z43.2.1] :: zO r 11 [.int z43.1] :: (z42.2.2.2 ++ z43.2.2.2)) (st' := [.ref n40]) rfl rfl ?_
      refine sx_perm (List.perm_middle (l₁ := [zO n40 14 [.int (nI (10 + w41.1)), .int (nI 0), .ref z42.2.1, .ref z43.2.1]]) (a := zO r 11 [.int z43.1]) (l₂ := (z42.2.2.2 ++ z43.2.2.2))) ?_
      refine sx_chg (ws' := zO r 11 [.int z43.1] :: zO n40 14 [.int (nI (10 + w41.1)), .int (nI 0), .ref z42.2.1, .ref z43.2.1] :: (z42.2.2.2 ++ z43.2.2.2)) (st' := [.ref n40]) rfl rfl ?_
      refine sx_widen (k' := 5) (n' := 20) (Nat.le_of_ble_eq_true rfl) (Nat.le_of_ble_eq_true rfl) ?_
      refine sx_pick (z43.1, n40, (10 + w41.1, 0, some z42.2.2.1, some z43.2.2.1), zO n40 14 [.int (nI (10 + w41.1)), .int (nI 0), .ref z42.2.1, .ref z43.2.1] :: (z42.2.2.2 ++ z43.2.2.2)) ⟨Or.inr (Or.inr ⟨Nat.le_add_right _ _, (show 10 + w41.1 < 15 by omega), ⟨_, rfl, hz42.1⟩, ⟨_, rfl, hz43.1⟩⟩), ⟨.ref z42.2.1, .ref z43.2.1, List.mem_cons_self, ⟨_, rfl, TrW_mono _ _ _ (fun q hq => by simp [hq]) hz42.2⟩, ⟨_, rfl, TrW_mono _ _ _ (fun q hq => by simp [hq]) hz43.2⟩⟩⟩ ?_
      exact sx_aret X dX16_test_113 rfl rfl rfl
    refine sx_if_le X 78 dX16_test_55 rfl (fun hc => absurd hc (nI_nle (by omega) (by omega))) (fun _ => ?_)
    refine sx_new X (fs := [.int 0, .int 0, .null, .null]) kX16 qm_1400 qm_1401 qm_40 (by decide) (Nat.le_of_ble_eq_true rfl) (Nat.le_of_ble_eq_true rfl) dX16_test_58 (fun n44 => ?_)
    refine sx_perm List.perm_append_comm ?_
    refine sx_chg (ws' := [zO n44 14 [.int 0, .int 0, .null, .null], zO r 11 [.int w33.2]]) (st' := [.ref n44]) rfl rfl ?_
    refine sx_dup X dX16_test_61 rfl ?_
    refine sx_bipush X (v := 15) dX16_test_62 rfl ?_
    refine sx_iload X 0 rfl dX16_test_64 ?_
    refine sx_iadd X dX16_test_66 ?_
    refine sx_topi (y := nI (15 + w33.1)) (nI_add 15 _) ?_
    refine sx_aload_n X 1 rfl dX16_test_67 rfl ?_
    refine sx_iload_n X 3 rfl dX16_test_68 rfl ?_
    refine sx_wsub (ws' := [zO r 11 [.int w33.2], zO n44 14 [.int 0, .int 0, .null, .null]]) [1, 0] rfl rfl ?_
    refine sx_pV X (c_dice (l := l) (D := D) (T := T) (sd := sd) r ng w33.2 (by omega) (by omega)) X.M (wr := [zO n44 14 [.int 0, .int 0, .null, .null]]) (sx_rcv X (q0 := 0) (w := [zO r 11 [.int w33.2], zO n44 14 [.int 0, .int 0, .null, .null]]) rfl rfl) qm_1399 qm_691 qm_692 qm_24 qm_693 hd_dice ⟨rfl, rfl⟩ ⟨Nat.le_of_ble_eq_true rfl, Nat.le_of_ble_eq_true rfl⟩ rfl rfl (Nat.le_of_ble_eq_true rfl) ⟨(Nat.le_of_ble_eq_true rfl), (Nat.le_of_ble_eq_true rfl)⟩ dX16_test_69 rfl (fun w45 hw45 => ?_)
    refine sx_chg (ws' := [zO r 11 [.int w45.2], zO n44 14 [.int 0, .int 0, .null, .null]]) (st' := [.int (nI w45.1), .int (nI (15 + w33.1)), .ref n44, .ref n44]) rfl rfl ?_
    refine sx_null X dX16_test_72 ?_
    refine sx_null X dX16_test_73 ?_
    refine sx_chg (ws' := [zO r 11 [.int w45.2], zO n44 14 [.int 0, .int 0, .null, .null]]) (st' := [.null, .null, .int (nI w45.1), .int (nI (15 + w33.1)), .ref n44, .ref n44]) rfl rfl ?_
    refine sx_wsub (ws' := [zO n44 14 [.int 0, .int 0, .null, .null], zO r 11 [.int w45.2]]) [1, 0] rfl rfl ?_
    refine sx_pI X ((c_nd00 (l := l) (D := D) (T := T) (sd := sd) n44 (nI (15 + w33.1)) (nI w45.1)).toP) X.M (wr := [zO r 11 [.int w45.2]]) qm_1402 qm_1403 qm_40 qm_1404 rfl hd_ndIn ⟨rfl, rfl⟩ ⟨Nat.le_of_ble_eq_true rfl, Nat.le_of_ble_eq_true rfl⟩ rfl rfl (Nat.le_of_ble_eq_true rfl) ⟨(Nat.le_of_ble_eq_true rfl), (Nat.le_of_ble_eq_true rfl)⟩ dX16_test_74 rfl (fun u9 hu9 => ?_)
    refine sx_chg (ws' := [zO n44 14 [.int (nI (15 + w33.1)), .int (nI w45.1), .null, .null], zO r 11 [.int w45.2]]) (st' := [.ref n44]) rfl rfl ?_
    refine sx_perm (List.perm_middle (l₁ := [zO n44 14 [.int (nI (15 + w33.1)), .int (nI w45.1), .null, .null]]) (a := zO r 11 [.int w45.2]) (l₂ := [])) ?_
    refine sx_chg (ws' := [zO r 11 [.int w45.2], zO n44 14 [.int (nI (15 + w33.1)), .int (nI w45.1), .null, .null]]) (st' := [.ref n44]) rfl rfl ?_
    refine sx_widen (k' := 5) (n' := 20) (Nat.le_of_ble_eq_true rfl) (Nat.le_of_ble_eq_true rfl) ?_
    refine sx_pick (w45.2, n44, (15 + w33.1, w45.1, none, none), [zO n44 14 [.int (nI (15 + w33.1)), .int (nI w45.1), .null, .null]]) ⟨Or.inr (Or.inl ⟨(show 15 + w33.1 = 16 ∨ 15 + w33.1 = 17 by omega), hw45, rfl⟩), ⟨.null, .null, List.mem_cons_self, rfl, rfl⟩⟩ ?_
    exact sx_aret X dX16_test_77 rfl rfl rfl
  refine sx_icmp_ge X 78 dX16_test_51 rfl (fun _ => ?_) (fun hc => absurd (nI_le (a := 3) (b := w33.1) (by omega) (by omega)) hc)
  refine sx_iload X 0 rfl dX16_test_78 ?_
  refine sx_bipush X (v := 6) dX16_test_80 rfl ?_
  refine sx_icmp_ge X 114 dX16_test_82 rfl (fun hc => absurd hc (nI_ge (a := w33.1) (b := 6) (by omega) (by decide))) (fun _ => ?_)
  refine sx_new X (fs := [.int 0, .int 0, .null, .null]) kX16 qm_1400 qm_1401 qm_40 (by decide) (Nat.le_of_ble_eq_true rfl) (Nat.le_of_ble_eq_true rfl) dX16_test_85 (fun n46 => ?_)
  refine sx_perm List.perm_append_comm ?_
  refine sx_chg (ws' := [zO n46 14 [.int 0, .int 0, .null, .null], zO r 11 [.int w33.2]]) (st' := [.ref n46]) rfl rfl ?_
  refine sx_dup X dX16_test_88 rfl ?_
  refine sx_bipush X (v := 10) dX16_test_89 rfl ?_
  refine sx_aload_n X 1 rfl dX16_test_91 rfl ?_
  refine sx_iconst X (v := 5) dX16_test_92 rfl ?_
  refine sx_topi (y := nI 5) rfl ?_
  refine sx_wsub (ws' := [zO r 11 [.int w33.2], zO n46 14 [.int 0, .int 0, .null, .null]]) [1, 0] rfl rfl ?_
  refine sx_pV X (c_dice (l := l) (D := D) (T := T) (sd := sd) r 5 w33.2 (by decide) (by decide)) X.M (wr := [zO n46 14 [.int 0, .int 0, .null, .null]]) (sx_rcv X (q0 := 0) (w := [zO r 11 [.int w33.2], zO n46 14 [.int 0, .int 0, .null, .null]]) rfl rfl) qm_1399 qm_691 qm_692 qm_24 qm_693 hd_dice ⟨rfl, rfl⟩ ⟨Nat.le_of_ble_eq_true rfl, Nat.le_of_ble_eq_true rfl⟩ rfl rfl (Nat.le_of_ble_eq_true rfl) ⟨(Nat.le_of_ble_eq_true rfl), (Nat.le_of_ble_eq_true rfl)⟩ dX16_test_93 rfl (fun w47 hw47 => ?_)
  refine sx_chg (ws' := [zO r 11 [.int w47.2], zO n46 14 [.int 0, .int 0, .null, .null]]) (st' := [.int (nI w47.1), .int 10, .ref n46, .ref n46]) rfl rfl ?_
  refine sx_iadd X dX16_test_96 ?_
  refine sx_topi (y := nI (10 + w47.1)) (nI_add 10 _) ?_
  refine sx_iconst X (v := 0) dX16_test_97 rfl ?_
  refine sx_aload_n X 1 rfl dX16_test_98 rfl ?_
  refine sx_iload_n X 2 rfl dX16_test_99 rfl ?_
  refine sx_iconst X (v := 1) dX16_test_100 rfl ?_
  refine sx_pS X (c_sum1 (l := l) (D := D) (T := T) (sd := sd) h r nf w47.2 hnf) X.M (wr := [zO n46 14 [.int 0, .int 0, .null, .null]]) qm_1419 qm_1420 qm_40 qm_1421 hd_sum ⟨rfl, rfl⟩ ⟨Nat.le_of_ble_eq_true rfl, Nat.le_of_ble_eq_true rfl⟩ rfl rfl (Nat.le_of_ble_eq_true rfl) ⟨(Nat.le_of_ble_eq_true rfl), (Nat.le_of_ble_eq_true rfl)⟩ dX16_test_101 rfl (fun z48 hz48 => ?_)
  refine sx_chg (ws' := zDi r z48.1 :: (z48.2.2.2 ++ ([zO n46 14 [.int 0, .int 0, .null, .null]]))) (st' := [.ref z48.2.1, .int 0, .int (nI (10 + w47.1)), .ref n46, .ref n46]) rfl rfl ?_
  refine sx_perm (List.Perm.cons _ List.perm_append_comm) ?_
  refine sx_chgw (ws' := zO r 11 [.int z48.1] :: zO n46 14 [.int 0, .int 0, .null, .null] :: z48.2.2.2) rfl ?_
  refine sx_aload_n X 1 rfl dX16_test_104 rfl ?_
  refine sx_iload_n X 2 rfl dX16_test_105 rfl ?_
  refine sx_iconst X (v := 0) dX16_test_106 rfl ?_
  refine sx_pS X (c_sum0 (l := l) (D := D) (T := T) (sd := sd) (h + 1) r nf z48.1 hnf) X.M (wr := zO n46 14 [.int 0, .int 0, .null, .null] :: z48.2.2.2) qm_1419 qm_1420 qm_40 qm_1421 hd_sum ⟨rfl, rfl⟩ ⟨Nat.le_of_ble_eq_true rfl, Nat.le_of_ble_eq_true rfl⟩ rfl rfl (Nat.le_of_ble_eq_true rfl) ⟨(Nat.le_of_ble_eq_true rfl), (Nat.le_of_ble_eq_true rfl)⟩ dX16_test_107 rfl (fun z49 hz49 => ?_)
  refine sx_chg (ws' := zDi r z49.1 :: (z49.2.2.2 ++ (zO n46 14 [.int 0, .int 0, .null, .null] :: z48.2.2.2))) (st' := [.ref z49.2.1, .ref z48.2.1, .int 0, .int (nI (10 + w47.1)), .ref n46, .ref n46]) rfl rfl ?_
  refine sx_perm (List.Perm.cons _ List.perm_append_comm) ?_
  refine sx_chgw (ws' := zO r 11 [.int z49.1] :: zO n46 14 [.int 0, .int 0, .null, .null] :: (z48.2.2.2 ++ z49.2.2.2)) (by simp) ?_
  refine sx_chg (ws' := zO r 11 [.int z49.1] :: zO n46 14 [.int 0, .int 0, .null, .null] :: (z48.2.2.2 ++ z49.2.2.2)) (st' := [.ref z49.2.1, .ref z48.2.1, .int (nI 0), .int (nI (10 + w47.1)), .ref n46, .ref n46]) rfl rfl ?_
  refine sx_perm (List.perm_middle (l₁ := [zO r 11 [.int z49.1]]) (a := zO n46 14 [.int 0, .int 0, .null, .null]) (l₂ := (z48.2.2.2 ++ z49.2.2.2))) ?_
  refine sx_chg (ws' := zO n46 14 [.int 0, .int 0, .null, .null] :: zO r 11 [.int z49.1] :: (z48.2.2.2 ++ z49.2.2.2)) (st' := [.ref z49.2.1, .ref z48.2.1, .int (nI 0), .int (nI (10 + w47.1)), .ref n46, .ref n46]) rfl rfl ?_
  refine sx_pI X ((c_nd11 (l := l) (D := D) (T := T) (sd := sd) n46 (nI (10 + w47.1)) (nI 0) z48.2.1 z49.2.1).toP) X.M (wr := zO r 11 [.int z49.1] :: (z48.2.2.2 ++ z49.2.2.2)) qm_1402 qm_1403 qm_40 qm_1404 rfl hd_ndIn ⟨rfl, rfl⟩ ⟨Nat.le_of_ble_eq_true rfl, Nat.le_of_ble_eq_true rfl⟩ rfl rfl (Nat.le_of_ble_eq_true rfl) ⟨(Nat.le_of_ble_eq_true rfl), (Nat.le_of_ble_eq_true rfl)⟩ dX16_test_110 rfl (fun u9 hu9 => ?_)
  refine sx_chg (ws' := zO n46 14 [.int (nI (10 + w47.1)), .int (nI 0), .ref z48.2.1, .ref z49.2.1] :: zO r 11 [.int z49.1] :: (z48.2.2.2 ++ z49.2.2.2)) (st' := [.ref n46]) rfl rfl ?_
  refine sx_perm (List.perm_middle (l₁ := [zO n46 14 [.int (nI (10 + w47.1)), .int (nI 0), .ref z48.2.1, .ref z49.2.1]]) (a := zO r 11 [.int z49.1]) (l₂ := (z48.2.2.2 ++ z49.2.2.2))) ?_
  refine sx_chg (ws' := zO r 11 [.int z49.1] :: zO n46 14 [.int (nI (10 + w47.1)), .int (nI 0), .ref z48.2.1, .ref z49.2.1] :: (z48.2.2.2 ++ z49.2.2.2)) (st' := [.ref n46]) rfl rfl ?_
  refine sx_widen (k' := 5) (n' := 20) (Nat.le_of_ble_eq_true rfl) (Nat.le_of_ble_eq_true rfl) ?_
  refine sx_pick (z49.1, n46, (10 + w47.1, 0, some z48.2.2.1, some z49.2.2.1), zO n46 14 [.int (nI (10 + w47.1)), .int (nI 0), .ref z48.2.1, .ref z49.2.1] :: (z48.2.2.2 ++ z49.2.2.2)) ⟨Or.inr (Or.inr ⟨Nat.le_add_right _ _, (show 10 + w47.1 < 15 by omega), ⟨_, rfl, hz48.1⟩, ⟨_, rfl, hz49.1⟩⟩), ⟨.ref z48.2.1, .ref z49.2.1, List.mem_cons_self, ⟨_, rfl, TrW_mono _ _ _ (fun q hq => by simp [hq]) hz48.2⟩, ⟨_, rfl, TrW_mono _ _ _ (fun q hq => by simp [hq]) hz49.2⟩⟩⟩ ?_
  exact sx_aret X dX16_test_113 rfl rfl rfl
set_option maxRecDepth 100000 in
set_option maxHeartbeats 4000000 in
theorem c_test1 {l : Launch} {D : va_G} {T : Nat → ClassId} {sd : SdT} (h r nf ng : Nat) (x : Int32) (hnf : nf ≤ 8) (hng : ng ≤ 8) : SxKP (SFx sd) l D T yX16_test cX16_test 6 (some (.object "WeatherTeaLaw$Node")) (rmL 8 11 44) [.ref r, .int (nI nf), .int (nI ng), .int 1] [zDi r x] (fun w : Int32 × Nat × Nd (h + 4) × va_W => some (.ref w.2.1)) (fun w => zDi r w.1 :: w.2.2.2) (fun w => T1 nf ng h w.2.2.1 ∧ TrW (h + 4) w.2.1 w.2.2.1 w.2.2.2) 11 44 := by
  refine sx_startP (SFx_ok sd) (by decide +kernel) (Nat.le_of_ble_eq_true rfl) (fun p e s mi args below meth c A X hnm => ?_)
  refine sx_aload_n X 0 rfl dX16_test_0 rfl ?_
  refine sx_iload_n X 3 rfl dX16_test_1 rfl ?_
  refine sx_if_ne X 10 dX16_test_2 rfl (fun _ => ?_) (fun hc => absurd hc (by decide))
  refine sx_bipush X (v := 9) dX16_test_10 rfl ?_
  refine sx_topi (y := nI 9) rfl ?_
  refine sx_pV X (c_dice (l := l) (D := D) (T := T) (sd := sd) r 9 x (by decide) (by decide)) X.M (wr := []) (sx_rcv X (q0 := 0) (w := [zO r 11 [.int x]]) rfl rfl) qm_1399 qm_691 qm_692 qm_24 qm_693 hd_dice ⟨rfl, rfl⟩ ⟨Nat.le_of_ble_eq_true rfl, Nat.le_of_ble_eq_true rfl⟩ rfl rfl (Nat.le_of_ble_eq_true rfl) ⟨(Nat.le_of_ble_eq_true rfl), (Nat.le_of_ble_eq_true rfl)⟩ dX16_test_12 rfl (fun w50 hw50 => ?_)
  refine sx_chg (ws' := [zO r 11 [.int w50.2]]) (st' := [.int (nI w50.1)]) rfl rfl ?_
  refine sx_istore X (lv' := [(4, .int (nI w50.1)), (0, .ref r), (1, .int (nI nf)), (2, .int (nI ng)), (3, .int 1)]) dX16_test_15 (by decide) rfl ?_
  refine sx_iload X 0 rfl dX16_test_17 ?_
  by_cases h0 : w50.1 = 0
  · refine sx_if_ne X 43 dX16_test_19 rfl (fun hc => absurd (show nI w50.1 = 0 from by rw [h0]; rfl) hc) (fun _ => ?_)
    refine sx_iload_n X 2 rfl dX16_test_22 rfl ?_
    by_cases hf0 : nf = 0
    · refine sx_if_le X 43 dX16_test_23 rfl (fun _ => ?_) (fun hc => absurd (show nI nf ≤ 0 from by rw [hf0]; decide) hc)
      refine sx_iload X 0 rfl dX16_test_43 ?_
      refine sx_if_le X 78 dX16_test_45 rfl (fun _ => ?_) (fun hc => absurd (show nI w50.1 ≤ 0 from by rw [h0]; decide) hc)
      refine sx_iload X 0 rfl dX16_test_78 ?_
      refine sx_bipush X (v := 6) dX16_test_80 rfl ?_
      refine sx_icmp_ge X 114 dX16_test_82 rfl (fun hc => absurd hc (nI_ge (a := w50.1) (b := 6) (by omega) (by decide))) (fun _ => ?_)
      refine sx_new X (fs := [.int 0, .int 0, .null, .null]) kX16 qm_1400 qm_1401 qm_40 (by decide) (Nat.le_of_ble_eq_true rfl) (Nat.le_of_ble_eq_true rfl) dX16_test_85 (fun n53 => ?_)
      refine sx_perm List.perm_append_comm ?_
      refine sx_chg (ws' := [zO n53 14 [.int 0, .int 0, .null, .null], zO r 11 [.int w50.2]]) (st' := [.ref n53]) rfl rfl ?_
      refine sx_dup X dX16_test_88 rfl ?_
      refine sx_bipush X (v := 10) dX16_test_89 rfl ?_
      refine sx_aload_n X 1 rfl dX16_test_91 rfl ?_
      refine sx_iconst X (v := 5) dX16_test_92 rfl ?_
      refine sx_topi (y := nI 5) rfl ?_
      refine sx_wsub (ws' := [zO r 11 [.int w50.2], zO n53 14 [.int 0, .int 0, .null, .null]]) [1, 0] rfl rfl ?_
      refine sx_pV X (c_dice (l := l) (D := D) (T := T) (sd := sd) r 5 w50.2 (by decide) (by decide)) X.M (wr := [zO n53 14 [.int 0, .int 0, .null, .null]]) (sx_rcv X (q0 := 0) (w := [zO r 11 [.int w50.2], zO n53 14 [.int 0, .int 0, .null, .null]]) rfl rfl) qm_1399 qm_691 qm_692 qm_24 qm_693 hd_dice ⟨rfl, rfl⟩ ⟨Nat.le_of_ble_eq_true rfl, Nat.le_of_ble_eq_true rfl⟩ rfl rfl (Nat.le_of_ble_eq_true rfl) ⟨(Nat.le_of_ble_eq_true rfl), (Nat.le_of_ble_eq_true rfl)⟩ dX16_test_93 rfl (fun w54 hw54 => ?_)
      refine sx_chg (ws' := [zO r 11 [.int w54.2], zO n53 14 [.int 0, .int 0, .null, .null]]) (st' := [.int (nI w54.1), .int 10, .ref n53, .ref n53]) rfl rfl ?_
      refine sx_iadd X dX16_test_96 ?_
      refine sx_topi (y := nI (10 + w54.1)) (nI_add 10 _) ?_
      refine sx_iconst X (v := 0) dX16_test_97 rfl ?_
      refine sx_aload_n X 1 rfl dX16_test_98 rfl ?_
      refine sx_iload_n X 2 rfl dX16_test_99 rfl ?_
      refine sx_iconst X (v := 1) dX16_test_100 rfl ?_
      refine sx_pS X (c_sum1 (l := l) (D := D) (T := T) (sd := sd) (h + 1) r nf w54.2 hnf) X.M (wr := [zO n53 14 [.int 0, .int 0, .null, .null]]) qm_1419 qm_1420 qm_40 qm_1421 hd_sum ⟨rfl, rfl⟩ ⟨Nat.le_of_ble_eq_true rfl, Nat.le_of_ble_eq_true rfl⟩ rfl rfl (Nat.le_of_ble_eq_true rfl) ⟨(Nat.le_of_ble_eq_true rfl), (Nat.le_of_ble_eq_true rfl)⟩ dX16_test_101 rfl (fun z55 hz55 => ?_)
      refine sx_chg (ws' := zDi r z55.1 :: (z55.2.2.2 ++ ([zO n53 14 [.int 0, .int 0, .null, .null]]))) (st' := [.ref z55.2.1, .int 0, .int (nI (10 + w54.1)), .ref n53, .ref n53]) rfl rfl ?_
      refine sx_perm (List.Perm.cons _ List.perm_append_comm) ?_
      refine sx_chgw (ws' := zO r 11 [.int z55.1] :: zO n53 14 [.int 0, .int 0, .null, .null] :: z55.2.2.2) rfl ?_
      refine sx_aload_n X 1 rfl dX16_test_104 rfl ?_
      refine sx_iload_n X 2 rfl dX16_test_105 rfl ?_
      refine sx_iconst X (v := 0) dX16_test_106 rfl ?_
      refine sx_pS X (c_sum0 (l := l) (D := D) (T := T) (sd := sd) ((h + 1) + 1) r nf z55.1 hnf) X.M (wr := zO n53 14 [.int 0, .int 0, .null, .null] :: z55.2.2.2) qm_1419 qm_1420 qm_40 qm_1421 hd_sum ⟨rfl, rfl⟩ ⟨Nat.le_of_ble_eq_true rfl, Nat.le_of_ble_eq_true rfl⟩ rfl rfl (Nat.le_of_ble_eq_true rfl) ⟨(Nat.le_of_ble_eq_true rfl), (Nat.le_of_ble_eq_true rfl)⟩ dX16_test_107 rfl (fun z56 hz56 => ?_)
      refine sx_chg (ws' := zDi r z56.1 :: (z56.2.2.2 ++ (zO n53 14 [.int 0, .int 0, .null, .null] :: z55.2.2.2))) (st' := [.ref z56.2.1, .ref z55.2.1, .int 0, .int (nI (10 + w54.1)), .ref n53, .ref n53]) rfl rfl ?_
      refine sx_perm (List.Perm.cons _ List.perm_append_comm) ?_
      refine sx_chgw (ws' := zO r 11 [.int z56.1] :: zO n53 14 [.int 0, .int 0, .null, .null] :: (z55.2.2.2 ++ z56.2.2.2)) (by simp) ?_
      refine sx_chg (ws' := zO r 11 [.int z56.1] :: zO n53 14 [.int 0, .int 0, .null, .null] :: (z55.2.2.2 ++ z56.2.2.2)) (st' := [.ref z56.2.1, .ref z55.2.1, .int (nI 0), .int (nI (10 + w54.1)), .ref n53, .ref n53]) rfl rfl ?_
      refine sx_perm (List.perm_middle (l₁ := [zO r 11 [.int z56.1]]) (a := zO n53 14 [.int 0, .int 0, .null, .null]) (l₂ := (z55.2.2.2 ++ z56.2.2.2))) ?_
      refine sx_chg (ws' := zO n53 14 [.int 0, .int 0, .null, .null] :: zO r 11 [.int z56.1] :: (z55.2.2.2 ++ z56.2.2.2)) (st' := [.ref z56.2.1, .ref z55.2.1, .int (nI 0), .int (nI (10 + w54.1)), .ref n53, .ref n53]) rfl rfl ?_
      refine sx_pI X ((c_nd11 (l := l) (D := D) (T := T) (sd := sd) n53 (nI (10 + w54.1)) (nI 0) z55.2.1 z56.2.1).toP) X.M (wr := zO r 11 [.int z56.1] :: (z55.2.2.2 ++ z56.2.2.2)) qm_1402 qm_1403 qm_40 qm_1404 rfl hd_ndIn ⟨rfl, rfl⟩ ⟨Nat.le_of_ble_eq_true rfl, Nat.le_of_ble_eq_true rfl⟩ rfl rfl (Nat.le_of_ble_eq_true rfl) ⟨(Nat.le_of_ble_eq_true rfl), (Nat.le_of_ble_eq_true rfl)⟩ dX16_test_110 rfl (fun u9 hu9 => ?_)
      refine sx_chg (ws' := zO n53 14 [.int (nI (10 + w54.1)), .int (nI 0), .ref z55.2.1, .ref z56.2.1] :: zO r 11 [.int z56.1] :: (z55.2.2.2 ++ z56.2.2.2)) (st' := [.ref n53]) rfl rfl ?_
      refine sx_perm (List.perm_middle (l₁ := [zO n53 14 [.int (nI (10 + w54.1)), .int (nI 0), .ref z55.2.1, .ref z56.2.1]]) (a := zO r 11 [.int z56.1]) (l₂ := (z55.2.2.2 ++ z56.2.2.2))) ?_
      refine sx_chg (ws' := zO r 11 [.int z56.1] :: zO n53 14 [.int (nI (10 + w54.1)), .int (nI 0), .ref z55.2.1, .ref z56.2.1] :: (z55.2.2.2 ++ z56.2.2.2)) (st' := [.ref n53]) rfl rfl ?_
      refine sx_widen (k' := 11) (n' := 44) (Nat.le_of_ble_eq_true rfl) (Nat.le_of_ble_eq_true rfl) ?_
      refine sx_pick (z56.1, n53, (10 + w54.1, 0, some z55.2.2.1, some z56.2.2.1), zO n53 14 [.int (nI (10 + w54.1)), .int (nI 0), .ref z55.2.1, .ref z56.2.1] :: (z55.2.2.2 ++ z56.2.2.2)) ⟨Or.inl (Or.inr (Or.inr ⟨Nat.le_add_right _ _, (show 10 + w54.1 < 15 by omega), ⟨_, rfl, hz55.1⟩, ⟨_, rfl, hz56.1⟩⟩)), ⟨.ref z55.2.1, .ref z56.2.1, List.mem_cons_self, ⟨_, rfl, TrW_mono _ _ _ (fun q hq => by simp [hq]) hz55.2⟩, ⟨_, rfl, TrW_mono _ _ _ (fun q hq => by simp [hq]) hz56.2⟩⟩⟩ ?_
      exact sx_aret X dX16_test_113 rfl rfl rfl
    refine sx_if_le X 43 dX16_test_23 rfl (fun hc => absurd hc (nI_nle (by omega) (by omega))) (fun _ => ?_)
    refine sx_new X (fs := [.int 0, .int 0, .null, .null]) kX16 qm_1400 qm_1401 qm_40 (by decide) (Nat.le_of_ble_eq_true rfl) (Nat.le_of_ble_eq_true rfl) dX16_test_26 (fun n51 => ?_)
    refine sx_perm List.perm_append_comm ?_
    refine sx_chg (ws' := [zO n51 14 [.int 0, .int 0, .null, .null], zO r 11 [.int w50.2]]) (st' := [.ref n51]) rfl rfl ?_
    refine sx_dup X dX16_test_29 rfl ?_
    refine sx_bipush X (v := 15) dX16_test_30 rfl ?_
    refine sx_aload_n X 1 rfl dX16_test_32 rfl ?_
    refine sx_iload_n X 2 rfl dX16_test_33 rfl ?_
    refine sx_wsub (ws' := [zO r 11 [.int w50.2], zO n51 14 [.int 0, .int 0, .null, .null]]) [1, 0] rfl rfl ?_
    refine sx_pV X (c_dice (l := l) (D := D) (T := T) (sd := sd) r nf w50.2 (by omega) (by omega)) X.M (wr := [zO n51 14 [.int 0, .int 0, .null, .null]]) (sx_rcv X (q0 := 0) (w := [zO r 11 [.int w50.2], zO n51 14 [.int 0, .int 0, .null, .null]]) rfl rfl) qm_1399 qm_691 qm_692 qm_24 qm_693 hd_dice ⟨rfl, rfl⟩ ⟨Nat.le_of_ble_eq_true rfl, Nat.le_of_ble_eq_true rfl⟩ rfl rfl (Nat.le_of_ble_eq_true rfl) ⟨(Nat.le_of_ble_eq_true rfl), (Nat.le_of_ble_eq_true rfl)⟩ dX16_test_34 rfl (fun w52 hw52 => ?_)
    refine sx_chg (ws' := [zO r 11 [.int w52.2], zO n51 14 [.int 0, .int 0, .null, .null]]) (st' := [.int (nI w52.1), .int 15, .ref n51, .ref n51]) rfl rfl ?_
    refine sx_null X dX16_test_37 ?_
    refine sx_null X dX16_test_38 ?_
    refine sx_chg (ws' := [zO r 11 [.int w52.2], zO n51 14 [.int 0, .int 0, .null, .null]]) (st' := [.null, .null, .int (nI w52.1), .int (nI 15), .ref n51, .ref n51]) rfl rfl ?_
    refine sx_wsub (ws' := [zO n51 14 [.int 0, .int 0, .null, .null], zO r 11 [.int w52.2]]) [1, 0] rfl rfl ?_
    refine sx_pI X ((c_nd00 (l := l) (D := D) (T := T) (sd := sd) n51 (nI 15) (nI w52.1)).toP) X.M (wr := [zO r 11 [.int w52.2]]) qm_1402 qm_1403 qm_40 qm_1404 rfl hd_ndIn ⟨rfl, rfl⟩ ⟨Nat.le_of_ble_eq_true rfl, Nat.le_of_ble_eq_true rfl⟩ rfl rfl (Nat.le_of_ble_eq_true rfl) ⟨(Nat.le_of_ble_eq_true rfl), (Nat.le_of_ble_eq_true rfl)⟩ dX16_test_39 rfl (fun u9 hu9 => ?_)
    refine sx_chg (ws' := [zO n51 14 [.int (nI 15), .int (nI w52.1), .null, .null], zO r 11 [.int w52.2]]) (st' := [.ref n51]) rfl rfl ?_
    refine sx_perm (List.perm_middle (l₁ := [zO n51 14 [.int (nI 15), .int (nI w52.1), .null, .null]]) (a := zO r 11 [.int w52.2]) (l₂ := [])) ?_
    refine sx_chg (ws' := [zO r 11 [.int w52.2], zO n51 14 [.int (nI 15), .int (nI w52.1), .null, .null]]) (st' := [.ref n51]) rfl rfl ?_
    refine sx_widen (k' := 11) (n' := 44) (Nat.le_of_ble_eq_true rfl) (Nat.le_of_ble_eq_true rfl) ?_
    refine sx_pick (w52.2, n51, (15, w52.1, none, none), [zO n51 14 [.int (nI 15), .int (nI w52.1), .null, .null]]) ⟨Or.inl (Or.inl ⟨rfl, hw52, rfl⟩), ⟨.null, .null, List.mem_cons_self, rfl, rfl⟩⟩ ?_
    exact sx_aret X dX16_test_42 rfl rfl rfl
  refine sx_if_ne X 43 dX16_test_19 rfl (fun _ => ?_) (fun hc => absurd hc (nI_ne0 (by omega) (by omega)))
  refine sx_iload X 0 rfl dX16_test_43 ?_
  refine sx_if_le X 78 dX16_test_45 rfl (fun hc => absurd hc (nI_nle (by omega) (by omega))) (fun _ => ?_)
  refine sx_iload X 0 rfl dX16_test_48 ?_
  refine sx_iconst X (v := 3) dX16_test_50 rfl ?_
  by_cases h3 : w50.1 < 3
  · refine sx_icmp_ge X 78 dX16_test_51 rfl (fun hc => absurd hc (nI_ge (a := w50.1) (b := 3) (by omega) (by decide))) (fun _ => ?_)
    refine sx_iload_n X 3 rfl dX16_test_54 rfl ?_
    by_cases hg0 : ng = 0
    · refine sx_if_le X 78 dX16_test_55 rfl (fun _ => ?_) (fun hc => absurd (show nI ng ≤ 0 from by rw [hg0]; decide) hc)
      refine sx_iload X 0 rfl dX16_test_78 ?_
      refine sx_bipush X (v := 6) dX16_test_80 rfl ?_
      refine sx_icmp_ge X 114 dX16_test_82 rfl (fun hc => absurd hc (nI_ge (a := w50.1) (b := 6) (by omega) (by decide))) (fun _ => ?_)
      refine sx_new X (fs := [.int 0, .int 0, .null, .null]) kX16 qm_1400 qm_1401 qm_40 (by decide) (Nat.le_of_ble_eq_true rfl) (Nat.le_of_ble_eq_true rfl) dX16_test_85 (fun n57 => ?_)
      refine sx_perm List.perm_append_comm ?_
      refine sx_chg (ws' := [zO n57 14 [.int 0, .int 0, .null, .null], zO r 11 [.int w50.2]]) (st' := [.ref n57]) rfl rfl ?_
      refine sx_dup X dX16_test_88 rfl ?_
      refine sx_bipush X (v := 10) dX16_test_89 rfl ?_
      refine sx_aload_n X 1 rfl dX16_test_91 rfl ?_
      refine sx_iconst X (v := 5) dX16_test_92 rfl ?_
      refine sx_topi (y := nI 5) rfl ?_
      refine sx_wsub (ws' := [zO r 11 [.int w50.2], zO n57 14 [.int 0, .int 0, .null, .null]]) [1, 0] rfl rfl ?_
      refine sx_pV X (c_dice (l := l) (D := D) (T := T) (sd := sd) r 5 w50.2 (by decide) (by decide)) X.M (wr := [zO n57 14 [.int 0, .int 0, .null, .null]]) (sx_rcv X (q0 := 0) (w := [zO r 11 [.int w50.2], zO n57 14 [.int 0, .int 0, .null, .null]]) rfl rfl) qm_1399 qm_691 qm_692 qm_24 qm_693 hd_dice ⟨rfl, rfl⟩ ⟨Nat.le_of_ble_eq_true rfl, Nat.le_of_ble_eq_true rfl⟩ rfl rfl (Nat.le_of_ble_eq_true rfl) ⟨(Nat.le_of_ble_eq_true rfl), (Nat.le_of_ble_eq_true rfl)⟩ dX16_test_93 rfl (fun w58 hw58 => ?_)
      refine sx_chg (ws' := [zO r 11 [.int w58.2], zO n57 14 [.int 0, .int 0, .null, .null]]) (st' := [.int (nI w58.1), .int 10, .ref n57, .ref n57]) rfl rfl ?_
      refine sx_iadd X dX16_test_96 ?_
      refine sx_topi (y := nI (10 + w58.1)) (nI_add 10 _) ?_
      refine sx_iconst X (v := 0) dX16_test_97 rfl ?_
      refine sx_aload_n X 1 rfl dX16_test_98 rfl ?_
      refine sx_iload_n X 2 rfl dX16_test_99 rfl ?_
      refine sx_iconst X (v := 1) dX16_test_100 rfl ?_
      refine sx_pS X (c_sum1 (l := l) (D := D) (T := T) (sd := sd) (h + 1) r nf w58.2 hnf) X.M (wr := [zO n57 14 [.int 0, .int 0, .null, .null]]) qm_1419 qm_1420 qm_40 qm_1421 hd_sum ⟨rfl, rfl⟩ ⟨Nat.le_of_ble_eq_true rfl, Nat.le_of_ble_eq_true rfl⟩ rfl rfl (Nat.le_of_ble_eq_true rfl) ⟨(Nat.le_of_ble_eq_true rfl), (Nat.le_of_ble_eq_true rfl)⟩ dX16_test_101 rfl (fun z59 hz59 => ?_)
      refine sx_chg (ws' := zDi r z59.1 :: (z59.2.2.2 ++ ([zO n57 14 [.int 0, .int 0, .null, .null]]))) (st' := [.ref z59.2.1, .int 0, .int (nI (10 + w58.1)), .ref n57, .ref n57]) rfl rfl ?_
      refine sx_perm (List.Perm.cons _ List.perm_append_comm) ?_
      refine sx_chgw (ws' := zO r 11 [.int z59.1] :: zO n57 14 [.int 0, .int 0, .null, .null] :: z59.2.2.2) rfl ?_
      refine sx_aload_n X 1 rfl dX16_test_104 rfl ?_
      refine sx_iload_n X 2 rfl dX16_test_105 rfl ?_
      refine sx_iconst X (v := 0) dX16_test_106 rfl ?_
      refine sx_pS X (c_sum0 (l := l) (D := D) (T := T) (sd := sd) ((h + 1) + 1) r nf z59.1 hnf) X.M (wr := zO n57 14 [.int 0, .int 0, .null, .null] :: z59.2.2.2) qm_1419 qm_1420 qm_40 qm_1421 hd_sum ⟨rfl, rfl⟩ ⟨Nat.le_of_ble_eq_true rfl, Nat.le_of_ble_eq_true rfl⟩ rfl rfl (Nat.le_of_ble_eq_true rfl) ⟨(Nat.le_of_ble_eq_true rfl), (Nat.le_of_ble_eq_true rfl)⟩ dX16_test_107 rfl (fun z60 hz60 => ?_)
      refine sx_chg (ws' := zDi r z60.1 :: (z60.2.2.2 ++ (zO n57 14 [.int 0, .int 0, .null, .null] :: z59.2.2.2))) (st' := [.ref z60.2.1, .ref z59.2.1, .int 0, .int (nI (10 + w58.1)), .ref n57, .ref n57]) rfl rfl ?_
      refine sx_perm (List.Perm.cons _ List.perm_append_comm) ?_
      refine sx_chgw (ws' := zO r 11 [.int z60.1] :: zO n57 14 [.int 0, .int 0, .null, .null] :: (z59.2.2.2 ++ z60.2.2.2)) (by simp) ?_
      refine sx_chg (ws' := zO r 11 [.int z60.1] :: zO n57 14 [.int 0, .int 0, .null, .null] :: (z59.2.2.2 ++ z60.2.2.2)) (st' := [.ref z60.2.1, .ref z59.2.1, .int (nI 0), .int (nI (10 + w58.1)), .ref n57, .ref n57]) rfl rfl ?_
      refine sx_perm (List.perm_middle (l₁ := [zO r 11 [.int z60.1]]) (a := zO n57 14 [.int 0, .int 0, .null, .null]) (l₂ := (z59.2.2.2 ++ z60.2.2.2))) ?_
      refine sx_chg (ws' := zO n57 14 [.int 0, .int 0, .null, .null] :: zO r 11 [.int z60.1] :: (z59.2.2.2 ++ z60.2.2.2)) (st' := [.ref z60.2.1, .ref z59.2.1, .int (nI 0), .int (nI (10 + w58.1)), .ref n57, .ref n57]) rfl rfl ?_
      refine sx_pI X ((c_nd11 (l := l) (D := D) (T := T) (sd := sd) n57 (nI (10 + w58.1)) (nI 0) z59.2.1 z60.2.1).toP) X.M (wr := zO r 11 [.int z60.1] :: (z59.2.2.2 ++ z60.2.2.2)) qm_1402 qm_1403 qm_40 qm_1404 rfl hd_ndIn ⟨rfl, rfl⟩ ⟨Nat.le_of_ble_eq_true rfl, Nat.le_of_ble_eq_true rfl⟩ rfl rfl (Nat.le_of_ble_eq_true rfl) ⟨(Nat.le_of_ble_eq_true rfl), (Nat.le_of_ble_eq_true rfl)⟩ dX16_test_110 rfl (fun u9 hu9 => ?_)
      refine sx_chg (ws' := zO n57 14 [.int (nI (10 + w58.1)), .int (nI 0), .ref z59.2.1, .ref z60.2.1] :: zO r 11 [.int z60.1] :: (z59.2.2.2 ++ z60.2.2.2)) (st' := [.ref n57]) rfl rfl ?_
      refine sx_perm (List.perm_middle (l₁ := [zO n57 14 [.int (nI (10 + w58.1)), .int (nI 0), .ref z59.2.1, .ref z60.2.1]]) (a := zO r 11 [.int z60.1]) (l₂ := (z59.2.2.2 ++ z60.2.2.2))) ?_
      refine sx_chg (ws' := zO r 11 [.int z60.1] :: zO n57 14 [.int (nI (10 + w58.1)), .int (nI 0), .ref z59.2.1, .ref z60.2.1] :: (z59.2.2.2 ++ z60.2.2.2)) (st' := [.ref n57]) rfl rfl ?_
      refine sx_widen (k' := 11) (n' := 44) (Nat.le_of_ble_eq_true rfl) (Nat.le_of_ble_eq_true rfl) ?_
      refine sx_pick (z60.1, n57, (10 + w58.1, 0, some z59.2.2.1, some z60.2.2.1), zO n57 14 [.int (nI (10 + w58.1)), .int (nI 0), .ref z59.2.1, .ref z60.2.1] :: (z59.2.2.2 ++ z60.2.2.2)) ⟨Or.inl (Or.inr (Or.inr ⟨Nat.le_add_right _ _, (show 10 + w58.1 < 15 by omega), ⟨_, rfl, hz59.1⟩, ⟨_, rfl, hz60.1⟩⟩)), ⟨.ref z59.2.1, .ref z60.2.1, List.mem_cons_self, ⟨_, rfl, TrW_mono _ _ _ (fun q hq => by simp [hq]) hz59.2⟩, ⟨_, rfl, TrW_mono _ _ _ (fun q hq => by simp [hq]) hz60.2⟩⟩⟩ ?_
      exact sx_aret X dX16_test_113 rfl rfl rfl
    refine sx_if_le X 78 dX16_test_55 rfl (fun hc => absurd hc (nI_nle (by omega) (by omega))) (fun _ => ?_)
    refine sx_new X (fs := [.int 0, .int 0, .null, .null]) kX16 qm_1400 qm_1401 qm_40 (by decide) (Nat.le_of_ble_eq_true rfl) (Nat.le_of_ble_eq_true rfl) dX16_test_58 (fun n61 => ?_)
    refine sx_perm List.perm_append_comm ?_
    refine sx_chg (ws' := [zO n61 14 [.int 0, .int 0, .null, .null], zO r 11 [.int w50.2]]) (st' := [.ref n61]) rfl rfl ?_
    refine sx_dup X dX16_test_61 rfl ?_
    refine sx_bipush X (v := 15) dX16_test_62 rfl ?_
    refine sx_iload X 0 rfl dX16_test_64 ?_
    refine sx_iadd X dX16_test_66 ?_
    refine sx_topi (y := nI (15 + w50.1)) (nI_add 15 _) ?_
    refine sx_aload_n X 1 rfl dX16_test_67 rfl ?_
    refine sx_iload_n X 3 rfl dX16_test_68 rfl ?_
    refine sx_wsub (ws' := [zO r 11 [.int w50.2], zO n61 14 [.int 0, .int 0, .null, .null]]) [1, 0] rfl rfl ?_
    refine sx_pV X (c_dice (l := l) (D := D) (T := T) (sd := sd) r ng w50.2 (by omega) (by omega)) X.M (wr := [zO n61 14 [.int 0, .int 0, .null, .null]]) (sx_rcv X (q0 := 0) (w := [zO r 11 [.int w50.2], zO n61 14 [.int 0, .int 0, .null, .null]]) rfl rfl) qm_1399 qm_691 qm_692 qm_24 qm_693 hd_dice ⟨rfl, rfl⟩ ⟨Nat.le_of_ble_eq_true rfl, Nat.le_of_ble_eq_true rfl⟩ rfl rfl (Nat.le_of_ble_eq_true rfl) ⟨(Nat.le_of_ble_eq_true rfl), (Nat.le_of_ble_eq_true rfl)⟩ dX16_test_69 rfl (fun w62 hw62 => ?_)
    refine sx_chg (ws' := [zO r 11 [.int w62.2], zO n61 14 [.int 0, .int 0, .null, .null]]) (st' := [.int (nI w62.1), .int (nI (15 + w50.1)), .ref n61, .ref n61]) rfl rfl ?_
    refine sx_null X dX16_test_72 ?_
    refine sx_null X dX16_test_73 ?_
    refine sx_chg (ws' := [zO r 11 [.int w62.2], zO n61 14 [.int 0, .int 0, .null, .null]]) (st' := [.null, .null, .int (nI w62.1), .int (nI (15 + w50.1)), .ref n61, .ref n61]) rfl rfl ?_
    refine sx_wsub (ws' := [zO n61 14 [.int 0, .int 0, .null, .null], zO r 11 [.int w62.2]]) [1, 0] rfl rfl ?_
    refine sx_pI X ((c_nd00 (l := l) (D := D) (T := T) (sd := sd) n61 (nI (15 + w50.1)) (nI w62.1)).toP) X.M (wr := [zO r 11 [.int w62.2]]) qm_1402 qm_1403 qm_40 qm_1404 rfl hd_ndIn ⟨rfl, rfl⟩ ⟨Nat.le_of_ble_eq_true rfl, Nat.le_of_ble_eq_true rfl⟩ rfl rfl (Nat.le_of_ble_eq_true rfl) ⟨(Nat.le_of_ble_eq_true rfl), (Nat.le_of_ble_eq_true rfl)⟩ dX16_test_74 rfl (fun u9 hu9 => ?_)
    refine sx_chg (ws' := [zO n61 14 [.int (nI (15 + w50.1)), .int (nI w62.1), .null, .null], zO r 11 [.int w62.2]]) (st' := [.ref n61]) rfl rfl ?_
    refine sx_perm (List.perm_middle (l₁ := [zO n61 14 [.int (nI (15 + w50.1)), .int (nI w62.1), .null, .null]]) (a := zO r 11 [.int w62.2]) (l₂ := [])) ?_
    refine sx_chg (ws' := [zO r 11 [.int w62.2], zO n61 14 [.int (nI (15 + w50.1)), .int (nI w62.1), .null, .null]]) (st' := [.ref n61]) rfl rfl ?_
    refine sx_widen (k' := 11) (n' := 44) (Nat.le_of_ble_eq_true rfl) (Nat.le_of_ble_eq_true rfl) ?_
    refine sx_pick (w62.2, n61, (15 + w50.1, w62.1, none, none), [zO n61 14 [.int (nI (15 + w50.1)), .int (nI w62.1), .null, .null]]) ⟨Or.inl (Or.inr (Or.inl ⟨(show 15 + w50.1 = 16 ∨ 15 + w50.1 = 17 by omega), hw62, rfl⟩)), ⟨.null, .null, List.mem_cons_self, rfl, rfl⟩⟩ ?_
    exact sx_aret X dX16_test_77 rfl rfl rfl
  refine sx_icmp_ge X 78 dX16_test_51 rfl (fun _ => ?_) (fun hc => absurd (nI_le (a := 3) (b := w50.1) (by omega) (by omega)) hc)
  by_cases h6 : w50.1 < 6
  · refine sx_iload X 0 rfl dX16_test_78 ?_
    refine sx_bipush X (v := 6) dX16_test_80 rfl ?_
    refine sx_icmp_ge X 114 dX16_test_82 rfl (fun hc => absurd hc (nI_ge (a := w50.1) (b := 6) (by omega) (by decide))) (fun _ => ?_)
    refine sx_new X (fs := [.int 0, .int 0, .null, .null]) kX16 qm_1400 qm_1401 qm_40 (by decide) (Nat.le_of_ble_eq_true rfl) (Nat.le_of_ble_eq_true rfl) dX16_test_85 (fun n63 => ?_)
    refine sx_perm List.perm_append_comm ?_
    refine sx_chg (ws' := [zO n63 14 [.int 0, .int 0, .null, .null], zO r 11 [.int w50.2]]) (st' := [.ref n63]) rfl rfl ?_
    refine sx_dup X dX16_test_88 rfl ?_
    refine sx_bipush X (v := 10) dX16_test_89 rfl ?_
    refine sx_aload_n X 1 rfl dX16_test_91 rfl ?_
    refine sx_iconst X (v := 5) dX16_test_92 rfl ?_
    refine sx_topi (y := nI 5) rfl ?_
    refine sx_wsub (ws' := [zO r 11 [.int w50.2], zO n63 14 [.int 0, .int 0, .null, .null]]) [1, 0] rfl rfl ?_
    refine sx_pV X (c_dice (l := l) (D := D) (T := T) (sd := sd) r 5 w50.2 (by decide) (by decide)) X.M (wr := [zO n63 14 [.int 0, .int 0, .null, .null]]) (sx_rcv X (q0 := 0) (w := [zO r 11 [.int w50.2], zO n63 14 [.int 0, .int 0, .null, .null]]) rfl rfl) qm_1399 qm_691 qm_692 qm_24 qm_693 hd_dice ⟨rfl, rfl⟩ ⟨Nat.le_of_ble_eq_true rfl, Nat.le_of_ble_eq_true rfl⟩ rfl rfl (Nat.le_of_ble_eq_true rfl) ⟨(Nat.le_of_ble_eq_true rfl), (Nat.le_of_ble_eq_true rfl)⟩ dX16_test_93 rfl (fun w64 hw64 => ?_)
    refine sx_chg (ws' := [zO r 11 [.int w64.2], zO n63 14 [.int 0, .int 0, .null, .null]]) (st' := [.int (nI w64.1), .int 10, .ref n63, .ref n63]) rfl rfl ?_
    refine sx_iadd X dX16_test_96 ?_
    refine sx_topi (y := nI (10 + w64.1)) (nI_add 10 _) ?_
    refine sx_iconst X (v := 0) dX16_test_97 rfl ?_
    refine sx_aload_n X 1 rfl dX16_test_98 rfl ?_
    refine sx_iload_n X 2 rfl dX16_test_99 rfl ?_
    refine sx_iconst X (v := 1) dX16_test_100 rfl ?_
    refine sx_pS X (c_sum1 (l := l) (D := D) (T := T) (sd := sd) (h + 1) r nf w64.2 hnf) X.M (wr := [zO n63 14 [.int 0, .int 0, .null, .null]]) qm_1419 qm_1420 qm_40 qm_1421 hd_sum ⟨rfl, rfl⟩ ⟨Nat.le_of_ble_eq_true rfl, Nat.le_of_ble_eq_true rfl⟩ rfl rfl (Nat.le_of_ble_eq_true rfl) ⟨(Nat.le_of_ble_eq_true rfl), (Nat.le_of_ble_eq_true rfl)⟩ dX16_test_101 rfl (fun z65 hz65 => ?_)
    refine sx_chg (ws' := zDi r z65.1 :: (z65.2.2.2 ++ ([zO n63 14 [.int 0, .int 0, .null, .null]]))) (st' := [.ref z65.2.1, .int 0, .int (nI (10 + w64.1)), .ref n63, .ref n63]) rfl rfl ?_
    refine sx_perm (List.Perm.cons _ List.perm_append_comm) ?_
    refine sx_chgw (ws' := zO r 11 [.int z65.1] :: zO n63 14 [.int 0, .int 0, .null, .null] :: z65.2.2.2) rfl ?_
    refine sx_aload_n X 1 rfl dX16_test_104 rfl ?_
    refine sx_iload_n X 2 rfl dX16_test_105 rfl ?_
    refine sx_iconst X (v := 0) dX16_test_106 rfl ?_
    refine sx_pS X (c_sum0 (l := l) (D := D) (T := T) (sd := sd) ((h + 1) + 1) r nf z65.1 hnf) X.M (wr := zO n63 14 [.int 0, .int 0, .null, .null] :: z65.2.2.2) qm_1419 qm_1420 qm_40 qm_1421 hd_sum ⟨rfl, rfl⟩ ⟨Nat.le_of_ble_eq_true rfl, Nat.le_of_ble_eq_true rfl⟩ rfl rfl (Nat.le_of_ble_eq_true rfl) ⟨(Nat.le_of_ble_eq_true rfl), (Nat.le_of_ble_eq_true rfl)⟩ dX16_test_107 rfl (fun z66 hz66 => ?_)
    refine sx_chg (ws' := zDi r z66.1 :: (z66.2.2.2 ++ (zO n63 14 [.int 0, .int 0, .null, .null] :: z65.2.2.2))) (st' := [.ref z66.2.1, .ref z65.2.1, .int 0, .int (nI (10 + w64.1)), .ref n63, .ref n63]) rfl rfl ?_
    refine sx_perm (List.Perm.cons _ List.perm_append_comm) ?_
    refine sx_chgw (ws' := zO r 11 [.int z66.1] :: zO n63 14 [.int 0, .int 0, .null, .null] :: (z65.2.2.2 ++ z66.2.2.2)) (by simp) ?_
    refine sx_chg (ws' := zO r 11 [.int z66.1] :: zO n63 14 [.int 0, .int 0, .null, .null] :: (z65.2.2.2 ++ z66.2.2.2)) (st' := [.ref z66.2.1, .ref z65.2.1, .int (nI 0), .int (nI (10 + w64.1)), .ref n63, .ref n63]) rfl rfl ?_
    refine sx_perm (List.perm_middle (l₁ := [zO r 11 [.int z66.1]]) (a := zO n63 14 [.int 0, .int 0, .null, .null]) (l₂ := (z65.2.2.2 ++ z66.2.2.2))) ?_
    refine sx_chg (ws' := zO n63 14 [.int 0, .int 0, .null, .null] :: zO r 11 [.int z66.1] :: (z65.2.2.2 ++ z66.2.2.2)) (st' := [.ref z66.2.1, .ref z65.2.1, .int (nI 0), .int (nI (10 + w64.1)), .ref n63, .ref n63]) rfl rfl ?_
    refine sx_pI X ((c_nd11 (l := l) (D := D) (T := T) (sd := sd) n63 (nI (10 + w64.1)) (nI 0) z65.2.1 z66.2.1).toP) X.M (wr := zO r 11 [.int z66.1] :: (z65.2.2.2 ++ z66.2.2.2)) qm_1402 qm_1403 qm_40 qm_1404 rfl hd_ndIn ⟨rfl, rfl⟩ ⟨Nat.le_of_ble_eq_true rfl, Nat.le_of_ble_eq_true rfl⟩ rfl rfl (Nat.le_of_ble_eq_true rfl) ⟨(Nat.le_of_ble_eq_true rfl), (Nat.le_of_ble_eq_true rfl)⟩ dX16_test_110 rfl (fun u9 hu9 => ?_)
    refine sx_chg (ws' := zO n63 14 [.int (nI (10 + w64.1)), .int (nI 0), .ref z65.2.1, .ref z66.2.1] :: zO r 11 [.int z66.1] :: (z65.2.2.2 ++ z66.2.2.2)) (st' := [.ref n63]) rfl rfl ?_
    refine sx_perm (List.perm_middle (l₁ := [zO n63 14 [.int (nI (10 + w64.1)), .int (nI 0), .ref z65.2.1, .ref z66.2.1]]) (a := zO r 11 [.int z66.1]) (l₂ := (z65.2.2.2 ++ z66.2.2.2))) ?_
    refine sx_chg (ws' := zO r 11 [.int z66.1] :: zO n63 14 [.int (nI (10 + w64.1)), .int (nI 0), .ref z65.2.1, .ref z66.2.1] :: (z65.2.2.2 ++ z66.2.2.2)) (st' := [.ref n63]) rfl rfl ?_
    refine sx_widen (k' := 11) (n' := 44) (Nat.le_of_ble_eq_true rfl) (Nat.le_of_ble_eq_true rfl) ?_
    refine sx_pick (z66.1, n63, (10 + w64.1, 0, some z65.2.2.1, some z66.2.2.1), zO n63 14 [.int (nI (10 + w64.1)), .int (nI 0), .ref z65.2.1, .ref z66.2.1] :: (z65.2.2.2 ++ z66.2.2.2)) ⟨Or.inl (Or.inr (Or.inr ⟨Nat.le_add_right _ _, (show 10 + w64.1 < 15 by omega), ⟨_, rfl, hz65.1⟩, ⟨_, rfl, hz66.1⟩⟩)), ⟨.ref z65.2.1, .ref z66.2.1, List.mem_cons_self, ⟨_, rfl, TrW_mono _ _ _ (fun q hq => by simp [hq]) hz65.2⟩, ⟨_, rfl, TrW_mono _ _ _ (fun q hq => by simp [hq]) hz66.2⟩⟩⟩ ?_
    exact sx_aret X dX16_test_113 rfl rfl rfl
  refine sx_iload X 0 rfl dX16_test_78 ?_
  refine sx_bipush X (v := 6) dX16_test_80 rfl ?_
  refine sx_icmp_ge X 114 dX16_test_82 rfl (fun _ => ?_) (fun hc => absurd (nI_le (a := 6) (b := w50.1) (by omega) (by omega)) hc)
  refine sx_aload_n X 1 rfl dX16_test_114 rfl ?_
  refine sx_iload_n X 2 rfl dX16_test_115 rfl ?_
  refine sx_iload_n X 3 rfl dX16_test_116 rfl ?_
  refine sx_iload_n X 4 rfl dX16_test_117 rfl ?_
  refine sx_iconst X (v := 1) dX16_test_118 rfl ?_
  refine sx_isub X dX16_test_119 ?_
  refine sx_topi (y := 0) (by decide) ?_
  refine sx_pS X (c_test0 (l := l) (D := D) (T := T) (sd := sd) h r nf ng w50.2 hnf hng) X.M (wr := []) qm_1423 qm_1397 qm_40 qm_1398 hd_test ⟨rfl, rfl⟩ ⟨Nat.le_of_ble_eq_true rfl, Nat.le_of_ble_eq_true rfl⟩ rfl rfl (Nat.le_of_ble_eq_true rfl) ⟨(Nat.le_of_ble_eq_true rfl), (Nat.le_of_ble_eq_true rfl)⟩ dX16_test_120 rfl (fun z67 hz67 => ?_)
  refine sx_chg (ws' := zDi r z67.1 :: (z67.2.2.2 ++ ([]))) (st' := [.ref z67.2.1]) rfl rfl ?_
  refine sx_perm (List.Perm.cons _ List.perm_append_comm) ?_
  refine sx_chgw (ws' := zO r 11 [.int z67.1] :: z67.2.2.2) rfl ?_
  refine sx_astore X (lv' := [(5, .ref z67.2.1), (4, .int (nI w50.1)), (0, .ref r), (1, .int (nI nf)), (2, .int (nI ng)), (3, .int 1)]) dX16_test_123 (by decide) rfl ?_
  refine sx_new X (fs := [.int 0, .int 0, .null, .null]) kX16 qm_1400 qm_1401 qm_40 (by decide) (Nat.le_of_ble_eq_true rfl) (Nat.le_of_ble_eq_true rfl) dX16_test_125 (fun n68 => ?_)
  refine sx_perm List.perm_append_comm ?_
  refine sx_chg (ws' := zO n68 14 [.int 0, .int 0, .null, .null] :: zO r 11 [.int z67.1] :: z67.2.2.2) (st' := [.ref n68]) rfl rfl ?_
  refine sx_dup X dX16_test_128 rfl ?_
  refine sx_bipush X (v := 12) dX16_test_129 rfl ?_
  refine sx_iload X 1 rfl dX16_test_131 ?_
  refine sx_iadd X dX16_test_133 ?_
  refine sx_topi (y := nI (12 + w50.1)) (nI_add 12 _) ?_
  refine sx_iconst X (v := 0) dX16_test_134 rfl ?_
  refine sx_aload X 0 rfl dX16_test_135 ?_
  refine sx_iload X 1 rfl dX16_test_137 ?_
  refine sx_bipush X (v := 6) dX16_test_139 rfl ?_
  by_cases h7 : w50.1 = 6
  · refine sx_icmp_ne X 148 dX16_test_141 rfl (fun hc => absurd (show nI w50.1 = nI 6 from congrArg nI (by omega)) hc) (fun _ => ?_)
    refine sx_null X dX16_test_144 ?_
    refine sx_goto X 157 dX16_test_145 rfl ?_
    refine sx_chg (ws' := zO n68 14 [.int 0, .int 0, .null, .null] :: zO r 11 [.int z67.1] :: z67.2.2.2) (st' := [.null, .ref z67.2.1, .int (nI 0), .int (nI 18), .ref n68, .ref n68]) rfl (by rw [show (12 + w50.1) = 18 by omega]; rfl) ?_
    refine sx_pI X ((c_nd10 (l := l) (D := D) (T := T) (sd := sd) n68 (nI 18) (nI 0) z67.2.1).toP) X.M (wr := zO r 11 [.int z67.1] :: z67.2.2.2) qm_1402 qm_1403 qm_40 qm_1404 rfl hd_ndIn ⟨rfl, rfl⟩ ⟨Nat.le_of_ble_eq_true rfl, Nat.le_of_ble_eq_true rfl⟩ rfl rfl (Nat.le_of_ble_eq_true rfl) ⟨(Nat.le_of_ble_eq_true rfl), (Nat.le_of_ble_eq_true rfl)⟩ dX16_test_157 rfl (fun u9 hu9 => ?_)
    refine sx_chg (ws' := zO n68 14 [.int (nI 18), .int (nI 0), .ref z67.2.1, .null] :: zO r 11 [.int z67.1] :: z67.2.2.2) (st' := [.ref n68]) rfl rfl ?_
    refine sx_perm (List.perm_middle (l₁ := [zO n68 14 [.int (nI 18), .int (nI 0), .ref z67.2.1, .null]]) (a := zO r 11 [.int z67.1]) (l₂ := z67.2.2.2)) ?_
    refine sx_chg (ws' := zO r 11 [.int z67.1] :: zO n68 14 [.int (nI 18), .int (nI 0), .ref z67.2.1, .null] :: z67.2.2.2) (st' := [.ref n68]) rfl rfl ?_
    refine sx_widen (k' := 11) (n' := 44) (Nat.le_of_ble_eq_true rfl) (Nat.le_of_ble_eq_true rfl) ?_
    refine sx_pick (z67.1, n68, (18, 0, some z67.2.2.1, none), zO n68 14 [.int (nI 18), .int (nI 0), .ref z67.2.1, .null] :: z67.2.2.2) ⟨Or.inr (Or.inl ⟨rfl, ⟨_, rfl, hz67.1⟩, rfl⟩), ⟨.ref z67.2.1, .null, List.mem_cons_self, ⟨_, rfl, TrW_mono _ _ _ (fun q hq => by simp [hq]) hz67.2⟩, rfl⟩⟩ ?_
    exact sx_aret X dX16_test_160 rfl rfl rfl
  refine sx_icmp_ne X 148 dX16_test_141 rfl (fun _ => ?_) (fun hc => absurd hc (fun z => by have := (nI_eq (a := w50.1) (b := 6) (by omega) (by decide)).mp z; omega))
  refine sx_aload_n X 2 rfl dX16_test_148 rfl ?_
  refine sx_iload_n X 3 rfl dX16_test_149 rfl ?_
  refine sx_iload_n X 4 rfl dX16_test_150 rfl ?_
  refine sx_iload_n X 5 rfl dX16_test_151 rfl ?_
  refine sx_iconst X (v := 1) dX16_test_152 rfl ?_
  refine sx_isub X dX16_test_153 ?_
  refine sx_topi (y := 0) (by decide) ?_
  refine sx_perm (List.perm_middle (l₁ := [zO n68 14 [.int 0, .int 0, .null, .null]]) (a := zO r 11 [.int z67.1]) (l₂ := z67.2.2.2)) ?_
  refine sx_chg (ws' := zO r 11 [.int z67.1] :: zO n68 14 [.int 0, .int 0, .null, .null] :: z67.2.2.2) (st' := [.int 0, .int (nI ng), .int (nI nf), .ref r, .ref z67.2.1, .int 0, .int (nI (12 + w50.1)), .ref n68, .ref n68]) rfl rfl ?_
  refine sx_pS X (c_test0 (l := l) (D := D) (T := T) (sd := sd) h r nf ng z67.1 hnf hng) X.M (wr := zO n68 14 [.int 0, .int 0, .null, .null] :: z67.2.2.2) qm_1423 qm_1397 qm_40 qm_1398 hd_test ⟨rfl, rfl⟩ ⟨Nat.le_of_ble_eq_true rfl, Nat.le_of_ble_eq_true rfl⟩ rfl rfl (Nat.le_of_ble_eq_true rfl) ⟨(Nat.le_of_ble_eq_true rfl), (Nat.le_of_ble_eq_true rfl)⟩ dX16_test_154 rfl (fun z69 hz69 => ?_)
  refine sx_chg (ws' := zDi r z69.1 :: (z69.2.2.2 ++ (zO n68 14 [.int 0, .int 0, .null, .null] :: z67.2.2.2))) (st' := [.ref z69.2.1, .ref z67.2.1, .int 0, .int (nI (12 + w50.1)), .ref n68, .ref n68]) rfl rfl ?_
  refine sx_perm (List.Perm.cons _ List.perm_append_comm) ?_
  refine sx_chgw (ws' := zO r 11 [.int z69.1] :: zO n68 14 [.int 0, .int 0, .null, .null] :: (z67.2.2.2 ++ z69.2.2.2)) (by simp) ?_
  refine sx_chg (ws' := zO r 11 [.int z69.1] :: zO n68 14 [.int 0, .int 0, .null, .null] :: (z67.2.2.2 ++ z69.2.2.2)) (st' := [.ref z69.2.1, .ref z67.2.1, .int (nI 0), .int (nI (12 + w50.1)), .ref n68, .ref n68]) rfl rfl ?_
  refine sx_perm (List.perm_middle (l₁ := [zO r 11 [.int z69.1]]) (a := zO n68 14 [.int 0, .int 0, .null, .null]) (l₂ := (z67.2.2.2 ++ z69.2.2.2))) ?_
  refine sx_chg (ws' := zO n68 14 [.int 0, .int 0, .null, .null] :: zO r 11 [.int z69.1] :: (z67.2.2.2 ++ z69.2.2.2)) (st' := [.ref z69.2.1, .ref z67.2.1, .int (nI 0), .int (nI (12 + w50.1)), .ref n68, .ref n68]) rfl rfl ?_
  refine sx_pI X ((c_nd11 (l := l) (D := D) (T := T) (sd := sd) n68 (nI (12 + w50.1)) (nI 0) z67.2.1 z69.2.1).toP) X.M (wr := zO r 11 [.int z69.1] :: (z67.2.2.2 ++ z69.2.2.2)) qm_1402 qm_1403 qm_40 qm_1404 rfl hd_ndIn ⟨rfl, rfl⟩ ⟨Nat.le_of_ble_eq_true rfl, Nat.le_of_ble_eq_true rfl⟩ rfl rfl (Nat.le_of_ble_eq_true rfl) ⟨(Nat.le_of_ble_eq_true rfl), (Nat.le_of_ble_eq_true rfl)⟩ dX16_test_157 rfl (fun u9 hu9 => ?_)
  refine sx_chg (ws' := zO n68 14 [.int (nI (12 + w50.1)), .int (nI 0), .ref z67.2.1, .ref z69.2.1] :: zO r 11 [.int z69.1] :: (z67.2.2.2 ++ z69.2.2.2)) (st' := [.ref n68]) rfl rfl ?_
  refine sx_perm (List.perm_middle (l₁ := [zO n68 14 [.int (nI (12 + w50.1)), .int (nI 0), .ref z67.2.1, .ref z69.2.1]]) (a := zO r 11 [.int z69.1]) (l₂ := (z67.2.2.2 ++ z69.2.2.2))) ?_
  refine sx_chg (ws' := zO r 11 [.int z69.1] :: zO n68 14 [.int (nI (12 + w50.1)), .int (nI 0), .ref z67.2.1, .ref z69.2.1] :: (z67.2.2.2 ++ z69.2.2.2)) (st' := [.ref n68]) rfl rfl ?_
  refine sx_widen (k' := 11) (n' := 44) (Nat.le_of_ble_eq_true rfl) (Nat.le_of_ble_eq_true rfl) ?_
  refine sx_pick (z69.1, n68, (12 + w50.1, 0, some z67.2.2.1, some z69.2.2.1), zO n68 14 [.int (nI (12 + w50.1)), .int (nI 0), .ref z67.2.1, .ref z69.2.1] :: (z67.2.2.2 ++ z69.2.2.2)) ⟨Or.inr (Or.inr ⟨(show 12 + w50.1 = 19 ∨ 12 + w50.1 = 20 by omega), ⟨_, rfl, hz67.1⟩, ⟨_, rfl, hz69.1⟩⟩), ⟨.ref z67.2.1, .ref z69.2.1, List.mem_cons_self, ⟨_, rfl, TrW_mono _ _ _ (fun q hq => by simp [hq]) hz67.2⟩, ⟨_, rfl, TrW_mono _ _ _ (fun q hq => by simp [hq]) hz69.2⟩⟩⟩ ?_
  exact sx_aret X dX16_test_160 rfl rfl rfl
