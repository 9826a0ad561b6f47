/-! THE JDK's builder of texts: contracts -/
abbrev rmL (k mc ms : Nat) : Room := { frames := k + 1, cells := mc, slots := ms, locals := 60 * k + 60 }
section SX6
variable {p : Program} {l : Launch} {e : Env} {R : Room} {s : State} {m : MethodId} {args : Array Value} {below : List Frame} {meth : Method} {c : Code} {Q : State → Prop} {cc : ByteArray} {own : String} {nL : Nat} {ret : Option FieldType} {D : va_G} {T : Nat → ClassId} {A : Nat → Prop} {SF : (Nat → Prop) → State → Heap → Prop} {k n : Nat} {ws : va_W} {lv : List (Nat × Value)} {pc : Nat} {st : List Value} {sd : SdT}
theorem sx_newb (X : SxC p s m args meth c cc own nL ret D T A SF) {N' : Nat} {i : Int32} (hn : ¬ i < 0) (hN : i.toNatClampNeg = N') (hb : N' ≤ 3000) (hcells : k + 1 ≤ R.cells) (hslots : n + N' ≤ R.slots) (harr : Cond.arrayClass .byte ∈ BIG) (hdg : decode cc pc = .ok (.newarray .byte, 2))
    (kk : ∀ q : Nat, SxG p l e R s m args below meth c D A nL (k + 1) (n + N') Q (ws ++ [zB T q N' (fun _ => 0)]) lv (pc + 2) (.ref q :: st)) : SxG p l e R s m args below meth c D A nL k n Q ws lv pc (.int i :: st) :=
  sx_newa X (at0 := .byte) (t0 := 2) (ty := .byte) (N' := N') (a0 := (N', .inl (fun _ => 0))) harr rfl rfl rfl (fun _ => rfl) hn hN (by show N' * 1 ≤ _; omega) hcells hslots hdg kk
end SX6
/-- a private method of the class above is selected for an object of the class below -/
theorem k_selU {C : String} {x y : MethodName} {s : State} {args : Array Value} {n : Nat} (hy : y.cls ≠ "java/lang/invoke/MethodHandle" ∧ y.cls ≠ "java/lang/invoke/VarHandle")
    (hins : (Cond.instantiable C n).before args s = true) (hpriv : (Cond.privateMethod y).before args s = true) (hinst : (Cond.instanceMethod y).before args s = true) (hx : x.cls = y.cls) (hix : (Cond.instanceMethod x).before args s = true) (hs : (Cond.selects C x x).before args s = true) :
    (Cond.selects C y y).before args s = true := by
  obtain ⟨c, k, hc, hk, -, hniab, -, -⟩ := Cond.instantiable_spec hins
  obtain ⟨mk, methM, hnamed, hmethM, -, -⟩ := Cond.instanceMethod_spec hinst
  obtain ⟨mx, methX, hnx, hmx, -, -⟩ := Cond.instanceMethod_spec hix
  have hfound : s.methodFound? y.cls y.name y.desc = some mk := State.methodFound?_of_named hnamed hy
  have hfx : s.methodFound? x.cls x.name x.desc = some mx := State.methodFound?_of_named hnx (by rw [hx]; exact hy)
  have hsel : selectMethod {} s.vm c mk = .method mk := selectMethod_private hmethM (Cond.privateMethod_at hpriv mk methM hnamed hmethM)
  have e1 := findClass_of_methodNamed hnamed
  have e2 := findClass_of_methodNamed hnx
  rw [hx] at e2
  have hcls : mk.cls = mx.cls := Option.some.inj (e1.symm.trans e2)
  simp only [Cond.before, Cond.holds, Cond.value, hc, hfx, hnx, hk] at hs
  simp only [Cond.before, Cond.holds, Cond.value, hc, hfound, hnamed, hsel, hk]
  simp at hs ⊢
  rw [hcls]
  split at hs
  · simp at hs
    exact hs.2
  · cases hs
section SX7
variable {p : Program} {l : Launch} {e : Env} {R : Room} {s : State} {m : MethodId} {args : Array Value} {below : List Frame} {meth : Method} {c : Code} {Q : State → Prop} {cc : ByteArray} {own : String} {nL : Nat} {ret : Option FieldType} {D : va_G} {T : Nat → ClassId} {A : Nat → Prop} {SF SF2 : (Nat → Prop) → State → Heap → Prop} {k n : Nat} {ws : va_W} {lv : List (Nat × Value)} {pc : Nat} {st : List Value}
variable {Res : Type} {y : MethodName} {cy : ByteArray} {maxLy : Nat} {rty : Option FieldType} {rmy : Room} {As rest : List Value} {wc wr : va_W} {vf : Res → Option Value} {wf : Res → va_W} {P : Res → Prop} {mc ms : Nat}
/-- a call of a private method of the class above -/
theorem sx_pP (X : SxC p s m args meth c cc own nL ret D T A SF) {b : Nat} (hM : SxKP SF2 l D T y cy maxLy rty rmy (.ref b :: As) wc vf wf P mc ms) (hF : SxM s D A SF2 wc wr) {C : String} {idx nA : Nat} (hrc : ∀ H locs, va_P D vwCl (wc ++ wr) H → va_S A s.heap H locs → ∃ cellB : Cell, H[b]? = some cellB ∧ cellB.vm.isStatics = false ∧ s.vm.findClass C = some cellB.cls) (h1 : Cond.methodLink own idx y ∈ BIG) (h1s : Cond.sameMethod y.cls y.cls y.name y.desc ∈ BIG) (hsl : va_Nw (.selects C y y) s) (h2 : Cond.instanceMethod y ∈ BIG) (h4 : Cond.initialized y.cls ∈ BIG) (h5 : Cond.code y cy maxLy rty ∈ BIG) (hd : SxDs y nA) (hrm : rmy.cells = mc ∧ rmy.slots = ms) (hR : rmy.frames + 1 ≤ R.frames ∧ 8 + (maxLy + 11) + rmy.locals ≤ R.locals) (hn : As.length = nA) (hst : st = As.reverse ++ .ref b :: rest) (hroom : (rest.map fun v => v.category).sum ≤ 8) (hcs : k + mc ≤ R.cells ∧ n + ms ≤ R.slots) (hdg : decode cc pc = .ok (.invokevirtual idx, 3)) (hw : ws = wc ++ wr)
    (kk : ∀ r, P r → SxG p l e R s m args below meth c D A nL (k + mc) (n + ms) Q (wf r ++ wr) lv (pc + 3) ((vf r).toList ++ rest)) : SxG p l e R s m args below meth c D A nL k n Q ws lv pc st := by
  subst hst
  subst hw
  have ht := X.2.2.2.2.1
  have hsel : (Cond.selects C y y).before args s = true := va_Nw.use rfl hsl
  have hcw : va_CU R s args own C y.cls idx y y cy maxLy rty (Cond.code y cy maxLy rty :: BIG) rmy mc ms nA := by
    refine ⟨⟨hrm.1, hrm.2, hR.1, hR.2, pay_in ht (big_in h5), List.mem_cons_self⟩, ht _ h5, ht _ h4, ⟨hd.1, hd.2.1⟩, fun sig h => ?_, ht _ h1, ht _ h1s, va_Decl.of (ht _ h2) (ht _ h5), hsel, ht _ h2⟩
    have h2 := hd.2.2
    rw [h] at h2
    exact (Option.some.inj h2).symm
  intro H locs ls hP hD hS h
  have hFr := sx_freeA X.2.2.2.2.2.2.1 hD hS
  have hpre := sx_preP X hF hP hD hS (.ref b :: As)
  refine sx_afterP (va_runU (As := As) (rest := rest) ⟨X.1, X.2.1, X.2.2.1, X.2.2.2.1, X.2.2.2.2.1⟩ (hM H.size) hcw ⟨hpre.1, hrc H locs hP hS, hpre.2⟩ rfl hn (h.1) rfl (lv_room hroom) hdg hcs) hS (fun q _ h => hFr q h) hFr (fun r hPr t H1 locs1 ht hB hz hk hS1 => ?_)
  obtain ⟨hP1, hD1⟩ := hB
  rw [ht] at hP1
  obtain ⟨p2, d2⟩ := sx_back hP hD (fun q hq => X.2.2.2.2.2.2.1 q (Nat.le_trans hS.1 hq)) hk hP1 hD1
  exact kk r hPr H1 locs1 ls p2 d2 hS1 h
end SX7

theorem hd_sbLat : SxDs yJ5_isLatin1_aae02 0 := ⟨by decide, by decide, by decide +kernel⟩
set_option maxRecDepth 100000 in
theorem c_sbLat {l : Launch} {D : va_G} {T : Nat → ClassId} {sd : SdT} {jd : JdT} (b q n : Nat) : SxK (SFy sd jd) l D T yJ5_isLatin1_aae02 cJ5_isLatin1_aae02 1 (some .boolean) (rmL 0 0 0) [.ref b] [oSB b q n] (fun _ : Unit => some (.int 1)) (fun _ => [oSB b q n]) () 0 0 := by
  refine sx_start (SFy_ok sd jd) (by decide +kernel) (Nat.le_of_ble_eq_true rfl) (fun p e s mi args below meth c A X hnm => ?_)
  have XY := X
  have X := XY.dn (SFx_ok sd)
  have XJ := XY.fz
  refine sx_gst X X.sf.2.1.2.2.2.2.2.2.1 qm_1270 dJ5_isLatin1_aae02_0 ?_
  refine sx_if_eq X 17 dJ5_isLatin1_aae02_3 rfl (fun hc => absurd hc (by decide)) (fun _ => ?_)
  refine sx_aload_n X 0 rfl dJ5_isLatin1_aae02_6 rfl ?_
  refine sx_get X kJ4 0 rfl 1 (Nat.le_of_ble_eq_true rfl) qm_1448 rfl dJ5_isLatin1_aae02_7 ?_
  refine sx_if_ne X 17 dJ5_isLatin1_aae02_10 rfl (fun hc => absurd rfl hc) (fun _ => ?_)
  refine sx_iconst X (v := 1) dJ5_isLatin1_aae02_13 rfl ?_
  refine sx_goto X 18 dJ5_isLatin1_aae02_14 rfl ?_
  exact sx_iret X rfl dJ5_isLatin1_aae02_18 rfl rfl rfl
theorem hd_sbLen : SxDs yJ5_length_8abf5 0 := ⟨by decide, by decide, by decide +kernel⟩
set_option maxRecDepth 100000 in
theorem c_sbLen {l : Launch} {D : va_G} {T : Nat → ClassId} {sd : SdT} {jd : JdT} (b q n : Nat) : SxK (SFy sd jd) l D T yJ5_length_8abf5 cJ5_length_8abf5 1 (some .int) (rmL 0 0 0) [.ref b] [oSB b q n] (fun _ : Unit => some (.int (nI n))) (fun _ => [oSB b q n]) () 0 0 := by
  refine sx_start (SFy_ok sd jd) (by decide +kernel) (Nat.le_of_ble_eq_true rfl) (fun p e s mi args below meth c A X hnm => ?_)
  have XY := X
  have X := XY.dn (SFx_ok sd)
  have XJ := XY.fz
  refine sx_aload_n X 0 rfl dJ5_length_8abf5_0 rfl ?_
  refine sx_get X kJ4 0 rfl 3 (Nat.le_of_ble_eq_true rfl) qm_1450 rfl dJ5_length_8abf5_1 ?_
  exact sx_iret X rfl dJ5_length_8abf5_4 rfl rfl rfl
theorem hd_sbVal : SxDs yJ5_getValue_6d5f1 0 := ⟨by decide, by decide, by decide +kernel⟩
set_option maxRecDepth 100000 in
theorem c_sbVal {l : Launch} {D : va_G} {T : Nat → ClassId} {sd : SdT} {jd : JdT} (b q n : Nat) : SxK (SFy sd jd) l D T yJ5_getValue_6d5f1 cJ5_getValue_6d5f1 1 (some (.array .byte)) (rmL 0 0 0) [.ref b] [oSB b q n] (fun _ : Unit => some (.ref q)) (fun _ => [oSB b q n]) () 0 0 := by
  refine sx_start (SFy_ok sd jd) (by decide +kernel) (Nat.le_of_ble_eq_true rfl) (fun p e s mi args below meth c A X hnm => ?_)
  have XY := X
  have X := XY.dn (SFx_ok sd)
  have XJ := XY.fz
  refine sx_aload_n X 0 rfl dJ5_getValue_6d5f1_0 rfl ?_
  refine sx_get X kJ4 0 rfl 0 (Nat.le_of_ble_eq_true rfl) qm_1447 rfl dJ5_getValue_6d5f1_1 ?_
  exact sx_aretA X dJ5_getValue_6d5f1_4 rfl rfl rfl
set_option maxRecDepth 100000 in
theorem c_stCo {l : Launch} {D : va_G} {T : Nat → ClassId} {sd : SdT} {jd : JdT} (a : Nat) (tx : List Nat) : SxK (SFand (SFy sd jd) (StrAt a tx)) l D T yJ0_coder_7d493 cJ0_coder_7d493 1 (some .byte) (rmL 0 0 0) [.ref a] [] (fun _ : Unit => some (.int 0)) (fun _ => []) () 0 0 := by
  refine sx_start (SFand_ok (SFy_ok sd jd) (StrAt_ok a tx)) (by decide +kernel) (Nat.le_of_ble_eq_true rfl) (fun p e s mi args below meth c A X hnm => ?_)
  have XS := X
  have XY := XS.dn (SFy_ok sd jd)
  have X := XY.dn (SFx_ok sd)
  have XJ := XY.fz
  obtain ⟨v, hO, hco, hva, hT⟩ := XS.fz
  refine sx_gst X X.sf.2.1.2.2.2.2.2.2.1 qm_792 dJ0_coder_7d493_0 ?_
  refine sx_if_eq X 13 dJ0_coder_7d493_3 rfl (fun hc => absurd hc (by decide)) (fun _ => ?_)
  refine sx_aload_n X 0 rfl dJ0_coder_7d493_6 rfl ?_
  refine sx_gof X hco qm_1509 dJ0_coder_7d493_7 ?_
  refine sx_goto X 14 dJ0_coder_7d493_10 rfl ?_
  exact sx_iret X rfl dJ0_coder_7d493_14 rfl rfl rfl
set_option maxRecDepth 100000 in
theorem c_stLe {l : Launch} {D : va_G} {T : Nat → ClassId} {sd : SdT} {jd : JdT} (a : Nat) (tx : List Nat) (ht : tx.length < 2 ^ 31) : SxK (SFand (SFy sd jd) (StrAt a tx)) l D T yJ0_length_8abf5 cJ0_length_8abf5 1 (some .int) (rmL 1 0 0) [.ref a] [] (fun _ : Unit => some (.int (nI tx.length))) (fun _ => []) () 0 0 := by
  refine sx_start (SFand_ok (SFy_ok sd jd) (StrAt_ok a tx)) (by decide +kernel) (Nat.le_of_ble_eq_true rfl) (fun p e s mi args below meth c A X hnm => ?_)
  have XS := X
  have XY := XS.dn (SFy_ok sd jd)
  have X := XY.dn (SFx_ok sd)
  have XJ := XY.fz
  obtain ⟨v, hO, hco, hva, hT⟩ := XS.fz
  refine sx_aload_n X 0 rfl dJ0_length_8abf5_0 rfl ?_
  refine sx_gof X hva qm_1508 dJ0_length_8abf5_1 ?_
  refine sx_stl X (v := nI tx.length) hT rfl dJ0_length_8abf5_4 ?_
  refine sx_aload_n X 0 rfl dJ0_length_8abf5_5 rfl ?_
  refine sx_pV X ((c_stCo (l := l) (D := D) (T := T) (sd := sd) (jd := jd) a tx).toP) XS.M (wr := []) (sx_rcvO hO) qm_788 qm_789 qm_790 qm_27 qm_791 hd_coder ⟨rfl, rfl⟩ ⟨Nat.le_of_ble_eq_true rfl, Nat.le_of_ble_eq_true rfl⟩ rfl rfl (Nat.le_of_ble_eq_true rfl) ⟨Nat.le_of_ble_eq_true rfl, Nat.le_of_ble_eq_true rfl⟩ dJ0_length_8abf5_6 rfl (fun u9 hu9 => ?_)
  refine sx_chg (ws' := []) (st' := [.int 0, .int (nI tx.length)]) rfl rfl ?_
  refine sx_ishr X dJ0_length_8abf5_9 ?_
  refine sx_topi (y := nI tx.length) ((pk_shrN (k := 0) ht (0 &&& 31) (by decide)).trans (by rw [Nat.pow_zero, Nat.div_one])) ?_
  exact sx_iret X rfl dJ0_length_8abf5_10 rfl rfl rfl
theorem mx_nI {y z : Nat} (hy : y < 3000) (hz : z ≤ 3002) : (if nI y < nI z then nI z else nI y) = nI (max y z) := by
  by_cases h : y < z
  · rw [if_pos (nI_lt h (by omega)), Nat.max_eq_right (by omega)]
  · rw [if_neg (nI_nlt (by omega) (by omega)), Nat.max_eq_left (by omega)]
theorem shl0 (x : Nat) : nI x <<< ((0 : Int32) &&& 31) = nI x := by
  rw [show ((0 : Int32) &&& 31) = 0 from by decide]
  exact Int32.shiftLeft_zero
theorem shr0 (x : Nat) : nI x >>> ((0 : Int32) &&& 31) = nI x := by
  rw [show ((0 : Int32) &&& 31) = 0 from by decide]
  exact Int32.shiftRight_zero
theorem hd_newLen : SxDs yJ8_newLength_cabcc 3 := ⟨by decide, by decide, by decide +kernel⟩
set_option maxRecDepth 100000 in
theorem c_newLen {l : Launch} {D : va_G} {T : Nat → ClassId} {sd : SdT} {jd : JdT} (x y z : Nat) (hx : x ≤ 3000) (hy : y < 3000) (hz : z ≤ 3002) (h0 : 0 < z) : SxK (SFy sd jd) l D T yJ8_newLength_cabcc cJ8_newLength_cabcc 4 (some .int) (rmL 1 0 0) [.int (nI x), .int (nI y), .int (nI z)] [] (fun _ : Unit => some (.int (nI (x + max y z)))) (fun _ => []) () 0 0 := by
  refine sx_start (SFy_ok sd jd) (by decide +kernel) (Nat.le_of_ble_eq_true rfl) (fun p e s mi args below meth c A X hnm => ?_)
  have XY := X
  have X := XY.dn (SFx_ok sd)
  have XJ := XY.fz
  refine sx_iload_n X 0 rfl dJ8_newLength_cabcc_0 rfl ?_
  refine sx_iload_n X 1 rfl dJ8_newLength_cabcc_1 rfl ?_
  refine sx_iload_n X 2 rfl dJ8_newLength_cabcc_2 rfl ?_
  refine sx_max X qm_1245 qm_597 qm_32 qm_598 (Nat.le_of_ble_eq_true rfl) (Nat.le_of_ble_eq_true rfl) (Nat.zero_le _) (Nat.zero_le _) dJ8_newLength_cabcc_3 ?_
  refine sx_topi (y := nI (max y z)) (mx_nI hy hz) ?_
  refine sx_iadd X dJ8_newLength_cabcc_6 ?_
  refine sx_topi (y := nI (x + max y z)) (nI_add x (max y z)) ?_
  refine sx_istore_n X (lv' := [(3, .int (nI (x + max y z))), (0, .int (nI x)), (1, .int (nI y)), (2, .int (nI z))]) dJ8_newLength_cabcc_7 rfl (by decide) rfl ?_
  refine sx_iconst X (v := 0) dJ8_newLength_cabcc_8 rfl ?_
  refine sx_iload_n X 0 rfl dJ8_newLength_cabcc_9 rfl ?_
  refine sx_icmp_ge X 21 dJ8_newLength_cabcc_10 rfl (fun hc => absurd hc (nI_ge (a := 0) (by omega) (by omega))) (fun _ => ?_)
  refine sx_iload_n X 0 rfl dJ8_newLength_cabcc_13 rfl ?_
  refine sx_ldc X qm_1246 dJ8_newLength_cabcc_14 ?_
  refine sx_icmp_gt X 21 dJ8_newLength_cabcc_16 rfl (fun hc => absurd hc (Int32.not_lt.mpr (nI_le (b := 2147483639) (by omega) (by decide)))) (fun _ => ?_)
  refine sx_iload_n X 0 rfl dJ8_newLength_cabcc_19 rfl ?_
  exact sx_iret X rfl dJ8_newLength_cabcc_20 rfl rfl rfl
theorem sub_le0 {r m : Nat} (hr : r < 2 ^ 30) (hm : m < 2 ^ 30) : nI r - nI m ≤ 0 ↔ r ≤ m := by
  rw [Int32.le_iff_toInt_le, pk_sub_toInt hr hm, Int32.toInt_zero]
  omega
theorem mn_nI {y z : Nat} (hy : y < 2 ^ 31) (hz : z < 2 ^ 31) (h : z ≤ y) : (if nI y < nI z then nI y else nI z) = nI z := if_neg (nI_nlt h hy)
theorem cap_eq {r m : Nat} (h : ¬ r ≤ m) : m + max (r - m) (m + 2) = sb_cap r m := by
  unfold sb_cap
  rw [if_neg h]
  split <;> omega
theorem hd_newCap : SxDs yJ5_newCapacity_0f7a4 1 := ⟨by decide, by decide, by decide +kernel⟩
set_option maxRecDepth 100000 in
theorem c_newCap {l : Launch} {D : va_G} {T : Nat → ClassId} {sd : SdT} {jd : JdT} (b q n m r : Nat) (f : Nat → Int32) (hm : m ≤ 3000) (hr : r ≤ 1500) (hrm : ¬ r ≤ m) : SxK (SFy sd jd) l D T yJ5_newCapacity_0f7a4 cJ5_newCapacity_0f7a4 6 (some .int) (rmL 2 0 0) [.ref b, .int (nI r)] [oSB b q n, zB T q m f] (fun _ : Unit => some (.int (nI (sb_cap r m)))) (fun _ => [oSB b q n, zB T q m f]) () 0 0 := by
  refine sx_start (SFy_ok sd jd) (by decide +kernel) (Nat.le_of_ble_eq_true rfl) (fun p e s mi args below meth c A X hnm => ?_)
  have XY := X
  have X := XY.dn (SFx_ok sd)
  have XJ := XY.fz
  refine sx_aload_n X 0 rfl dJ5_newCapacity_0f7a4_0 rfl ?_
  refine sx_get X kJ4 0 rfl 0 (Nat.le_of_ble_eq_true rfl) qm_1447 rfl dJ5_newCapacity_0f7a4_1 ?_
  refine sx_alen X (t0 := 2) (v := nI m) 1 rfl rfl rfl dJ5_newCapacity_0f7a4_4 ?_
  refine sx_istore_n X (lv' := [(2, .int (nI m)), (0, .ref b), (1, .int (nI r))]) dJ5_newCapacity_0f7a4_5 rfl (by decide) rfl ?_
  refine sx_iload_n X 2 rfl dJ5_newCapacity_0f7a4_6 rfl ?_
  refine sx_aload_n X 1 rfl dJ5_newCapacity_0f7a4_7 rfl ?_
  refine sx_get X kJ4 0 rfl 1 (Nat.le_of_ble_eq_true rfl) qm_1448 rfl dJ5_newCapacity_0f7a4_8 ?_
  refine sx_ishl X dJ5_newCapacity_0f7a4_11 ?_
  refine sx_topi (y := nI r) (shl0 r) ?_
  refine sx_istore_n X (lv' := [(3, .int (nI r)), (2, .int (nI m)), (0, .ref b), (1, .int (nI r))]) dJ5_newCapacity_0f7a4_12 rfl (by decide) rfl ?_
  refine sx_iload_n X 0 rfl dJ5_newCapacity_0f7a4_13 rfl ?_
  refine sx_iload_n X 1 rfl dJ5_newCapacity_0f7a4_14 rfl ?_
  refine sx_isub X dJ5_newCapacity_0f7a4_15 ?_
  refine sx_topi (y := nI (r - m)) (pk_sub (by omega)) ?_
  refine sx_istore X (lv' := [(4, .int (nI (r - m))), (3, .int (nI r)), (2, .int (nI m)), (0, .ref b), (1, .int (nI r))]) dJ5_newCapacity_0f7a4_16 (by decide) rfl ?_
  refine sx_iload_n X 2 rfl dJ5_newCapacity_0f7a4_18 rfl ?_
  refine sx_iload X 0 rfl dJ5_newCapacity_0f7a4_19 ?_
  refine sx_iload_n X 2 rfl dJ5_newCapacity_0f7a4_21 rfl ?_
  refine sx_iconst X (v := 2) dJ5_newCapacity_0f7a4_22 rfl ?_
  refine sx_aload_n X 3 rfl dJ5_newCapacity_0f7a4_23 rfl ?_
  refine sx_get X kJ4 0 rfl 1 (Nat.le_of_ble_eq_true rfl) qm_1448 rfl dJ5_newCapacity_0f7a4_24 ?_
  refine sx_ishl X dJ5_newCapacity_0f7a4_27 ?_
  refine sx_topi (y := nI 2) (by decide) ?_
  refine sx_iadd X dJ5_newCapacity_0f7a4_28 ?_
  refine sx_topi (y := nI (m + 2)) (nI_add m 2) ?_
  refine sx_pS X ((c_newLen (l := l) (D := D) (T := T) (sd := sd) (jd := jd) m (r - m) (m + 2) (by omega) (by omega) (by omega) (by omega)).toP) XY.M (wr := [zO b 1 [.ref q, .int 0, .int 0, .int (nI n)], zB T q m f]) qm_1242 qm_1243 qm_31 qm_1244 hd_newLen ⟨rfl, rfl⟩ ⟨Nat.le_of_ble_eq_true rfl, Nat.le_of_ble_eq_true rfl⟩ rfl rfl (Nat.le_of_ble_eq_true rfl) ⟨Nat.le_of_ble_eq_true rfl, Nat.le_of_ble_eq_true rfl⟩ dJ5_newCapacity_0f7a4_29 rfl (fun u9 hu9 => ?_)
  refine sx_chg (ws' := [zO b 1 [.ref q, .int 0, .int 0, .int (nI n)], zB T q m f]) (st' := [.int (nI (m + max (r - m) (m + 2)))]) rfl rfl ?_
  refine sx_istore X (lv' := [(5, .int (nI (m + max (r - m) (m + 2)))), (4, .int (nI (r - m))), (3, .int (nI r)), (2, .int (nI m)), (0, .ref b), (1, .int (nI r))]) dJ5_newCapacity_0f7a4_32 (by decide) rfl ?_
  refine sx_iload X 0 rfl dJ5_newCapacity_0f7a4_34 ?_
  refine sx_ldc X qm_1250 dJ5_newCapacity_0f7a4_36 ?_
  refine sx_icmp_ne X 51 dJ5_newCapacity_0f7a4_38 rfl (fun _ => ?_) (fun hc => absurd hc (fun z => by have := (nI_eq (a := m + max (r - m) (m + 2)) (b := 2147483647) (by omega) (by decide)).mp z; omega))
  refine sx_iload X 0 rfl dJ5_newCapacity_0f7a4_51 ?_
  refine sx_aload_n X 4 rfl dJ5_newCapacity_0f7a4_53 rfl ?_
  refine sx_get X kJ4 0 rfl 1 (Nat.le_of_ble_eq_true rfl) qm_1448 rfl dJ5_newCapacity_0f7a4_54 ?_
  refine sx_ishr X dJ5_newCapacity_0f7a4_57 ?_
  refine sx_topi (y := nI (m + max (r - m) (m + 2))) (shr0 _) ?_
  refine sx_topi (y := nI (sb_cap r m)) (congrArg nI (cap_eq hrm)) ?_
  exact sx_iret X rfl dJ5_newCapacity_0f7a4_58 rfl rfl rfl
theorem hd_copyOf : SxDs yJ7_copyOf_9075b 2 := ⟨by decide, by decide, by decide +kernel⟩
set_option maxRecDepth 100000 in
theorem c_copyOf {l : Launch} {D : va_G} {T : Nat → ClassId} {sd : SdT} {jd : JdT} (q m N : Nat) (f : Nat → Int32) (hN : N ≤ 3000) (hm : m < N) (hf : sb_Fit f) : SxKP (SFy sd jd) l D T yJ7_copyOf_9075b cJ7_copyOf_9075b 3 (some (.array .byte)) (rmL 1 1 3000) [.ref q, .int (nI N)] [zB T q m f] (fun r : Nat × (Nat → Int32) => some (.ref r.1)) (fun r => [zB T q m f, zB T r.1 N r.2]) (fun r => sb_Fit r.2 ∧ ∀ j, j < m → r.2 j = f j) 1 3000 := by
  refine sx_startP (SFy_ok sd jd) (by decide +kernel) (Nat.le_of_ble_eq_true rfl) (fun p e s mi args below meth c A X hnm => ?_)
  have XY := X
  have X := XY.dn (SFx_ok sd)
  have XJ := XY.fz
  refine sx_iload_n X 1 rfl dJ7_copyOf_9075b_0 rfl ?_
  refine sx_aload_n X 0 rfl dJ7_copyOf_9075b_1 rfl ?_
  refine sx_alen X (t0 := 2) (v := nI m) 0 rfl rfl rfl dJ7_copyOf_9075b_2 ?_
  refine sx_icmp_ne X 14 dJ7_copyOf_9075b_3 rfl (fun _ => ?_) (fun hc => absurd hc (fun z => by have := (nI_eq (a := N) (b := m) (by omega) (by omega)).mp z; omega))
  refine sx_iload_n X 1 rfl dJ7_copyOf_9075b_14 rfl ?_
  refine sx_newb X (N' := N) (nI_pos (by omega)) (nI_clamp (by omega)) hN (Nat.le_of_ble_eq_true rfl) (by show _ ≤ 3000; omega) qm_73 dJ7_copyOf_9075b_15 (fun q2 => ?_)
  refine sx_chg (ws' := [zB T q m f, zB T q2 N (fun _ => 0)]) (st' := [.ref q2]) rfl rfl ?_
  refine sx_astore_n X (lv' := [(2, .ref q2), (0, .ref q), (1, .int (nI N))]) dJ7_copyOf_9075b_17 rfl (by decide) rfl ?_
  refine sx_aload_n X 1 rfl dJ7_copyOf_9075b_18 rfl ?_
  refine sx_iconst X (v := 0) dJ7_copyOf_9075b_19 rfl ?_
  refine sx_aload_n X 0 rfl dJ7_copyOf_9075b_20 rfl ?_
  refine sx_iconst X (v := 0) dJ7_copyOf_9075b_21 rfl ?_
  refine sx_aload_n X 1 rfl dJ7_copyOf_9075b_22 rfl ?_
  refine sx_alen X (t0 := 2) (v := nI m) 0 rfl rfl rfl dJ7_copyOf_9075b_23 ?_
  refine sx_iload_n X 2 rfl dJ7_copyOf_9075b_24 rfl ?_
  refine sx_min X qm_1261 qm_594 qm_32 qm_595 (Nat.le_of_ble_eq_true rfl) (Nat.le_of_ble_eq_true rfl) (Nat.le_of_ble_eq_true rfl) (by show _ ≤ 3000; omega) dJ7_copyOf_9075b_25 ?_
  refine sx_topi (y := nI m) (mn_nI (by omega) (by omega) (by omega)) ?_
  refine sx_copyb X (ws' := [zB T q m f, zB T q2 N (va_cpy f (fun _ => 0) 0 0 (nI m).toNatClampNeg)]) 0 1 rfl rfl ⟨nI_pos (by omega), by rw [nI_clamp (by omega)]; omega, by rw [nI_clamp (by omega)]; omega⟩ (fun i _ => hf i) qm_1262 qm_1264 qm_1263 qm_34 (Nat.le_of_ble_eq_true rfl) (Nat.le_of_ble_eq_true rfl) rfl dJ7_copyOf_9075b_28 ?_
  refine sx_aload_n X 0 rfl dJ7_copyOf_9075b_31 rfl ?_
  refine sx_widen (k' := 1) (n' := 3000) (Nat.le_of_ble_eq_true rfl) (by show 0 + N ≤ 3000; omega) ?_
  refine sx_pick (q2, va_cpy f (fun _ => 0) 0 0 (nI m).toNatClampNeg) ⟨sb_fitC hf sb_fit0, fun j hj => ?_⟩ ?_
  · rw [nI_clamp (by omega)]
    exact sb_cpy0 (f := f) (g := fun _ => 0) hj
  exact sx_aretA X dJ7_copyOf_9075b_32 rfl rfl rfl
theorem hd_ens : SxDs yJ5_ensureCapacityInternal_d00df 1 := ⟨by decide, by decide, by decide +kernel⟩
set_option maxRecDepth 100000 in
theorem c_ens {l : Launch} {D : va_G} {T : Nat → ClassId} {sd : SdT} {jd : JdT} (b q n m r : Nat) (f : Nat → Int32) (hm : m ≤ 3000) (hr : r ≤ 1500) (hf : sb_Fit f) : SxKP (SFy sd jd) l D T yJ5_ensureCapacityInternal_d00df cJ5_ensureCapacityInternal_d00df 3 none (rmL 3 1 3000) [.ref b, .int (nI r)] [oSB b q n, zB T q m f] (fun _ : Nat × Nat × (Nat → Int32) => none) (fun w => [oSB b w.1 n, zB T w.1 w.2.1 w.2.2]) (fun w => r ≤ w.2.1 ∧ w.2.1 ≤ 3000 ∧ m ≤ w.2.1 ∧ sb_Fit w.2.2 ∧ ∀ j, j < m → w.2.2 j = f j) 1 3000 := by
  refine sx_startP (SFy_ok sd jd) (by decide +kernel) (Nat.le_of_ble_eq_true rfl) (fun p e s mi args below meth c A X hnm => ?_)
  have XY := X
  have X := XY.dn (SFx_ok sd)
  have XJ := XY.fz
  refine sx_aload_n X 0 rfl dJ5_ensureCapacityInternal_d00df_0 rfl ?_
  refine sx_get X kJ4 0 rfl 0 (Nat.le_of_ble_eq_true rfl) qm_1447 rfl dJ5_ensureCapacityInternal_d00df_1 ?_
  refine sx_alen X (t0 := 2) (v := nI m) 1 rfl rfl rfl dJ5_ensureCapacityInternal_d00df_4 ?_
  refine sx_aload_n X 0 rfl dJ5_ensureCapacityInternal_d00df_5 rfl ?_
  refine sx_get X kJ4 0 rfl 1 (Nat.le_of_ble_eq_true rfl) qm_1448 rfl dJ5_ensureCapacityInternal_d00df_6 ?_
  refine sx_ishr X dJ5_ensureCapacityInternal_d00df_9 ?_
  refine sx_topi (y := nI m) (shr0 m) ?_
  refine sx_istore_n X (lv' := [(2, .int (nI m)), (0, .ref b), (1, .int (nI r))]) dJ5_ensureCapacityInternal_d00df_10 rfl (by decide) rfl ?_
  refine sx_iload_n X 2 rfl dJ5_ensureCapacityInternal_d00df_11 rfl ?_
  refine sx_iload_n X 0 rfl dJ5_ensureCapacityInternal_d00df_12 rfl ?_
  refine sx_isub X dJ5_ensureCapacityInternal_d00df_13 ?_
  by_cases hrm : r ≤ m
  · refine sx_if_le X 38 dJ5_ensureCapacityInternal_d00df_14 rfl (fun _ => ?_) (fun hc => absurd ((sub_le0 (by omega) (by omega)).mpr hrm) hc)
    refine sx_widen (k' := 1) (n' := 3000) (Nat.zero_le _) (Nat.zero_le _) ?_
    refine sx_pick (q, m, f) ⟨hrm, hm, Nat.le_refl _, hf, fun _ _ => rfl⟩ ?_
    exact sx_vret X dJ5_ensureCapacityInternal_d00df_38 rfl rfl rfl
  · have hcap : sb_cap r m ≤ 3000 := by
      unfold sb_cap
      rw [if_neg hrm]
      split <;> omega
    have hlt : m < sb_cap r m := by
      have := sb_cap_ge r m
      omega
    refine sx_if_le X 38 dJ5_ensureCapacityInternal_d00df_14 rfl (fun hc => absurd hc (fun z => hrm ((sub_le0 (by omega) (by omega)).mp z))) (fun _ => ?_)
    refine sx_aload_n X 1 rfl dJ5_ensureCapacityInternal_d00df_17 rfl ?_
    refine sx_aload_n X 1 rfl dJ5_ensureCapacityInternal_d00df_18 rfl ?_
    refine sx_get X kJ4 0 rfl 0 (Nat.le_of_ble_eq_true rfl) qm_1447 rfl dJ5_ensureCapacityInternal_d00df_19 ?_
    refine sx_aload_n X 1 rfl dJ5_ensureCapacityInternal_d00df_22 rfl ?_
    refine sx_iload_n X 2 rfl dJ5_ensureCapacityInternal_d00df_23 rfl ?_
    refine sx_pP X ((c_newCap (l := l) (D := D) (T := T) (sd := sd) (jd := jd) b q n m r f hm hr hrm).toP) XY.M (wr := []) (sx_rcv X (q0 := 0) (w := [zO b 1 [.ref q, .int 0, .int 0, .int (nI n)], zB T q m f]) rfl rfl) qm_1238 qm_1607 (XJ.2.2.2.2.2.2.2.2.2.2.2.2 _ (List.mem_of_getElem? (i := 0) rfl)) qm_1240 qm_25 qm_1241 hd_newCap ⟨rfl, rfl⟩ ⟨Nat.le_of_ble_eq_true rfl, Nat.le_of_ble_eq_true rfl⟩ rfl rfl (Nat.le_of_ble_eq_true rfl) ⟨Nat.le_of_ble_eq_true rfl, Nat.le_of_ble_eq_true rfl⟩ dJ5_ensureCapacityInternal_d00df_24 rfl (fun u9 hu9 => ?_)
    refine sx_chg (ws' := [zO b 1 [.ref q, .int 0, .int 0, .int (nI n)], zB T q m f]) (st' := [.int (nI (sb_cap r m)), .ref q, .ref b]) rfl rfl ?_
    refine sx_aload_n X 1 rfl dJ5_ensureCapacityInternal_d00df_27 rfl ?_
    refine sx_get X kJ4 0 rfl 1 (Nat.le_of_ble_eq_true rfl) qm_1448 rfl dJ5_ensureCapacityInternal_d00df_28 ?_
    refine sx_ishl X dJ5_ensureCapacityInternal_d00df_31 ?_
    refine sx_topi (y := nI (sb_cap r m)) (shl0 _) ?_
    refine sx_wsub (ws' := [zB T q m f, zO b 1 [.ref q, .int 0, .int 0, .int (nI n)]]) [1, 0] rfl rfl ?_
    refine sx_pS X (c_copyOf (l := l) (D := D) (T := T) (sd := sd) (jd := jd) q m (sb_cap r m) f hcap hlt hf) XY.M (wr := [zO b 1 [.ref q, .int 0, .int 0, .int (nI n)]]) qm_1251 qm_1252 qm_33 qm_1253 hd_copyOf ⟨rfl, rfl⟩ ⟨Nat.le_of_ble_eq_true rfl, Nat.le_of_ble_eq_true rfl⟩ rfl rfl (Nat.le_of_ble_eq_true rfl) ⟨Nat.le_of_ble_eq_true rfl, Nat.le_of_ble_eq_true rfl⟩ dJ5_ensureCapacityInternal_d00df_32 rfl (fun w hw => ?_)
    refine sx_chg (ws' := [zB T q m f, zB T w.1 (sb_cap r m) w.2, zO b 1 [.ref q, .int 0, .int 0, .int (nI n)]]) (st' := [.ref w.1, .ref b]) rfl rfl ?_
    refine sx_put X (ws' := [zB T q m f, zB T w.1 (sb_cap r m) w.2, zO b 1 [.ref w.1, .int 0, .int 0, .int (nI n)]]) kJ4 2 rfl 0 (Nat.le_of_ble_eq_true rfl) qm_1447 rfl rfl rfl (Nat.le_of_ble_eq_true rfl) rfl dJ5_ensureCapacityInternal_d00df_35 ?_
    refine sx_wsub (ws' := [oSB b w.1 n, zB T w.1 (sb_cap r m) w.2]) [2, 1] rfl rfl ?_
    refine sx_pick (w.1, sb_cap r m, w.2) ⟨sb_cap_ge r m, hcap, sb_cap_gem r m, hw.1, hw.2⟩ ?_
    exact sx_vret X dJ5_ensureCapacityInternal_d00df_38 rfl rfl rfl
theorem hd_inflN : SxDs yJ5_inflateIfNeededFor_a7421 1 := ⟨by decide, by decide, by decide +kernel⟩
set_option maxRecDepth 100000 in
theorem c_inflN {l : Launch} {D : va_G} {T : Nat → ClassId} {sd : SdT} {jd : JdT} (a b q n : Nat) (tx : List Nat) : SxK (SFand (SFy sd jd) (StrAt a tx)) l D T yJ5_inflateIfNeededFor_a7421 cJ5_inflateIfNeededFor_a7421 2 none (rmL 1 0 0) [.ref b, .ref a] [oSB b q n] (fun _ : Unit => none) (fun _ => [oSB b q n]) () 0 0 := by
  refine sx_start (SFand_ok (SFy_ok sd jd) (StrAt_ok a tx)) (by decide +kernel) (Nat.le_of_ble_eq_true rfl) (fun p e s mi args below meth c A X hnm => ?_)
  have XS := X
  have XY := XS.dn (SFy_ok sd jd)
  have X := XY.dn (SFx_ok sd)
  have XJ := XY.fz
  obtain ⟨v, hO, hco, hva, hT⟩ := XS.fz
  refine sx_gst X X.sf.2.1.2.2.2.2.2.2.1 qm_1270 dJ5_inflateIfNeededFor_a7421_0 ?_
  refine sx_if_eq X 21 dJ5_inflateIfNeededFor_a7421_3 rfl (fun hc => absurd hc (by decide)) (fun _ => ?_)
  refine sx_aload_n X 0 rfl dJ5_inflateIfNeededFor_a7421_6 rfl ?_
  refine sx_get X kJ4 0 rfl 1 (Nat.le_of_ble_eq_true rfl) qm_1448 rfl dJ5_inflateIfNeededFor_a7421_7 ?_
  refine sx_aload_n X 1 rfl dJ5_inflateIfNeededFor_a7421_10 rfl ?_
  refine sx_pV X ((c_stCo (l := l) (D := D) (T := T) (sd := sd) (jd := jd) a tx).toP) XS.M (wr := [zO b 1 [.ref q, .int 0, .int 0, .int (nI n)]]) (sx_rcvO hO) qm_1295 qm_789 qm_790 qm_27 qm_791 hd_coder ⟨rfl, rfl⟩ ⟨Nat.le_of_ble_eq_true rfl, Nat.le_of_ble_eq_true rfl⟩ rfl rfl (Nat.le_of_ble_eq_true rfl) ⟨Nat.le_of_ble_eq_true rfl, Nat.le_of_ble_eq_true rfl⟩ dJ5_inflateIfNeededFor_a7421_11 rfl (fun u9 hu9 => ?_)
  refine sx_chg (ws' := [zO b 1 [.ref q, .int 0, .int 0, .int (nI n)]]) (st' := [.int 0, .int 0]) rfl rfl ?_
  refine sx_icmp_eq X 21 dJ5_inflateIfNeededFor_a7421_14 rfl (fun _ => ?_) (fun hc => absurd rfl hc)
  exact sx_vret X dJ5_inflateIfNeededFor_a7421_21 rfl rfl rfl
theorem hd_getB : SxDs yJ0_getBytes_840e7 3 := ⟨by decide, by decide, by decide +kernel⟩
set_option maxRecDepth 100000 in
theorem c_getB {l : Launch} {D : va_G} {T : Nat → ClassId} {sd : SdT} {jd : JdT} (a q m d : Nat) (tx : List Nat) (f : Nat → Int32) (hm : m ≤ 3000) (hd : d + tx.length ≤ m) (h128 : ∀ x ∈ tx, x < 128) : SxK (SFand (SFy sd jd) (StrAt a tx)) l D T yJ0_getBytes_840e7 cJ0_getBytes_840e7 4 none (rmL 1 0 0) [.ref a, .ref q, .int (nI d), .int 0] [zB T q m f] (fun _ : Unit => none) (fun _ => [zB T q m (va_cpy (fun j => nI (tx.getD j 0)) f 0 d tx.length)]) () 0 0 := by
  refine sx_start (SFand_ok (SFy_ok sd jd) (StrAt_ok a tx)) (by decide +kernel) (Nat.le_of_ble_eq_true rfl) (fun p e s mi args below meth c A X hnm => ?_)
  have XS := X
  have XY := XS.dn (SFy_ok sd jd)
  have X := XY.dn (SFx_ok sd)
  have XJ := XY.fz
  obtain ⟨v, hO, hco, hva, hT⟩ := XS.fz
  refine sx_aload_n X 0 rfl dJ0_getBytes_840e7_0 rfl ?_
  refine sx_pV X ((c_stCo (l := l) (D := D) (T := T) (sd := sd) (jd := jd) a tx).toP) XS.M (wr := [zB T q m f]) (sx_rcvO hO) qm_788 qm_789 qm_790 qm_27 qm_791 hd_coder ⟨rfl, rfl⟩ ⟨Nat.le_of_ble_eq_true rfl, Nat.le_of_ble_eq_true rfl⟩ rfl rfl (Nat.le_of_ble_eq_true rfl) ⟨Nat.le_of_ble_eq_true rfl, Nat.le_of_ble_eq_true rfl⟩ dJ0_getBytes_840e7_1 rfl (fun u9 hu9 => ?_)
  refine sx_chg (ws' := [zB T q m f]) (st' := [.int 0]) rfl rfl ?_
  refine sx_iload_n X 3 rfl dJ0_getBytes_840e7_4 rfl ?_
  refine sx_icmp_ne X 28 dJ0_getBytes_840e7_5 rfl (fun hc => absurd rfl hc) (fun _ => ?_)
  refine sx_aload_n X 0 rfl dJ0_getBytes_840e7_8 rfl ?_
  refine sx_gof X hva qm_1508 dJ0_getBytes_840e7_9 ?_
  refine sx_iconst X (v := 0) dJ0_getBytes_840e7_12 rfl ?_
  refine sx_aload_n X 1 rfl dJ0_getBytes_840e7_13 rfl ?_
  refine sx_iload_n X 2 rfl dJ0_getBytes_840e7_14 rfl ?_
  refine sx_iload_n X 3 rfl dJ0_getBytes_840e7_15 rfl ?_
  refine sx_ishl X dJ0_getBytes_840e7_16 ?_
  refine sx_topi (y := nI d) (shl0 d) ?_
  refine sx_aload_n X 0 rfl dJ0_getBytes_840e7_17 rfl ?_
  refine sx_gof X hva qm_1508 dJ0_getBytes_840e7_18 ?_
  refine sx_stl X (v := nI tx.length) hT rfl dJ0_getBytes_840e7_21 ?_
  refine sx_copyt X (ws' := [zB T q m (va_cpy (fun j => nI (tx.getD j 0)) f 0 (nI d).toNatClampNeg (nI tx.length).toNatClampNeg)]) hT 0 rfl (nI_pos (by omega)) ⟨nI_pos (by omega), by rw [nI_clamp (by omega)]; exact Nat.le_refl _, by rw [nI_clamp (by omega), nI_clamp (by omega)]; omega⟩ (fun i hi => by rw [nI_clamp (by omega)] at hi; exact fit128 (h128 _ (gd_mem hi))) qm_1326 qm_1264 qm_1263 qm_34 (Nat.le_of_ble_eq_true rfl) (Nat.le_of_ble_eq_true rfl) rfl dJ0_getBytes_840e7_22 ?_
  refine sx_goto X 43 dJ0_getBytes_840e7_25 rfl ?_
  rw [nI_clamp (by omega), nI_clamp (by omega)]
  exact sx_vret X dJ0_getBytes_840e7_43 rfl rfl rfl
theorem hd_putS : SxDs yJ5_putStringAt_47b60 2 := ⟨by decide, by decide, by decide +kernel⟩
set_option maxRecDepth 100000 in
theorem c_putS {l : Launch} {D : va_G} {T : Nat → ClassId} {sd : SdT} {jd : JdT} (a b q n m d : Nat) (tx : List Nat) (f : Nat → Int32) (hm : m ≤ 3000) (hd : d + tx.length ≤ m) (h128 : ∀ x ∈ tx, x < 128) : SxK (SFand (SFy sd jd) (StrAt a tx)) l D T yJ5_putStringAt_47b60 cJ5_putStringAt_47b60 3 none (rmL 2 0 0) [.ref b, .int (nI d), .ref a] [oSB b q n, zB T q m f] (fun _ : Unit => none) (fun _ => [oSB b q n, zB T q m (va_cpy (fun j => nI (tx.getD j 0)) f 0 d tx.length)]) () 0 0 := by
  refine sx_start (SFand_ok (SFy_ok sd jd) (StrAt_ok a tx)) (by decide +kernel) (Nat.le_of_ble_eq_true rfl) (fun p e s mi args below meth c A X hnm => ?_)
  have XS := X
  have XY := XS.dn (SFy_ok sd jd)
  have X := XY.dn (SFx_ok sd)
  have XJ := XY.fz
  obtain ⟨v, hO, hco, hva, hT⟩ := XS.fz
  refine sx_aload_n X 0 rfl dJ5_putStringAt_47b60_0 rfl ?_
  refine sx_aload_n X 2 rfl dJ5_putStringAt_47b60_1 rfl ?_
  refine sx_pP X ((c_inflN (l := l) (D := D) (T := T) (sd := sd) (jd := jd) a b q n tx).toP) XS.M (wr := [zB T q m f]) (sx_rcv X (q0 := 0) (w := [zO b 1 [.ref q, .int 0, .int 0, .int (nI n)], zB T q m f]) rfl rfl) qm_1291 qm_1609 (XJ.2.2.2.2.2.2.2.2.2.2.2.2 _ (List.mem_of_getElem? (i := 2) rfl)) qm_1293 qm_25 qm_1294 hd_inflN ⟨rfl, rfl⟩ ⟨Nat.le_of_ble_eq_true rfl, Nat.le_of_ble_eq_true rfl⟩ rfl rfl (Nat.le_of_ble_eq_true rfl) ⟨Nat.le_of_ble_eq_true rfl, Nat.le_of_ble_eq_true rfl⟩ dJ5_putStringAt_47b60_2 rfl (fun u9 hu9 => ?_)
  refine sx_chg (ws' := [zO b 1 [.ref q, .int 0, .int 0, .int (nI n)], zB T q m f]) (st' := []) rfl rfl ?_
  refine sx_aload_n X 2 rfl dJ5_putStringAt_47b60_5 rfl ?_
  refine sx_aload_n X 0 rfl dJ5_putStringAt_47b60_6 rfl ?_
  refine sx_get X kJ4 0 rfl 0 (Nat.le_of_ble_eq_true rfl) qm_1447 rfl dJ5_putStringAt_47b60_7 ?_
  refine sx_iload_n X 1 rfl dJ5_putStringAt_47b60_10 rfl ?_
  refine sx_aload_n X 0 rfl dJ5_putStringAt_47b60_11 rfl ?_
  refine sx_get X kJ4 0 rfl 1 (Nat.le_of_ble_eq_true rfl) qm_1448 rfl dJ5_putStringAt_47b60_12 ?_
  refine sx_wsub (ws' := [zB T q m f, zO b 1 [.ref q, .int 0, .int 0, .int (nI n)]]) [1, 0] rfl rfl ?_
  refine sx_pV X ((c_getB (l := l) (D := D) (T := T) (sd := sd) (jd := jd) a q m d tx f hm hd h128).toP) XS.M (wr := [zO b 1 [.ref q, .int 0, .int 0, .int (nI n)]]) (sx_rcvO hO) qm_1322 qm_1323 qm_1324 qm_27 qm_1325 hd_getB ⟨rfl, rfl⟩ ⟨Nat.le_of_ble_eq_true rfl, Nat.le_of_ble_eq_true rfl⟩ rfl rfl (Nat.le_of_ble_eq_true rfl) ⟨Nat.le_of_ble_eq_true rfl, Nat.le_of_ble_eq_true rfl⟩ dJ5_putStringAt_47b60_15 rfl (fun u9 hu9 => ?_)
  refine sx_chg (ws' := [zB T q m (va_cpy (fun j => nI (tx.getD j 0)) f 0 d tx.length), zO b 1 [.ref q, .int 0, .int 0, .int (nI n)]]) (st' := []) rfl rfl ?_
  refine sx_wsub (ws' := [zO b 1 [.ref q, .int 0, .int 0, .int (nI n)], zB T q m (va_cpy (fun j => nI (tx.getD j 0)) f 0 d tx.length)]) [1, 0] rfl rfl ?_
  exact sx_vret X dJ5_putStringAt_47b60_18 rfl rfl rfl
theorem SBf_app {t1 t2 : List Nat} {m m' : Nat} {f f' : Nat → Int32} (h : SBf t1 m f) (hr : (t1 ++ t2).length ≤ m') (hm' : m' ≤ 3000) (hf' : sb_Fit f') (hk : ∀ j, j < m → f' j = f j) (h2 : ∀ x ∈ t2, x < 128) : SBf (t1 ++ t2) m' (va_cpy (fun j => nI (t2.getD j 0)) f' 0 t1.length t2.length) := by
  obtain ⟨a1, a2, a3, a4, a5⟩ := h
  rw [List.length_append] at hr
  refine ⟨by rw [List.length_append]; exact hr, hm', fun j => ?_, fun x hx => (List.mem_append.mp hx).elim (a4 x) (h2 x), fun j hj => ?_⟩
  · by_cases e : t1.length ≤ j ∧ j < t1.length + t2.length
    · rw [pk_cpy_in e.1 e.2]
      have hi : 0 + (j - t1.length) < t2.length := by omega
      show fits .byte (.int (nI (t2.getD (0 + (j - t1.length)) 0))) = true
      exact fit128 (h2 _ (gd_mem hi))
    · rw [pk_cpy_out (by omega)]
      exact hf' j
  · rw [List.length_append] at hj
    by_cases e : j < t1.length
    · rw [pk_cpy_out (Or.inl e), hk j (by omega), a5 j e, gd_l e]
    · rw [pk_cpy_in (by omega) (by omega), gd_r (by omega)]
      show nI (t2.getD (0 + (j - t1.length)) 0) = _
      rw [Nat.zero_add]
theorem hd_apS : SxDs yJ5_append_cf1ce 1 := ⟨by decide, by decide, by decide +kernel⟩
set_option maxRecDepth 100000 in
theorem c_apS {l : Launch} {D : va_G} {T : Nat → ClassId} {sd : SdT} {jd : JdT} (a b q m : Nat) (t1 tx : List Nat) (f : Nat → Int32) (hS : SBf t1 m f) (hlen : t1.length + tx.length ≤ 1500) (h128 : ∀ x ∈ tx, x < 128) : SxKP (SFand (SFy sd jd) (StrAt a tx)) l D T yJ5_append_cf1ce cJ5_append_cf1ce 3 (some (.object "java/lang/AbstractStringBuilder")) (rmL 4 1 3000) [.ref b, .ref a] [oSB b q t1.length, zB T q m f] (fun _ : Nat × Nat × (Nat → Int32) => some (.ref b)) (fun w => [oSB b w.1 (t1 ++ tx).length, zB T w.1 w.2.1 w.2.2]) (fun w => SBf (t1 ++ tx) w.2.1 w.2.2) 1 3000 := by
  refine sx_startP (SFand_ok (SFy_ok sd jd) (StrAt_ok a tx)) (by decide +kernel) (Nat.le_of_ble_eq_true rfl) (fun p e s mi args below meth c A X hnm => ?_)
  have XS := X
  have XY := XS.dn (SFy_ok sd jd)
  have X := XY.dn (SFx_ok sd)
  have XJ := XY.fz
  obtain ⟨v, hO, hco, hva, hT⟩ := XS.fz
  refine sx_aload_n X 1 rfl dJ5_append_cf1ce_0 rfl ?_
  refine sx_ifnonnull X 9 dJ5_append_cf1ce_1 rfl ?_
  refine sx_aload_n X 1 rfl dJ5_append_cf1ce_9 rfl ?_
  refine sx_pV X ((c_stLe (l := l) (D := D) (T := T) (sd := sd) (jd := jd) a tx (by omega)).toP) XS.M (wr := [zO b 1 [.ref q, .int 0, .int 0, .int (nI t1.length)], zB T q m f]) (sx_rcvO hO) qm_1286 qm_785 qm_786 qm_27 qm_787 hd_slen ⟨rfl, rfl⟩ ⟨Nat.le_of_ble_eq_true rfl, Nat.le_of_ble_eq_true rfl⟩ rfl rfl (Nat.le_of_ble_eq_true rfl) ⟨Nat.le_of_ble_eq_true rfl, Nat.le_of_ble_eq_true rfl⟩ dJ5_append_cf1ce_10 rfl (fun u9 hu9 => ?_)
  refine sx_chg (ws' := [zO b 1 [.ref q, .int 0, .int 0, .int (nI t1.length)], zB T q m f]) (st' := [.int (nI tx.length)]) rfl rfl ?_
  refine sx_istore_n X (lv' := [(2, .int (nI tx.length)), (0, .ref b), (1, .ref a)]) dJ5_append_cf1ce_13 rfl (by decide) rfl ?_
  refine sx_aload_n X 1 rfl dJ5_append_cf1ce_14 rfl ?_
  refine sx_aload_n X 1 rfl dJ5_append_cf1ce_15 rfl ?_
  refine sx_get X kJ4 0 rfl 3 (Nat.le_of_ble_eq_true rfl) qm_1450 rfl dJ5_append_cf1ce_16 ?_
  refine sx_iload_n X 0 rfl dJ5_append_cf1ce_19 rfl ?_
  refine sx_iadd X dJ5_append_cf1ce_20 ?_
  refine sx_topi (y := nI (t1.length + tx.length)) (nI_add _ _) ?_
  refine sx_pP X (c_ens (l := l) (D := D) (T := T) (sd := sd) (jd := jd) b q t1.length m (t1.length + tx.length) f hS.2.1 hlen hS.2.2.1) XY.M (wr := []) (sx_rcv X (q0 := 0) (w := [zO b 1 [.ref q, .int 0, .int 0, .int (nI t1.length)], zB T q m f]) rfl rfl) qm_1234 qm_1606 (XJ.2.2.2.2.2.2.2.2.2.2.2.2 _ (List.mem_of_getElem? (i := 1) rfl)) qm_1236 qm_25 qm_1237 hd_ens ⟨rfl, rfl⟩ ⟨Nat.le_of_ble_eq_true rfl, Nat.le_of_ble_eq_true rfl⟩ rfl rfl (Nat.le_of_ble_eq_true rfl) ⟨Nat.le_of_ble_eq_true rfl, Nat.le_of_ble_eq_true rfl⟩ dJ5_append_cf1ce_21 rfl (fun w hw => ?_)
  refine sx_chg (ws' := [zO b 1 [.ref w.1, .int 0, .int 0, .int (nI t1.length)], zB T w.1 w.2.1 w.2.2]) (st' := []) rfl rfl ?_
  refine sx_aload_n X 1 rfl dJ5_append_cf1ce_24 rfl ?_
  refine sx_aload_n X 1 rfl dJ5_append_cf1ce_25 rfl ?_
  refine sx_get X kJ4 0 rfl 3 (Nat.le_of_ble_eq_true rfl) qm_1450 rfl dJ5_append_cf1ce_26 ?_
  refine sx_aload_n X 2 rfl dJ5_append_cf1ce_29 rfl ?_
  refine sx_pP X ((c_putS (l := l) (D := D) (T := T) (sd := sd) (jd := jd) a b w.1 t1.length w.2.1 t1.length tx w.2.2 hw.2.1 hw.1 h128).toP) XS.M (wr := []) (sx_rcv X (q0 := 0) (w := [zO b 1 [.ref w.1, .int 0, .int 0, .int (nI t1.length)], zB T w.1 w.2.1 w.2.2]) rfl rfl) qm_1287 qm_1608 (XJ.2.2.2.2.2.2.2.2.2.2.2.2 _ (List.mem_of_getElem? (i := 3) rfl)) qm_1289 qm_25 qm_1290 hd_putS ⟨rfl, rfl⟩ ⟨Nat.le_of_ble_eq_true rfl, Nat.le_of_ble_eq_true rfl⟩ rfl rfl (Nat.le_of_ble_eq_true rfl) ⟨Nat.le_of_ble_eq_true rfl, Nat.le_of_ble_eq_true rfl⟩ dJ5_append_cf1ce_30 rfl (fun u9 hu9 => ?_)
  refine sx_chg (ws' := [zO b 1 [.ref w.1, .int 0, .int 0, .int (nI t1.length)], zB T w.1 w.2.1 (va_cpy (fun j => nI (tx.getD j 0)) w.2.2 0 t1.length tx.length)]) (st' := []) rfl rfl ?_
  refine sx_aload_n X 1 rfl dJ5_append_cf1ce_33 rfl ?_
  refine sx_dup X dJ5_append_cf1ce_34 rfl ?_
  refine sx_get X kJ4 0 rfl 3 (Nat.le_of_ble_eq_true rfl) qm_1450 rfl dJ5_append_cf1ce_35 ?_
  refine sx_iload_n X 0 rfl dJ5_append_cf1ce_38 rfl ?_
  refine sx_iadd X dJ5_append_cf1ce_39 ?_
  refine sx_topi (y := nI (t1 ++ tx).length) ((nI_add _ _).trans (by rw [List.length_append])) ?_
  refine sx_put X (ws' := [zO b 1 [.ref w.1, .int 0, .int 0, .int (nI (t1 ++ tx).length)], zB T w.1 w.2.1 (va_cpy (fun j => nI (tx.getD j 0)) w.2.2 0 t1.length tx.length)]) kJ4 0 rfl 3 (Nat.le_of_ble_eq_true rfl) qm_1450 rfl rfl rfl (Nat.le_of_ble_eq_true rfl) rfl dJ5_append_cf1ce_40 ?_
  refine sx_aload_n X 1 rfl dJ5_append_cf1ce_43 rfl ?_
  refine sx_pick (w.1, w.2.1, (va_cpy (fun j => nI (tx.getD j 0)) w.2.2 0 t1.length tx.length)) (SBf_app hS (by rw [List.length_append]; exact hw.1) hw.2.1 hw.2.2.2.1 hw.2.2.2.2 h128) ?_
  exact sx_aret X dJ5_append_cf1ce_44 rfl rfl rfl
theorem hd_sbS : SxDs yJ4_append_15ec4 1 := ⟨by decide, by decide, by decide +kernel⟩
theorem he_apS : yJ5_append_cf1ce.name ≠ "<init>" ∧ (parseMethodDescriptor yJ5_append_cf1ce.desc).map (fun d => d.parameters.length) = some 1 := ⟨by decide, by decide +kernel⟩
set_option maxRecDepth 100000 in
theorem c_sbS {l : Launch} {D : va_G} {T : Nat → ClassId} {sd : SdT} {jd : JdT} (a b q m : Nat) (t1 tx : List Nat) (f : Nat → Int32) (hS : SBf t1 m f) (hlen : t1.length + tx.length ≤ 1500) (h128 : ∀ x ∈ tx, x < 128) : SxKP (SFand (SFy sd jd) (StrAt a tx)) l D T yJ4_append_15ec4 cJ4_append_15ec4 2 (some (.object "java/lang/StringBuilder")) (rmL 5 1 3000) [.ref b, .ref a] [oSB b q t1.length, zB T q m f] (fun _ : Nat × Nat × (Nat → Int32) => some (.ref b)) (fun w => [oSB b w.1 (t1 ++ tx).length, zB T w.1 w.2.1 w.2.2]) (fun w => SBf (t1 ++ tx) w.2.1 w.2.2) 1 3000 := by
  refine sx_startP (SFand_ok (SFy_ok sd jd) (StrAt_ok a tx)) (by decide +kernel) (Nat.le_of_ble_eq_true rfl) (fun p e s mi args below meth c A X hnm => ?_)
  have XS := X
  have XY := XS.dn (SFy_ok sd jd)
  have X := XY.dn (SFx_ok sd)
  have XJ := XY.fz
  obtain ⟨v, hO, hco, hva, hT⟩ := XS.fz
  refine sx_aload_n X 0 rfl dJ4_append_15ec4_0 rfl ?_
  refine sx_aload_n X 1 rfl dJ4_append_15ec4_1 rfl ?_
  refine sx_pSU X (c_apS (l := l) (D := D) (T := T) (sd := sd) (jd := jd) a b q m t1 tx f hS hlen h128) XS.M (wr := []) (ci0 := 1) rfl rfl (sx_rcv X (q0 := 0) (w := [zO b 1 [.ref q, .int 0, .int 0, .int (nI t1.length)], zB T q m f]) rfl rfl) qm_1226 qm_1604 (big_of (i := 1227) (by decide +kernel) (by decide +kernel)) qm_1228 qm_25 qm_1229 he_apS ⟨rfl, rfl⟩ ⟨Nat.le_of_ble_eq_true rfl, Nat.le_of_ble_eq_true rfl⟩ rfl rfl (Nat.le_of_ble_eq_true rfl) ⟨Nat.le_of_ble_eq_true rfl, Nat.le_of_ble_eq_true rfl⟩ dJ4_append_15ec4_2 rfl (fun w hw => ?_)
  refine sx_chg (ws' := [zO b 1 [.ref w.1, .int 0, .int 0, .int (nI (t1 ++ tx).length)], zB T w.1 w.2.1 w.2.2]) (st' := [.ref b]) rfl rfl ?_
  refine sx_pop X dJ4_append_15ec4_5 rfl ?_
  refine sx_aload_n X 0 rfl dJ4_append_15ec4_6 rfl ?_
  refine sx_pick w hw ?_
  exact sx_aret X dJ4_append_15ec4_7 rfl rfl rfl
