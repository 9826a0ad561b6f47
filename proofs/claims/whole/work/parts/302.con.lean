/-! contracts, part 2 -/
abbrev vf_X4_find (sd : SdT) (r : Int32) : Option Value := some (.int r)
abbrev wc_X4_find (T : Nat → ClassId) (sd : SdT) (h : Nat) (h_names : Nat) (h_from : Nat) (h_weakest : Nat) (h_strongest : Nat) (h_nerve : Nat) (b_h : bX4) : va_W := [zO h 1 [.ref h_names, .ref h_from, .ref h_weakest, .ref h_strongest, .ref h_nerve, .int (X4_count b_h)], zJ T h_names 10 (X4_names b_h), zI T h_from 10 (X4_from b_h), zI T h_weakest 10 (X4_weakest b_h), zI T h_strongest 10 (X4_strongest b_h), zI T h_nerve 10 (X4_nerve b_h)]
abbrev wf_X4_find (T : Nat → ClassId) (sd : SdT) (h : Nat) (h_names : Nat) (h_from : Nat) (h_weakest : Nat) (h_strongest : Nat) (h_nerve : Nat) (b_h : bX4) (r : Int32) : va_W := [zO h 1 [.ref h_names, .ref h_from, .ref h_weakest, .ref h_strongest, .ref h_nerve, .int (X4_count b_h)], zJ T h_names 10 (X4_names b_h), zI T h_from 10 (X4_from b_h), zI T h_weakest 10 (X4_weakest b_h), zI T h_strongest 10 (X4_strongest b_h), zI T h_nerve 10 (X4_nerve b_h)]
abbrev rm_X4_find : Room := { frames := 0, cells := 0, slots := 0, locals := 0 }
theorem hd_X4_find : yX4_find.cls ≠ "java/lang/invoke/MethodHandle" ∧ yX4_find.cls ≠ "java/lang/invoke/VarHandle" ∧ (parseMethodDescriptor yX4_find.desc).map (fun d => d.parameters.length) = some 1 := ⟨by decide, by decide, by decide +kernel⟩
set_option maxHeartbeats 4000000 in
set_option maxRecDepth 100000 in
theorem c_X4_find {l : Launch} {D : va_G} {T : Nat → ClassId} {sd : SdT} (h : Nat) (h_names : Nat) (h_from : Nat) (h_weakest : Nat) (h_strongest : Nat) (h_nerve : Nat) (n : Nat) (x0 : Int64) (b_h : bX4) {res : Int32} (hf : f_X4_find n x0 b_h = some res) : SxK (SFx sd) l D T yX4_find cX4_find 4 (some .int) rm_X4_find [.ref h, .long x0] (wc_X4_find T sd h h_names h_from h_weakest h_strongest h_nerve b_h) (vf_X4_find sd) (wf_X4_find T sd h h_names h_from h_weakest h_strongest h_nerve b_h) res 0 0 := by
  refine sx_start (SFx_ok sd) (by decide +kernel) (Nat.le_of_ble_eq_true rfl) (fun p e s m args below meth c A X hnm => ?_)
  have hf := ob_1 hf
  have L2 : ∀ (v1 : Int64) (n0 : Nat) (v3 : Int32), (iter (fun s : Int32 => f_X4_find_L2 n x0 b_h v1 s) n0 v3).bind some = some res → SxG p l e rm_X4_find s m args below meth c D A 4 0 0 (SxE below args s D A (vf_X4_find sd) (wf_X4_find T sd h h_names h_from h_weakest h_strongest h_nerve b_h) res 0 0) [zO h 1 [.ref h_names, .ref h_from, .ref h_weakest, .ref h_strongest, .ref h_nerve, .int (X4_count b_h)], zJ T h_names 10 (X4_names b_h), zI T h_from 10 (X4_from b_h), zI T h_weakest 10 (X4_weakest b_h), zI T h_strongest 10 (X4_strongest b_h), zI T h_nerve 10 (X4_nerve b_h)] [(0, .ref h), (1, .long v1), (3, .int v3)] 2 [] := by
    intro v1 n0
    induction n0 with
    | zero =>
      intro v3 hf
      exact (iter_z hf).elim
    | succ n0 ih2 =>
      intro v3 hf
      obtain ⟨κ2, hκ2, hf⟩ := iter_k hf
      have hf : (f_X4_find_L2 n x0 b_h v1 v3).bind κ2 = some res := hf
      refine sx_iload_n X 2 rfl dX4_find_2 rfl ?_
      refine sx_aload_n X 0 rfl dX4_find_3 rfl ?_
      refine sx_get X kX4 0 rfl 5 (Nat.le_of_ble_eq_true rfl) qm_236 rfl dX4_find_4 ?_
      refine sx_icmp_ge X 29 dX4_find_7 rfl (fun c1 => ?_) (fun c1 => ?_)
      · have hf := ob_t hf c1
        refine sx_iconst X (v := (-1)) dX4_find_29 rfl ?_
        have hf := ob_kr hκ2 hf
        exact sx_iret X rfl dX4_find_30 (ob_e hf) rfl rfl
      · have hf := ob_f hf c1
        refine sx_aload_n X 0 rfl dX4_find_10 rfl ?_
        refine sx_get X kX4 0 rfl 0 (Nat.le_of_ble_eq_true rfl) qm_227 rfl dX4_find_11 ?_
        refine sx_iload_n X 2 rfl dX4_find_14 rfl ?_
        obtain ⟨g2, hf⟩ := ob_g hf
        refine sx_lald X 1 rfl g2 dX4_find_15 ?_
        refine sx_lload_n X 1 rfl dX4_find_16 rfl ?_
        refine sx_lcmp X dX4_find_17 ?_
        refine sx_if_ne X 23 dX4_find_18 rfl (fun c3 => ?_) (fun c3 => ?_)
        · have hf := ob_f hf c3
          refine sx_iinc X (v := (v3 + 1)) (lv' := [(3, .int (v3 + 1)), (0, .ref h), (1, .long v1)]) 2 rfl dX4_find_23 rfl (by decide) rfl ?_
          refine sx_goto X 2 dX4_find_26 rfl ?_
          have hf := ob_k hκ2 hf
          refine sx_lsub [1, 2, 0] rfl ?_
          exact ih2 (v3 + 1) hf
        · have hf := ob_t hf c3
          refine sx_iload_n X 2 rfl dX4_find_21 rfl ?_
          have hf := ob_kr hκ2 hf
          exact sx_iret X rfl dX4_find_22 (ob_e hf) rfl rfl
  refine sx_iconst X (v := 0) dX4_find_0 rfl ?_
  refine sx_istore_n X (lv' := [(3, .int 0), (0, .ref h), (1, .long x0)]) dX4_find_1 rfl (by decide) rfl ?_
  refine sx_lsub [1, 2, 0] rfl ?_
  exact L2 x0 n 0 hf

abbrev vf_X4_add (sd : SdT) (_r : (Nat → Int64) × (Nat → Int32) × (Nat → Int32) × (Nat → Int32) × (Nat → Int32) × Int32) : Option Value := none
abbrev wc_X4_add (T : Nat → ClassId) (sd : SdT) (h : Nat) (h_names : Nat) (h_from : Nat) (h_weakest : Nat) (h_strongest : Nat) (h_nerve : Nat) (b_h : bX4) : va_W := [zO h 1 [.ref h_names, .ref h_from, .ref h_weakest, .ref h_strongest, .ref h_nerve, .int (X4_count b_h)], zJ T h_names 10 (X4_names b_h), zI T h_from 10 (X4_from b_h), zI T h_weakest 10 (X4_weakest b_h), zI T h_strongest 10 (X4_strongest b_h), zI T h_nerve 10 (X4_nerve b_h)]
abbrev wf_X4_add (T : Nat → ClassId) (sd : SdT) (h : Nat) (h_names : Nat) (h_from : Nat) (h_weakest : Nat) (h_strongest : Nat) (h_nerve : Nat) (b_h : bX4) (r : (Nat → Int64) × (Nat → Int32) × (Nat → Int32) × (Nat → Int32) × (Nat → Int32) × Int32) : va_W := [zO h 1 [.ref h_names, .ref h_from, .ref h_weakest, .ref h_strongest, .ref h_nerve, .int r.2.2.2.2.2], zJ T h_names 10 r.1, zI T h_from 10 r.2.1, zI T h_weakest 10 r.2.2.1, zI T h_strongest 10 r.2.2.2.1, zI T h_nerve 10 r.2.2.2.2.1]
abbrev rm_X4_add : Room := { frames := 0, cells := 0, slots := 0, locals := 0 }
theorem hd_X4_add : yX4_add.cls ≠ "java/lang/invoke/MethodHandle" ∧ yX4_add.cls ≠ "java/lang/invoke/VarHandle" ∧ (parseMethodDescriptor yX4_add.desc).map (fun d => d.parameters.length) = some 5 := ⟨by decide, by decide, by decide +kernel⟩
set_option maxHeartbeats 4000000 in
set_option maxRecDepth 100000 in
theorem c_X4_add {l : Launch} {D : va_G} {T : Nat → ClassId} {sd : SdT} (h : Nat) (h_names : Nat) (h_from : Nat) (h_weakest : Nat) (h_strongest : Nat) (h_nerve : Nat) (x0 : Int64) (x1 : Int32) (x2 : Int32) (x3 : Int32) (x4 : Int32) (b_h : bX4) {res : (Nat → Int64) × (Nat → Int32) × (Nat → Int32) × (Nat → Int32) × (Nat → Int32) × Int32} (hf : f_X4_add x0 x1 x2 x3 x4 b_h = some res) : SxK (SFx sd) l D T yX4_add cX4_add 7 none rm_X4_add [.ref h, .long x0, .int x1, .int x2, .int x3, .int x4] (wc_X4_add T sd h h_names h_from h_weakest h_strongest h_nerve b_h) (vf_X4_add sd) (wf_X4_add T sd h h_names h_from h_weakest h_strongest h_nerve b_h) res 0 0 := by
  refine sx_start (SFx_ok sd) (by decide +kernel) (Nat.le_of_ble_eq_true rfl) (fun p e s m args below meth c A X hnm => ?_)
  have hf := ob_1 hf
  refine sx_aload_n X 0 rfl dX4_add_0 rfl ?_
  refine sx_get X kX4 0 rfl 5 (Nat.le_of_ble_eq_true rfl) qm_236 rfl dX4_add_1 ?_
  refine sx_bipush X (v := 10) dX4_add_4 rfl ?_
  refine sx_icmp_ge X 72 dX4_add_6 rfl (fun c1 => ?_) (fun c1 => ?_)
  · have hf := ob_t hf c1
    exact sx_vret X dX4_add_72 (ob_e hf) rfl rfl
  · have hf := ob_f hf c1
    refine sx_aload_n X 0 rfl dX4_add_9 rfl ?_
    refine sx_get X kX4 0 rfl 0 (Nat.le_of_ble_eq_true rfl) qm_227 rfl dX4_add_10 ?_
    refine sx_aload_n X 0 rfl dX4_add_13 rfl ?_
    refine sx_get X kX4 0 rfl 5 (Nat.le_of_ble_eq_true rfl) qm_236 rfl dX4_add_14 ?_
    refine sx_lload_n X 1 rfl dX4_add_17 rfl ?_
    obtain ⟨g2, hf⟩ := ob_g hf
    refine sx_last X (ws' := [zO h 1 [.ref h_names, .ref h_from, .ref h_weakest, .ref h_strongest, .ref h_nerve, .int (X4_count b_h)], zJ T h_names 10 (vp_updL (X4_names b_h) (X4_count b_h).toNatClampNeg x0), zI T h_from 10 (X4_from b_h), zI T h_weakest 10 (X4_weakest b_h), zI T h_strongest 10 (X4_strongest b_h), zI T h_nerve 10 (X4_nerve b_h)]) 1 rfl g2 rfl dX4_add_18 ?_
    refine sx_aload_n X 0 rfl dX4_add_19 rfl ?_
    refine sx_get X kX4 0 rfl 1 (Nat.le_of_ble_eq_true rfl) qm_228 rfl dX4_add_20 ?_
    refine sx_aload_n X 0 rfl dX4_add_23 rfl ?_
    refine sx_get X kX4 0 rfl 5 (Nat.le_of_ble_eq_true rfl) qm_236 rfl dX4_add_24 ?_
    refine sx_iload_n X 2 rfl dX4_add_27 rfl ?_
    obtain ⟨g3, hf⟩ := ob_g hf
    refine sx_iast X (ws' := [zO h 1 [.ref h_names, .ref h_from, .ref h_weakest, .ref h_strongest, .ref h_nerve, .int (X4_count b_h)], zJ T h_names 10 (vp_updL (X4_names b_h) (X4_count b_h).toNatClampNeg x0), zI T h_from 10 (upd (X4_from b_h) (X4_count b_h).toNatClampNeg x1), zI T h_weakest 10 (X4_weakest b_h), zI T h_strongest 10 (X4_strongest b_h), zI T h_nerve 10 (X4_nerve b_h)]) 2 rfl g3 rfl dX4_add_28 ?_
    refine sx_aload_n X 0 rfl dX4_add_29 rfl ?_
    refine sx_get X kX4 0 rfl 2 (Nat.le_of_ble_eq_true rfl) qm_230 rfl dX4_add_30 ?_
    refine sx_aload_n X 0 rfl dX4_add_33 rfl ?_
    refine sx_get X kX4 0 rfl 5 (Nat.le_of_ble_eq_true rfl) qm_236 rfl dX4_add_34 ?_
    refine sx_iload X 3 rfl dX4_add_37 ?_
    obtain ⟨g4, hf⟩ := ob_g hf
    refine sx_iast X (ws' := [zO h 1 [.ref h_names, .ref h_from, .ref h_weakest, .ref h_strongest, .ref h_nerve, .int (X4_count b_h)], zJ T h_names 10 (vp_updL (X4_names b_h) (X4_count b_h).toNatClampNeg x0), zI T h_from 10 (upd (X4_from b_h) (X4_count b_h).toNatClampNeg x1), zI T h_weakest 10 (upd (X4_weakest b_h) (X4_count b_h).toNatClampNeg x2), zI T h_strongest 10 (X4_strongest b_h), zI T h_nerve 10 (X4_nerve b_h)]) 3 rfl g4 rfl dX4_add_39 ?_
    refine sx_aload_n X 0 rfl dX4_add_40 rfl ?_
    refine sx_get X kX4 0 rfl 3 (Nat.le_of_ble_eq_true rfl) qm_232 rfl dX4_add_41 ?_
    refine sx_aload_n X 0 rfl dX4_add_44 rfl ?_
    refine sx_get X kX4 0 rfl 5 (Nat.le_of_ble_eq_true rfl) qm_236 rfl dX4_add_45 ?_
    refine sx_iload X 4 rfl dX4_add_48 ?_
    obtain ⟨g5, hf⟩ := ob_g hf
    refine sx_iast X (ws' := [zO h 1 [.ref h_names, .ref h_from, .ref h_weakest, .ref h_strongest, .ref h_nerve, .int (X4_count b_h)], zJ T h_names 10 (vp_updL (X4_names b_h) (X4_count b_h).toNatClampNeg x0), zI T h_from 10 (upd (X4_from b_h) (X4_count b_h).toNatClampNeg x1), zI T h_weakest 10 (upd (X4_weakest b_h) (X4_count b_h).toNatClampNeg x2), zI T h_strongest 10 (upd (X4_strongest b_h) (X4_count b_h).toNatClampNeg x3), zI T h_nerve 10 (X4_nerve b_h)]) 4 rfl g5 rfl dX4_add_50 ?_
    refine sx_aload_n X 0 rfl dX4_add_51 rfl ?_
    refine sx_get X kX4 0 rfl 4 (Nat.le_of_ble_eq_true rfl) qm_234 rfl dX4_add_52 ?_
    refine sx_aload_n X 0 rfl dX4_add_55 rfl ?_
    refine sx_get X kX4 0 rfl 5 (Nat.le_of_ble_eq_true rfl) qm_236 rfl dX4_add_56 ?_
    refine sx_iload X 5 rfl dX4_add_59 ?_
    obtain ⟨g6, hf⟩ := ob_g hf
    refine sx_iast X (ws' := [zO h 1 [.ref h_names, .ref h_from, .ref h_weakest, .ref h_strongest, .ref h_nerve, .int (X4_count b_h)], zJ T h_names 10 (vp_updL (X4_names b_h) (X4_count b_h).toNatClampNeg x0), zI T h_from 10 (upd (X4_from b_h) (X4_count b_h).toNatClampNeg x1), zI T h_weakest 10 (upd (X4_weakest b_h) (X4_count b_h).toNatClampNeg x2), zI T h_strongest 10 (upd (X4_strongest b_h) (X4_count b_h).toNatClampNeg x3), zI T h_nerve 10 (upd (X4_nerve b_h) (X4_count b_h).toNatClampNeg x4)]) 5 rfl g6 rfl dX4_add_61 ?_
    refine sx_aload_n X 0 rfl dX4_add_62 rfl ?_
    refine sx_dup X dX4_add_63 rfl ?_
    refine sx_get X kX4 0 rfl 5 (Nat.le_of_ble_eq_true rfl) qm_236 rfl dX4_add_64 ?_
    refine sx_iconst X (v := 1) dX4_add_67 rfl ?_
    refine sx_iadd X dX4_add_68 ?_
    refine sx_put X (ws' := [zO h 1 [.ref h_names, .ref h_from, .ref h_weakest, .ref h_strongest, .ref h_nerve, .int ((X4_count b_h) + 1)], zJ T h_names 10 (vp_updL (X4_names b_h) (X4_count b_h).toNatClampNeg x0), zI T h_from 10 (upd (X4_from b_h) (X4_count b_h).toNatClampNeg x1), zI T h_weakest 10 (upd (X4_weakest b_h) (X4_count b_h).toNatClampNeg x2), zI T h_strongest 10 (upd (X4_strongest b_h) (X4_count b_h).toNatClampNeg x3), zI T h_nerve 10 (upd (X4_nerve b_h) (X4_count b_h).toNatClampNeg x4)]) kX4 0 rfl 5 (Nat.le_of_ble_eq_true rfl) qm_236 rfl rfl rfl (Nat.le_of_ble_eq_true rfl) rfl dX4_add_69 ?_
    exact sx_vret X dX4_add_72 (ob_e hf) rfl rfl
