/-! contracts, part 1 -/
abbrev vf_X4_add (sd : SdT) (_r : (Nat → Int64) × (Nat → Int32) × (Nat → Int32) × (Nat → Int32) × (Nat → Int32) × Int32) : Option Value := none
abbrev wc_X4_add (T : Nat → ClassId) (sd : SdT) (h : Nat) (h_names : Nat) (h_from : Nat) (h_weakest : Nat) (h_strongest : Nat) (h_nerve : Nat) (b_h : bX4) : va_W := [zO h 3 [.ref h_names, .ref h_from, .ref h_weakest, .ref h_strongest, .ref h_nerve, .int (X4_count b_h)], zJ T h_names 10 (X4_names b_h), zI T h_from 10 (X4_from b_h), zI T h_weakest 10 (X4_weakest b_h), zI T h_strongest 10 (X4_strongest b_h), zI T h_nerve 10 (X4_nerve b_h)]
abbrev wf_X4_add (T : Nat → ClassId) (sd : SdT) (h : Nat) (h_names : Nat) (h_from : Nat) (h_weakest : Nat) (h_strongest : Nat) (h_nerve : Nat) (b_h : bX4) (r : (Nat → Int64) × (Nat → Int32) × (Nat → Int32) × (Nat → Int32) × (Nat → Int32) × Int32) : va_W := [zO h 3 [.ref h_names, .ref h_from, .ref h_weakest, .ref h_strongest, .ref h_nerve, .int r.2.2.2.2.2], zJ T h_names 10 r.1, zI T h_from 10 r.2.1, zI T h_weakest 10 r.2.2.1, zI T h_strongest 10 r.2.2.2.1, zI T h_nerve 10 r.2.2.2.2.1]
abbrev rm_X4_add : Room := { frames := 0, cells := 0, slots := 0, locals := 0 }
theorem hd_X4_add : yX4_add.cls ≠ "java/lang/invoke/MethodHandle" ∧ yX4_add.cls ≠ "java/lang/invoke/VarHandle" ∧ (parseMethodDescriptor yX4_add.desc).map (fun d => d.parameters.length) = some 5 := ⟨by decide, by decide, by decide +kernel⟩
set_option maxHeartbeats 4000000 in
set_option maxRecDepth 100000 in
theorem c_X4_add {l : Launch} {D : va_G} {T : Nat → ClassId} {sd : SdT} (h : Nat) (h_names : Nat) (h_from : Nat) (h_weakest : Nat) (h_strongest : Nat) (h_nerve : Nat) (x0 : Int64) (x1 : Int32) (x2 : Int32) (x3 : Int32) (x4 : Int32) (b_h : bX4) {res : (Nat → Int64) × (Nat → Int32) × (Nat → Int32) × (Nat → Int32) × (Nat → Int32) × Int32} (hf : f_X4_add x0 x1 x2 x3 x4 b_h = some res) : SxK (SFx sd) l D T yX4_add cX4_add 7 none rm_X4_add [.ref h, .long x0, .int x1, .int x2, .int x3, .int x4] (wc_X4_add T sd h h_names h_from h_weakest h_strongest h_nerve b_h) (vf_X4_add sd) (wf_X4_add T sd h h_names h_from h_weakest h_strongest h_nerve b_h) res 0 0 := by
  refine sx_start (SFx_ok sd) (by decide +kernel) (Nat.le_of_ble_eq_true rfl) (fun p e s m args below meth c A X hnm => ?_)
  have hf := ob_1 hf
  refine sx_aload_n X 0 rfl dX4_add_0 rfl ?_
  refine sx_get X kX4 0 rfl 5 (Nat.le_of_ble_eq_true rfl) qm_189 rfl dX4_add_1 ?_
  refine sx_bipush X (v := 10) dX4_add_4 rfl ?_
  refine sx_icmp_ge X 72 dX4_add_6 rfl (fun c1 => ?_) (fun c1 => ?_)
  · have hf := ob_t hf c1
    exact sx_vret X dX4_add_72 (ob_e hf) rfl rfl
  · have hf := ob_f hf c1
    refine sx_aload_n X 0 rfl dX4_add_9 rfl ?_
    refine sx_get X kX4 0 rfl 0 (Nat.le_of_ble_eq_true rfl) qm_180 rfl dX4_add_10 ?_
    refine sx_aload_n X 0 rfl dX4_add_13 rfl ?_
    refine sx_get X kX4 0 rfl 5 (Nat.le_of_ble_eq_true rfl) qm_189 rfl dX4_add_14 ?_
    refine sx_lload_n X 1 rfl dX4_add_17 rfl ?_
    obtain ⟨g2, hf⟩ := ob_g hf
    refine sx_last X (ws' := [zO h 3 [.ref h_names, .ref h_from, .ref h_weakest, .ref h_strongest, .ref h_nerve, .int (X4_count b_h)], zJ T h_names 10 (vp_updL (X4_names b_h) (X4_count b_h).toNatClampNeg x0), zI T h_from 10 (X4_from b_h), zI T h_weakest 10 (X4_weakest b_h), zI T h_strongest 10 (X4_strongest b_h), zI T h_nerve 10 (X4_nerve b_h)]) 1 rfl g2 rfl dX4_add_18 ?_
    refine sx_aload_n X 0 rfl dX4_add_19 rfl ?_
    refine sx_get X kX4 0 rfl 1 (Nat.le_of_ble_eq_true rfl) qm_181 rfl dX4_add_20 ?_
    refine sx_aload_n X 0 rfl dX4_add_23 rfl ?_
    refine sx_get X kX4 0 rfl 5 (Nat.le_of_ble_eq_true rfl) qm_189 rfl dX4_add_24 ?_
    refine sx_iload_n X 2 rfl dX4_add_27 rfl ?_
    obtain ⟨g3, hf⟩ := ob_g hf
    refine sx_iast X (ws' := [zO h 3 [.ref h_names, .ref h_from, .ref h_weakest, .ref h_strongest, .ref h_nerve, .int (X4_count b_h)], zJ T h_names 10 (vp_updL (X4_names b_h) (X4_count b_h).toNatClampNeg x0), zI T h_from 10 (upd (X4_from b_h) (X4_count b_h).toNatClampNeg x1), zI T h_weakest 10 (X4_weakest b_h), zI T h_strongest 10 (X4_strongest b_h), zI T h_nerve 10 (X4_nerve b_h)]) 2 rfl g3 rfl dX4_add_28 ?_
    refine sx_aload_n X 0 rfl dX4_add_29 rfl ?_
    refine sx_get X kX4 0 rfl 2 (Nat.le_of_ble_eq_true rfl) qm_183 rfl dX4_add_30 ?_
    refine sx_aload_n X 0 rfl dX4_add_33 rfl ?_
    refine sx_get X kX4 0 rfl 5 (Nat.le_of_ble_eq_true rfl) qm_189 rfl dX4_add_34 ?_
    refine sx_iload X 3 rfl dX4_add_37 ?_
    obtain ⟨g4, hf⟩ := ob_g hf
    refine sx_iast X (ws' := [zO h 3 [.ref h_names, .ref h_from, .ref h_weakest, .ref h_strongest, .ref h_nerve, .int (X4_count b_h)], zJ T h_names 10 (vp_updL (X4_names b_h) (X4_count b_h).toNatClampNeg x0), zI T h_from 10 (upd (X4_from b_h) (X4_count b_h).toNatClampNeg x1), zI T h_weakest 10 (upd (X4_weakest b_h) (X4_count b_h).toNatClampNeg x2), zI T h_strongest 10 (X4_strongest b_h), zI T h_nerve 10 (X4_nerve b_h)]) 3 rfl g4 rfl dX4_add_39 ?_
    refine sx_aload_n X 0 rfl dX4_add_40 rfl ?_
    refine sx_get X kX4 0 rfl 3 (Nat.le_of_ble_eq_true rfl) qm_185 rfl dX4_add_41 ?_
    refine sx_aload_n X 0 rfl dX4_add_44 rfl ?_
    refine sx_get X kX4 0 rfl 5 (Nat.le_of_ble_eq_true rfl) qm_189 rfl dX4_add_45 ?_
    refine sx_iload X 4 rfl dX4_add_48 ?_
    obtain ⟨g5, hf⟩ := ob_g hf
    refine sx_iast X (ws' := [zO h 3 [.ref h_names, .ref h_from, .ref h_weakest, .ref h_strongest, .ref h_nerve, .int (X4_count b_h)], zJ T h_names 10 (vp_updL (X4_names b_h) (X4_count b_h).toNatClampNeg x0), zI T h_from 10 (upd (X4_from b_h) (X4_count b_h).toNatClampNeg x1), zI T h_weakest 10 (upd (X4_weakest b_h) (X4_count b_h).toNatClampNeg x2), zI T h_strongest 10 (upd (X4_strongest b_h) (X4_count b_h).toNatClampNeg x3), zI T h_nerve 10 (X4_nerve b_h)]) 4 rfl g5 rfl dX4_add_50 ?_
    refine sx_aload_n X 0 rfl dX4_add_51 rfl ?_
    refine sx_get X kX4 0 rfl 4 (Nat.le_of_ble_eq_true rfl) qm_187 rfl dX4_add_52 ?_
    refine sx_aload_n X 0 rfl dX4_add_55 rfl ?_
    refine sx_get X kX4 0 rfl 5 (Nat.le_of_ble_eq_true rfl) qm_189 rfl dX4_add_56 ?_
    refine sx_iload X 5 rfl dX4_add_59 ?_
    obtain ⟨g6, hf⟩ := ob_g hf
    refine sx_iast X (ws' := [zO h 3 [.ref h_names, .ref h_from, .ref h_weakest, .ref h_strongest, .ref h_nerve, .int (X4_count b_h)], zJ T h_names 10 (vp_updL (X4_names b_h) (X4_count b_h).toNatClampNeg x0), zI T h_from 10 (upd (X4_from b_h) (X4_count b_h).toNatClampNeg x1), zI T h_weakest 10 (upd (X4_weakest b_h) (X4_count b_h).toNatClampNeg x2), zI T h_strongest 10 (upd (X4_strongest b_h) (X4_count b_h).toNatClampNeg x3), zI T h_nerve 10 (upd (X4_nerve b_h) (X4_count b_h).toNatClampNeg x4)]) 5 rfl g6 rfl dX4_add_61 ?_
    refine sx_aload_n X 0 rfl dX4_add_62 rfl ?_
    refine sx_dup X dX4_add_63 rfl ?_
    refine sx_get X kX4 0 rfl 5 (Nat.le_of_ble_eq_true rfl) qm_189 rfl dX4_add_64 ?_
    refine sx_iconst X (v := 1) dX4_add_67 rfl ?_
    refine sx_iadd X dX4_add_68 ?_
    refine sx_put X (ws' := [zO h 3 [.ref h_names, .ref h_from, .ref h_weakest, .ref h_strongest, .ref h_nerve, .int ((X4_count b_h) + 1)], zJ T h_names 10 (vp_updL (X4_names b_h) (X4_count b_h).toNatClampNeg x0), zI T h_from 10 (upd (X4_from b_h) (X4_count b_h).toNatClampNeg x1), zI T h_weakest 10 (upd (X4_weakest b_h) (X4_count b_h).toNatClampNeg x2), zI T h_strongest 10 (upd (X4_strongest b_h) (X4_count b_h).toNatClampNeg x3), zI T h_nerve 10 (upd (X4_nerve b_h) (X4_count b_h).toNatClampNeg x4)]) kX4 0 rfl 5 (Nat.le_of_ble_eq_true rfl) qm_189 rfl rfl rfl (Nat.le_of_ble_eq_true rfl) rfl dX4_add_69 ?_
    exact sx_vret X dX4_add_72 (ob_e hf) rfl rfl

abbrev vf_X1_checkGuest (sd : SdT) (_r : Int32 × Int32 × (Nat → Int64) × (Nat → Int32) × (Nat → Int32) × (Nat → Int32) × (Nat → Int32) × Int32) : Option Value := none
abbrev wc_X1_checkGuest (T : Nat → ClassId) (sd : SdT) (a0 : Nat) (a0_kinds : Nat) (a0_starts : Nat) (a0_values : Nat) (a2 : Nat) (a2_names : Nat) (a2_from : Nat) (a2_weakest : Nat) (a2_strongest : Nat) (a2_nerve : Nat) (b_a0 : bX11) (b_a2 : bX4) : va_W := [zO a0 9 [.ref a0_kinds, .ref a0_starts, .ref a0_values, .int (X11_count b_a0), .int (X11_cursor b_a0), .int (X11_error b_a0), .int (X11_errorToken b_a0)], zK T sd.1 a0_kinds 401 (X11_kinds b_a0), zI T a0_starts 401 (X11_starts b_a0), zJ T a0_values 401 (X11_values b_a0), zO a2 3 [.ref a2_names, .ref a2_from, .ref a2_weakest, .ref a2_strongest, .ref a2_nerve, .int (X4_count b_a2)], zJ T a2_names 10 (X4_names b_a2), zI T a2_from 10 (X4_from b_a2), zI T a2_weakest 10 (X4_weakest b_a2), zI T a2_strongest 10 (X4_strongest b_a2), zI T a2_nerve 10 (X4_nerve b_a2)]
abbrev wf_X1_checkGuest (T : Nat → ClassId) (sd : SdT) (a0 : Nat) (a0_kinds : Nat) (a0_starts : Nat) (a0_values : Nat) (a2 : Nat) (a2_names : Nat) (a2_from : Nat) (a2_weakest : Nat) (a2_strongest : Nat) (a2_nerve : Nat) (b_a0 : bX11) (b_a2 : bX4) (r : Int32 × Int32 × (Nat → Int64) × (Nat → Int32) × (Nat → Int32) × (Nat → Int32) × (Nat → Int32) × Int32) : va_W := [zO a0 9 [.ref a0_kinds, .ref a0_starts, .ref a0_values, .int (X11_count b_a0), .int (X11_cursor b_a0), .int r.1, .int r.2.1], zK T sd.1 a0_kinds 401 (X11_kinds b_a0), zI T a0_starts 401 (X11_starts b_a0), zJ T a0_values 401 (X11_values b_a0), zO a2 3 [.ref a2_names, .ref a2_from, .ref a2_weakest, .ref a2_strongest, .ref a2_nerve, .int r.2.2.2.2.2.2.2], zJ T a2_names 10 r.2.2.1, zI T a2_from 10 r.2.2.2.1, zI T a2_weakest 10 r.2.2.2.2.1, zI T a2_strongest 10 r.2.2.2.2.2.1, zI T a2_nerve 10 r.2.2.2.2.2.2.1]
abbrev rm_X1_checkGuest : Room := { frames := 3, cells := 0, slots := 0, locals := 66 }
theorem hd_X1_checkGuest : yX1_checkGuest.cls ≠ "java/lang/invoke/MethodHandle" ∧ yX1_checkGuest.cls ≠ "java/lang/invoke/VarHandle" ∧ (parseMethodDescriptor yX1_checkGuest.desc).map (fun d => d.parameters.length) = some 3 := ⟨by decide, by decide, by decide +kernel⟩
set_option maxHeartbeats 4000000 in
set_option maxRecDepth 100000 in
theorem c_X1_checkGuest {l : Launch} {D : va_G} {T : Nat → ClassId} {sd : SdT} (a0 : Nat) (a0_kinds : Nat) (a0_starts : Nat) (a0_values : Nat) (a2 : Nat) (a2_names : Nat) (a2_from : Nat) (a2_weakest : Nat) (a2_strongest : Nat) (a2_nerve : Nat) (n : Nat) (x1 : Int32) (b_a0 : bX11) (b_a2 : bX4) {res : Int32 × Int32 × (Nat → Int64) × (Nat → Int32) × (Nat → Int32) × (Nat → Int32) × (Nat → Int32) × Int32} (hf : f_X1_checkGuest n x1 b_a0 b_a2 = some res) : SxK (SFx sd) l D T yX1_checkGuest cX1_checkGuest 9 none rm_X1_checkGuest [.ref a0, .int x1, .ref a2] (wc_X1_checkGuest T sd a0 a0_kinds a0_starts a0_values a2 a2_names a2_from a2_weakest a2_strongest a2_nerve b_a0 b_a2) (vf_X1_checkGuest sd) (wf_X1_checkGuest T sd a0 a0_kinds a0_starts a0_values a2 a2_names a2_from a2_weakest a2_strongest a2_nerve b_a0 b_a2) res 0 0 := by
  refine sx_start (SFx_ok sd) (by decide +kernel) (Nat.le_of_ble_eq_true rfl) (fun p e s m args below meth c A X hnm => ?_)
  have hf := ob_1 hf
  have R40 : ∀ (v1 : Int32) (v3 : Int64) (w_a0_error : Int32) (w_a0_errorToken : Int32) (w_a2_names : Nat → Int64) (w_a2_from : Nat → Int32) (w_a2_weakest : Nat → Int32) (w_a2_strongest : Nat → Int32) (w_a2_nerve : Nat → Int32) (w_a2_count : Int32) (t0 : Int32), (f_X1_checkGuest_R40 n x1 b_a0 b_a2 v1 v3 w_a0_error w_a0_errorToken w_a2_names w_a2_from w_a2_weakest w_a2_strongest w_a2_nerve w_a2_count t0).bind some = some res → SxG p l e rm_X1_checkGuest s m args below meth c D A 9 0 0 (SxE below args s D A (vf_X1_checkGuest sd) (wf_X1_checkGuest T sd a0 a0_kinds a0_starts a0_values a2 a2_names a2_from a2_weakest a2_strongest a2_nerve b_a0 b_a2) res 0 0) [zO a0 9 [.ref a0_kinds, .ref a0_starts, .ref a0_values, .int (X11_count b_a0), .int (X11_cursor b_a0), .int w_a0_error, .int w_a0_errorToken], zK T sd.1 a0_kinds 401 (X11_kinds b_a0), zI T a0_starts 401 (X11_starts b_a0), zJ T a0_values 401 (X11_values b_a0), zO a2 3 [.ref a2_names, .ref a2_from, .ref a2_weakest, .ref a2_strongest, .ref a2_nerve, .int w_a2_count], zJ T a2_names 10 w_a2_names, zI T a2_from 10 w_a2_from, zI T a2_weakest 10 w_a2_weakest, zI T a2_strongest 10 w_a2_strongest, zI T a2_nerve 10 w_a2_nerve] [(0, .ref a0), (1, .int v1), (2, .ref a2), (3, .long v3)] 40 [.int t0, .ref a0] := by
    intro v1 v3 w_a0_error w_a0_errorToken w_a2_names w_a2_from w_a2_weakest w_a2_strongest w_a2_nerve w_a2_count t0 hf
    refine sx_iconst X (v := 4) dX1_checkGuest_40 rfl ?_
    refine sx_iload_n X 1 rfl dX1_checkGuest_41 rfl ?_
    obtain ⟨u6, hu6, hf⟩ := ob_c hf
    refine sx_cV X (c_X11_failUnless (l := l) (D := D) (T := T) (sd := sd) a0 a0_kinds a0_starts a0_values t0 4 v1 ((X11_kinds b_a0), (X11_starts b_a0), (X11_values b_a0), (X11_count b_a0), (X11_cursor b_a0), w_a0_error, w_a0_errorToken) hu6) (st' := []) (q0 := 0) qm_1072 qm_1051 qm_1052 qm_15 qm_1053 hd_X11_failUnless ⟨rfl, rfl⟩ ⟨Nat.le_of_ble_eq_true rfl, Nat.le_of_ble_eq_true rfl⟩ rfl rfl (Nat.le_of_ble_eq_true rfl) rfl rfl rfl [0, 1, 2, 3] rfl rfl (ws' := [zO a0 9 [.ref a0_kinds, .ref a0_starts, .ref a0_values, .int (X11_count b_a0), .int (X11_cursor b_a0), .int u6.1, .int u6.2], zK T sd.1 a0_kinds 401 (X11_kinds b_a0), zI T a0_starts 401 (X11_starts b_a0), zJ T a0_values 401 (X11_values b_a0), zO a2 3 [.ref a2_names, .ref a2_from, .ref a2_weakest, .ref a2_strongest, .ref a2_nerve, .int w_a2_count], zJ T a2_names 10 w_a2_names, zI T a2_from 10 w_a2_from, zI T a2_weakest 10 w_a2_weakest, zI T a2_strongest 10 w_a2_strongest, zI T a2_nerve 10 w_a2_nerve]) (sxPatch_pk [(true, 0), (true, 1), (true, 2), (true, 3), (false, 4), (false, 5), (false, 6), (false, 7), (false, 8), (false, 9)] (by decide +kernel) rfl rfl rfl) rfl ⟨Nat.le_of_ble_eq_true rfl, Nat.le_of_ble_eq_true rfl⟩ dX1_checkGuest_42 rfl ?_
    refine sx_aload_n X 0 rfl dX1_checkGuest_45 rfl ?_
    refine sx_iload_n X 1 rfl dX1_checkGuest_46 rfl ?_
    refine sx_iconst X (v := 2) dX1_checkGuest_47 rfl ?_
    refine sx_iadd X dX1_checkGuest_48 ?_
    refine sx_iconst X (v := 0) dX1_checkGuest_49 rfl ?_
    refine sx_bipush X (v := 60) dX1_checkGuest_50 rfl ?_
    obtain ⟨u7, hu7, hf⟩ := ob_c hf
    refine sx_cS X (c_X1_numberIn (l := l) (D := D) (T := T) (sd := sd) a0 a0_kinds a0_starts a0_values (v1 + 2) 0 60 ((X11_kinds b_a0), (X11_starts b_a0), (X11_values b_a0), (X11_count b_a0), (X11_cursor b_a0), u6.1, u6.2) hu7) (st' := [.int u7.1]) qm_1090 qm_1091 qm_48 qm_1092 hd_X1_numberIn ⟨rfl, rfl⟩ ⟨Nat.le_of_ble_eq_true rfl, Nat.le_of_ble_eq_true rfl⟩ rfl rfl (Nat.le_of_ble_eq_true rfl) [0, 1, 2, 3] rfl rfl (ws' := [zO a0 9 [.ref a0_kinds, .ref a0_starts, .ref a0_values, .int (X11_count b_a0), .int (X11_cursor b_a0), .int u7.2.1, .int u7.2.2], zK T sd.1 a0_kinds 401 (X11_kinds b_a0), zI T a0_starts 401 (X11_starts b_a0), zJ T a0_values 401 (X11_values b_a0), zO a2 3 [.ref a2_names, .ref a2_from, .ref a2_weakest, .ref a2_strongest, .ref a2_nerve, .int w_a2_count], zJ T a2_names 10 w_a2_names, zI T a2_from 10 w_a2_from, zI T a2_weakest 10 w_a2_weakest, zI T a2_strongest 10 w_a2_strongest, zI T a2_nerve 10 w_a2_nerve]) (sxPatch_pk [(true, 0), (true, 1), (true, 2), (true, 3), (false, 4), (false, 5), (false, 6), (false, 7), (false, 8), (false, 9)] (by decide +kernel) rfl rfl rfl) rfl ⟨Nat.le_of_ble_eq_true rfl, Nat.le_of_ble_eq_true rfl⟩ dX1_checkGuest_52 rfl ?_
    refine sx_istore X (lv' := [(5, .int u7.1), (0, .ref a0), (1, .int v1), (2, .ref a2), (3, .long v3)]) dX1_checkGuest_55 (by decide) rfl ?_
    refine sx_aload_n X 1 rfl dX1_checkGuest_57 rfl ?_
    refine sx_iload_n X 2 rfl dX1_checkGuest_58 rfl ?_
    refine sx_iconst X (v := 4) dX1_checkGuest_59 rfl ?_
    refine sx_iadd X dX1_checkGuest_60 ?_
    refine sx_iconst X (v := 0) dX1_checkGuest_61 rfl ?_
    refine sx_bipush X (v := 30) dX1_checkGuest_62 rfl ?_
    obtain ⟨u8, hu8, hf⟩ := ob_c hf
    refine sx_cS X (c_X1_numberIn (l := l) (D := D) (T := T) (sd := sd) a0 a0_kinds a0_starts a0_values (v1 + 4) 0 30 ((X11_kinds b_a0), (X11_starts b_a0), (X11_values b_a0), (X11_count b_a0), (X11_cursor b_a0), u7.2.1, u7.2.2) hu8) (st' := [.int u8.1]) qm_1090 qm_1091 qm_48 qm_1092 hd_X1_numberIn ⟨rfl, rfl⟩ ⟨Nat.le_of_ble_eq_true rfl, Nat.le_of_ble_eq_true rfl⟩ rfl rfl (Nat.le_of_ble_eq_true rfl) [0, 1, 2, 3] rfl rfl (ws' := [zO a0 9 [.ref a0_kinds, .ref a0_starts, .ref a0_values, .int (X11_count b_a0), .int (X11_cursor b_a0), .int u8.2.1, .int u8.2.2], zK T sd.1 a0_kinds 401 (X11_kinds b_a0), zI T a0_starts 401 (X11_starts b_a0), zJ T a0_values 401 (X11_values b_a0), zO a2 3 [.ref a2_names, .ref a2_from, .ref a2_weakest, .ref a2_strongest, .ref a2_nerve, .int w_a2_count], zJ T a2_names 10 w_a2_names, zI T a2_from 10 w_a2_from, zI T a2_weakest 10 w_a2_weakest, zI T a2_strongest 10 w_a2_strongest, zI T a2_nerve 10 w_a2_nerve]) (sxPatch_pk [(true, 0), (true, 1), (true, 2), (true, 3), (false, 4), (false, 5), (false, 6), (false, 7), (false, 8), (false, 9)] (by decide +kernel) rfl rfl rfl) rfl ⟨Nat.le_of_ble_eq_true rfl, Nat.le_of_ble_eq_true rfl⟩ dX1_checkGuest_64 rfl ?_
    refine sx_istore X (lv' := [(6, .int u8.1), (5, .int u7.1), (0, .ref a0), (1, .int v1), (2, .ref a2), (3, .long v3)]) dX1_checkGuest_67 (by decide) rfl ?_
    refine sx_aload_n X 2 rfl dX1_checkGuest_69 rfl ?_
    refine sx_iload_n X 3 rfl dX1_checkGuest_70 rfl ?_
    refine sx_bipush X (v := 6) dX1_checkGuest_71 rfl ?_
    refine sx_iadd X dX1_checkGuest_73 ?_
    refine sx_iload X 0 rfl dX1_checkGuest_74 ?_
    refine sx_bipush X (v := 30) dX1_checkGuest_76 rfl ?_
    obtain ⟨u9, hu9, hf⟩ := ob_c hf
    refine sx_cS X (c_X1_numberIn (l := l) (D := D) (T := T) (sd := sd) a0 a0_kinds a0_starts a0_values (v1 + 6) u8.1 30 ((X11_kinds b_a0), (X11_starts b_a0), (X11_values b_a0), (X11_count b_a0), (X11_cursor b_a0), u8.2.1, u8.2.2) hu9) (st' := [.int u9.1]) qm_1090 qm_1091 qm_48 qm_1092 hd_X1_numberIn ⟨rfl, rfl⟩ ⟨Nat.le_of_ble_eq_true rfl, Nat.le_of_ble_eq_true rfl⟩ rfl rfl (Nat.le_of_ble_eq_true rfl) [0, 1, 2, 3] rfl rfl (ws' := [zO a0 9 [.ref a0_kinds, .ref a0_starts, .ref a0_values, .int (X11_count b_a0), .int (X11_cursor b_a0), .int u9.2.1, .int u9.2.2], zK T sd.1 a0_kinds 401 (X11_kinds b_a0), zI T a0_starts 401 (X11_starts b_a0), zJ T a0_values 401 (X11_values b_a0), zO a2 3 [.ref a2_names, .ref a2_from, .ref a2_weakest, .ref a2_strongest, .ref a2_nerve, .int w_a2_count], zJ T a2_names 10 w_a2_names, zI T a2_from 10 w_a2_from, zI T a2_weakest 10 w_a2_weakest, zI T a2_strongest 10 w_a2_strongest, zI T a2_nerve 10 w_a2_nerve]) (sxPatch_pk [(true, 0), (true, 1), (true, 2), (true, 3), (false, 4), (false, 5), (false, 6), (false, 7), (false, 8), (false, 9)] (by decide +kernel) rfl rfl rfl) rfl ⟨Nat.le_of_ble_eq_true rfl, Nat.le_of_ble_eq_true rfl⟩ dX1_checkGuest_78 rfl ?_
    refine sx_istore X (lv' := [(7, .int u9.1), (6, .int u8.1), (5, .int u7.1), (0, .ref a0), (1, .int v1), (2, .ref a2), (3, .long v3)]) dX1_checkGuest_81 (by decide) rfl ?_
    refine sx_aload_n X 3 rfl dX1_checkGuest_83 rfl ?_
    refine sx_iload_n X 4 rfl dX1_checkGuest_84 rfl ?_
    refine sx_bipush X (v := 8) dX1_checkGuest_85 rfl ?_
    refine sx_iadd X dX1_checkGuest_87 ?_
    refine sx_iconst X (v := 0) dX1_checkGuest_88 rfl ?_
    refine sx_bipush X (v := 20) dX1_checkGuest_89 rfl ?_
    obtain ⟨u10, hu10, hf⟩ := ob_c hf
    refine sx_cS X (c_X1_numberIn (l := l) (D := D) (T := T) (sd := sd) a0 a0_kinds a0_starts a0_values (v1 + 8) 0 20 ((X11_kinds b_a0), (X11_starts b_a0), (X11_values b_a0), (X11_count b_a0), (X11_cursor b_a0), u9.2.1, u9.2.2) hu10) (st' := [.int u10.1]) qm_1090 qm_1091 qm_48 qm_1092 hd_X1_numberIn ⟨rfl, rfl⟩ ⟨Nat.le_of_ble_eq_true rfl, Nat.le_of_ble_eq_true rfl⟩ rfl rfl (Nat.le_of_ble_eq_true rfl) [0, 1, 2, 3] rfl rfl (ws' := [zO a0 9 [.ref a0_kinds, .ref a0_starts, .ref a0_values, .int (X11_count b_a0), .int (X11_cursor b_a0), .int u10.2.1, .int u10.2.2], zK T sd.1 a0_kinds 401 (X11_kinds b_a0), zI T a0_starts 401 (X11_starts b_a0), zJ T a0_values 401 (X11_values b_a0), zO a2 3 [.ref a2_names, .ref a2_from, .ref a2_weakest, .ref a2_strongest, .ref a2_nerve, .int w_a2_count], zJ T a2_names 10 w_a2_names, zI T a2_from 10 w_a2_from, zI T a2_weakest 10 w_a2_weakest, zI T a2_strongest 10 w_a2_strongest, zI T a2_nerve 10 w_a2_nerve]) (sxPatch_pk [(true, 0), (true, 1), (true, 2), (true, 3), (false, 4), (false, 5), (false, 6), (false, 7), (false, 8), (false, 9)] (by decide +kernel) rfl rfl rfl) rfl ⟨Nat.le_of_ble_eq_true rfl, Nat.le_of_ble_eq_true rfl⟩ dX1_checkGuest_91 rfl ?_
    refine sx_istore X (lv' := [(8, .int u10.1), (7, .int u9.1), (6, .int u8.1), (5, .int u7.1), (0, .ref a0), (1, .int v1), (2, .ref a2), (3, .long v3)]) dX1_checkGuest_94 (by decide) rfl ?_
    refine sx_aload_n X 6 rfl dX1_checkGuest_96 rfl ?_
    refine sx_lload_n X 7 rfl dX1_checkGuest_97 rfl ?_
    refine sx_iload X 3 rfl dX1_checkGuest_98 ?_
    refine sx_iload X 2 rfl dX1_checkGuest_100 ?_
    refine sx_iload X 1 rfl dX1_checkGuest_102 ?_
    refine sx_iload X 0 rfl dX1_checkGuest_104 ?_
    obtain ⟨u11, hu11, hf⟩ := ob_c hf
    refine sx_cV X (c_X4_add (l := l) (D := D) (T := T) (sd := sd) a2 a2_names a2_from a2_weakest a2_strongest a2_nerve v3 u7.1 u8.1 u9.1 u10.1 (w_a2_names, w_a2_from, w_a2_weakest, w_a2_strongest, w_a2_nerve, w_a2_count) hu11) (st' := []) (q0 := 4) qm_1104 qm_1105 qm_1106 qm_22 qm_1107 hd_X4_add ⟨rfl, rfl⟩ ⟨Nat.le_of_ble_eq_true rfl, Nat.le_of_ble_eq_true rfl⟩ rfl rfl (Nat.le_of_ble_eq_true rfl) rfl rfl rfl [4, 5, 6, 7, 8, 9] rfl rfl (ws' := [zO a0 9 [.ref a0_kinds, .ref a0_starts, .ref a0_values, .int (X11_count b_a0), .int (X11_cursor b_a0), .int u10.2.1, .int u10.2.2], zK T sd.1 a0_kinds 401 (X11_kinds b_a0), zI T a0_starts 401 (X11_starts b_a0), zJ T a0_values 401 (X11_values b_a0), zO a2 3 [.ref a2_names, .ref a2_from, .ref a2_weakest, .ref a2_strongest, .ref a2_nerve, .int u11.2.2.2.2.2], zJ T a2_names 10 u11.1, zI T a2_from 10 u11.2.1, zI T a2_weakest 10 u11.2.2.1, zI T a2_strongest 10 u11.2.2.2.1, zI T a2_nerve 10 u11.2.2.2.2.1]) (sxPatch_pk [(false, 0), (false, 1), (false, 2), (false, 3), (true, 0), (true, 1), (true, 2), (true, 3), (true, 4), (true, 5)] (by decide +kernel) rfl rfl rfl) rfl ⟨Nat.le_of_ble_eq_true rfl, Nat.le_of_ble_eq_true rfl⟩ dX1_checkGuest_106 rfl ?_
    exact sx_vret X dX1_checkGuest_109 (ob_e hf) rfl rfl
  have R20 : ∀ (v1 : Int32) (v3 : Int64) (w_a0_error : Int32) (w_a0_errorToken : Int32) (w_a2_names : Nat → Int64) (w_a2_from : Nat → Int32) (w_a2_weakest : Nat → Int32) (w_a2_strongest : Nat → Int32) (w_a2_nerve : Nat → Int32) (w_a2_count : Int32) (t0 : Int32), (f_X1_checkGuest_R20 n x1 b_a0 b_a2 v1 v3 w_a0_error w_a0_errorToken w_a2_names w_a2_from w_a2_weakest w_a2_strongest w_a2_nerve w_a2_count t0).bind some = some res → SxG p l e rm_X1_checkGuest s m args below meth c D A 9 0 0 (SxE below args s D A (vf_X1_checkGuest sd) (wf_X1_checkGuest T sd a0 a0_kinds a0_starts a0_values a2 a2_names a2_from a2_weakest a2_strongest a2_nerve b_a0 b_a2) res 0 0) [zO a0 9 [.ref a0_kinds, .ref a0_starts, .ref a0_values, .int (X11_count b_a0), .int (X11_cursor b_a0), .int w_a0_error, .int w_a0_errorToken], zK T sd.1 a0_kinds 401 (X11_kinds b_a0), zI T a0_starts 401 (X11_starts b_a0), zJ T a0_values 401 (X11_values b_a0), zO a2 3 [.ref a2_names, .ref a2_from, .ref a2_weakest, .ref a2_strongest, .ref a2_nerve, .int w_a2_count], zJ T a2_names 10 w_a2_names, zI T a2_from 10 w_a2_from, zI T a2_weakest 10 w_a2_weakest, zI T a2_strongest 10 w_a2_strongest, zI T a2_nerve 10 w_a2_nerve] [(0, .ref a0), (1, .int v1), (2, .ref a2), (3, .long v3)] 20 [.int t0, .ref a0] := by
    intro v1 v3 w_a0_error w_a0_errorToken w_a2_names w_a2_from w_a2_weakest w_a2_strongest w_a2_nerve w_a2_count t0 hf
    refine sx_iconst X (v := 2) dX1_checkGuest_20 rfl ?_
    refine sx_iload_n X 1 rfl dX1_checkGuest_21 rfl ?_
    obtain ⟨u4, hu4, hf⟩ := ob_c hf
    refine sx_cV X (c_X11_failUnless (l := l) (D := D) (T := T) (sd := sd) a0 a0_kinds a0_starts a0_values t0 2 v1 ((X11_kinds b_a0), (X11_starts b_a0), (X11_values b_a0), (X11_count b_a0), (X11_cursor b_a0), w_a0_error, w_a0_errorToken) hu4) (st' := []) (q0 := 0) qm_1072 qm_1051 qm_1052 qm_15 qm_1053 hd_X11_failUnless ⟨rfl, rfl⟩ ⟨Nat.le_of_ble_eq_true rfl, Nat.le_of_ble_eq_true rfl⟩ rfl rfl (Nat.le_of_ble_eq_true rfl) rfl rfl rfl [0, 1, 2, 3] rfl rfl (ws' := [zO a0 9 [.ref a0_kinds, .ref a0_starts, .ref a0_values, .int (X11_count b_a0), .int (X11_cursor b_a0), .int u4.1, .int u4.2], zK T sd.1 a0_kinds 401 (X11_kinds b_a0), zI T a0_starts 401 (X11_starts b_a0), zJ T a0_values 401 (X11_values b_a0), zO a2 3 [.ref a2_names, .ref a2_from, .ref a2_weakest, .ref a2_strongest, .ref a2_nerve, .int w_a2_count], zJ T a2_names 10 w_a2_names, zI T a2_from 10 w_a2_from, zI T a2_weakest 10 w_a2_weakest, zI T a2_strongest 10 w_a2_strongest, zI T a2_nerve 10 w_a2_nerve]) (sxPatch_pk [(true, 0), (true, 1), (true, 2), (true, 3), (false, 4), (false, 5), (false, 6), (false, 7), (false, 8), (false, 9)] (by decide +kernel) rfl rfl rfl) rfl ⟨Nat.le_of_ble_eq_true rfl, Nat.le_of_ble_eq_true rfl⟩ dX1_checkGuest_22 rfl ?_
    refine sx_aload_n X 0 rfl dX1_checkGuest_25 rfl ?_
    refine sx_aload_n X 2 rfl dX1_checkGuest_26 rfl ?_
    refine sx_get X kX4 4 rfl 5 (Nat.le_of_ble_eq_true rfl) qm_193 rfl dX1_checkGuest_27 ?_
    refine sx_bipush X (v := 10) dX1_checkGuest_30 rfl ?_
    refine sx_icmp_ge X 39 dX1_checkGuest_32 rfl (fun c5 => ?_) (fun c5 => ?_)
    · have hf := ob_t hf c5
      refine sx_iconst X (v := 0) dX1_checkGuest_39 rfl ?_
      exact R40 v1 v3 u4.1 u4.2 w_a2_names w_a2_from w_a2_weakest w_a2_strongest w_a2_nerve w_a2_count 0 hf
    · have hf := ob_f hf c5
      refine sx_iconst X (v := 1) dX1_checkGuest_35 rfl ?_
      refine sx_goto X 40 dX1_checkGuest_36 rfl ?_
      exact R40 v1 v3 u4.1 u4.2 w_a2_names w_a2_from w_a2_weakest w_a2_strongest w_a2_nerve w_a2_count 1 hf
  refine sx_aload_n X 0 rfl dX1_checkGuest_0 rfl ?_
  refine sx_iload_n X 1 rfl dX1_checkGuest_1 rfl ?_
  obtain ⟨u1, hu1, hf⟩ := ob_c hf
  refine sx_cVr X (c_X11_valueAt (l := l) (D := D) (T := T) (sd := sd) a0 a0_kinds a0_starts a0_values x1 b_a0 hu1) (st' := [.long u1]) (q0 := 0) qm_1081 qm_1082 qm_1083 qm_15 qm_1084 hd_X11_valueAt ⟨rfl, rfl⟩ ⟨Nat.le_of_ble_eq_true rfl, Nat.le_of_ble_eq_true rfl⟩ rfl rfl (Nat.le_of_ble_eq_true rfl) rfl rfl rfl [0, 1, 2, 3] rfl rfl rfl ⟨Nat.le_of_ble_eq_true rfl, Nat.le_of_ble_eq_true rfl⟩ dX1_checkGuest_2 rfl ?_
  refine sx_lstore_n X (lv' := [(3, .long u1), (0, .ref a0), (1, .int x1), (2, .ref a2)]) dX1_checkGuest_5 rfl (by decide) rfl ?_
  refine sx_aload_n X 1 rfl dX1_checkGuest_6 rfl ?_
  refine sx_aload_n X 3 rfl dX1_checkGuest_7 rfl ?_
  refine sx_lload_n X 0 rfl dX1_checkGuest_8 rfl ?_
  obtain ⟨u2, hu2, hf⟩ := ob_c hf
  refine sx_cVr X (c_X4_find (l := l) (D := D) (T := T) (sd := sd) a2 a2_names a2_from a2_weakest a2_strongest a2_nerve n u1 b_a2 hu2) (st' := [.int u2, .ref a0]) (q0 := 4) qm_1100 qm_1101 qm_1102 qm_22 qm_1103 hd_X4_find ⟨rfl, rfl⟩ ⟨Nat.le_of_ble_eq_true rfl, Nat.le_of_ble_eq_true rfl⟩ rfl rfl (Nat.le_of_ble_eq_true rfl) rfl rfl rfl [4, 5, 6, 7, 8, 9] rfl rfl rfl ⟨Nat.le_of_ble_eq_true rfl, Nat.le_of_ble_eq_true rfl⟩ dX1_checkGuest_9 rfl ?_
  refine sx_if_ge X 19 dX1_checkGuest_12 rfl (fun c3 => ?_) (fun c3 => ?_)
  · have hf := ob_t hf c3
    refine sx_iconst X (v := 0) dX1_checkGuest_19 rfl ?_
    refine sx_lsub [1, 2, 3, 0] rfl ?_
    exact R20 x1 u1 (X11_error b_a0) (X11_errorToken b_a0) (X4_names b_a2) (X4_from b_a2) (X4_weakest b_a2) (X4_strongest b_a2) (X4_nerve b_a2) (X4_count b_a2) 0 hf
  · have hf := ob_f hf c3
    refine sx_iconst X (v := 1) dX1_checkGuest_15 rfl ?_
    refine sx_goto X 20 dX1_checkGuest_16 rfl ?_
    refine sx_lsub [1, 2, 3, 0] rfl ?_
    exact R20 x1 u1 (X11_error b_a0) (X11_errorToken b_a0) (X4_names b_a2) (X4_from b_a2) (X4_weakest b_a2) (X4_strongest b_a2) (X4_nerve b_a2) (X4_count b_a2) 1 hf

abbrev vf_X11_setValue (sd : SdT) (_r : (Nat → Int64)) : Option Value := none
abbrev wc_X11_setValue (T : Nat → ClassId) (sd : SdT) (h : Nat) (h_kinds : Nat) (h_starts : Nat) (h_values : Nat) (b_h : bX11) : va_W := [zO h 9 [.ref h_kinds, .ref h_starts, .ref h_values, .int (X11_count b_h), .int (X11_cursor b_h), .int (X11_error b_h), .int (X11_errorToken b_h)], zK T sd.1 h_kinds 401 (X11_kinds b_h), zI T h_starts 401 (X11_starts b_h), zJ T h_values 401 (X11_values b_h)]
abbrev wf_X11_setValue (T : Nat → ClassId) (sd : SdT) (h : Nat) (h_kinds : Nat) (h_starts : Nat) (h_values : Nat) (b_h : bX11) (r : (Nat → Int64)) : va_W := [zO h 9 [.ref h_kinds, .ref h_starts, .ref h_values, .int (X11_count b_h), .int (X11_cursor b_h), .int (X11_error b_h), .int (X11_errorToken b_h)], zK T sd.1 h_kinds 401 (X11_kinds b_h), zI T h_starts 401 (X11_starts b_h), zJ T h_values 401 r]
abbrev rm_X11_setValue : Room := { frames := 1, cells := 0, slots := 0, locals := 21 }
theorem hd_X11_setValue : yX11_setValue.cls ≠ "java/lang/invoke/MethodHandle" ∧ yX11_setValue.cls ≠ "java/lang/invoke/VarHandle" ∧ (parseMethodDescriptor yX11_setValue.desc).map (fun d => d.parameters.length) = some 2 := ⟨by decide, by decide, by decide +kernel⟩
set_option maxHeartbeats 4000000 in
set_option maxRecDepth 100000 in
theorem c_X11_setValue {l : Launch} {D : va_G} {T : Nat → ClassId} {sd : SdT} (h : Nat) (h_kinds : Nat) (h_starts : Nat) (h_values : Nat) (x0 : Int32) (x1 : Int32) (b_h : bX11) {res : (Nat → Int64)} (hf : f_X11_setValue x0 x1 b_h = some res) : SxK (SFx sd) l D T yX11_setValue cX11_setValue 3 none rm_X11_setValue [.ref h, .int x0, .int x1] (wc_X11_setValue T sd h h_kinds h_starts h_values b_h) (vf_X11_setValue sd) (wf_X11_setValue T sd h h_kinds h_starts h_values b_h) res 0 0 := by
  refine sx_start (SFx_ok sd) (by decide +kernel) (Nat.le_of_ble_eq_true rfl) (fun p e s m args below meth c A X hnm => ?_)
  have hf := ob_1 hf
  refine sx_aload_n X 0 rfl dX11_setValue_0 rfl ?_
  refine sx_iload_n X 1 rfl dX11_setValue_1 rfl ?_
  obtain ⟨u1, hu1, hf⟩ := ob_c hf
  refine sx_cVr X (c_X11_has (l := l) (D := D) (T := T) (sd := sd) h h_kinds h_starts h_values x0 b_h hu1) (st' := [.int u1]) (q0 := 0) qm_1061 qm_1062 qm_1063 qm_15 qm_1064 hd_X11_has ⟨rfl, rfl⟩ ⟨Nat.le_of_ble_eq_true rfl, Nat.le_of_ble_eq_true rfl⟩ rfl rfl (Nat.le_of_ble_eq_true rfl) rfl rfl rfl [0, 1, 2, 3] rfl rfl rfl ⟨Nat.le_of_ble_eq_true rfl, Nat.le_of_ble_eq_true rfl⟩ dX11_setValue_2 rfl ?_
  refine sx_if_eq X 16 dX11_setValue_5 rfl (fun c2 => ?_) (fun c2 => ?_)
  · have hf := ob_t hf c2
    exact sx_vret X dX11_setValue_16 (ob_e hf) rfl rfl
  · have hf := ob_f hf c2
    refine sx_aload_n X 0 rfl dX11_setValue_8 rfl ?_
    refine sx_get X kX11 0 rfl 2 (Nat.le_of_ble_eq_true rfl) qm_86 rfl dX11_setValue_9 ?_
    refine sx_iload_n X 1 rfl dX11_setValue_12 rfl ?_
    refine sx_iload_n X 2 rfl dX11_setValue_13 rfl ?_
    refine sx_i2l X dX11_setValue_14 ?_
    obtain ⟨g3, hf⟩ := ob_g hf
    refine sx_last X (ws' := [zO h 9 [.ref h_kinds, .ref h_starts, .ref h_values, .int (X11_count b_h), .int (X11_cursor b_h), .int (X11_error b_h), .int (X11_errorToken b_h)], zK T sd.1 h_kinds 401 (X11_kinds b_h), zI T h_starts 401 (X11_starts b_h), zJ T h_values 401 (vp_updL (X11_values b_h) x0.toNatClampNeg (Int32.toInt64 x1))]) 3 rfl g3 rfl dX11_setValue_15 ?_
    exact sx_vret X dX11_setValue_16 (ob_e hf) rfl rfl

abbrev vf_X1_checkNamed (sd : SdT) (_r : (Nat → Int64) × Int32 × Int32) : Option Value := none
abbrev wc_X1_checkNamed (T : Nat → ClassId) (sd : SdT) (a0 : Nat) (a0_kinds : Nat) (a0_starts : Nat) (a0_values : Nat) (b_a0 : bX11) : va_W := [zO a0 9 [.ref a0_kinds, .ref a0_starts, .ref a0_values, .int (X11_count b_a0), .int (X11_cursor b_a0), .int (X11_error b_a0), .int (X11_errorToken b_a0)], zK T sd.1 a0_kinds 401 (X11_kinds b_a0), zI T a0_starts 401 (X11_starts b_a0), zJ T a0_values 401 (X11_values b_a0)]
abbrev wf_X1_checkNamed (T : Nat → ClassId) (sd : SdT) (a0 : Nat) (a0_kinds : Nat) (a0_starts : Nat) (a0_values : Nat) (b_a0 : bX11) (r : (Nat → Int64) × Int32 × Int32) : va_W := [zO a0 9 [.ref a0_kinds, .ref a0_starts, .ref a0_values, .int (X11_count b_a0), .int (X11_cursor b_a0), .int r.2.1, .int r.2.2], zK T sd.1 a0_kinds 401 (X11_kinds b_a0), zI T a0_starts 401 (X11_starts b_a0), zJ T a0_values 401 r.1]
abbrev rm_X1_checkNamed : Room := { frames := 2, cells := 0, slots := 0, locals := 43 }
theorem hd_X1_checkNamed : yX1_checkNamed.cls ≠ "java/lang/invoke/MethodHandle" ∧ yX1_checkNamed.cls ≠ "java/lang/invoke/VarHandle" ∧ (parseMethodDescriptor yX1_checkNamed.desc).map (fun d => d.parameters.length) = some 3 := ⟨by decide, by decide, by decide +kernel⟩
set_option maxHeartbeats 4000000 in
set_option maxRecDepth 100000 in
theorem c_X1_checkNamed {l : Launch} {D : va_G} {T : Nat → ClassId} {sd : SdT} (a0 : Nat) (a0_kinds : Nat) (a0_starts : Nat) (a0_values : Nat) (x1 : Int32) (x2 : Int32) (b_a0 : bX11) {res : (Nat → Int64) × Int32 × Int32} (hf : f_X1_checkNamed x1 x2 b_a0 = some res) : SxK (SFx sd) l D T yX1_checkNamed cX1_checkNamed 3 none rm_X1_checkNamed [.ref a0, .int x1, .int x2] (wc_X1_checkNamed T sd a0 a0_kinds a0_starts a0_values b_a0) (vf_X1_checkNamed sd) (wf_X1_checkNamed T sd a0 a0_kinds a0_starts a0_values b_a0) res 0 0 := by
  refine sx_start (SFx_ok sd) (by decide +kernel) (Nat.le_of_ble_eq_true rfl) (fun p e s m args below meth c A X hnm => ?_)
  have hf := ob_1 hf
  have R10 : ∀ (v1 : Int32) (v2 : Int32) (w_a0_values : Nat → Int64) (w_a0_error : Int32) (w_a0_errorToken : Int32) (t0 : Int32), (f_X1_checkNamed_R10 x1 x2 b_a0 v1 v2 w_a0_values w_a0_error w_a0_errorToken t0).bind some = some res → SxG p l e rm_X1_checkNamed s m args below meth c D A 3 0 0 (SxE below args s D A (vf_X1_checkNamed sd) (wf_X1_checkNamed T sd a0 a0_kinds a0_starts a0_values b_a0) res 0 0) [zO a0 9 [.ref a0_kinds, .ref a0_starts, .ref a0_values, .int (X11_count b_a0), .int (X11_cursor b_a0), .int w_a0_error, .int w_a0_errorToken], zK T sd.1 a0_kinds 401 (X11_kinds b_a0), zI T a0_starts 401 (X11_starts b_a0), zJ T a0_values 401 w_a0_values] [(0, .ref a0), (1, .int v1), (2, .int v2)] 10 [.int t0, .ref a0] := by
    intro v1 v2 w_a0_values w_a0_error w_a0_errorToken t0 hf
    refine sx_iconst X (v := 3) dX1_checkNamed_10 rfl ?_
    refine sx_iload_n X 1 rfl dX1_checkNamed_11 rfl ?_
    obtain ⟨u2, hu2, hf⟩ := ob_c hf
    refine sx_cV X (c_X11_failUnless (l := l) (D := D) (T := T) (sd := sd) a0 a0_kinds a0_starts a0_values t0 3 v1 ((X11_kinds b_a0), (X11_starts b_a0), w_a0_values, (X11_count b_a0), (X11_cursor b_a0), w_a0_error, w_a0_errorToken) hu2) (st' := []) (q0 := 0) qm_1072 qm_1051 qm_1052 qm_15 qm_1053 hd_X11_failUnless ⟨rfl, rfl⟩ ⟨Nat.le_of_ble_eq_true rfl, Nat.le_of_ble_eq_true rfl⟩ rfl rfl (Nat.le_of_ble_eq_true rfl) rfl rfl rfl [0, 1, 2, 3] rfl rfl (ws' := [zO a0 9 [.ref a0_kinds, .ref a0_starts, .ref a0_values, .int (X11_count b_a0), .int (X11_cursor b_a0), .int u2.1, .int u2.2], zK T sd.1 a0_kinds 401 (X11_kinds b_a0), zI T a0_starts 401 (X11_starts b_a0), zJ T a0_values 401 w_a0_values]) (sxPatch_pk [(true, 0), (true, 1), (true, 2), (true, 3)] (by decide +kernel) rfl rfl rfl) rfl ⟨Nat.le_of_ble_eq_true rfl, Nat.le_of_ble_eq_true rfl⟩ dX1_checkNamed_12 rfl ?_
    refine sx_aload_n X 0 rfl dX1_checkNamed_15 rfl ?_
    refine sx_iload_n X 1 rfl dX1_checkNamed_16 rfl ?_
    refine sx_iload_n X 2 rfl dX1_checkNamed_17 rfl ?_
    obtain ⟨u3, hu3, hf⟩ := ob_c hf
    refine sx_cV X (c_X11_setValue (l := l) (D := D) (T := T) (sd := sd) a0 a0_kinds a0_starts a0_values v1 v2 ((X11_kinds b_a0), (X11_starts b_a0), w_a0_values, (X11_count b_a0), (X11_cursor b_a0), u2.1, u2.2) hu3) (st' := []) (q0 := 0) qm_1111 qm_1112 qm_1113 qm_15 qm_1114 hd_X11_setValue ⟨rfl, rfl⟩ ⟨Nat.le_of_ble_eq_true rfl, Nat.le_of_ble_eq_true rfl⟩ rfl rfl (Nat.le_of_ble_eq_true rfl) rfl rfl rfl [0, 1, 2, 3] rfl rfl (ws' := [zO a0 9 [.ref a0_kinds, .ref a0_starts, .ref a0_values, .int (X11_count b_a0), .int (X11_cursor b_a0), .int u2.1, .int u2.2], zK T sd.1 a0_kinds 401 (X11_kinds b_a0), zI T a0_starts 401 (X11_starts b_a0), zJ T a0_values 401 u3]) (sxPatch_pk [(true, 0), (true, 1), (true, 2), (true, 3)] (by decide +kernel) rfl rfl rfl) rfl ⟨Nat.le_of_ble_eq_true rfl, Nat.le_of_ble_eq_true rfl⟩ dX1_checkNamed_18 rfl ?_
    exact sx_vret X dX1_checkNamed_21 (ob_e hf) rfl rfl
  refine sx_aload_n X 0 rfl dX1_checkNamed_0 rfl ?_
  refine sx_iload_n X 2 rfl dX1_checkNamed_1 rfl ?_
  refine sx_if_lt X 9 dX1_checkNamed_2 rfl (fun c1 => ?_) (fun c1 => ?_)
  · have hf := ob_t hf c1
    refine sx_iconst X (v := 0) dX1_checkNamed_9 rfl ?_
    exact R10 x1 x2 (X11_values b_a0) (X11_error b_a0) (X11_errorToken b_a0) 0 hf
  · have hf := ob_f hf c1
    refine sx_iconst X (v := 1) dX1_checkNamed_5 rfl ?_
    refine sx_goto X 10 dX1_checkNamed_6 rfl ?_
    exact R10 x1 x2 (X11_values b_a0) (X11_error b_a0) (X11_errorToken b_a0) 1 hf

abbrev vf_X1_checkBehind (sd : SdT) (_r : (Nat → Int64) × Int32 × Int32 × (Nat → Int64) × (Nat → Int32) × (Nat → Int32) × (Nat → Int32) × (Nat → Int32) × Int32 × (Nat → Int64) × (Nat → Int32) × (Nat → Int32) × (Nat → Int32) × (Nat → Int32) × Int32) : Option Value := none
abbrev wc_X1_checkBehind (T : Nat → ClassId) (sd : SdT) (a0 : Nat) (a0_kinds : Nat) (a0_starts : Nat) (a0_values : Nat) (a2 : Nat) (a2_fronts : Nat) (a2_guests : Nat) (a2_orders : Nat) (a2_fronts_names : Nat) (a2_fronts_warm : Nat) (a2_fronts_force : Nat) (a2_fronts_from : Nat) (a2_fronts_hours : Nat) (a2_guests_names : Nat) (a2_guests_from : Nat) (a2_guests_weakest : Nat) (a2_guests_strongest : Nat) (a2_guests_nerve : Nat) (b_a0 : bX11) (b_a2_fronts : bX2) (b_a2_guests : bX4) : va_W := [zO a0 9 [.ref a0_kinds, .ref a0_starts, .ref a0_values, .int (X11_count b_a0), .int (X11_cursor b_a0), .int (X11_error b_a0), .int (X11_errorToken b_a0)], zK T sd.1 a0_kinds 401 (X11_kinds b_a0), zI T a0_starts 401 (X11_starts b_a0), zJ T a0_values 401 (X11_values b_a0), zO a2 5 [.ref a2_fronts, .ref a2_guests, .ref a2_orders], zO a2_fronts 2 [.ref a2_fronts_names, .ref a2_fronts_warm, .ref a2_fronts_force, .ref a2_fronts_from, .ref a2_fronts_hours, .int (X2_count b_a2_fronts)], zJ T a2_fronts_names 10 (X2_names b_a2_fronts), zZ T a2_fronts_warm 10 (X2_warm b_a2_fronts), zI T a2_fronts_force 10 (X2_force b_a2_fronts), zI T a2_fronts_from 10 (X2_from b_a2_fronts), zI T a2_fronts_hours 10 (X2_hours b_a2_fronts), zO a2_guests 3 [.ref a2_guests_names, .ref a2_guests_from, .ref a2_guests_weakest, .ref a2_guests_strongest, .ref a2_guests_nerve, .int (X4_count b_a2_guests)], zJ T a2_guests_names 10 (X4_names b_a2_guests), zI T a2_guests_from 10 (X4_from b_a2_guests), zI T a2_guests_weakest 10 (X4_weakest b_a2_guests), zI T a2_guests_strongest 10 (X4_strongest b_a2_guests), zI T a2_guests_nerve 10 (X4_nerve b_a2_guests)]
abbrev wf_X1_checkBehind (T : Nat → ClassId) (sd : SdT) (a0 : Nat) (a0_kinds : Nat) (a0_starts : Nat) (a0_values : Nat) (a2 : Nat) (a2_fronts : Nat) (a2_guests : Nat) (a2_orders : Nat) (a2_fronts_names : Nat) (a2_fronts_warm : Nat) (a2_fronts_force : Nat) (a2_fronts_from : Nat) (a2_fronts_hours : Nat) (a2_guests_names : Nat) (a2_guests_from : Nat) (a2_guests_weakest : Nat) (a2_guests_strongest : Nat) (a2_guests_nerve : Nat) (b_a0 : bX11) (b_a2_fronts : bX2) (b_a2_guests : bX4) (r : (Nat → Int64) × Int32 × Int32 × (Nat → Int64) × (Nat → Int32) × (Nat → Int32) × (Nat → Int32) × (Nat → Int32) × Int32 × (Nat → Int64) × (Nat → Int32) × (Nat → Int32) × (Nat → Int32) × (Nat → Int32) × Int32) : va_W := [zO a0 9 [.ref a0_kinds, .ref a0_starts, .ref a0_values, .int (X11_count b_a0), .int (X11_cursor b_a0), .int r.2.1, .int r.2.2.1], zK T sd.1 a0_kinds 401 (X11_kinds b_a0), zI T a0_starts 401 (X11_starts b_a0), zJ T a0_values 401 r.1, zO a2 5 [.ref a2_fronts, .ref a2_guests, .ref a2_orders], zO a2_fronts 2 [.ref a2_fronts_names, .ref a2_fronts_warm, .ref a2_fronts_force, .ref a2_fronts_from, .ref a2_fronts_hours, .int r.2.2.2.2.2.2.2.2.1], zJ T a2_fronts_names 10 r.2.2.2.1, zZ T a2_fronts_warm 10 r.2.2.2.2.1, zI T a2_fronts_force 10 r.2.2.2.2.2.1, zI T a2_fronts_from 10 r.2.2.2.2.2.2.1, zI T a2_fronts_hours 10 r.2.2.2.2.2.2.2.1, zO a2_guests 3 [.ref a2_guests_names, .ref a2_guests_from, .ref a2_guests_weakest, .ref a2_guests_strongest, .ref a2_guests_nerve, .int r.2.2.2.2.2.2.2.2.2.2.2.2.2.2], zJ T a2_guests_names 10 r.2.2.2.2.2.2.2.2.2.1, zI T a2_guests_from 10 r.2.2.2.2.2.2.2.2.2.2.1, zI T a2_guests_weakest 10 r.2.2.2.2.2.2.2.2.2.2.2.1, zI T a2_guests_strongest 10 r.2.2.2.2.2.2.2.2.2.2.2.2.1, zI T a2_guests_nerve 10 r.2.2.2.2.2.2.2.2.2.2.2.2.2.1]
abbrev rm_X1_checkBehind : Room := { frames := 4, cells := 0, slots := 0, locals := 94 }
theorem hd_X1_checkBehind : yX1_checkBehind.cls ≠ "java/lang/invoke/MethodHandle" ∧ yX1_checkBehind.cls ≠ "java/lang/invoke/VarHandle" ∧ (parseMethodDescriptor yX1_checkBehind.desc).map (fun d => d.parameters.length) = some 3 := ⟨by decide, by decide, by decide +kernel⟩
theorem tin_X1_checkBehind_12_0 (x : Int32) (h : x = 3 ∨ x = 21 ∨ x = 22) : SxIn (3) (23) #[128, 152, 152, 176, 176, 176, 176, 176, 176, 176, 176, 176, 176, 176, 176, 176, 100, 114, 128, 128, 152] (128) x := by
  rcases h with rfl | rfl | rfl <;> exact ⟨by decide, by decide, by decide⟩
theorem tin_X1_checkBehind_12_1 (x : Int32) (h : x = 4 ∨ x = 5 ∨ x = 23) : SxIn (3) (23) #[128, 152, 152, 176, 176, 176, 176, 176, 176, 176, 176, 176, 176, 176, 176, 176, 100, 114, 128, 128, 152] (152) x := by
  rcases h with rfl | rfl | rfl <;> exact ⟨by decide, by decide, by decide⟩
theorem tin_X1_checkBehind_12_2 (x : Int32) (h : x = 19) : SxIn (3) (23) #[128, 152, 152, 176, 176, 176, 176, 176, 176, 176, 176, 176, 176, 176, 176, 176, 100, 114, 128, 128, 152] (100) x := by
  rcases h with rfl <;> exact ⟨by decide, by decide, by decide⟩
theorem tin_X1_checkBehind_12_3 (x : Int32) (h : x = 20) : SxIn (3) (23) #[128, 152, 152, 176, 176, 176, 176, 176, 176, 176, 176, 176, 176, 176, 176, 176, 100, 114, 128, 128, 152] (114) x := by
  rcases h with rfl <;> exact ⟨by decide, by decide, by decide⟩
theorem tab_X1_checkBehind_12 (x : Int32) (c0 : ¬ (x = 3 ∨ x = 21 ∨ x = 22)) (c1 : ¬ (x = 4 ∨ x = 5 ∨ x = 23)) (c2 : ¬ (x = 19)) (c3 : ¬ (x = 20)) : SxTab (3) (23) #[128, 152, 152, 176, 176, 176, 176, 176, 176, 176, 176, 176, 176, 176, 176, 176, 100, 114, 128, 128, 152] (176) x := by
  refine sx_tabd [3, 21, 22, 4, 5, 23, 19, 20] x (by decide +kernel) (fun v hv e => ?_)
  simp only [List.mem_cons, List.not_mem_nil, or_false] at hv
  rcases hv with h | h | h | h | h | h | h | h
  · exact c0 (Or.inl (e.trans h))
  · exact c0 (Or.inr (Or.inl (e.trans h)))
  · exact c0 (Or.inr (Or.inr (e.trans h)))
  · exact c1 (Or.inl (e.trans h))
  · exact c1 (Or.inr (Or.inl (e.trans h)))
  · exact c1 (Or.inr (Or.inr (e.trans h)))
  · exact c2 (e.trans h)
  · exact c3 (e.trans h)
set_option maxHeartbeats 4000000 in
set_option maxRecDepth 100000 in
theorem c_X1_checkBehind {l : Launch} {D : va_G} {T : Nat → ClassId} {sd : SdT} (a0 : Nat) (a0_kinds : Nat) (a0_starts : Nat) (a0_values : Nat) (a2 : Nat) (a2_fronts : Nat) (a2_guests : Nat) (a2_orders : Nat) (a2_fronts_names : Nat) (a2_fronts_warm : Nat) (a2_fronts_force : Nat) (a2_fronts_from : Nat) (a2_fronts_hours : Nat) (a2_guests_names : Nat) (a2_guests_from : Nat) (a2_guests_weakest : Nat) (a2_guests_strongest : Nat) (a2_guests_nerve : Nat) (n : Nat) (x1 : Int32) (b_a0 : bX11) (b_a2_fronts : bX2) (b_a2_guests : bX4) {res : (Nat → Int64) × Int32 × Int32 × (Nat → Int64) × (Nat → Int32) × (Nat → Int32) × (Nat → Int32) × (Nat → Int32) × Int32 × (Nat → Int64) × (Nat → Int32) × (Nat → Int32) × (Nat → Int32) × (Nat → Int32) × Int32} (hf : f_X1_checkBehind n x1 b_a0 b_a2_fronts b_a2_guests = some res) : SxK (SFx sd) l D T yX1_checkBehind cX1_checkBehind 3 none rm_X1_checkBehind [.ref a0, .int x1, .ref a2] (wc_X1_checkBehind T sd a0 a0_kinds a0_starts a0_values a2 a2_fronts a2_guests a2_orders a2_fronts_names a2_fronts_warm a2_fronts_force a2_fronts_from a2_fronts_hours a2_guests_names a2_guests_from a2_guests_weakest a2_guests_strongest a2_guests_nerve b_a0 b_a2_fronts b_a2_guests) (vf_X1_checkBehind sd) (wf_X1_checkBehind T sd a0 a0_kinds a0_starts a0_values a2 a2_fronts a2_guests a2_orders a2_fronts_names a2_fronts_warm a2_fronts_force a2_fronts_from a2_fronts_hours a2_guests_names a2_guests_from a2_guests_weakest a2_guests_strongest a2_guests_nerve b_a0 b_a2_fronts b_a2_guests) res 0 0 := by
  refine sx_start (SFx_ok sd) (by decide +kernel) (Nat.le_of_ble_eq_true rfl) (fun p e s m args below meth c A X hnm => ?_)
  have hf := ob_1 hf
  refine sx_mst X qm_1076 dX1_checkBehind_0 ?_
  refine sx_aload_n X 0 rfl dX1_checkBehind_3 rfl ?_
  refine sx_iload_n X 1 rfl dX1_checkBehind_4 rfl ?_
  obtain ⟨u1, hu1, hf⟩ := ob_c hf
  refine sx_cVr X (c_X11_kindAt (l := l) (D := D) (T := T) (sd := sd) a0 a0_kinds a0_starts a0_values x1 b_a0 hu1) (st' := [.ref (sd.1 u1), .ref sd.2.2.2.2.1]) (q0 := 0) qm_1057 qm_1058 qm_1059 qm_15 qm_1060 hd_X11_kindAt ⟨rfl, rfl⟩ ⟨Nat.le_of_ble_eq_true rfl, Nat.le_of_ble_eq_true rfl⟩ rfl rfl (Nat.le_of_ble_eq_true rfl) rfl rfl rfl [0, 1, 2, 3] rfl rfl rfl ⟨Nat.le_of_ble_eq_true rfl, Nat.le_of_ble_eq_true rfl⟩ dX1_checkBehind_5 rfl ?_
  obtain ⟨g2, hf⟩ := ob_h hf
  refine sx_ord X u1 g2 qm_1077 (Nat.le_of_ble_eq_true rfl) (Nat.le_of_ble_eq_true rfl) (Nat.le_of_ble_eq_true rfl) (Nat.zero_le _) (Nat.zero_le _) dX1_checkBehind_8 ?_
  refine sx_mld X u1 g2 dX1_checkBehind_11 ?_
  by_cases c3 : (smap u1) = 3 ∨ (smap u1) = 21 ∨ (smap u1) = 22
  · have hf := ob_t hf c3
    refine sx_tin X 140 dX1_checkBehind_12 rfl (tin_X1_checkBehind_12_0 (smap u1) c3) ?_
    refine sx_aload_n X 0 rfl dX1_checkBehind_140 rfl ?_
    refine sx_iload_n X 1 rfl dX1_checkBehind_141 rfl ?_
    refine sx_iconst X (v := 1) dX1_checkBehind_142 rfl ?_
    refine sx_iadd X dX1_checkBehind_143 ?_
    refine sx_aload_n X 2 rfl dX1_checkBehind_144 rfl ?_
    refine sx_get X kX7 4 rfl 0 (Nat.le_of_ble_eq_true rfl) qm_251 rfl dX1_checkBehind_145 ?_
    refine sx_aload_n X 0 rfl dX1_checkBehind_148 rfl ?_
    refine sx_iload_n X 1 rfl dX1_checkBehind_149 rfl ?_
    refine sx_iconst X (v := 1) dX1_checkBehind_150 rfl ?_
    refine sx_iadd X dX1_checkBehind_151 ?_
    obtain ⟨u4, hu4, hf⟩ := ob_c hf
    refine sx_cVr X (c_X11_valueAt (l := l) (D := D) (T := T) (sd := sd) a0 a0_kinds a0_starts a0_values (x1 + 1) b_a0 hu4) (st' := [.long u4, .ref a2_fronts, .int (x1 + 1), .ref a0]) (q0 := 0) qm_1081 qm_1082 qm_1083 qm_15 qm_1084 hd_X11_valueAt ⟨rfl, rfl⟩ ⟨Nat.le_of_ble_eq_true rfl, Nat.le_of_ble_eq_true rfl⟩ rfl rfl (Nat.le_of_ble_eq_true rfl) rfl rfl rfl [0, 1, 2, 3] rfl rfl rfl ⟨Nat.le_of_ble_eq_true rfl, Nat.le_of_ble_eq_true rfl⟩ dX1_checkBehind_152 rfl ?_
    obtain ⟨u5, hu5, hf⟩ := ob_c hf
    refine sx_cVr X (c_X2_find (l := l) (D := D) (T := T) (sd := sd) a2_fronts a2_fronts_names a2_fronts_warm a2_fronts_force a2_fronts_from a2_fronts_hours n u4 b_a2_fronts hu5) (st' := [.int u5, .int (x1 + 1), .ref a0]) (q0 := 5) qm_1085 qm_1086 qm_1087 qm_21 qm_1088 hd_X2_find ⟨rfl, rfl⟩ ⟨Nat.le_of_ble_eq_true rfl, Nat.le_of_ble_eq_true rfl⟩ rfl rfl (Nat.le_of_ble_eq_true rfl) rfl rfl rfl [5, 6, 7, 8, 9, 10] rfl rfl rfl ⟨Nat.le_of_ble_eq_true rfl, Nat.le_of_ble_eq_true rfl⟩ dX1_checkBehind_155 rfl ?_
    obtain ⟨u6, hu6, hf⟩ := ob_c hf
    refine sx_cS X (c_X1_checkNamed (l := l) (D := D) (T := T) (sd := sd) a0 a0_kinds a0_starts a0_values (x1 + 1) u5 b_a0 hu6) (st' := []) qm_1108 qm_1109 qm_48 qm_1110 hd_X1_checkNamed ⟨rfl, rfl⟩ ⟨Nat.le_of_ble_eq_true rfl, Nat.le_of_ble_eq_true rfl⟩ rfl rfl (Nat.le_of_ble_eq_true rfl) [0, 1, 2, 3] rfl rfl (ws' := [zO a0 9 [.ref a0_kinds, .ref a0_starts, .ref a0_values, .int (X11_count b_a0), .int (X11_cursor b_a0), .int u6.2.1, .int u6.2.2], zK T sd.1 a0_kinds 401 (X11_kinds b_a0), zI T a0_starts 401 (X11_starts b_a0), zJ T a0_values 401 u6.1, zO a2 5 [.ref a2_fronts, .ref a2_guests, .ref a2_orders], zO a2_fronts 2 [.ref a2_fronts_names, .ref a2_fronts_warm, .ref a2_fronts_force, .ref a2_fronts_from, .ref a2_fronts_hours, .int (X2_count b_a2_fronts)], zJ T a2_fronts_names 10 (X2_names b_a2_fronts), zZ T a2_fronts_warm 10 (X2_warm b_a2_fronts), zI T a2_fronts_force 10 (X2_force b_a2_fronts), zI T a2_fronts_from 10 (X2_from b_a2_fronts), zI T a2_fronts_hours 10 (X2_hours b_a2_fronts), zO a2_guests 3 [.ref a2_guests_names, .ref a2_guests_from, .ref a2_guests_weakest, .ref a2_guests_strongest, .ref a2_guests_nerve, .int (X4_count b_a2_guests)], zJ T a2_guests_names 10 (X4_names b_a2_guests), zI T a2_guests_from 10 (X4_from b_a2_guests), zI T a2_guests_weakest 10 (X4_weakest b_a2_guests), zI T a2_guests_strongest 10 (X4_strongest b_a2_guests), zI T a2_guests_nerve 10 (X4_nerve b_a2_guests)]) (sxPatch_pk [(true, 0), (true, 1), (true, 2), (true, 3), (false, 4), (false, 5), (false, 6), (false, 7), (false, 8), (false, 9), (false, 10), (false, 11), (false, 12), (false, 13), (false, 14), (false, 15), (false, 16)] (by decide +kernel) rfl rfl rfl) rfl ⟨Nat.le_of_ble_eq_true rfl, Nat.le_of_ble_eq_true rfl⟩ dX1_checkBehind_158 rfl ?_
    refine sx_goto X 188 dX1_checkBehind_161 rfl ?_
    exact sx_vret X dX1_checkBehind_188 (ob_e hf) rfl rfl
  · have hf := ob_f hf c3
    by_cases c7 : (smap u1) = 4 ∨ (smap u1) = 5 ∨ (smap u1) = 23
    · have hf := ob_t hf c7
      refine sx_tin X 164 dX1_checkBehind_12 rfl (tin_X1_checkBehind_12_1 (smap u1) c7) ?_
      refine sx_aload_n X 0 rfl dX1_checkBehind_164 rfl ?_
      refine sx_iload_n X 1 rfl dX1_checkBehind_165 rfl ?_
      refine sx_iconst X (v := 1) dX1_checkBehind_166 rfl ?_
      refine sx_iadd X dX1_checkBehind_167 ?_
      refine sx_aload_n X 2 rfl dX1_checkBehind_168 rfl ?_
      refine sx_get X kX7 4 rfl 1 (Nat.le_of_ble_eq_true rfl) qm_254 rfl dX1_checkBehind_169 ?_
      refine sx_aload_n X 0 rfl dX1_checkBehind_172 rfl ?_
      refine sx_iload_n X 1 rfl dX1_checkBehind_173 rfl ?_
      refine sx_iconst X (v := 1) dX1_checkBehind_174 rfl ?_
      refine sx_iadd X dX1_checkBehind_175 ?_
      obtain ⟨u8, hu8, hf⟩ := ob_c hf
      refine sx_cVr X (c_X11_valueAt (l := l) (D := D) (T := T) (sd := sd) a0 a0_kinds a0_starts a0_values (x1 + 1) b_a0 hu8) (st' := [.long u8, .ref a2_guests, .int (x1 + 1), .ref a0]) (q0 := 0) qm_1081 qm_1082 qm_1083 qm_15 qm_1084 hd_X11_valueAt ⟨rfl, rfl⟩ ⟨Nat.le_of_ble_eq_true rfl, Nat.le_of_ble_eq_true rfl⟩ rfl rfl (Nat.le_of_ble_eq_true rfl) rfl rfl rfl [0, 1, 2, 3] rfl rfl rfl ⟨Nat.le_of_ble_eq_true rfl, Nat.le_of_ble_eq_true rfl⟩ dX1_checkBehind_176 rfl ?_
      obtain ⟨u9, hu9, hf⟩ := ob_c hf
      refine sx_cVr X (c_X4_find (l := l) (D := D) (T := T) (sd := sd) a2_guests a2_guests_names a2_guests_from a2_guests_weakest a2_guests_strongest a2_guests_nerve n u8 b_a2_guests hu9) (st' := [.int u9, .int (x1 + 1), .ref a0]) (q0 := 11) qm_1100 qm_1101 qm_1102 qm_22 qm_1103 hd_X4_find ⟨rfl, rfl⟩ ⟨Nat.le_of_ble_eq_true rfl, Nat.le_of_ble_eq_true rfl⟩ rfl rfl (Nat.le_of_ble_eq_true rfl) rfl rfl rfl [11, 12, 13, 14, 15, 16] rfl rfl rfl ⟨Nat.le_of_ble_eq_true rfl, Nat.le_of_ble_eq_true rfl⟩ dX1_checkBehind_179 rfl ?_
      obtain ⟨u10, hu10, hf⟩ := ob_c hf
      refine sx_cS X (c_X1_checkNamed (l := l) (D := D) (T := T) (sd := sd) a0 a0_kinds a0_starts a0_values (x1 + 1) u9 b_a0 hu10) (st' := []) qm_1108 qm_1109 qm_48 qm_1110 hd_X1_checkNamed ⟨rfl, rfl⟩ ⟨Nat.le_of_ble_eq_true rfl, Nat.le_of_ble_eq_true rfl⟩ rfl rfl (Nat.le_of_ble_eq_true rfl) [0, 1, 2, 3] rfl rfl (ws' := [zO a0 9 [.ref a0_kinds, .ref a0_starts, .ref a0_values, .int (X11_count b_a0), .int (X11_cursor b_a0), .int u10.2.1, .int u10.2.2], zK T sd.1 a0_kinds 401 (X11_kinds b_a0), zI T a0_starts 401 (X11_starts b_a0), zJ T a0_values 401 u10.1, zO a2 5 [.ref a2_fronts, .ref a2_guests, .ref a2_orders], zO a2_fronts 2 [.ref a2_fronts_names, .ref a2_fronts_warm, .ref a2_fronts_force, .ref a2_fronts_from, .ref a2_fronts_hours, .int (X2_count b_a2_fronts)], zJ T a2_fronts_names 10 (X2_names b_a2_fronts), zZ T a2_fronts_warm 10 (X2_warm b_a2_fronts), zI T a2_fronts_force 10 (X2_force b_a2_fronts), zI T a2_fronts_from 10 (X2_from b_a2_fronts), zI T a2_fronts_hours 10 (X2_hours b_a2_fronts), zO a2_guests 3 [.ref a2_guests_names, .ref a2_guests_from, .ref a2_guests_weakest, .ref a2_guests_strongest, .ref a2_guests_nerve, .int (X4_count b_a2_guests)], zJ T a2_guests_names 10 (X4_names b_a2_guests), zI T a2_guests_from 10 (X4_from b_a2_guests), zI T a2_guests_weakest 10 (X4_weakest b_a2_guests), zI T a2_guests_strongest 10 (X4_strongest b_a2_guests), zI T a2_guests_nerve 10 (X4_nerve b_a2_guests)]) (sxPatch_pk [(true, 0), (true, 1), (true, 2), (true, 3), (false, 4), (false, 5), (false, 6), (false, 7), (false, 8), (false, 9), (false, 10), (false, 11), (false, 12), (false, 13), (false, 14), (false, 15), (false, 16)] (by decide +kernel) rfl rfl rfl) rfl ⟨Nat.le_of_ble_eq_true rfl, Nat.le_of_ble_eq_true rfl⟩ dX1_checkBehind_182 rfl ?_
      refine sx_goto X 188 dX1_checkBehind_185 rfl ?_
      exact sx_vret X dX1_checkBehind_188 (ob_e hf) rfl rfl
    · have hf := ob_f hf c7
      by_cases c11 : (smap u1) = 19
      · have hf := ob_t hf c11
        refine sx_tin X 112 dX1_checkBehind_12 rfl (tin_X1_checkBehind_12_2 (smap u1) c11) ?_
        refine sx_aload_n X 0 rfl dX1_checkBehind_112 rfl ?_
        refine sx_iload_n X 1 rfl dX1_checkBehind_113 rfl ?_
        refine sx_iconst X (v := 1) dX1_checkBehind_114 rfl ?_
        refine sx_iadd X dX1_checkBehind_115 ?_
        refine sx_aload_n X 2 rfl dX1_checkBehind_116 rfl ?_
        refine sx_get X kX7 4 rfl 0 (Nat.le_of_ble_eq_true rfl) qm_251 rfl dX1_checkBehind_117 ?_
        obtain ⟨u12, hu12, hf⟩ := ob_c hf
        refine sx_cS X (c_X1_checkFront (l := l) (D := D) (T := T) (sd := sd) a0 a0_kinds a0_starts a0_values a2_fronts a2_fronts_names a2_fronts_warm a2_fronts_force a2_fronts_from a2_fronts_hours n (x1 + 1) b_a0 b_a2_fronts hu12) (st' := []) qm_1078 qm_1079 qm_48 qm_1080 hd_X1_checkFront ⟨rfl, rfl⟩ ⟨Nat.le_of_ble_eq_true rfl, Nat.le_of_ble_eq_true rfl⟩ rfl rfl (Nat.le_of_ble_eq_true rfl) [0, 1, 2, 3, 5, 6, 7, 8, 9, 10] rfl rfl (ws' := [zO a0 9 [.ref a0_kinds, .ref a0_starts, .ref a0_values, .int (X11_count b_a0), .int (X11_cursor b_a0), .int u12.1, .int u12.2.1], zK T sd.1 a0_kinds 401 (X11_kinds b_a0), zI T a0_starts 401 (X11_starts b_a0), zJ T a0_values 401 (X11_values b_a0), zO a2 5 [.ref a2_fronts, .ref a2_guests, .ref a2_orders], zO a2_fronts 2 [.ref a2_fronts_names, .ref a2_fronts_warm, .ref a2_fronts_force, .ref a2_fronts_from, .ref a2_fronts_hours, .int u12.2.2.2.2.2.2.2], zJ T a2_fronts_names 10 u12.2.2.1, zZ T a2_fronts_warm 10 u12.2.2.2.1, zI T a2_fronts_force 10 u12.2.2.2.2.1, zI T a2_fronts_from 10 u12.2.2.2.2.2.1, zI T a2_fronts_hours 10 u12.2.2.2.2.2.2.1, zO a2_guests 3 [.ref a2_guests_names, .ref a2_guests_from, .ref a2_guests_weakest, .ref a2_guests_strongest, .ref a2_guests_nerve, .int (X4_count b_a2_guests)], zJ T a2_guests_names 10 (X4_names b_a2_guests), zI T a2_guests_from 10 (X4_from b_a2_guests), zI T a2_guests_weakest 10 (X4_weakest b_a2_guests), zI T a2_guests_strongest 10 (X4_strongest b_a2_guests), zI T a2_guests_nerve 10 (X4_nerve b_a2_guests)]) (sxPatch_pk [(true, 0), (true, 1), (true, 2), (true, 3), (false, 4), (true, 4), (true, 5), (true, 6), (true, 7), (true, 8), (true, 9), (false, 11), (false, 12), (false, 13), (false, 14), (false, 15), (false, 16)] (by decide +kernel) rfl rfl rfl) rfl ⟨Nat.le_of_ble_eq_true rfl, Nat.le_of_ble_eq_true rfl⟩ dX1_checkBehind_120 rfl ?_
        refine sx_goto X 188 dX1_checkBehind_123 rfl ?_
        exact sx_vret X dX1_checkBehind_188 (ob_e hf) rfl rfl
      · have hf := ob_f hf c11
        by_cases c13 : (smap u1) = 20
        · have hf := ob_t hf c13
          refine sx_tin X 126 dX1_checkBehind_12 rfl (tin_X1_checkBehind_12_3 (smap u1) c13) ?_
          refine sx_aload_n X 0 rfl dX1_checkBehind_126 rfl ?_
          refine sx_iload_n X 1 rfl dX1_checkBehind_127 rfl ?_
          refine sx_iconst X (v := 1) dX1_checkBehind_128 rfl ?_
          refine sx_iadd X dX1_checkBehind_129 ?_
          refine sx_aload_n X 2 rfl dX1_checkBehind_130 rfl ?_
          refine sx_get X kX7 4 rfl 1 (Nat.le_of_ble_eq_true rfl) qm_254 rfl dX1_checkBehind_131 ?_
          obtain ⟨u14, hu14, hf⟩ := ob_c hf
          refine sx_cS X (c_X1_checkGuest (l := l) (D := D) (T := T) (sd := sd) a0 a0_kinds a0_starts a0_values a2_guests a2_guests_names a2_guests_from a2_guests_weakest a2_guests_strongest a2_guests_nerve n (x1 + 1) b_a0 b_a2_guests hu14) (st' := []) qm_1097 qm_1098 qm_48 qm_1099 hd_X1_checkGuest ⟨rfl, rfl⟩ ⟨Nat.le_of_ble_eq_true rfl, Nat.le_of_ble_eq_true rfl⟩ rfl rfl (Nat.le_of_ble_eq_true rfl) [0, 1, 2, 3, 11, 12, 13, 14, 15, 16] rfl rfl (ws' := [zO a0 9 [.ref a0_kinds, .ref a0_starts, .ref a0_values, .int (X11_count b_a0), .int (X11_cursor b_a0), .int u14.1, .int u14.2.1], zK T sd.1 a0_kinds 401 (X11_kinds b_a0), zI T a0_starts 401 (X11_starts b_a0), zJ T a0_values 401 (X11_values b_a0), zO a2 5 [.ref a2_fronts, .ref a2_guests, .ref a2_orders], zO a2_fronts 2 [.ref a2_fronts_names, .ref a2_fronts_warm, .ref a2_fronts_force, .ref a2_fronts_from, .ref a2_fronts_hours, .int (X2_count b_a2_fronts)], zJ T a2_fronts_names 10 (X2_names b_a2_fronts), zZ T a2_fronts_warm 10 (X2_warm b_a2_fronts), zI T a2_fronts_force 10 (X2_force b_a2_fronts), zI T a2_fronts_from 10 (X2_from b_a2_fronts), zI T a2_fronts_hours 10 (X2_hours b_a2_fronts), zO a2_guests 3 [.ref a2_guests_names, .ref a2_guests_from, .ref a2_guests_weakest, .ref a2_guests_strongest, .ref a2_guests_nerve, .int u14.2.2.2.2.2.2.2], zJ T a2_guests_names 10 u14.2.2.1, zI T a2_guests_from 10 u14.2.2.2.1, zI T a2_guests_weakest 10 u14.2.2.2.2.1, zI T a2_guests_strongest 10 u14.2.2.2.2.2.1, zI T a2_guests_nerve 10 u14.2.2.2.2.2.2.1]) (sxPatch_pk [(true, 0), (true, 1), (true, 2), (true, 3), (false, 4), (false, 5), (false, 6), (false, 7), (false, 8), (false, 9), (false, 10), (true, 4), (true, 5), (true, 6), (true, 7), (true, 8), (true, 9)] (by decide +kernel) rfl rfl rfl) rfl ⟨Nat.le_of_ble_eq_true rfl, Nat.le_of_ble_eq_true rfl⟩ dX1_checkBehind_134 rfl ?_
          refine sx_goto X 188 dX1_checkBehind_137 rfl ?_
          exact sx_vret X dX1_checkBehind_188 (ob_e hf) rfl rfl
        · have hf := ob_f hf c13
          refine sx_tdef X 188 dX1_checkBehind_12 rfl (tab_X1_checkBehind_12 (smap u1) c3 c7 c11 c13) ?_
          exact sx_vret X dX1_checkBehind_188 (ob_e hf) rfl rfl
