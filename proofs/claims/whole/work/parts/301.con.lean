/-! contracts, part 1 -/
abbrev vf_X2_add (sd : SdT) (_r : (Nat → Int64) × (Nat → Int32) × (Nat → Int32) × (Nat → Int32) × (Nat → Int32) × Int32) : Option Value := none
abbrev wc_X2_add (T : Nat → ClassId) (sd : SdT) (h : Nat) (h_names : Nat) (h_warm : Nat) (h_force : Nat) (h_from : Nat) (h_hours : Nat) (b_h : bX2) : va_W := [zO h 0 [.ref h_names, .ref h_warm, .ref h_force, .ref h_from, .ref h_hours, .int (X2_count b_h)], zJ T h_names 10 (X2_names b_h), zZ T h_warm 10 (X2_warm b_h), zI T h_force 10 (X2_force b_h), zI T h_from 10 (X2_from b_h), zI T h_hours 10 (X2_hours b_h)]
abbrev wf_X2_add (T : Nat → ClassId) (sd : SdT) (h : Nat) (h_names : Nat) (h_warm : Nat) (h_force : Nat) (h_from : Nat) (h_hours : Nat) (b_h : bX2) (r : (Nat → Int64) × (Nat → Int32) × (Nat → Int32) × (Nat → Int32) × (Nat → Int32) × Int32) : va_W := [zO h 0 [.ref h_names, .ref h_warm, .ref h_force, .ref h_from, .ref h_hours, .int r.2.2.2.2.2], zJ T h_names 10 r.1, zZ T h_warm 10 r.2.1, zI T h_force 10 r.2.2.1, zI T h_from 10 r.2.2.2.1, zI T h_hours 10 r.2.2.2.2.1]
abbrev rm_X2_add : Room := { frames := 0, cells := 0, slots := 0, locals := 0 }
theorem hd_X2_add : yX2_add.cls ≠ "java/lang/invoke/MethodHandle" ∧ yX2_add.cls ≠ "java/lang/invoke/VarHandle" ∧ (parseMethodDescriptor yX2_add.desc).map (fun d => d.parameters.length) = some 5 := ⟨by decide, by decide, by decide +kernel⟩
set_option maxHeartbeats 4000000 in
set_option maxRecDepth 100000 in
theorem c_X2_add {l : Launch} {D : va_G} {T : Nat → ClassId} {sd : SdT} (h : Nat) (h_names : Nat) (h_warm : Nat) (h_force : Nat) (h_from : Nat) (h_hours : Nat) (x0 : Int64) (x1 : Int32) (x2 : Int32) (x3 : Int32) (x4 : Int32) (b_h : bX2) {res : (Nat → Int64) × (Nat → Int32) × (Nat → Int32) × (Nat → Int32) × (Nat → Int32) × Int32} (hf : f_X2_add x0 x1 x2 x3 x4 b_h = some res) : SxK (SFx sd) l D T yX2_add cX2_add 7 none rm_X2_add [.ref h, .long x0, .int x1, .int x2, .int x3, .int x4] (wc_X2_add T sd h h_names h_warm h_force h_from h_hours b_h) (vf_X2_add sd) (wf_X2_add T sd h h_names h_warm h_force h_from h_hours b_h) res 0 0 := by
  refine sx_start (SFx_ok sd) (by decide +kernel) (Nat.le_of_ble_eq_true rfl) (fun p e s m args below meth c A X hnm => ?_)
  have hf := ob_1 hf
  refine sx_aload_n X 0 rfl dX2_add_0 rfl ?_
  refine sx_get X kX2 0 rfl 5 (Nat.le_of_ble_eq_true rfl) qm_203 rfl dX2_add_1 ?_
  refine sx_bipush X (v := 10) dX2_add_4 rfl ?_
  refine sx_icmp_ge X 72 dX2_add_6 rfl (fun c1 => ?_) (fun c1 => ?_)
  · have hf := ob_t hf c1
    exact sx_vret X dX2_add_72 (ob_e hf) rfl rfl
  · have hf := ob_f hf c1
    refine sx_aload_n X 0 rfl dX2_add_9 rfl ?_
    refine sx_get X kX2 0 rfl 0 (Nat.le_of_ble_eq_true rfl) qm_191 rfl dX2_add_10 ?_
    refine sx_aload_n X 0 rfl dX2_add_13 rfl ?_
    refine sx_get X kX2 0 rfl 5 (Nat.le_of_ble_eq_true rfl) qm_203 rfl dX2_add_14 ?_
    refine sx_lload_n X 1 rfl dX2_add_17 rfl ?_
    obtain ⟨g2, hf⟩ := ob_g hf
    refine sx_last X (ws' := [zO h 0 [.ref h_names, .ref h_warm, .ref h_force, .ref h_from, .ref h_hours, .int (X2_count b_h)], zJ T h_names 10 (vp_updL (X2_names b_h) (X2_count b_h).toNatClampNeg x0), zZ T h_warm 10 (X2_warm b_h), zI T h_force 10 (X2_force b_h), zI T h_from 10 (X2_from b_h), zI T h_hours 10 (X2_hours b_h)]) 1 rfl g2 rfl dX2_add_18 ?_
    refine sx_aload_n X 0 rfl dX2_add_19 rfl ?_
    refine sx_get X kX2 0 rfl 1 (Nat.le_of_ble_eq_true rfl) qm_192 rfl dX2_add_20 ?_
    refine sx_aload_n X 0 rfl dX2_add_23 rfl ?_
    refine sx_get X kX2 0 rfl 5 (Nat.le_of_ble_eq_true rfl) qm_203 rfl dX2_add_24 ?_
    refine sx_iload_n X 2 rfl dX2_add_27 rfl ?_
    obtain ⟨g3, hf⟩ := ob_g hf
    refine sx_zast X (ws' := [zO h 0 [.ref h_names, .ref h_warm, .ref h_force, .ref h_from, .ref h_hours, .int (X2_count b_h)], zJ T h_names 10 (vp_updL (X2_names b_h) (X2_count b_h).toNatClampNeg x0), zZ T h_warm 10 (upd (X2_warm b_h) (X2_count b_h).toNatClampNeg (vp_nar .boolean x1)), zI T h_force 10 (X2_force b_h), zI T h_from 10 (X2_from b_h), zI T h_hours 10 (X2_hours b_h)]) 2 rfl g3 rfl dX2_add_28 ?_
    refine sx_aload_n X 0 rfl dX2_add_29 rfl ?_
    refine sx_get X kX2 0 rfl 2 (Nat.le_of_ble_eq_true rfl) qm_195 rfl dX2_add_30 ?_
    refine sx_aload_n X 0 rfl dX2_add_33 rfl ?_
    refine sx_get X kX2 0 rfl 5 (Nat.le_of_ble_eq_true rfl) qm_203 rfl dX2_add_34 ?_
    refine sx_iload X 3 rfl dX2_add_37 ?_
    obtain ⟨g4, hf⟩ := ob_g hf
    refine sx_iast X (ws' := [zO h 0 [.ref h_names, .ref h_warm, .ref h_force, .ref h_from, .ref h_hours, .int (X2_count b_h)], zJ T h_names 10 (vp_updL (X2_names b_h) (X2_count b_h).toNatClampNeg x0), zZ T h_warm 10 (upd (X2_warm b_h) (X2_count b_h).toNatClampNeg (vp_nar .boolean x1)), zI T h_force 10 (upd (X2_force b_h) (X2_count b_h).toNatClampNeg x2), zI T h_from 10 (X2_from b_h), zI T h_hours 10 (X2_hours b_h)]) 3 rfl g4 rfl dX2_add_39 ?_
    refine sx_aload_n X 0 rfl dX2_add_40 rfl ?_
    refine sx_get X kX2 0 rfl 3 (Nat.le_of_ble_eq_true rfl) qm_198 rfl dX2_add_41 ?_
    refine sx_aload_n X 0 rfl dX2_add_44 rfl ?_
    refine sx_get X kX2 0 rfl 5 (Nat.le_of_ble_eq_true rfl) qm_203 rfl dX2_add_45 ?_
    refine sx_iload X 4 rfl dX2_add_48 ?_
    obtain ⟨g5, hf⟩ := ob_g hf
    refine sx_iast X (ws' := [zO h 0 [.ref h_names, .ref h_warm, .ref h_force, .ref h_from, .ref h_hours, .int (X2_count b_h)], zJ T h_names 10 (vp_updL (X2_names b_h) (X2_count b_h).toNatClampNeg x0), zZ T h_warm 10 (upd (X2_warm b_h) (X2_count b_h).toNatClampNeg (vp_nar .boolean x1)), zI T h_force 10 (upd (X2_force b_h) (X2_count b_h).toNatClampNeg x2), zI T h_from 10 (upd (X2_from b_h) (X2_count b_h).toNatClampNeg x3), zI T h_hours 10 (X2_hours b_h)]) 4 rfl g5 rfl dX2_add_50 ?_
    refine sx_aload_n X 0 rfl dX2_add_51 rfl ?_
    refine sx_get X kX2 0 rfl 4 (Nat.le_of_ble_eq_true rfl) qm_200 rfl dX2_add_52 ?_
    refine sx_aload_n X 0 rfl dX2_add_55 rfl ?_
    refine sx_get X kX2 0 rfl 5 (Nat.le_of_ble_eq_true rfl) qm_203 rfl dX2_add_56 ?_
    refine sx_iload X 5 rfl dX2_add_59 ?_
    obtain ⟨g6, hf⟩ := ob_g hf
    refine sx_iast X (ws' := [zO h 0 [.ref h_names, .ref h_warm, .ref h_force, .ref h_from, .ref h_hours, .int (X2_count b_h)], zJ T h_names 10 (vp_updL (X2_names b_h) (X2_count b_h).toNatClampNeg x0), zZ T h_warm 10 (upd (X2_warm b_h) (X2_count b_h).toNatClampNeg (vp_nar .boolean x1)), zI T h_force 10 (upd (X2_force b_h) (X2_count b_h).toNatClampNeg x2), zI T h_from 10 (upd (X2_from b_h) (X2_count b_h).toNatClampNeg x3), zI T h_hours 10 (upd (X2_hours b_h) (X2_count b_h).toNatClampNeg x4)]) 5 rfl g6 rfl dX2_add_61 ?_
    refine sx_aload_n X 0 rfl dX2_add_62 rfl ?_
    refine sx_dup X dX2_add_63 rfl ?_
    refine sx_get X kX2 0 rfl 5 (Nat.le_of_ble_eq_true rfl) qm_203 rfl dX2_add_64 ?_
    refine sx_iconst X (v := 1) dX2_add_67 rfl ?_
    refine sx_iadd X dX2_add_68 ?_
    refine sx_put X (ws' := [zO h 0 [.ref h_names, .ref h_warm, .ref h_force, .ref h_from, .ref h_hours, .int ((X2_count b_h) + 1)], zJ T h_names 10 (vp_updL (X2_names b_h) (X2_count b_h).toNatClampNeg x0), zZ T h_warm 10 (upd (X2_warm b_h) (X2_count b_h).toNatClampNeg (vp_nar .boolean x1)), zI T h_force 10 (upd (X2_force b_h) (X2_count b_h).toNatClampNeg x2), zI T h_from 10 (upd (X2_from b_h) (X2_count b_h).toNatClampNeg x3), zI T h_hours 10 (upd (X2_hours b_h) (X2_count b_h).toNatClampNeg x4)]) kX2 0 rfl 5 (Nat.le_of_ble_eq_true rfl) qm_203 rfl rfl rfl (Nat.le_of_ble_eq_true rfl) rfl dX2_add_69 ?_
    exact sx_vret X dX2_add_72 (ob_e hf) rfl rfl

abbrev vf_X1_checkFront (sd : SdT) (_r : Int32 × Int32 × (Nat → Int64) × (Nat → Int32) × (Nat → Int32) × (Nat → Int32) × (Nat → Int32) × Int32) : Option Value := none
abbrev wc_X1_checkFront (T : Nat → ClassId) (sd : SdT) (a0 : Nat) (a0_kinds : Nat) (a0_starts : Nat) (a0_values : Nat) (a2 : Nat) (a2_names : Nat) (a2_warm : Nat) (a2_force : Nat) (a2_from : Nat) (a2_hours : Nat) (b_a0 : bX11) (b_a2 : bX2) : va_W := [zO a0 7 [.ref a0_kinds, .ref a0_starts, .ref a0_values, .int (X11_count b_a0), .int (X11_cursor b_a0), .int (X11_error b_a0), .int (X11_errorToken b_a0)], zK T sd.1 a0_kinds 401 (X11_kinds b_a0), zI T a0_starts 401 (X11_starts b_a0), zJ T a0_values 401 (X11_values b_a0), zO a2 0 [.ref a2_names, .ref a2_warm, .ref a2_force, .ref a2_from, .ref a2_hours, .int (X2_count b_a2)], zJ T a2_names 10 (X2_names b_a2), zZ T a2_warm 10 (X2_warm b_a2), zI T a2_force 10 (X2_force b_a2), zI T a2_from 10 (X2_from b_a2), zI T a2_hours 10 (X2_hours b_a2)]
abbrev wf_X1_checkFront (T : Nat → ClassId) (sd : SdT) (a0 : Nat) (a0_kinds : Nat) (a0_starts : Nat) (a0_values : Nat) (a2 : Nat) (a2_names : Nat) (a2_warm : Nat) (a2_force : Nat) (a2_from : Nat) (a2_hours : Nat) (b_a0 : bX11) (b_a2 : bX2) (r : Int32 × Int32 × (Nat → Int64) × (Nat → Int32) × (Nat → Int32) × (Nat → Int32) × (Nat → Int32) × Int32) : va_W := [zO a0 7 [.ref a0_kinds, .ref a0_starts, .ref a0_values, .int (X11_count b_a0), .int (X11_cursor b_a0), .int r.1, .int r.2.1], zK T sd.1 a0_kinds 401 (X11_kinds b_a0), zI T a0_starts 401 (X11_starts b_a0), zJ T a0_values 401 (X11_values b_a0), zO a2 0 [.ref a2_names, .ref a2_warm, .ref a2_force, .ref a2_from, .ref a2_hours, .int r.2.2.2.2.2.2.2], zJ T a2_names 10 r.2.2.1, zZ T a2_warm 10 r.2.2.2.1, zI T a2_force 10 r.2.2.2.2.1, zI T a2_from 10 r.2.2.2.2.2.1, zI T a2_hours 10 r.2.2.2.2.2.2.1]
abbrev rm_X1_checkFront : Room := { frames := 3, cells := 0, slots := 0, locals := 66 }
theorem hd_X1_checkFront : yX1_checkFront.cls ≠ "java/lang/invoke/MethodHandle" ∧ yX1_checkFront.cls ≠ "java/lang/invoke/VarHandle" ∧ (parseMethodDescriptor yX1_checkFront.desc).map (fun d => d.parameters.length) = some 3 := ⟨by decide, by decide, by decide +kernel⟩
set_option maxHeartbeats 4000000 in
set_option maxRecDepth 100000 in
theorem c_X1_checkFront {l : Launch} {D : va_G} {T : Nat → ClassId} {sd : SdT} (a0 : Nat) (a0_kinds : Nat) (a0_starts : Nat) (a0_values : Nat) (a2 : Nat) (a2_names : Nat) (a2_warm : Nat) (a2_force : Nat) (a2_from : Nat) (a2_hours : Nat) (n : Nat) (x1 : Int32) (b_a0 : bX11) (b_a2 : bX2) {res : Int32 × Int32 × (Nat → Int64) × (Nat → Int32) × (Nat → Int32) × (Nat → Int32) × (Nat → Int32) × Int32} (hf : f_X1_checkFront n x1 b_a0 b_a2 = some res) : SxK (SFx sd) l D T yX1_checkFront cX1_checkFront 9 none rm_X1_checkFront [.ref a0, .int x1, .ref a2] (wc_X1_checkFront T sd a0 a0_kinds a0_starts a0_values a2 a2_names a2_warm a2_force a2_from a2_hours b_a0 b_a2) (vf_X1_checkFront sd) (wf_X1_checkFront T sd a0 a0_kinds a0_starts a0_values a2 a2_names a2_warm a2_force a2_from a2_hours b_a0 b_a2) res 0 0 := by
  refine sx_start (SFx_ok sd) (by decide +kernel) (Nat.le_of_ble_eq_true rfl) (fun p e s m args below meth c A X hnm => ?_)
  have hf := ob_1 hf
  have R63 : ∀ (v1 : Int32) (v3 : Int64) (w_a0_error : Int32) (w_a0_errorToken : Int32) (w_a2_names : Nat → Int64) (w_a2_warm : Nat → Int32) (w_a2_force : Nat → Int32) (w_a2_from : Nat → Int32) (w_a2_hours : Nat → Int32) (w_a2_count : Int32) (t0 : Int32), (f_X1_checkFront_R63 n x1 b_a0 b_a2 v1 v3 w_a0_error w_a0_errorToken w_a2_names w_a2_warm w_a2_force w_a2_from w_a2_hours w_a2_count t0).bind some = some res → SxG p l e rm_X1_checkFront s m args below meth c D A 9 0 0 (SxE below args s D A (vf_X1_checkFront sd) (wf_X1_checkFront T sd a0 a0_kinds a0_starts a0_values a2 a2_names a2_warm a2_force a2_from a2_hours b_a0 b_a2) res 0 0) [zO a0 7 [.ref a0_kinds, .ref a0_starts, .ref a0_values, .int (X11_count b_a0), .int (X11_cursor b_a0), .int w_a0_error, .int w_a0_errorToken], zK T sd.1 a0_kinds 401 (X11_kinds b_a0), zI T a0_starts 401 (X11_starts b_a0), zJ T a0_values 401 (X11_values b_a0), zO a2 0 [.ref a2_names, .ref a2_warm, .ref a2_force, .ref a2_from, .ref a2_hours, .int w_a2_count], zJ T a2_names 10 w_a2_names, zZ T a2_warm 10 w_a2_warm, zI T a2_force 10 w_a2_force, zI T a2_from 10 w_a2_from, zI T a2_hours 10 w_a2_hours] [(0, .ref a0), (1, .int v1), (2, .ref a2), (3, .long v3)] 63 [.int t0] := by
    intro v1 v3 w_a0_error w_a0_errorToken w_a2_names w_a2_warm w_a2_force w_a2_from w_a2_hours w_a2_count t0 hf
    refine sx_istore X (lv' := [(5, .int t0), (0, .ref a0), (1, .int v1), (2, .ref a2), (3, .long v3)]) dX1_checkFront_63 (by decide) rfl ?_
    refine sx_aload_n X 1 rfl dX1_checkFront_65 rfl ?_
    refine sx_iload_n X 2 rfl dX1_checkFront_66 rfl ?_
    refine sx_iconst X (v := 4) dX1_checkFront_67 rfl ?_
    refine sx_iadd X dX1_checkFront_68 ?_
    refine sx_iconst X (v := 1) dX1_checkFront_69 rfl ?_
    refine sx_bipush X (v := 9) dX1_checkFront_70 rfl ?_
    obtain ⟨u10, hu10, hf⟩ := ob_c hf
    refine sx_cS X (c_X1_numberIn (l := l) (D := D) (T := T) (sd := sd) a0 a0_kinds a0_starts a0_values (v1 + 4) 1 9 ((X11_kinds b_a0), (X11_starts b_a0), (X11_values b_a0), (X11_count b_a0), (X11_cursor b_a0), w_a0_error, w_a0_errorToken) hu10) (st' := [.int u10.1]) qm_668 qm_669 qm_92 qm_670 hd_X1_numberIn ⟨rfl, rfl⟩ ⟨Nat.le_of_ble_eq_true rfl, Nat.le_of_ble_eq_true rfl⟩ rfl rfl (Nat.le_of_ble_eq_true rfl) [0, 1, 2, 3] rfl rfl (ws' := [zO a0 7 [.ref a0_kinds, .ref a0_starts, .ref a0_values, .int (X11_count b_a0), .int (X11_cursor b_a0), .int u10.2.1, .int u10.2.2], zK T sd.1 a0_kinds 401 (X11_kinds b_a0), zI T a0_starts 401 (X11_starts b_a0), zJ T a0_values 401 (X11_values b_a0), zO a2 0 [.ref a2_names, .ref a2_warm, .ref a2_force, .ref a2_from, .ref a2_hours, .int w_a2_count], zJ T a2_names 10 w_a2_names, zZ T a2_warm 10 w_a2_warm, zI T a2_force 10 w_a2_force, zI T a2_from 10 w_a2_from, zI T a2_hours 10 w_a2_hours]) rfl rfl ⟨Nat.le_of_ble_eq_true rfl, Nat.le_of_ble_eq_true rfl⟩ dX1_checkFront_72 rfl ?_
    refine sx_istore X (lv' := [(6, .int u10.1), (5, .int t0), (0, .ref a0), (1, .int v1), (2, .ref a2), (3, .long v3)]) dX1_checkFront_75 (by decide) rfl ?_
    refine sx_aload_n X 2 rfl dX1_checkFront_77 rfl ?_
    refine sx_iload_n X 3 rfl dX1_checkFront_78 rfl ?_
    refine sx_bipush X (v := 6) dX1_checkFront_79 rfl ?_
    refine sx_iadd X dX1_checkFront_81 ?_
    refine sx_iconst X (v := 0) dX1_checkFront_82 rfl ?_
    refine sx_bipush X (v := 60) dX1_checkFront_83 rfl ?_
    obtain ⟨u11, hu11, hf⟩ := ob_c hf
    refine sx_cS X (c_X1_numberIn (l := l) (D := D) (T := T) (sd := sd) a0 a0_kinds a0_starts a0_values (v1 + 6) 0 60 ((X11_kinds b_a0), (X11_starts b_a0), (X11_values b_a0), (X11_count b_a0), (X11_cursor b_a0), u10.2.1, u10.2.2) hu11) (st' := [.int u11.1]) qm_668 qm_669 qm_92 qm_670 hd_X1_numberIn ⟨rfl, rfl⟩ ⟨Nat.le_of_ble_eq_true rfl, Nat.le_of_ble_eq_true rfl⟩ rfl rfl (Nat.le_of_ble_eq_true rfl) [0, 1, 2, 3] rfl rfl (ws' := [zO a0 7 [.ref a0_kinds, .ref a0_starts, .ref a0_values, .int (X11_count b_a0), .int (X11_cursor b_a0), .int u11.2.1, .int u11.2.2], zK T sd.1 a0_kinds 401 (X11_kinds b_a0), zI T a0_starts 401 (X11_starts b_a0), zJ T a0_values 401 (X11_values b_a0), zO a2 0 [.ref a2_names, .ref a2_warm, .ref a2_force, .ref a2_from, .ref a2_hours, .int w_a2_count], zJ T a2_names 10 w_a2_names, zZ T a2_warm 10 w_a2_warm, zI T a2_force 10 w_a2_force, zI T a2_from 10 w_a2_from, zI T a2_hours 10 w_a2_hours]) rfl rfl ⟨Nat.le_of_ble_eq_true rfl, Nat.le_of_ble_eq_true rfl⟩ dX1_checkFront_85 rfl ?_
    refine sx_istore X (lv' := [(7, .int u11.1), (6, .int u10.1), (5, .int t0), (0, .ref a0), (1, .int v1), (2, .ref a2), (3, .long v3)]) dX1_checkFront_88 (by decide) rfl ?_
    refine sx_aload_n X 3 rfl dX1_checkFront_90 rfl ?_
    refine sx_iload_n X 4 rfl dX1_checkFront_91 rfl ?_
    refine sx_bipush X (v := 8) dX1_checkFront_92 rfl ?_
    refine sx_iadd X dX1_checkFront_94 ?_
    refine sx_iconst X (v := 1) dX1_checkFront_95 rfl ?_
    refine sx_bipush X (v := 12) dX1_checkFront_96 rfl ?_
    obtain ⟨u12, hu12, hf⟩ := ob_c hf
    refine sx_cS X (c_X1_numberIn (l := l) (D := D) (T := T) (sd := sd) a0 a0_kinds a0_starts a0_values (v1 + 8) 1 12 ((X11_kinds b_a0), (X11_starts b_a0), (X11_values b_a0), (X11_count b_a0), (X11_cursor b_a0), u11.2.1, u11.2.2) hu12) (st' := [.int u12.1]) qm_668 qm_669 qm_92 qm_670 hd_X1_numberIn ⟨rfl, rfl⟩ ⟨Nat.le_of_ble_eq_true rfl, Nat.le_of_ble_eq_true rfl⟩ rfl rfl (Nat.le_of_ble_eq_true rfl) [0, 1, 2, 3] rfl rfl (ws' := [zO a0 7 [.ref a0_kinds, .ref a0_starts, .ref a0_values, .int (X11_count b_a0), .int (X11_cursor b_a0), .int u12.2.1, .int u12.2.2], zK T sd.1 a0_kinds 401 (X11_kinds b_a0), zI T a0_starts 401 (X11_starts b_a0), zJ T a0_values 401 (X11_values b_a0), zO a2 0 [.ref a2_names, .ref a2_warm, .ref a2_force, .ref a2_from, .ref a2_hours, .int w_a2_count], zJ T a2_names 10 w_a2_names, zZ T a2_warm 10 w_a2_warm, zI T a2_force 10 w_a2_force, zI T a2_from 10 w_a2_from, zI T a2_hours 10 w_a2_hours]) rfl rfl ⟨Nat.le_of_ble_eq_true rfl, Nat.le_of_ble_eq_true rfl⟩ dX1_checkFront_98 rfl ?_
    refine sx_istore X (lv' := [(8, .int u12.1), (7, .int u11.1), (6, .int u10.1), (5, .int t0), (0, .ref a0), (1, .int v1), (2, .ref a2), (3, .long v3)]) dX1_checkFront_101 (by decide) rfl ?_
    refine sx_aload_n X 6 rfl dX1_checkFront_103 rfl ?_
    refine sx_lload_n X 7 rfl dX1_checkFront_104 rfl ?_
    refine sx_iload X 3 rfl dX1_checkFront_105 ?_
    refine sx_iload X 2 rfl dX1_checkFront_107 ?_
    refine sx_iload X 1 rfl dX1_checkFront_109 ?_
    refine sx_iload X 0 rfl dX1_checkFront_111 ?_
    obtain ⟨u13, hu13, hf⟩ := ob_c hf
    refine sx_cV X (c_X2_add (l := l) (D := D) (T := T) (sd := sd) a2 a2_names a2_warm a2_force a2_from a2_hours v3 t0 u10.1 u11.1 u12.1 (w_a2_names, w_a2_warm, w_a2_force, w_a2_from, w_a2_hours, w_a2_count) hu13) (st' := []) (q0 := 4) qm_671 qm_672 qm_673 qm_76 qm_674 hd_X2_add ⟨rfl, rfl⟩ ⟨Nat.le_of_ble_eq_true rfl, Nat.le_of_ble_eq_true rfl⟩ rfl rfl (Nat.le_of_ble_eq_true rfl) rfl rfl rfl [4, 5, 6, 7, 8, 9] rfl rfl (ws' := [zO a0 7 [.ref a0_kinds, .ref a0_starts, .ref a0_values, .int (X11_count b_a0), .int (X11_cursor b_a0), .int u12.2.1, .int u12.2.2], zK T sd.1 a0_kinds 401 (X11_kinds b_a0), zI T a0_starts 401 (X11_starts b_a0), zJ T a0_values 401 (X11_values b_a0), zO a2 0 [.ref a2_names, .ref a2_warm, .ref a2_force, .ref a2_from, .ref a2_hours, .int u13.2.2.2.2.2], zJ T a2_names 10 u13.1, zZ T a2_warm 10 u13.2.1, zI T a2_force 10 u13.2.2.1, zI T a2_from 10 u13.2.2.2.1, zI T a2_hours 10 u13.2.2.2.2.1]) rfl rfl ⟨Nat.le_of_ble_eq_true rfl, Nat.le_of_ble_eq_true rfl⟩ dX1_checkFront_113 rfl ?_
    exact sx_vret X dX1_checkFront_116 (ob_e hf) rfl rfl
  have R40 : ∀ (v1 : Int32) (v3 : Int64) (w_a0_error : Int32) (w_a0_errorToken : Int32) (w_a2_names : Nat → Int64) (w_a2_warm : Nat → Int32) (w_a2_force : Nat → Int32) (w_a2_from : Nat → Int32) (w_a2_hours : Nat → Int32) (w_a2_count : Int32) (t0 : Int32), (f_X1_checkFront_R40 n x1 b_a0 b_a2 v1 v3 w_a0_error w_a0_errorToken w_a2_names w_a2_warm w_a2_force w_a2_from w_a2_hours w_a2_count t0).bind some = some res → SxG p l e rm_X1_checkFront s m args below meth c D A 9 0 0 (SxE below args s D A (vf_X1_checkFront sd) (wf_X1_checkFront T sd a0 a0_kinds a0_starts a0_values a2 a2_names a2_warm a2_force a2_from a2_hours b_a0 b_a2) res 0 0) [zO a0 7 [.ref a0_kinds, .ref a0_starts, .ref a0_values, .int (X11_count b_a0), .int (X11_cursor b_a0), .int w_a0_error, .int w_a0_errorToken], zK T sd.1 a0_kinds 401 (X11_kinds b_a0), zI T a0_starts 401 (X11_starts b_a0), zJ T a0_values 401 (X11_values b_a0), zO a2 0 [.ref a2_names, .ref a2_warm, .ref a2_force, .ref a2_from, .ref a2_hours, .int w_a2_count], zJ T a2_names 10 w_a2_names, zZ T a2_warm 10 w_a2_warm, zI T a2_force 10 w_a2_force, zI T a2_from 10 w_a2_from, zI T a2_hours 10 w_a2_hours] [(0, .ref a0), (1, .int v1), (2, .ref a2), (3, .long v3)] 40 [.int t0, .ref a0] := by
    intro v1 v3 w_a0_error w_a0_errorToken w_a2_names w_a2_warm w_a2_force w_a2_from w_a2_hours w_a2_count t0 hf
    refine sx_iconst X (v := 4) dX1_checkFront_40 rfl ?_
    refine sx_iload_n X 1 rfl dX1_checkFront_41 rfl ?_
    obtain ⟨u6, hu6, hf⟩ := ob_c hf
    refine sx_cV X (c_X11_failUnless (l := l) (D := D) (T := T) (sd := sd) a0 a0_kinds a0_starts a0_values t0 4 v1 ((X11_kinds b_a0), (X11_starts b_a0), (X11_values b_a0), (X11_count b_a0), (X11_cursor b_a0), w_a0_error, w_a0_errorToken) hu6) (st' := []) (q0 := 0) qm_650 qm_629 qm_630 qm_70 qm_631 hd_X11_failUnless ⟨rfl, rfl⟩ ⟨Nat.le_of_ble_eq_true rfl, Nat.le_of_ble_eq_true rfl⟩ rfl rfl (Nat.le_of_ble_eq_true rfl) rfl rfl rfl [0, 1, 2, 3] rfl rfl (ws' := [zO a0 7 [.ref a0_kinds, .ref a0_starts, .ref a0_values, .int (X11_count b_a0), .int (X11_cursor b_a0), .int u6.1, .int u6.2], zK T sd.1 a0_kinds 401 (X11_kinds b_a0), zI T a0_starts 401 (X11_starts b_a0), zJ T a0_values 401 (X11_values b_a0), zO a2 0 [.ref a2_names, .ref a2_warm, .ref a2_force, .ref a2_from, .ref a2_hours, .int w_a2_count], zJ T a2_names 10 w_a2_names, zZ T a2_warm 10 w_a2_warm, zI T a2_force 10 w_a2_force, zI T a2_from 10 w_a2_from, zI T a2_hours 10 w_a2_hours]) rfl rfl ⟨Nat.le_of_ble_eq_true rfl, Nat.le_of_ble_eq_true rfl⟩ dX1_checkFront_42 rfl ?_
    refine sx_aload_n X 0 rfl dX1_checkFront_45 rfl ?_
    refine sx_iload_n X 1 rfl dX1_checkFront_46 rfl ?_
    refine sx_iconst X (v := 2) dX1_checkFront_47 rfl ?_
    refine sx_iadd X dX1_checkFront_48 ?_
    obtain ⟨u7, hu7, hf⟩ := ob_c hf
    refine sx_cVr X (c_X11_kindAt (l := l) (D := D) (T := T) (sd := sd) a0 a0_kinds a0_starts a0_values (v1 + 2) ((X11_kinds b_a0), (X11_starts b_a0), (X11_values b_a0), (X11_count b_a0), (X11_cursor b_a0), u6.1, u6.2) hu7) (st' := [.ref (sd.1 u7)]) (q0 := 0) qm_635 qm_636 qm_637 qm_70 qm_638 hd_X11_kindAt ⟨rfl, rfl⟩ ⟨Nat.le_of_ble_eq_true rfl, Nat.le_of_ble_eq_true rfl⟩ rfl rfl (Nat.le_of_ble_eq_true rfl) rfl rfl rfl [0, 1, 2, 3] rfl rfl rfl ⟨Nat.le_of_ble_eq_true rfl, Nat.le_of_ble_eq_true rfl⟩ dX1_checkFront_49 rfl ?_
    refine sx_kst X 2 (by decide) qm_667 dX1_checkFront_52 ?_
    obtain ⟨g9, hf⟩ := ob_h hf
    refine sx_kne X 62 g9 (by decide) dX1_checkFront_55 rfl (fun c8 => ?_) (fun c8 => ?_)
    · have hf := ob_f hf c8
      refine sx_iconst X (v := 0) dX1_checkFront_62 rfl ?_
      exact R63 v1 v3 u6.1 u6.2 w_a2_names w_a2_warm w_a2_force w_a2_from w_a2_hours w_a2_count 0 hf
    · have hf := ob_t hf c8
      refine sx_iconst X (v := 1) dX1_checkFront_58 rfl ?_
      refine sx_goto X 63 dX1_checkFront_59 rfl ?_
      exact R63 v1 v3 u6.1 u6.2 w_a2_names w_a2_warm w_a2_force w_a2_from w_a2_hours w_a2_count 1 hf
  have R20 : ∀ (v1 : Int32) (v3 : Int64) (w_a0_error : Int32) (w_a0_errorToken : Int32) (w_a2_names : Nat → Int64) (w_a2_warm : Nat → Int32) (w_a2_force : Nat → Int32) (w_a2_from : Nat → Int32) (w_a2_hours : Nat → Int32) (w_a2_count : Int32) (t0 : Int32), (f_X1_checkFront_R20 n x1 b_a0 b_a2 v1 v3 w_a0_error w_a0_errorToken w_a2_names w_a2_warm w_a2_force w_a2_from w_a2_hours w_a2_count t0).bind some = some res → SxG p l e rm_X1_checkFront s m args below meth c D A 9 0 0 (SxE below args s D A (vf_X1_checkFront sd) (wf_X1_checkFront T sd a0 a0_kinds a0_starts a0_values a2 a2_names a2_warm a2_force a2_from a2_hours b_a0 b_a2) res 0 0) [zO a0 7 [.ref a0_kinds, .ref a0_starts, .ref a0_values, .int (X11_count b_a0), .int (X11_cursor b_a0), .int w_a0_error, .int w_a0_errorToken], zK T sd.1 a0_kinds 401 (X11_kinds b_a0), zI T a0_starts 401 (X11_starts b_a0), zJ T a0_values 401 (X11_values b_a0), zO a2 0 [.ref a2_names, .ref a2_warm, .ref a2_force, .ref a2_from, .ref a2_hours, .int w_a2_count], zJ T a2_names 10 w_a2_names, zZ T a2_warm 10 w_a2_warm, zI T a2_force 10 w_a2_force, zI T a2_from 10 w_a2_from, zI T a2_hours 10 w_a2_hours] [(0, .ref a0), (1, .int v1), (2, .ref a2), (3, .long v3)] 20 [.int t0, .ref a0] := by
    intro v1 v3 w_a0_error w_a0_errorToken w_a2_names w_a2_warm w_a2_force w_a2_from w_a2_hours w_a2_count t0 hf
    refine sx_iconst X (v := 2) dX1_checkFront_20 rfl ?_
    refine sx_iload_n X 1 rfl dX1_checkFront_21 rfl ?_
    obtain ⟨u4, hu4, hf⟩ := ob_c hf
    refine sx_cV X (c_X11_failUnless (l := l) (D := D) (T := T) (sd := sd) a0 a0_kinds a0_starts a0_values t0 2 v1 ((X11_kinds b_a0), (X11_starts b_a0), (X11_values b_a0), (X11_count b_a0), (X11_cursor b_a0), w_a0_error, w_a0_errorToken) hu4) (st' := []) (q0 := 0) qm_650 qm_629 qm_630 qm_70 qm_631 hd_X11_failUnless ⟨rfl, rfl⟩ ⟨Nat.le_of_ble_eq_true rfl, Nat.le_of_ble_eq_true rfl⟩ rfl rfl (Nat.le_of_ble_eq_true rfl) rfl rfl rfl [0, 1, 2, 3] rfl rfl (ws' := [zO a0 7 [.ref a0_kinds, .ref a0_starts, .ref a0_values, .int (X11_count b_a0), .int (X11_cursor b_a0), .int u4.1, .int u4.2], zK T sd.1 a0_kinds 401 (X11_kinds b_a0), zI T a0_starts 401 (X11_starts b_a0), zJ T a0_values 401 (X11_values b_a0), zO a2 0 [.ref a2_names, .ref a2_warm, .ref a2_force, .ref a2_from, .ref a2_hours, .int w_a2_count], zJ T a2_names 10 w_a2_names, zZ T a2_warm 10 w_a2_warm, zI T a2_force 10 w_a2_force, zI T a2_from 10 w_a2_from, zI T a2_hours 10 w_a2_hours]) rfl rfl ⟨Nat.le_of_ble_eq_true rfl, Nat.le_of_ble_eq_true rfl⟩ dX1_checkFront_22 rfl ?_
    refine sx_aload_n X 0 rfl dX1_checkFront_25 rfl ?_
    refine sx_aload_n X 2 rfl dX1_checkFront_26 rfl ?_
    refine sx_get X kX2 4 rfl 5 (Nat.le_of_ble_eq_true rfl) qm_205 rfl dX1_checkFront_27 ?_
    refine sx_bipush X (v := 10) dX1_checkFront_30 rfl ?_
    refine sx_icmp_ge X 39 dX1_checkFront_32 rfl (fun c5 => ?_) (fun c5 => ?_)
    · have hf := ob_t hf c5
      refine sx_iconst X (v := 0) dX1_checkFront_39 rfl ?_
      exact R40 v1 v3 u4.1 u4.2 w_a2_names w_a2_warm w_a2_force w_a2_from w_a2_hours w_a2_count 0 hf
    · have hf := ob_f hf c5
      refine sx_iconst X (v := 1) dX1_checkFront_35 rfl ?_
      refine sx_goto X 40 dX1_checkFront_36 rfl ?_
      exact R40 v1 v3 u4.1 u4.2 w_a2_names w_a2_warm w_a2_force w_a2_from w_a2_hours w_a2_count 1 hf
  refine sx_aload_n X 0 rfl dX1_checkFront_0 rfl ?_
  refine sx_iload_n X 1 rfl dX1_checkFront_1 rfl ?_
  obtain ⟨u1, hu1, hf⟩ := ob_c hf
  refine sx_cVr X (c_X11_valueAt (l := l) (D := D) (T := T) (sd := sd) a0 a0_kinds a0_starts a0_values x1 b_a0 hu1) (st' := [.long u1]) (q0 := 0) qm_659 qm_660 qm_661 qm_70 qm_662 hd_X11_valueAt ⟨rfl, rfl⟩ ⟨Nat.le_of_ble_eq_true rfl, Nat.le_of_ble_eq_true rfl⟩ rfl rfl (Nat.le_of_ble_eq_true rfl) rfl rfl rfl [0, 1, 2, 3] rfl rfl rfl ⟨Nat.le_of_ble_eq_true rfl, Nat.le_of_ble_eq_true rfl⟩ dX1_checkFront_2 rfl ?_
  refine sx_lstore_n X (lv' := [(3, .long u1), (0, .ref a0), (1, .int x1), (2, .ref a2)]) dX1_checkFront_5 rfl (by decide) rfl ?_
  refine sx_aload_n X 1 rfl dX1_checkFront_6 rfl ?_
  refine sx_aload_n X 3 rfl dX1_checkFront_7 rfl ?_
  refine sx_lload_n X 0 rfl dX1_checkFront_8 rfl ?_
  obtain ⟨u2, hu2, hf⟩ := ob_c hf
  refine sx_cVr X (c_X2_find (l := l) (D := D) (T := T) (sd := sd) a2 a2_names a2_warm a2_force a2_from a2_hours n u1 b_a2 hu2) (st' := [.int u2, .ref a0]) (q0 := 4) qm_663 qm_664 qm_665 qm_76 qm_666 hd_X2_find ⟨rfl, rfl⟩ ⟨Nat.le_of_ble_eq_true rfl, Nat.le_of_ble_eq_true rfl⟩ rfl rfl (Nat.le_of_ble_eq_true rfl) rfl rfl rfl [4, 5, 6, 7, 8, 9] rfl rfl rfl ⟨Nat.le_of_ble_eq_true rfl, Nat.le_of_ble_eq_true rfl⟩ dX1_checkFront_9 rfl ?_
  refine sx_if_ge X 19 dX1_checkFront_12 rfl (fun c3 => ?_) (fun c3 => ?_)
  · have hf := ob_t hf c3
    refine sx_iconst X (v := 0) dX1_checkFront_19 rfl ?_
    refine sx_lsub [1, 2, 3, 0] rfl ?_
    exact R20 x1 u1 (X11_error b_a0) (X11_errorToken b_a0) (X2_names b_a2) (X2_warm b_a2) (X2_force b_a2) (X2_from b_a2) (X2_hours b_a2) (X2_count b_a2) 0 hf
  · have hf := ob_f hf c3
    refine sx_iconst X (v := 1) dX1_checkFront_15 rfl ?_
    refine sx_goto X 20 dX1_checkFront_16 rfl ?_
    refine sx_lsub [1, 2, 3, 0] rfl ?_
    exact R20 x1 u1 (X11_error b_a0) (X11_errorToken b_a0) (X2_names b_a2) (X2_warm b_a2) (X2_force b_a2) (X2_from b_a2) (X2_hours b_a2) (X2_count b_a2) 1 hf
