/-! contracts, part 0 -/
abbrev vf_X1_beginsOrder (r : Int32) : Option Value := some (.int r)
abbrev wc_X1_beginsOrder (T : Nat → ClassId) (sd : SdT)  : va_W := []
abbrev wf_X1_beginsOrder (T : Nat → ClassId) (sd : SdT)  (r : Int32) : va_W := []
abbrev rm_X1_beginsOrder : Room := { frames := 0, cells := 0, slots := 0, locals := 0 }
theorem hd_X1_beginsOrder : yX1_beginsOrder.cls ≠ "java/lang/invoke/MethodHandle" ∧ yX1_beginsOrder.cls ≠ "java/lang/invoke/VarHandle" ∧ (parseMethodDescriptor yX1_beginsOrder.desc).map (fun d => d.parameters.length) = some 1 := ⟨by decide, by decide, by decide +kernel⟩
set_option maxHeartbeats 4000000 in
set_option maxRecDepth 100000 in
theorem c_X1_beginsOrder {l : Launch} {D : va_G} {T : Nat → ClassId} {sd : SdT}  (x0 : Nat) {res : Int32} (hf : f_X1_beginsOrder x0 = some res) : SxK (SFx sd) l D T yX1_beginsOrder cX1_beginsOrder 1 (some .boolean) rm_X1_beginsOrder [.ref (sd.1 x0)] (wc_X1_beginsOrder T sd ) vf_X1_beginsOrder (wf_X1_beginsOrder T sd ) res 0 0 := by
  refine sx_start (SFx_ok sd) (by decide +kernel) (Nat.le_of_ble_eq_true rfl) (fun p e s m args below meth c A X hnm => ?_)
  have hf := ob_1 hf
  refine sx_aload_n X 0 rfl dX1_beginsOrder_0 rfl ?_
  refine sx_kst X 11 (by decide) qm_646 dX1_beginsOrder_1 ?_
  obtain ⟨g2, hf⟩ := ob_h hf
  refine sx_keq X 28 g2 (by decide) dX1_beginsOrder_4 rfl (fun c1 => ?_) (fun c1 => ?_)
  · have hf := ob_t hf c1
    refine sx_iconst X (v := 1) dX1_beginsOrder_28 rfl ?_
    refine sx_goto X 33 dX1_beginsOrder_29 rfl ?_
    exact sx_iret X rfl dX1_beginsOrder_33 (ob_e hf) rfl rfl
  · have hf := ob_f hf c1
    refine sx_aload_n X 0 rfl dX1_beginsOrder_7 rfl ?_
    refine sx_kst X 14 (by decide) qm_647 dX1_beginsOrder_8 ?_
    obtain ⟨g4, hf⟩ := ob_h hf
    refine sx_keq X 28 g4 (by decide) dX1_beginsOrder_11 rfl (fun c3 => ?_) (fun c3 => ?_)
    · have hf := ob_t hf c3
      refine sx_iconst X (v := 1) dX1_beginsOrder_28 rfl ?_
      refine sx_goto X 33 dX1_beginsOrder_29 rfl ?_
      exact sx_iret X rfl dX1_beginsOrder_33 (ob_e hf) rfl rfl
    · have hf := ob_f hf c3
      refine sx_aload_n X 0 rfl dX1_beginsOrder_14 rfl ?_
      refine sx_kst X 12 (by decide) qm_648 dX1_beginsOrder_15 ?_
      obtain ⟨g6, hf⟩ := ob_h hf
      refine sx_keq X 28 g6 (by decide) dX1_beginsOrder_18 rfl (fun c5 => ?_) (fun c5 => ?_)
      · have hf := ob_t hf c5
        refine sx_iconst X (v := 1) dX1_beginsOrder_28 rfl ?_
        refine sx_goto X 33 dX1_beginsOrder_29 rfl ?_
        exact sx_iret X rfl dX1_beginsOrder_33 (ob_e hf) rfl rfl
      · have hf := ob_f hf c5
        refine sx_aload_n X 0 rfl dX1_beginsOrder_21 rfl ?_
        refine sx_kst X 13 (by decide) qm_649 dX1_beginsOrder_22 ?_
        obtain ⟨g8, hf⟩ := ob_h hf
        refine sx_kne X 32 g8 (by decide) dX1_beginsOrder_25 rfl (fun c7 => ?_) (fun c7 => ?_)
        · have hf := ob_f hf c7
          refine sx_iconst X (v := 0) dX1_beginsOrder_32 rfl ?_
          exact sx_iret X rfl dX1_beginsOrder_33 (ob_e hf) rfl rfl
        · have hf := ob_t hf c7
          refine sx_iconst X (v := 1) dX1_beginsOrder_28 rfl ?_
          refine sx_goto X 33 dX1_beginsOrder_29 rfl ?_
          exact sx_iret X rfl dX1_beginsOrder_33 (ob_e hf) rfl rfl

abbrev vf_X11_has (r : Int32) : Option Value := some (.int r)
abbrev wc_X11_has (T : Nat → ClassId) (sd : SdT) (h : Nat) (h_kinds : Nat) (h_starts : Nat) (h_values : Nat) (b_h : bX11) : va_W := [zO h 7 [.ref h_kinds, .ref h_starts, .ref h_values, .int (X11_count b_h), .int (X11_cursor b_h), .int (X11_error b_h), .int (X11_errorToken b_h)], zK T sd.1 h_kinds 401 (X11_kinds b_h), zI T h_starts 401 (X11_starts b_h), zJ T h_values 401 (X11_values b_h)]
abbrev wf_X11_has (T : Nat → ClassId) (sd : SdT) (h : Nat) (h_kinds : Nat) (h_starts : Nat) (h_values : Nat) (b_h : bX11) (r : Int32) : va_W := [zO h 7 [.ref h_kinds, .ref h_starts, .ref h_values, .int (X11_count b_h), .int (X11_cursor b_h), .int (X11_error b_h), .int (X11_errorToken b_h)], zK T sd.1 h_kinds 401 (X11_kinds b_h), zI T h_starts 401 (X11_starts b_h), zJ T h_values 401 (X11_values b_h)]
abbrev rm_X11_has : Room := { frames := 0, cells := 0, slots := 0, locals := 0 }
theorem hd_X11_has : yX11_has.cls ≠ "java/lang/invoke/MethodHandle" ∧ yX11_has.cls ≠ "java/lang/invoke/VarHandle" ∧ (parseMethodDescriptor yX11_has.desc).map (fun d => d.parameters.length) = some 1 := ⟨by decide, by decide, by decide +kernel⟩
set_option maxHeartbeats 4000000 in
set_option maxRecDepth 100000 in
theorem c_X11_has {l : Launch} {D : va_G} {T : Nat → ClassId} {sd : SdT} (h : Nat) (h_kinds : Nat) (h_starts : Nat) (h_values : Nat) (x0 : Int32) (b_h : bX11) {res : Int32} (hf : f_X11_has x0 b_h = some res) : SxK (SFx sd) l D T yX11_has cX11_has 2 (some .boolean) rm_X11_has [.ref h, .int x0] (wc_X11_has T sd h h_kinds h_starts h_values b_h) vf_X11_has (wf_X11_has T sd h h_kinds h_starts h_values b_h) res 0 0 := by
  refine sx_start (SFx_ok sd) (by decide +kernel) (Nat.le_of_ble_eq_true rfl) (fun p e s m args below meth c A X hnm => ?_)
  have hf := ob_1 hf
  refine sx_iload_n X 1 rfl dX11_has_0 rfl ?_
  refine sx_if_lt X 23 dX11_has_1 rfl (fun c1 => ?_) (fun c1 => ?_)
  · have hf := ob_t hf c1
    refine sx_iconst X (v := 0) dX11_has_23 rfl ?_
    exact sx_iret X rfl dX11_has_24 (ob_e hf) rfl rfl
  · have hf := ob_f hf c1
    refine sx_iload_n X 1 rfl dX11_has_4 rfl ?_
    refine sx_aload_n X 0 rfl dX11_has_5 rfl ?_
    refine sx_get X kX11 0 rfl 3 (Nat.le_of_ble_eq_true rfl) qm_134 rfl dX11_has_6 ?_
    refine sx_icmp_ge X 23 dX11_has_9 rfl (fun c2 => ?_) (fun c2 => ?_)
    · have hf := ob_t hf c2
      refine sx_iconst X (v := 0) dX11_has_23 rfl ?_
      exact sx_iret X rfl dX11_has_24 (ob_e hf) rfl rfl
    · have hf := ob_f hf c2
      refine sx_iload_n X 1 rfl dX11_has_12 rfl ?_
      refine sx_sipush X (v := 400) dX11_has_13 rfl ?_
      refine sx_icmp_gt X 23 dX11_has_16 rfl (fun c3 => ?_) (fun c3 => ?_)
      · have hf := ob_t hf c3
        refine sx_iconst X (v := 0) dX11_has_23 rfl ?_
        exact sx_iret X rfl dX11_has_24 (ob_e hf) rfl rfl
      · have hf := ob_f hf c3
        refine sx_iconst X (v := 1) dX11_has_19 rfl ?_
        refine sx_goto X 24 dX11_has_20 rfl ?_
        exact sx_iret X rfl dX11_has_24 (ob_e hf) rfl rfl

abbrev vf_X11_kindAt (r : Nat) : Option Value := some (.ref (sd.1 r))
abbrev wc_X11_kindAt (T : Nat → ClassId) (sd : SdT) (h : Nat) (h_kinds : Nat) (h_starts : Nat) (h_values : Nat) (b_h : bX11) : va_W := [zO h 7 [.ref h_kinds, .ref h_starts, .ref h_values, .int (X11_count b_h), .int (X11_cursor b_h), .int (X11_error b_h), .int (X11_errorToken b_h)], zK T sd.1 h_kinds 401 (X11_kinds b_h), zI T h_starts 401 (X11_starts b_h), zJ T h_values 401 (X11_values b_h)]
abbrev wf_X11_kindAt (T : Nat → ClassId) (sd : SdT) (h : Nat) (h_kinds : Nat) (h_starts : Nat) (h_values : Nat) (b_h : bX11) (r : Nat) : va_W := [zO h 7 [.ref h_kinds, .ref h_starts, .ref h_values, .int (X11_count b_h), .int (X11_cursor b_h), .int (X11_error b_h), .int (X11_errorToken b_h)], zK T sd.1 h_kinds 401 (X11_kinds b_h), zI T h_starts 401 (X11_starts b_h), zJ T h_values 401 (X11_values b_h)]
abbrev rm_X11_kindAt : Room := { frames := 1, cells := 0, slots := 0, locals := 21 }
theorem hd_X11_kindAt : yX11_kindAt.cls ≠ "java/lang/invoke/MethodHandle" ∧ yX11_kindAt.cls ≠ "java/lang/invoke/VarHandle" ∧ (parseMethodDescriptor yX11_kindAt.desc).map (fun d => d.parameters.length) = some 1 := ⟨by decide, by decide, by decide +kernel⟩
set_option maxHeartbeats 4000000 in
set_option maxRecDepth 100000 in
theorem c_X11_kindAt {l : Launch} {D : va_G} {T : Nat → ClassId} {sd : SdT} (h : Nat) (h_kinds : Nat) (h_starts : Nat) (h_values : Nat) (x0 : Int32) (b_h : bX11) {res : Nat} (hf : f_X11_kindAt x0 b_h = some res) : SxK (SFx sd) l D T yX11_kindAt cX11_kindAt 2 (some (.object "WeatherTea$Kind")) rm_X11_kindAt [.ref h, .int x0] (wc_X11_kindAt T sd h h_kinds h_starts h_values b_h) vf_X11_kindAt (wf_X11_kindAt T sd h h_kinds h_starts h_values b_h) res 0 0 := by
  refine sx_start (SFx_ok sd) (by decide +kernel) (Nat.le_of_ble_eq_true rfl) (fun p e s m args below meth c A X hnm => ?_)
  have hf := ob_1 hf
  refine sx_aload_n X 0 rfl dX11_kindAt_0 rfl ?_
  refine sx_iload_n X 1 rfl dX11_kindAt_1 rfl ?_
  obtain ⟨u1, hu1, hf⟩ := ob_c hf
  refine sx_cVr X (c_X11_has (l := l) (D := D) (T := T) (sd := sd) h h_kinds h_starts h_values x0 b_h hu1) (st' := [.int u1]) (q0 := 0) qm_639 qm_640 qm_641 qm_70 qm_642 hd_X11_has ⟨rfl, rfl⟩ ⟨Nat.le_of_ble_eq_true rfl, Nat.le_of_ble_eq_true rfl⟩ rfl rfl (Nat.le_of_ble_eq_true rfl) rfl rfl rfl [0, 1, 2, 3] rfl rfl rfl ⟨Nat.le_of_ble_eq_true rfl, Nat.le_of_ble_eq_true rfl⟩ dX11_kindAt_2 rfl ?_
  refine sx_if_eq X 17 dX11_kindAt_5 rfl (fun c2 => ?_) (fun c2 => ?_)
  · have hf := ob_t hf c2
    refine sx_kst X 49 (by decide) qm_129 dX11_kindAt_17 ?_
    exact sx_aret X dX11_kindAt_20 (ob_e hf) rfl rfl
  · have hf := ob_f hf c2
    refine sx_aload_n X 0 rfl dX11_kindAt_8 rfl ?_
    refine sx_get X kX11 0 rfl 0 (Nat.le_of_ble_eq_true rfl) qm_131 rfl dX11_kindAt_9 ?_
    refine sx_iload_n X 1 rfl dX11_kindAt_12 rfl ?_
    obtain ⟨g3, hf⟩ := ob_g hf
    refine sx_kald X 1 rfl g3 dX11_kindAt_13 ?_
    refine sx_goto X 20 dX11_kindAt_14 rfl ?_
    exact sx_aret X dX11_kindAt_20 (ob_e hf) rfl rfl

abbrev vf_X11_failUnless (_r : Int32 × Int32) : Option Value := none
abbrev wc_X11_failUnless (T : Nat → ClassId) (sd : SdT) (h : Nat) (h_kinds : Nat) (h_starts : Nat) (h_values : Nat) (b_h : bX11) : va_W := [zO h 7 [.ref h_kinds, .ref h_starts, .ref h_values, .int (X11_count b_h), .int (X11_cursor b_h), .int (X11_error b_h), .int (X11_errorToken b_h)], zK T sd.1 h_kinds 401 (X11_kinds b_h), zI T h_starts 401 (X11_starts b_h), zJ T h_values 401 (X11_values b_h)]
abbrev wf_X11_failUnless (T : Nat → ClassId) (sd : SdT) (h : Nat) (h_kinds : Nat) (h_starts : Nat) (h_values : Nat) (b_h : bX11) (r : Int32 × Int32) : va_W := [zO h 7 [.ref h_kinds, .ref h_starts, .ref h_values, .int (X11_count b_h), .int (X11_cursor b_h), .int r.1, .int r.2], zK T sd.1 h_kinds 401 (X11_kinds b_h), zI T h_starts 401 (X11_starts b_h), zJ T h_values 401 (X11_values b_h)]
abbrev rm_X11_failUnless : Room := { frames := 0, cells := 0, slots := 0, locals := 0 }
theorem hd_X11_failUnless : yX11_failUnless.cls ≠ "java/lang/invoke/MethodHandle" ∧ yX11_failUnless.cls ≠ "java/lang/invoke/VarHandle" ∧ (parseMethodDescriptor yX11_failUnless.desc).map (fun d => d.parameters.length) = some 3 := ⟨by decide, by decide, by decide +kernel⟩
set_option maxHeartbeats 4000000 in
set_option maxRecDepth 100000 in
theorem c_X11_failUnless {l : Launch} {D : va_G} {T : Nat → ClassId} {sd : SdT} (h : Nat) (h_kinds : Nat) (h_starts : Nat) (h_values : Nat) (x0 : Int32) (x1 : Int32) (x2 : Int32) (b_h : bX11) {res : Int32 × Int32} (hf : f_X11_failUnless x0 x1 x2 b_h = some res) : SxK (SFx sd) l D T yX11_failUnless cX11_failUnless 4 none rm_X11_failUnless [.ref h, .int x0, .int x1, .int x2] (wc_X11_failUnless T sd h h_kinds h_starts h_values b_h) vf_X11_failUnless (wf_X11_failUnless T sd h h_kinds h_starts h_values b_h) res 0 0 := by
  refine sx_start (SFx_ok sd) (by decide +kernel) (Nat.le_of_ble_eq_true rfl) (fun p e s m args below meth c A X hnm => ?_)
  have hf := ob_1 hf
  refine sx_iload_n X 1 rfl dX11_failUnless_0 rfl ?_
  refine sx_if_ne X 21 dX11_failUnless_1 rfl (fun c1 => ?_) (fun c1 => ?_)
  · have hf := ob_f hf c1
    exact sx_vret X dX11_failUnless_21 (ob_e hf) rfl rfl
  · have hf := ob_t hf c1
    refine sx_aload_n X 0 rfl dX11_failUnless_4 rfl ?_
    refine sx_get X kX11 0 rfl 5 (Nat.le_of_ble_eq_true rfl) qm_138 rfl dX11_failUnless_5 ?_
    refine sx_if_ne X 21 dX11_failUnless_8 rfl (fun c2 => ?_) (fun c2 => ?_)
    · have hf := ob_f hf c2
      exact sx_vret X dX11_failUnless_21 (ob_e hf) rfl rfl
    · have hf := ob_t hf c2
      refine sx_aload_n X 0 rfl dX11_failUnless_11 rfl ?_
      refine sx_iload_n X 2 rfl dX11_failUnless_12 rfl ?_
      refine sx_put X (ws' := [zO h 7 [.ref h_kinds, .ref h_starts, .ref h_values, .int (X11_count b_h), .int (X11_cursor b_h), .int x1, .int (X11_errorToken b_h)], zK T sd.1 h_kinds 401 (X11_kinds b_h), zI T h_starts 401 (X11_starts b_h), zJ T h_values 401 (X11_values b_h)]) kX11 0 rfl 5 (Nat.le_of_ble_eq_true rfl) qm_138 rfl rfl rfl (Nat.le_of_ble_eq_true rfl) rfl dX11_failUnless_13 ?_
      refine sx_aload_n X 0 rfl dX11_failUnless_16 rfl ?_
      refine sx_iload_n X 3 rfl dX11_failUnless_17 rfl ?_
      refine sx_put X (ws' := [zO h 7 [.ref h_kinds, .ref h_starts, .ref h_values, .int (X11_count b_h), .int (X11_cursor b_h), .int x1, .int x2], zK T sd.1 h_kinds 401 (X11_kinds b_h), zI T h_starts 401 (X11_starts b_h), zJ T h_values 401 (X11_values b_h)]) kX11 0 rfl 6 (Nat.le_of_ble_eq_true rfl) qm_141 rfl rfl rfl (Nat.le_of_ble_eq_true rfl) rfl dX11_failUnless_18 ?_
      exact sx_vret X dX11_failUnless_21 (ob_e hf) rfl rfl

abbrev vf_X11_valueAt (r : Int64) : Option Value := some (.long r)
abbrev wc_X11_valueAt (T : Nat → ClassId) (sd : SdT) (h : Nat) (h_kinds : Nat) (h_starts : Nat) (h_values : Nat) (b_h : bX11) : va_W := [zO h 7 [.ref h_kinds, .ref h_starts, .ref h_values, .int (X11_count b_h), .int (X11_cursor b_h), .int (X11_error b_h), .int (X11_errorToken b_h)], zK T sd.1 h_kinds 401 (X11_kinds b_h), zI T h_starts 401 (X11_starts b_h), zJ T h_values 401 (X11_values b_h)]
abbrev wf_X11_valueAt (T : Nat → ClassId) (sd : SdT) (h : Nat) (h_kinds : Nat) (h_starts : Nat) (h_values : Nat) (b_h : bX11) (r : Int64) : va_W := [zO h 7 [.ref h_kinds, .ref h_starts, .ref h_values, .int (X11_count b_h), .int (X11_cursor b_h), .int (X11_error b_h), .int (X11_errorToken b_h)], zK T sd.1 h_kinds 401 (X11_kinds b_h), zI T h_starts 401 (X11_starts b_h), zJ T h_values 401 (X11_values b_h)]
abbrev rm_X11_valueAt : Room := { frames := 1, cells := 0, slots := 0, locals := 21 }
theorem hd_X11_valueAt : yX11_valueAt.cls ≠ "java/lang/invoke/MethodHandle" ∧ yX11_valueAt.cls ≠ "java/lang/invoke/VarHandle" ∧ (parseMethodDescriptor yX11_valueAt.desc).map (fun d => d.parameters.length) = some 1 := ⟨by decide, by decide, by decide +kernel⟩
set_option maxHeartbeats 4000000 in
set_option maxRecDepth 100000 in
theorem c_X11_valueAt {l : Launch} {D : va_G} {T : Nat → ClassId} {sd : SdT} (h : Nat) (h_kinds : Nat) (h_starts : Nat) (h_values : Nat) (x0 : Int32) (b_h : bX11) {res : Int64} (hf : f_X11_valueAt x0 b_h = some res) : SxK (SFx sd) l D T yX11_valueAt cX11_valueAt 2 (some .long) rm_X11_valueAt [.ref h, .int x0] (wc_X11_valueAt T sd h h_kinds h_starts h_values b_h) vf_X11_valueAt (wf_X11_valueAt T sd h h_kinds h_starts h_values b_h) res 0 0 := by
  refine sx_start (SFx_ok sd) (by decide +kernel) (Nat.le_of_ble_eq_true rfl) (fun p e s m args below meth c A X hnm => ?_)
  have hf := ob_1 hf
  refine sx_aload_n X 0 rfl dX11_valueAt_0 rfl ?_
  refine sx_iload_n X 1 rfl dX11_valueAt_1 rfl ?_
  obtain ⟨u1, hu1, hf⟩ := ob_c hf
  refine sx_cVr X (c_X11_has (l := l) (D := D) (T := T) (sd := sd) h h_kinds h_starts h_values x0 b_h hu1) (st' := [.int u1]) (q0 := 0) qm_639 qm_640 qm_641 qm_70 qm_642 hd_X11_has ⟨rfl, rfl⟩ ⟨Nat.le_of_ble_eq_true rfl, Nat.le_of_ble_eq_true rfl⟩ rfl rfl (Nat.le_of_ble_eq_true rfl) rfl rfl rfl [0, 1, 2, 3] rfl rfl rfl ⟨Nat.le_of_ble_eq_true rfl, Nat.le_of_ble_eq_true rfl⟩ dX11_valueAt_2 rfl ?_
  refine sx_if_eq X 17 dX11_valueAt_5 rfl (fun c2 => ?_) (fun c2 => ?_)
  · have hf := ob_t hf c2
    refine sx_lconst X (v := 0) dX11_valueAt_17 rfl ?_
    exact sx_lret X dX11_valueAt_18 (ob_e hf) rfl rfl
  · have hf := ob_f hf c2
    refine sx_aload_n X 0 rfl dX11_valueAt_8 rfl ?_
    refine sx_get X kX11 0 rfl 2 (Nat.le_of_ble_eq_true rfl) qm_133 rfl dX11_valueAt_9 ?_
    refine sx_iload_n X 1 rfl dX11_valueAt_12 rfl ?_
    obtain ⟨g3, hf⟩ := ob_g hf
    refine sx_lald X 3 rfl g3 dX11_valueAt_13 ?_
    refine sx_goto X 18 dX11_valueAt_14 rfl ?_
    exact sx_lret X dX11_valueAt_18 (ob_e hf) rfl rfl

abbrev vf_X2_find (r : Int32) : Option Value := some (.int r)
abbrev wc_X2_find (T : Nat → ClassId) (sd : SdT) (h : Nat) (h_names : Nat) (h_warm : Nat) (h_force : Nat) (h_from : Nat) (h_hours : Nat) (b_h : bX2) : va_W := [zO h 0 [.ref h_names, .ref h_warm, .ref h_force, .ref h_from, .ref h_hours, .int (X2_count b_h)], zJ T h_names 10 (X2_names b_h), zZ T h_warm 10 (X2_warm b_h), zI T h_force 10 (X2_force b_h), zI T h_from 10 (X2_from b_h), zI T h_hours 10 (X2_hours b_h)]
abbrev wf_X2_find (T : Nat → ClassId) (sd : SdT) (h : Nat) (h_names : Nat) (h_warm : Nat) (h_force : Nat) (h_from : Nat) (h_hours : Nat) (b_h : bX2) (r : Int32) : va_W := [zO h 0 [.ref h_names, .ref h_warm, .ref h_force, .ref h_from, .ref h_hours, .int (X2_count b_h)], zJ T h_names 10 (X2_names b_h), zZ T h_warm 10 (X2_warm b_h), zI T h_force 10 (X2_force b_h), zI T h_from 10 (X2_from b_h), zI T h_hours 10 (X2_hours b_h)]
abbrev rm_X2_find : Room := { frames := 0, cells := 0, slots := 0, locals := 0 }
theorem hd_X2_find : yX2_find.cls ≠ "java/lang/invoke/MethodHandle" ∧ yX2_find.cls ≠ "java/lang/invoke/VarHandle" ∧ (parseMethodDescriptor yX2_find.desc).map (fun d => d.parameters.length) = some 1 := ⟨by decide, by decide, by decide +kernel⟩
set_option maxHeartbeats 4000000 in
set_option maxRecDepth 100000 in
theorem c_X2_find {l : Launch} {D : va_G} {T : Nat → ClassId} {sd : SdT} (h : Nat) (h_names : Nat) (h_warm : Nat) (h_force : Nat) (h_from : Nat) (h_hours : Nat) (n : Nat) (x0 : Int64) (b_h : bX2) {res : Int32} (hf : f_X2_find n x0 b_h = some res) : SxK (SFx sd) l D T yX2_find cX2_find 4 (some .int) rm_X2_find [.ref h, .long x0] (wc_X2_find T sd h h_names h_warm h_force h_from h_hours b_h) vf_X2_find (wf_X2_find T sd h h_names h_warm h_force h_from h_hours b_h) res 0 0 := by
  refine sx_start (SFx_ok sd) (by decide +kernel) (Nat.le_of_ble_eq_true rfl) (fun p e s m args below meth c A X hnm => ?_)
  have hf := ob_1 hf
  have L2 : ∀ (v1 : Int64) (n0 : Nat) (v3 : Int32), (iter (fun s : Int32 => f_X2_find_L2 n x0 b_h v1 s) n0 v3).bind some = some res → SxG p l e rm_X2_find s m args below meth c D A 4 0 0 (SxE below args s D A vf_X2_find (wf_X2_find T sd h h_names h_warm h_force h_from h_hours b_h) res 0 0) [zO h 0 [.ref h_names, .ref h_warm, .ref h_force, .ref h_from, .ref h_hours, .int (X2_count b_h)], zJ T h_names 10 (X2_names b_h), zZ T h_warm 10 (X2_warm b_h), zI T h_force 10 (X2_force b_h), zI T h_from 10 (X2_from b_h), zI T h_hours 10 (X2_hours b_h)] [(0, .ref h), (1, .long v1), (3, .int v3)] 2 [] := by
    intro v1 n0
    induction n0 with
    | zero =>
      intro v3 hf
      exact (iter_z hf).elim
    | succ n0 ih2 =>
      intro v3 hf
      obtain ⟨κ2, hκ2, hf⟩ := iter_k hf
      have hf : (f_X2_find_L2 n x0 b_h v1 v3).bind κ2 = some res := hf
      refine sx_iload_n X 2 rfl dX2_find_2 rfl ?_
      refine sx_aload_n X 0 rfl dX2_find_3 rfl ?_
      refine sx_get X kX2 0 rfl 5 (Nat.le_of_ble_eq_true rfl) qm_203 rfl dX2_find_4 ?_
      refine sx_icmp_ge X 29 dX2_find_7 rfl (fun c1 => ?_) (fun c1 => ?_)
      · have hf := ob_t hf c1
        refine sx_iconst X (v := (-1)) dX2_find_29 rfl ?_
        have hf := ob_kr hκ2 hf
        exact sx_iret X rfl dX2_find_30 (ob_e hf) rfl rfl
      · have hf := ob_f hf c1
        refine sx_aload_n X 0 rfl dX2_find_10 rfl ?_
        refine sx_get X kX2 0 rfl 0 (Nat.le_of_ble_eq_true rfl) qm_191 rfl dX2_find_11 ?_
        refine sx_iload_n X 2 rfl dX2_find_14 rfl ?_
        obtain ⟨g2, hf⟩ := ob_g hf
        refine sx_lald X 1 rfl g2 dX2_find_15 ?_
        refine sx_lload_n X 1 rfl dX2_find_16 rfl ?_
        refine sx_lcmp X dX2_find_17 ?_
        refine sx_if_ne X 23 dX2_find_18 rfl (fun c3 => ?_) (fun c3 => ?_)
        · have hf := ob_f hf c3
          refine sx_iinc X (v := (v3 + 1)) (lv' := [(3, .int (v3 + 1)), (0, .ref h), (1, .long v1)]) 2 rfl dX2_find_23 rfl (by decide) rfl ?_
          refine sx_goto X 2 dX2_find_26 rfl ?_
          have hf := ob_k hκ2 hf
          refine sx_lsub [1, 2, 0] rfl ?_
          exact ih2 (v3 + 1) hf
        · have hf := ob_t hf c3
          refine sx_iload_n X 2 rfl dX2_find_21 rfl ?_
          have hf := ob_kr hκ2 hf
          exact sx_iret X rfl dX2_find_22 (ob_e hf) rfl rfl
  refine sx_iconst X (v := 0) dX2_find_0 rfl ?_
  refine sx_istore_n X (lv' := [(3, .int 0), (0, .ref h), (1, .long x0)]) dX2_find_1 rfl (by decide) rfl ?_
  refine sx_lsub [1, 2, 0] rfl ?_
  exact L2 x0 n 0 hf

abbrev vf_X1_numberIn (r : Int32 × Int32 × Int32) : Option Value := some (.int r.1)
abbrev wc_X1_numberIn (T : Nat → ClassId) (sd : SdT) (a0 : Nat) (a0_kinds : Nat) (a0_starts : Nat) (a0_values : Nat) (b_a0 : bX11) : va_W := [zO a0 7 [.ref a0_kinds, .ref a0_starts, .ref a0_values, .int (X11_count b_a0), .int (X11_cursor b_a0), .int (X11_error b_a0), .int (X11_errorToken b_a0)], zK T sd.1 a0_kinds 401 (X11_kinds b_a0), zI T a0_starts 401 (X11_starts b_a0), zJ T a0_values 401 (X11_values b_a0)]
abbrev wf_X1_numberIn (T : Nat → ClassId) (sd : SdT) (a0 : Nat) (a0_kinds : Nat) (a0_starts : Nat) (a0_values : Nat) (b_a0 : bX11) (r : Int32 × Int32 × Int32) : va_W := [zO a0 7 [.ref a0_kinds, .ref a0_starts, .ref a0_values, .int (X11_count b_a0), .int (X11_cursor b_a0), .int r.2.1, .int r.2.2], zK T sd.1 a0_kinds 401 (X11_kinds b_a0), zI T a0_starts 401 (X11_starts b_a0), zJ T a0_values 401 (X11_values b_a0)]
abbrev rm_X1_numberIn : Room := { frames := 2, cells := 0, slots := 0, locals := 42 }
theorem hd_X1_numberIn : yX1_numberIn.cls ≠ "java/lang/invoke/MethodHandle" ∧ yX1_numberIn.cls ≠ "java/lang/invoke/VarHandle" ∧ (parseMethodDescriptor yX1_numberIn.desc).map (fun d => d.parameters.length) = some 4 := ⟨by decide, by decide, by decide +kernel⟩
set_option maxHeartbeats 4000000 in
set_option maxRecDepth 100000 in
theorem c_X1_numberIn {l : Launch} {D : va_G} {T : Nat → ClassId} {sd : SdT} (a0 : Nat) (a0_kinds : Nat) (a0_starts : Nat) (a0_values : Nat) (x1 : Int32) (x2 : Int32) (x3 : Int32) (b_a0 : bX11) {res : Int32 × Int32 × Int32} (hf : f_X1_numberIn x1 x2 x3 b_a0 = some res) : SxK (SFx sd) l D T yX1_numberIn cX1_numberIn 5 (some .int) rm_X1_numberIn [.ref a0, .int x1, .int x2, .int x3] (wc_X1_numberIn T sd a0 a0_kinds a0_starts a0_values b_a0) vf_X1_numberIn (wf_X1_numberIn T sd a0 a0_kinds a0_starts a0_values b_a0) res 0 0 := by
  refine sx_start (SFx_ok sd) (by decide +kernel) (Nat.le_of_ble_eq_true rfl) (fun p e s m args below meth c A X hnm => ?_)
  have hf := ob_1 hf
  have R26 : ∀ (v1 : Int32) (v4 : Int32) (w_a0_error : Int32) (w_a0_errorToken : Int32) (t0 : Int32), (f_X1_numberIn_R26 x1 x2 x3 b_a0 v1 v4 w_a0_error w_a0_errorToken t0).bind some = some res → SxG p l e rm_X1_numberIn s m args below meth c D A 5 0 0 (SxE below args s D A vf_X1_numberIn (wf_X1_numberIn T sd a0 a0_kinds a0_starts a0_values b_a0) res 0 0) [zO a0 7 [.ref a0_kinds, .ref a0_starts, .ref a0_values, .int (X11_count b_a0), .int (X11_cursor b_a0), .int w_a0_error, .int w_a0_errorToken], zK T sd.1 a0_kinds 401 (X11_kinds b_a0), zI T a0_starts 401 (X11_starts b_a0), zJ T a0_values 401 (X11_values b_a0)] [(1, .int v1), (4, .int v4)] 26 [.int t0, .ref a0] := by
    intro v1 v4 w_a0_error w_a0_errorToken t0 hf
    refine sx_iconst X (v := 5) dX1_numberIn_26 rfl ?_
    refine sx_iload_n X 0 rfl dX1_numberIn_27 rfl ?_
    obtain ⟨u3, hu3, hf⟩ := ob_c hf
    refine sx_cV X (c_X11_failUnless (l := l) (D := D) (T := T) (sd := sd) a0 a0_kinds a0_starts a0_values t0 5 v1 ((X11_kinds b_a0), (X11_starts b_a0), (X11_values b_a0), (X11_count b_a0), (X11_cursor b_a0), w_a0_error, w_a0_errorToken) hu3) (st' := []) (q0 := 0) qm_650 qm_629 qm_630 qm_70 qm_631 hd_X11_failUnless ⟨rfl, rfl⟩ ⟨Nat.le_of_ble_eq_true rfl, Nat.le_of_ble_eq_true rfl⟩ rfl rfl (Nat.le_of_ble_eq_true rfl) rfl rfl rfl [0, 1, 2, 3] rfl rfl (ws' := [zO a0 7 [.ref a0_kinds, .ref a0_starts, .ref a0_values, .int (X11_count b_a0), .int (X11_cursor b_a0), .int u3.1, .int u3.2], zK T sd.1 a0_kinds 401 (X11_kinds b_a0), zI T a0_starts 401 (X11_starts b_a0), zJ T a0_values 401 (X11_values b_a0)]) rfl rfl ⟨Nat.le_of_ble_eq_true rfl, Nat.le_of_ble_eq_true rfl⟩ dX1_numberIn_28 rfl ?_
    refine sx_iload X 1 rfl dX1_numberIn_31 ?_
    exact sx_iret X rfl dX1_numberIn_33 (ob_e hf) rfl rfl
  have R25 : ∀ (v1 : Int32) (v4 : Int32) (w_a0_error : Int32) (w_a0_errorToken : Int32), (f_X1_numberIn_R25 x1 x2 x3 b_a0 v1 v4 w_a0_error w_a0_errorToken).bind some = some res → SxG p l e rm_X1_numberIn s m args below meth c D A 5 0 0 (SxE below args s D A vf_X1_numberIn (wf_X1_numberIn T sd a0 a0_kinds a0_starts a0_values b_a0) res 0 0) [zO a0 7 [.ref a0_kinds, .ref a0_starts, .ref a0_values, .int (X11_count b_a0), .int (X11_cursor b_a0), .int w_a0_error, .int w_a0_errorToken], zK T sd.1 a0_kinds 401 (X11_kinds b_a0), zI T a0_starts 401 (X11_starts b_a0), zJ T a0_values 401 (X11_values b_a0)] [(1, .int v1), (4, .int v4)] 25 [.ref a0] := by
    intro v1 v4 w_a0_error w_a0_errorToken hf
    refine sx_iconst X (v := 0) dX1_numberIn_25 rfl ?_
    exact R26 v1 v4 w_a0_error w_a0_errorToken 0 hf
  refine sx_aload_n X 0 rfl dX1_numberIn_0 rfl ?_
  refine sx_iload_n X 1 rfl dX1_numberIn_1 rfl ?_
  obtain ⟨u1, hu1, hf⟩ := ob_c hf
  refine sx_cVr X (c_X11_valueAt (l := l) (D := D) (T := T) (sd := sd) a0 a0_kinds a0_starts a0_values x1 b_a0 hu1) (st' := [.long u1]) (q0 := 0) qm_659 qm_660 qm_661 qm_70 qm_662 hd_X11_valueAt ⟨rfl, rfl⟩ ⟨Nat.le_of_ble_eq_true rfl, Nat.le_of_ble_eq_true rfl⟩ rfl rfl (Nat.le_of_ble_eq_true rfl) rfl rfl rfl [0, 1, 2, 3] rfl rfl rfl ⟨Nat.le_of_ble_eq_true rfl, Nat.le_of_ble_eq_true rfl⟩ dX1_numberIn_2 rfl ?_
  refine sx_l2i X dX1_numberIn_5 ?_
  refine sx_istore X (lv' := [(4, .int (Int64.toInt32 u1)), (0, .ref a0), (1, .int x1), (2, .int x2), (3, .int x3)]) dX1_numberIn_6 (by decide) rfl ?_
  refine sx_aload_n X 1 rfl dX1_numberIn_8 rfl ?_
  refine sx_iload X 0 rfl dX1_numberIn_9 ?_
  refine sx_iload_n X 3 rfl dX1_numberIn_11 rfl ?_
  refine sx_icmp_lt X 25 dX1_numberIn_12 rfl (fun c2 => ?_) (fun c2 => ?_)
  · have hf := ob_t hf c2
    refine sx_lsub [2, 0] rfl ?_
    exact R25 x1 (Int64.toInt32 u1) (X11_error b_a0) (X11_errorToken b_a0) hf
  · have hf := ob_f hf c2
    refine sx_iload X 0 rfl dX1_numberIn_15 ?_
    refine sx_iload_n X 4 rfl dX1_numberIn_17 rfl ?_
    refine sx_icmp_gt X 25 dX1_numberIn_18 rfl (fun c4 => ?_) (fun c4 => ?_)
    · have hf := ob_t hf c4
      refine sx_lsub [2, 0] rfl ?_
      exact R25 x1 (Int64.toInt32 u1) (X11_error b_a0) (X11_errorToken b_a0) hf
    · have hf := ob_f hf c4
      refine sx_iconst X (v := 1) dX1_numberIn_21 rfl ?_
      refine sx_goto X 26 dX1_numberIn_22 rfl ?_
      refine sx_lsub [2, 0] rfl ?_
      exact R26 x1 (Int64.toInt32 u1) (X11_error b_a0) (X11_errorToken b_a0) 1 hf

abbrev vf_X2_add (_r : (Nat → Int64) × (Nat → Int32) × (Nat → Int32) × (Nat → Int32) × (Nat → Int32) × Int32) : Option Value := none
abbrev wc_X2_add (T : Nat → ClassId) (sd : SdT) (h : Nat) (h_names : Nat) (h_warm : Nat) (h_force : Nat) (h_from : Nat) (h_hours : Nat) (b_h : bX2) : va_W := [zO h 0 [.ref h_names, .ref h_warm, .ref h_force, .ref h_from, .ref h_hours, .int (X2_count b_h)], zJ T h_names 10 (X2_names b_h), zZ T h_warm 10 (X2_warm b_h), zI T h_force 10 (X2_force b_h), zI T h_from 10 (X2_from b_h), zI T h_hours 10 (X2_hours b_h)]
abbrev wf_X2_add (T : Nat → ClassId) (sd : SdT) (h : Nat) (h_names : Nat) (h_warm : Nat) (h_force : Nat) (h_from : Nat) (h_hours : Nat) (b_h : bX2) (r : (Nat → Int64) × (Nat → Int32) × (Nat → Int32) × (Nat → Int32) × (Nat → Int32) × Int32) : va_W := [zO h 0 [.ref h_names, .ref h_warm, .ref h_force, .ref h_from, .ref h_hours, .int r.2.2.2.2.2], zJ T h_names 10 r.1, zZ T h_warm 10 r.2.1, zI T h_force 10 r.2.2.1, zI T h_from 10 r.2.2.2.1, zI T h_hours 10 r.2.2.2.2.1]
abbrev rm_X2_add : Room := { frames := 0, cells := 0, slots := 0, locals := 0 }
theorem hd_X2_add : yX2_add.cls ≠ "java/lang/invoke/MethodHandle" ∧ yX2_add.cls ≠ "java/lang/invoke/VarHandle" ∧ (parseMethodDescriptor yX2_add.desc).map (fun d => d.parameters.length) = some 5 := ⟨by decide, by decide, by decide +kernel⟩
set_option maxHeartbeats 4000000 in
set_option maxRecDepth 100000 in
theorem c_X2_add {l : Launch} {D : va_G} {T : Nat → ClassId} {sd : SdT} (h : Nat) (h_names : Nat) (h_warm : Nat) (h_force : Nat) (h_from : Nat) (h_hours : Nat) (x0 : Int64) (x1 : Int32) (x2 : Int32) (x3 : Int32) (x4 : Int32) (b_h : bX2) {res : (Nat → Int64) × (Nat → Int32) × (Nat → Int32) × (Nat → Int32) × (Nat → Int32) × Int32} (hf : f_X2_add x0 x1 x2 x3 x4 b_h = some res) : SxK (SFx sd) l D T yX2_add cX2_add 7 none rm_X2_add [.ref h, .long x0, .int x1, .int x2, .int x3, .int x4] (wc_X2_add T sd h h_names h_warm h_force h_from h_hours b_h) vf_X2_add (wf_X2_add T sd h h_names h_warm h_force h_from h_hours b_h) res 0 0 := by
  refine sx_start (SFx_ok sd) (by decide +kernel) (Nat.le_of_ble_eq_true rfl) (fun p e s m args below meth c A X hnm => ?_)
  have hf := ob_1 hf
  refine sx_aload_n X 0 rfl dX2_add_0 rfl ?_
  refine sx_get X kX2 0 rfl 5 (Nat.le_of_ble_eq_true rfl) qm_203 rfl dX2_add_1 ?_
  refine sx_bipush X (v := 10) dX2_add_4 rfl ?_
  refine sx_icmp_ge X 72 dX2_add_6 rfl (fun c1 => ?_) (fun c1 => ?_)
  · have hf := ob_t hf c1
    exact sx_vret X dX2_add_72 (ob_e hf) rfl rfl
  · have hf := ob_f hf c1
    refine sx_aload_n X 0 rfl dX2_add_9 rfl ?_
    refine sx_get X kX2 0 rfl 0 (Nat.le_of_ble_eq_true rfl) qm_191 rfl dX2_add_10 ?_
    refine sx_aload_n X 0 rfl dX2_add_13 rfl ?_
    refine sx_get X kX2 0 rfl 5 (Nat.le_of_ble_eq_true rfl) qm_203 rfl dX2_add_14 ?_
    refine sx_lload_n X 1 rfl dX2_add_17 rfl ?_
    obtain ⟨g2, hf⟩ := ob_g hf
    refine sx_last X (ws' := [zO h 0 [.ref h_names, .ref h_warm, .ref h_force, .ref h_from, .ref h_hours, .int (X2_count b_h)], zJ T h_names 10 (vp_updL (X2_names b_h) (X2_count b_h).toNatClampNeg x0), zZ T h_warm 10 (X2_warm b_h), zI T h_force 10 (X2_force b_h), zI T h_from 10 (X2_from b_h), zI T h_hours 10 (X2_hours b_h)]) 1 rfl g2 rfl dX2_add_18 ?_
    refine sx_aload_n X 0 rfl dX2_add_19 rfl ?_
    refine sx_get X kX2 0 rfl 1 (Nat.le_of_ble_eq_true rfl) qm_192 rfl dX2_add_20 ?_
    refine sx_aload_n X 0 rfl dX2_add_23 rfl ?_
    refine sx_get X kX2 0 rfl 5 (Nat.le_of_ble_eq_true rfl) qm_203 rfl dX2_add_24 ?_
    refine sx_iload_n X 2 rfl dX2_add_27 rfl ?_
    obtain ⟨g3, hf⟩ := ob_g hf
    refine sx_zast X (ws' := [zO h 0 [.ref h_names, .ref h_warm, .ref h_force, .ref h_from, .ref h_hours, .int (X2_count b_h)], zJ T h_names 10 (vp_updL (X2_names b_h) (X2_count b_h).toNatClampNeg x0), zZ T h_warm 10 (upd (X2_warm b_h) (X2_count b_h).toNatClampNeg (vp_nar .boolean x1)), zI T h_force 10 (X2_force b_h), zI T h_from 10 (X2_from b_h), zI T h_hours 10 (X2_hours b_h)]) 2 rfl g3 rfl dX2_add_28 ?_
    refine sx_aload_n X 0 rfl dX2_add_29 rfl ?_
    refine sx_get X kX2 0 rfl 2 (Nat.le_of_ble_eq_true rfl) qm_195 rfl dX2_add_30 ?_
    refine sx_aload_n X 0 rfl dX2_add_33 rfl ?_
    refine sx_get X kX2 0 rfl 5 (Nat.le_of_ble_eq_true rfl) qm_203 rfl dX2_add_34 ?_
    refine sx_iload X 3 rfl dX2_add_37 ?_
    obtain ⟨g4, hf⟩ := ob_g hf
    refine sx_iast X (ws' := [zO h 0 [.ref h_names, .ref h_warm, .ref h_force, .ref h_from, .ref h_hours, .int (X2_count b_h)], zJ T h_names 10 (vp_updL (X2_names b_h) (X2_count b_h).toNatClampNeg x0), zZ T h_warm 10 (upd (X2_warm b_h) (X2_count b_h).toNatClampNeg (vp_nar .boolean x1)), zI T h_force 10 (upd (X2_force b_h) (X2_count b_h).toNatClampNeg x2), zI T h_from 10 (X2_from b_h), zI T h_hours 10 (X2_hours b_h)]) 3 rfl g4 rfl dX2_add_39 ?_
    refine sx_aload_n X 0 rfl dX2_add_40 rfl ?_
    refine sx_get X kX2 0 rfl 3 (Nat.le_of_ble_eq_true rfl) qm_198 rfl dX2_add_41 ?_
    refine sx_aload_n X 0 rfl dX2_add_44 rfl ?_
    refine sx_get X kX2 0 rfl 5 (Nat.le_of_ble_eq_true rfl) qm_203 rfl dX2_add_45 ?_
    refine sx_iload X 4 rfl dX2_add_48 ?_
    obtain ⟨g5, hf⟩ := ob_g hf
    refine sx_iast X (ws' := [zO h 0 [.ref h_names, .ref h_warm, .ref h_force, .ref h_from, .ref h_hours, .int (X2_count b_h)], zJ T h_names 10 (vp_updL (X2_names b_h) (X2_count b_h).toNatClampNeg x0), zZ T h_warm 10 (upd (X2_warm b_h) (X2_count b_h).toNatClampNeg (vp_nar .boolean x1)), zI T h_force 10 (upd (X2_force b_h) (X2_count b_h).toNatClampNeg x2), zI T h_from 10 (upd (X2_from b_h) (X2_count b_h).toNatClampNeg x3), zI T h_hours 10 (X2_hours b_h)]) 4 rfl g5 rfl dX2_add_50 ?_
    refine sx_aload_n X 0 rfl dX2_add_51 rfl ?_
    refine sx_get X kX2 0 rfl 4 (Nat.le_of_ble_eq_true rfl) qm_200 rfl dX2_add_52 ?_
    refine sx_aload_n X 0 rfl dX2_add_55 rfl ?_
    refine sx_get X kX2 0 rfl 5 (Nat.le_of_ble_eq_true rfl) qm_203 rfl dX2_add_56 ?_
    refine sx_iload X 5 rfl dX2_add_59 ?_
    obtain ⟨g6, hf⟩ := ob_g hf
    refine sx_iast X (ws' := [zO h 0 [.ref h_names, .ref h_warm, .ref h_force, .ref h_from, .ref h_hours, .int (X2_count b_h)], zJ T h_names 10 (vp_updL (X2_names b_h) (X2_count b_h).toNatClampNeg x0), zZ T h_warm 10 (upd (X2_warm b_h) (X2_count b_h).toNatClampNeg (vp_nar .boolean x1)), zI T h_force 10 (upd (X2_force b_h) (X2_count b_h).toNatClampNeg x2), zI T h_from 10 (upd (X2_from b_h) (X2_count b_h).toNatClampNeg x3), zI T h_hours 10 (upd (X2_hours b_h) (X2_count b_h).toNatClampNeg x4)]) 5 rfl g6 rfl dX2_add_61 ?_
    refine sx_aload_n X 0 rfl dX2_add_62 rfl ?_
    refine sx_dup X dX2_add_63 rfl ?_
    refine sx_get X kX2 0 rfl 5 (Nat.le_of_ble_eq_true rfl) qm_203 rfl dX2_add_64 ?_
    refine sx_iconst X (v := 1) dX2_add_67 rfl ?_
    refine sx_iadd X dX2_add_68 ?_
    refine sx_put X (ws' := [zO h 0 [.ref h_names, .ref h_warm, .ref h_force, .ref h_from, .ref h_hours, .int ((X2_count b_h) + 1)], zJ T h_names 10 (vp_updL (X2_names b_h) (X2_count b_h).toNatClampNeg x0), zZ T h_warm 10 (upd (X2_warm b_h) (X2_count b_h).toNatClampNeg (vp_nar .boolean x1)), zI T h_force 10 (upd (X2_force b_h) (X2_count b_h).toNatClampNeg x2), zI T h_from 10 (upd (X2_from b_h) (X2_count b_h).toNatClampNeg x3), zI T h_hours 10 (upd (X2_hours b_h) (X2_count b_h).toNatClampNeg x4)]) kX2 0 rfl 5 (Nat.le_of_ble_eq_true rfl) qm_203 rfl rfl rfl (Nat.le_of_ble_eq_true rfl) rfl dX2_add_69 ?_
    exact sx_vret X dX2_add_72 (ob_e hf) rfl rfl

abbrev vf_X1_checkFront (_r : Int32 × Int32 × (Nat → Int64) × (Nat → Int32) × (Nat → Int32) × (Nat → Int32) × (Nat → Int32) × Int32) : Option Value := none
abbrev wc_X1_checkFront (T : Nat → ClassId) (sd : SdT) (a0 : Nat) (a0_kinds : Nat) (a0_starts : Nat) (a0_values : Nat) (a2 : Nat) (a2_names : Nat) (a2_warm : Nat) (a2_force : Nat) (a2_from : Nat) (a2_hours : Nat) (b_a0 : bX11) (b_a2 : bX2) : va_W := [zO a0 7 [.ref a0_kinds, .ref a0_starts, .ref a0_values, .int (X11_count b_a0), .int (X11_cursor b_a0), .int (X11_error b_a0), .int (X11_errorToken b_a0)], zK T sd.1 a0_kinds 401 (X11_kinds b_a0), zI T a0_starts 401 (X11_starts b_a0), zJ T a0_values 401 (X11_values b_a0), zO a2 0 [.ref a2_names, .ref a2_warm, .ref a2_force, .ref a2_from, .ref a2_hours, .int (X2_count b_a2)], zJ T a2_names 10 (X2_names b_a2), zZ T a2_warm 10 (X2_warm b_a2), zI T a2_force 10 (X2_force b_a2), zI T a2_from 10 (X2_from b_a2), zI T a2_hours 10 (X2_hours b_a2)]
abbrev wf_X1_checkFront (T : Nat → ClassId) (sd : SdT) (a0 : Nat) (a0_kinds : Nat) (a0_starts : Nat) (a0_values : Nat) (a2 : Nat) (a2_names : Nat) (a2_warm : Nat) (a2_force : Nat) (a2_from : Nat) (a2_hours : Nat) (b_a0 : bX11) (b_a2 : bX2) (r : Int32 × Int32 × (Nat → Int64) × (Nat → Int32) × (Nat → Int32) × (Nat → Int32) × (Nat → Int32) × Int32) : va_W := [zO a0 7 [.ref a0_kinds, .ref a0_starts, .ref a0_values, .int (X11_count b_a0), .int (X11_cursor b_a0), .int r.1, .int r.2.1], zK T sd.1 a0_kinds 401 (X11_kinds b_a0), zI T a0_starts 401 (X11_starts b_a0), zJ T a0_values 401 (X11_values b_a0), zO a2 0 [.ref a2_names, .ref a2_warm, .ref a2_force, .ref a2_from, .ref a2_hours, .int r.2.2.2.2.2.2.2], zJ T a2_names 10 r.2.2.1, zZ T a2_warm 10 r.2.2.2.1, zI T a2_force 10 r.2.2.2.2.1, zI T a2_from 10 r.2.2.2.2.2.1, zI T a2_hours 10 r.2.2.2.2.2.2.1]
abbrev rm_X1_checkFront : Room := { frames := 3, cells := 0, slots := 0, locals := 66 }
theorem hd_X1_checkFront : yX1_checkFront.cls ≠ "java/lang/invoke/MethodHandle" ∧ yX1_checkFront.cls ≠ "java/lang/invoke/VarHandle" ∧ (parseMethodDescriptor yX1_checkFront.desc).map (fun d => d.parameters.length) = some 3 := ⟨by decide, by decide, by decide +kernel⟩
set_option maxHeartbeats 4000000 in
set_option maxRecDepth 100000 in
theorem c_X1_checkFront {l : Launch} {D : va_G} {T : Nat → ClassId} {sd : SdT} (a0 : Nat) (a0_kinds : Nat) (a0_starts : Nat) (a0_values : Nat) (a2 : Nat) (a2_names : Nat) (a2_warm : Nat) (a2_force : Nat) (a2_from : Nat) (a2_hours : Nat) (n : Nat) (x1 : Int32) (b_a0 : bX11) (b_a2 : bX2) {res : Int32 × Int32 × (Nat → Int64) × (Nat → Int32) × (Nat → Int32) × (Nat → Int32) × (Nat → Int32) × Int32} (hf : f_X1_checkFront n x1 b_a0 b_a2 = some res) : SxK (SFx sd) l D T yX1_checkFront cX1_checkFront 9 none rm_X1_checkFront [.ref a0, .int x1, .ref a2] (wc_X1_checkFront T sd a0 a0_kinds a0_starts a0_values a2 a2_names a2_warm a2_force a2_from a2_hours b_a0 b_a2) vf_X1_checkFront (wf_X1_checkFront T sd a0 a0_kinds a0_starts a0_values a2 a2_names a2_warm a2_force a2_from a2_hours b_a0 b_a2) res 0 0 := by
  refine sx_start (SFx_ok sd) (by decide +kernel) (Nat.le_of_ble_eq_true rfl) (fun p e s m args below meth c A X hnm => ?_)
  have hf := ob_1 hf
  have R63 : ∀ (v1 : Int32) (v3 : Int64) (w_a0_error : Int32) (w_a0_errorToken : Int32) (w_a2_names : Nat → Int64) (w_a2_warm : Nat → Int32) (w_a2_force : Nat → Int32) (w_a2_from : Nat → Int32) (w_a2_hours : Nat → Int32) (w_a2_count : Int32) (t0 : Int32), (f_X1_checkFront_R63 n x1 b_a0 b_a2 v1 v3 w_a0_error w_a0_errorToken w_a2_names w_a2_warm w_a2_force w_a2_from w_a2_hours w_a2_count t0).bind some = some res → SxG p l e rm_X1_checkFront s m args below meth c D A 9 0 0 (SxE below args s D A vf_X1_checkFront (wf_X1_checkFront T sd a0 a0_kinds a0_starts a0_values a2 a2_names a2_warm a2_force a2_from a2_hours b_a0 b_a2) res 0 0) [zO a0 7 [.ref a0_kinds, .ref a0_starts, .ref a0_values, .int (X11_count b_a0), .int (X11_cursor b_a0), .int w_a0_error, .int w_a0_errorToken], zK T sd.1 a0_kinds 401 (X11_kinds b_a0), zI T a0_starts 401 (X11_starts b_a0), zJ T a0_values 401 (X11_values b_a0), zO a2 0 [.ref a2_names, .ref a2_warm, .ref a2_force, .ref a2_from, .ref a2_hours, .int w_a2_count], zJ T a2_names 10 w_a2_names, zZ T a2_warm 10 w_a2_warm, zI T a2_force 10 w_a2_force, zI T a2_from 10 w_a2_from, zI T a2_hours 10 w_a2_hours] [(0, .ref a0), (1, .int v1), (2, .ref a2), (3, .long v3)] 63 [.int t0] := by
    intro v1 v3 w_a0_error w_a0_errorToken w_a2_names w_a2_warm w_a2_force w_a2_from w_a2_hours w_a2_count t0 hf
    refine sx_istore X (lv' := [(5, .int t0), (0, .ref a0), (1, .int v1), (2, .ref a2), (3, .long v3)]) dX1_checkFront_63 (by decide) rfl ?_
    refine sx_aload_n X 1 rfl dX1_checkFront_65 rfl ?_
    refine sx_iload_n X 2 rfl dX1_checkFront_66 rfl ?_
    refine sx_iconst X (v := 4) dX1_checkFront_67 rfl ?_
    refine sx_iadd X dX1_checkFront_68 ?_
    refine sx_iconst X (v := 1) dX1_checkFront_69 rfl ?_
    refine sx_bipush X (v := 9) dX1_checkFront_70 rfl ?_
    obtain ⟨u10, hu10, hf⟩ := ob_c hf
    refine sx_cS X (c_X1_numberIn (l := l) (D := D) (T := T) (sd := sd) a0 a0_kinds a0_starts a0_values (v1 + 4) 1 9 ((X11_kinds b_a0), (X11_starts b_a0), (X11_values b_a0), (X11_count b_a0), (X11_cursor b_a0), w_a0_error, w_a0_errorToken) hu10) (st' := [.int u10.1]) qm_668 qm_669 qm_92 qm_670 hd_X1_numberIn ⟨rfl, rfl⟩ ⟨Nat.le_of_ble_eq_true rfl, Nat.le_of_ble_eq_true rfl⟩ rfl rfl (Nat.le_of_ble_eq_true rfl) [0, 1, 2, 3] rfl rfl (ws' := [zO a0 7 [.ref a0_kinds, .ref a0_starts, .ref a0_values, .int (X11_count b_a0), .int (X11_cursor b_a0), .int u10.2.1, .int u10.2.2], zK T sd.1 a0_kinds 401 (X11_kinds b_a0), zI T a0_starts 401 (X11_starts b_a0), zJ T a0_values 401 (X11_values b_a0), zO a2 0 [.ref a2_names, .ref a2_warm, .ref a2_force, .ref a2_from, .ref a2_hours, .int w_a2_count], zJ T a2_names 10 w_a2_names, zZ T a2_warm 10 w_a2_warm, zI T a2_force 10 w_a2_force, zI T a2_from 10 w_a2_from, zI T a2_hours 10 w_a2_hours]) rfl rfl ⟨Nat.le_of_ble_eq_true rfl, Nat.le_of_ble_eq_true rfl⟩ dX1_checkFront_72 rfl ?_
    refine sx_istore X (lv' := [(6, .int u10.1), (5, .int t0), (0, .ref a0), (1, .int v1), (2, .ref a2), (3, .long v3)]) dX1_checkFront_75 (by decide) rfl ?_
    refine sx_aload_n X 2 rfl dX1_checkFront_77 rfl ?_
    refine sx_iload_n X 3 rfl dX1_checkFront_78 rfl ?_
    refine sx_bipush X (v := 6) dX1_checkFront_79 rfl ?_
    refine sx_iadd X dX1_checkFront_81 ?_
    refine sx_iconst X (v := 0) dX1_checkFront_82 rfl ?_
    refine sx_bipush X (v := 60) dX1_checkFront_83 rfl ?_
    obtain ⟨u11, hu11, hf⟩ := ob_c hf
    refine sx_cS X (c_X1_numberIn (l := l) (D := D) (T := T) (sd := sd) a0 a0_kinds a0_starts a0_values (v1 + 6) 0 60 ((X11_kinds b_a0), (X11_starts b_a0), (X11_values b_a0), (X11_count b_a0), (X11_cursor b_a0), u10.2.1, u10.2.2) hu11) (st' := [.int u11.1]) qm_668 qm_669 qm_92 qm_670 hd_X1_numberIn ⟨rfl, rfl⟩ ⟨Nat.le_of_ble_eq_true rfl, Nat.le_of_ble_eq_true rfl⟩ rfl rfl (Nat.le_of_ble_eq_true rfl) [0, 1, 2, 3] rfl rfl (ws' := [zO a0 7 [.ref a0_kinds, .ref a0_starts, .ref a0_values, .int (X11_count b_a0), .int (X11_cursor b_a0), .int u11.2.1, .int u11.2.2], zK T sd.1 a0_kinds 401 (X11_kinds b_a0), zI T a0_starts 401 (X11_starts b_a0), zJ T a0_values 401 (X11_values b_a0), zO a2 0 [.ref a2_names, .ref a2_warm, .ref a2_force, .ref a2_from, .ref a2_hours, .int w_a2_count], zJ T a2_names 10 w_a2_names, zZ T a2_warm 10 w_a2_warm, zI T a2_force 10 w_a2_force, zI T a2_from 10 w_a2_from, zI T a2_hours 10 w_a2_hours]) rfl rfl ⟨Nat.le_of_ble_eq_true rfl, Nat.le_of_ble_eq_true rfl⟩ dX1_checkFront_85 rfl ?_
    refine sx_istore X (lv' := [(7, .int u11.1), (6, .int u10.1), (5, .int t0), (0, .ref a0), (1, .int v1), (2, .ref a2), (3, .long v3)]) dX1_checkFront_88 (by decide) rfl ?_
    refine sx_aload_n X 3 rfl dX1_checkFront_90 rfl ?_
    refine sx_iload_n X 4 rfl dX1_checkFront_91 rfl ?_
    refine sx_bipush X (v := 8) dX1_checkFront_92 rfl ?_
    refine sx_iadd X dX1_checkFront_94 ?_
    refine sx_iconst X (v := 1) dX1_checkFront_95 rfl ?_
    refine sx_bipush X (v := 12) dX1_checkFront_96 rfl ?_
    obtain ⟨u12, hu12, hf⟩ := ob_c hf
    refine sx_cS X (c_X1_numberIn (l := l) (D := D) (T := T) (sd := sd) a0 a0_kinds a0_starts a0_values (v1 + 8) 1 12 ((X11_kinds b_a0), (X11_starts b_a0), (X11_values b_a0), (X11_count b_a0), (X11_cursor b_a0), u11.2.1, u11.2.2) hu12) (st' := [.int u12.1]) qm_668 qm_669 qm_92 qm_670 hd_X1_numberIn ⟨rfl, rfl⟩ ⟨Nat.le_of_ble_eq_true rfl, Nat.le_of_ble_eq_true rfl⟩ rfl rfl (Nat.le_of_ble_eq_true rfl) [0, 1, 2, 3] rfl rfl (ws' := [zO a0 7 [.ref a0_kinds, .ref a0_starts, .ref a0_values, .int (X11_count b_a0), .int (X11_cursor b_a0), .int u12.2.1, .int u12.2.2], zK T sd.1 a0_kinds 401 (X11_kinds b_a0), zI T a0_starts 401 (X11_starts b_a0), zJ T a0_values 401 (X11_values b_a0), zO a2 0 [.ref a2_names, .ref a2_warm, .ref a2_force, .ref a2_from, .ref a2_hours, .int w_a2_count], zJ T a2_names 10 w_a2_names, zZ T a2_warm 10 w_a2_warm, zI T a2_force 10 w_a2_force, zI T a2_from 10 w_a2_from, zI T a2_hours 10 w_a2_hours]) rfl rfl ⟨Nat.le_of_ble_eq_true rfl, Nat.le_of_ble_eq_true rfl⟩ dX1_checkFront_98 rfl ?_
    refine sx_istore X (lv' := [(8, .int u12.1), (7, .int u11.1), (6, .int u10.1), (5, .int t0), (0, .ref a0), (1, .int v1), (2, .ref a2), (3, .long v3)]) dX1_checkFront_101 (by decide) rfl ?_
    refine sx_aload_n X 6 rfl dX1_checkFront_103 rfl ?_
    refine sx_lload_n X 7 rfl dX1_checkFront_104 rfl ?_
    refine sx_iload X 3 rfl dX1_checkFront_105 ?_
    refine sx_iload X 2 rfl dX1_checkFront_107 ?_
    refine sx_iload X 1 rfl dX1_checkFront_109 ?_
    refine sx_iload X 0 rfl dX1_checkFront_111 ?_
    obtain ⟨u13, hu13, hf⟩ := ob_c hf
    refine sx_cV X (c_X2_add (l := l) (D := D) (T := T) (sd := sd) a2 a2_names a2_warm a2_force a2_from a2_hours v3 t0 u10.1 u11.1 u12.1 (w_a2_names, w_a2_warm, w_a2_force, w_a2_from, w_a2_hours, w_a2_count) hu13) (st' := []) (q0 := 4) qm_671 qm_672 qm_673 qm_76 qm_674 hd_X2_add ⟨rfl, rfl⟩ ⟨Nat.le_of_ble_eq_true rfl, Nat.le_of_ble_eq_true rfl⟩ rfl rfl (Nat.le_of_ble_eq_true rfl) rfl rfl rfl [4, 5, 6, 7, 8, 9] rfl rfl (ws' := [zO a0 7 [.ref a0_kinds, .ref a0_starts, .ref a0_values, .int (X11_count b_a0), .int (X11_cursor b_a0), .int u12.2.1, .int u12.2.2], zK T sd.1 a0_kinds 401 (X11_kinds b_a0), zI T a0_starts 401 (X11_starts b_a0), zJ T a0_values 401 (X11_values b_a0), zO a2 0 [.ref a2_names, .ref a2_warm, .ref a2_force, .ref a2_from, .ref a2_hours, .int u13.2.2.2.2.2], zJ T a2_names 10 u13.1, zZ T a2_warm 10 u13.2.1, zI T a2_force 10 u13.2.2.1, zI T a2_from 10 u13.2.2.2.1, zI T a2_hours 10 u13.2.2.2.2.1]) rfl rfl ⟨Nat.le_of_ble_eq_true rfl, Nat.le_of_ble_eq_true rfl⟩ dX1_checkFront_113 rfl ?_
    exact sx_vret X dX1_checkFront_116 (ob_e hf) rfl rfl
  have R40 : ∀ (v1 : Int32) (v3 : Int64) (w_a0_error : Int32) (w_a0_errorToken : Int32) (w_a2_names : Nat → Int64) (w_a2_warm : Nat → Int32) (w_a2_force : Nat → Int32) (w_a2_from : Nat → Int32) (w_a2_hours : Nat → Int32) (w_a2_count : Int32) (t0 : Int32), (f_X1_checkFront_R40 n x1 b_a0 b_a2 v1 v3 w_a0_error w_a0_errorToken w_a2_names w_a2_warm w_a2_force w_a2_from w_a2_hours w_a2_count t0).bind some = some res → SxG p l e rm_X1_checkFront s m args below meth c D A 9 0 0 (SxE below args s D A vf_X1_checkFront (wf_X1_checkFront T sd a0 a0_kinds a0_starts a0_values a2 a2_names a2_warm a2_force a2_from a2_hours b_a0 b_a2) res 0 0) [zO a0 7 [.ref a0_kinds, .ref a0_starts, .ref a0_values, .int (X11_count b_a0), .int (X11_cursor b_a0), .int w_a0_error, .int w_a0_errorToken], zK T sd.1 a0_kinds 401 (X11_kinds b_a0), zI T a0_starts 401 (X11_starts b_a0), zJ T a0_values 401 (X11_values b_a0), zO a2 0 [.ref a2_names, .ref a2_warm, .ref a2_force, .ref a2_from, .ref a2_hours, .int w_a2_count], zJ T a2_names 10 w_a2_names, zZ T a2_warm 10 w_a2_warm, zI T a2_force 10 w_a2_force, zI T a2_from 10 w_a2_from, zI T a2_hours 10 w_a2_hours] [(0, .ref a0), (1, .int v1), (2, .ref a2), (3, .long v3)] 40 [.int t0, .ref a0] := by
    intro v1 v3 w_a0_error w_a0_errorToken w_a2_names w_a2_warm w_a2_force w_a2_from w_a2_hours w_a2_count t0 hf
    refine sx_iconst X (v := 4) dX1_checkFront_40 rfl ?_
    refine sx_iload_n X 1 rfl dX1_checkFront_41 rfl ?_
    obtain ⟨u6, hu6, hf⟩ := ob_c hf
    refine sx_cV X (c_X11_failUnless (l := l) (D := D) (T := T) (sd := sd) a0 a0_kinds a0_starts a0_values t0 4 v1 ((X11_kinds b_a0), (X11_starts b_a0), (X11_values b_a0), (X11_count b_a0), (X11_cursor b_a0), w_a0_error, w_a0_errorToken) hu6) (st' := []) (q0 := 0) qm_650 qm_629 qm_630 qm_70 qm_631 hd_X11_failUnless ⟨rfl, rfl⟩ ⟨Nat.le_of_ble_eq_true rfl, Nat.le_of_ble_eq_true rfl⟩ rfl rfl (Nat.le_of_ble_eq_true rfl) rfl rfl rfl [0, 1, 2, 3] rfl rfl (ws' := [zO a0 7 [.ref a0_kinds, .ref a0_starts, .ref a0_values, .int (X11_count b_a0), .int (X11_cursor b_a0), .int u6.1, .int u6.2], zK T sd.1 a0_kinds 401 (X11_kinds b_a0), zI T a0_starts 401 (X11_starts b_a0), zJ T a0_values 401 (X11_values b_a0), zO a2 0 [.ref a2_names, .ref a2_warm, .ref a2_force, .ref a2_from, .ref a2_hours, .int w_a2_count], zJ T a2_names 10 w_a2_names, zZ T a2_warm 10 w_a2_warm, zI T a2_force 10 w_a2_force, zI T a2_from 10 w_a2_from, zI T a2_hours 10 w_a2_hours]) rfl rfl ⟨Nat.le_of_ble_eq_true rfl, Nat.le_of_ble_eq_true rfl⟩ dX1_checkFront_42 rfl ?_
    refine sx_aload_n X 0 rfl dX1_checkFront_45 rfl ?_
    refine sx_iload_n X 1 rfl dX1_checkFront_46 rfl ?_
    refine sx_iconst X (v := 2) dX1_checkFront_47 rfl ?_
    refine sx_iadd X dX1_checkFront_48 ?_
    obtain ⟨u7, hu7, hf⟩ := ob_c hf
    refine sx_cVr X (c_X11_kindAt (l := l) (D := D) (T := T) (sd := sd) a0 a0_kinds a0_starts a0_values (v1 + 2) ((X11_kinds b_a0), (X11_starts b_a0), (X11_values b_a0), (X11_count b_a0), (X11_cursor b_a0), u6.1, u6.2) hu7) (st' := [.ref (sd.1 u7)]) (q0 := 0) qm_635 qm_636 qm_637 qm_70 qm_638 hd_X11_kindAt ⟨rfl, rfl⟩ ⟨Nat.le_of_ble_eq_true rfl, Nat.le_of_ble_eq_true rfl⟩ rfl rfl (Nat.le_of_ble_eq_true rfl) rfl rfl rfl [0, 1, 2, 3] rfl rfl rfl ⟨Nat.le_of_ble_eq_true rfl, Nat.le_of_ble_eq_true rfl⟩ dX1_checkFront_49 rfl ?_
    refine sx_kst X 2 (by decide) qm_667 dX1_checkFront_52 ?_
    obtain ⟨g9, hf⟩ := ob_h hf
    refine sx_kne X 62 g9 (by decide) dX1_checkFront_55 rfl (fun c8 => ?_) (fun c8 => ?_)
    · have hf := ob_f hf c8
      refine sx_iconst X (v := 0) dX1_checkFront_62 rfl ?_
      exact R63 v1 v3 u6.1 u6.2 w_a2_names w_a2_warm w_a2_force w_a2_from w_a2_hours w_a2_count 0 hf
    · have hf := ob_t hf c8
      refine sx_iconst X (v := 1) dX1_checkFront_58 rfl ?_
      refine sx_goto X 63 dX1_checkFront_59 rfl ?_
      exact R63 v1 v3 u6.1 u6.2 w_a2_names w_a2_warm w_a2_force w_a2_from w_a2_hours w_a2_count 1 hf
  have R20 : ∀ (v1 : Int32) (v3 : Int64) (w_a0_error : Int32) (w_a0_errorToken : Int32) (w_a2_names : Nat → Int64) (w_a2_warm : Nat → Int32) (w_a2_force : Nat → Int32) (w_a2_from : Nat → Int32) (w_a2_hours : Nat → Int32) (w_a2_count : Int32) (t0 : Int32), (f_X1_checkFront_R20 n x1 b_a0 b_a2 v1 v3 w_a0_error w_a0_errorToken w_a2_names w_a2_warm w_a2_force w_a2_from w_a2_hours w_a2_count t0).bind some = some res → SxG p l e rm_X1_checkFront s m args below meth c D A 9 0 0 (SxE below args s D A vf_X1_checkFront (wf_X1_checkFront T sd a0 a0_kinds a0_starts a0_values a2 a2_names a2_warm a2_force a2_from a2_hours b_a0 b_a2) res 0 0) [zO a0 7 [.ref a0_kinds, .ref a0_starts, .ref a0_values, .int (X11_count b_a0), .int (X11_cursor b_a0), .int w_a0_error, .int w_a0_errorToken], zK T sd.1 a0_kinds 401 (X11_kinds b_a0), zI T a0_starts 401 (X11_starts b_a0), zJ T a0_values 401 (X11_values b_a0), zO a2 0 [.ref a2_names, .ref a2_warm, .ref a2_force, .ref a2_from, .ref a2_hours, .int w_a2_count], zJ T a2_names 10 w_a2_names, zZ T a2_warm 10 w_a2_warm, zI T a2_force 10 w_a2_force, zI T a2_from 10 w_a2_from, zI T a2_hours 10 w_a2_hours] [(0, .ref a0), (1, .int v1), (2, .ref a2), (3, .long v3)] 20 [.int t0, .ref a0] := by
    intro v1 v3 w_a0_error w_a0_errorToken w_a2_names w_a2_warm w_a2_force w_a2_from w_a2_hours w_a2_count t0 hf
    refine sx_iconst X (v := 2) dX1_checkFront_20 rfl ?_
    refine sx_iload_n X 1 rfl dX1_checkFront_21 rfl ?_
    obtain ⟨u4, hu4, hf⟩ := ob_c hf
    refine sx_cV X (c_X11_failUnless (l := l) (D := D) (T := T) (sd := sd) a0 a0_kinds a0_starts a0_values t0 2 v1 ((X11_kinds b_a0), (X11_starts b_a0), (X11_values b_a0), (X11_count b_a0), (X11_cursor b_a0), w_a0_error, w_a0_errorToken) hu4) (st' := []) (q0 := 0) qm_650 qm_629 qm_630 qm_70 qm_631 hd_X11_failUnless ⟨rfl, rfl⟩ ⟨Nat.le_of_ble_eq_true rfl, Nat.le_of_ble_eq_true rfl⟩ rfl rfl (Nat.le_of_ble_eq_true rfl) rfl rfl rfl [0, 1, 2, 3] rfl rfl (ws' := [zO a0 7 [.ref a0_kinds, .ref a0_starts, .ref a0_values, .int (X11_count b_a0), .int (X11_cursor b_a0), .int u4.1, .int u4.2], zK T sd.1 a0_kinds 401 (X11_kinds b_a0), zI T a0_starts 401 (X11_starts b_a0), zJ T a0_values 401 (X11_values b_a0), zO a2 0 [.ref a2_names, .ref a2_warm, .ref a2_force, .ref a2_from, .ref a2_hours, .int w_a2_count], zJ T a2_names 10 w_a2_names, zZ T a2_warm 10 w_a2_warm, zI T a2_force 10 w_a2_force, zI T a2_from 10 w_a2_from, zI T a2_hours 10 w_a2_hours]) rfl rfl ⟨Nat.le_of_ble_eq_true rfl, Nat.le_of_ble_eq_true rfl⟩ dX1_checkFront_22 rfl ?_
    refine sx_aload_n X 0 rfl dX1_checkFront_25 rfl ?_
    refine sx_aload_n X 2 rfl dX1_checkFront_26 rfl ?_
    refine sx_get X kX2 4 rfl 5 (Nat.le_of_ble_eq_true rfl) qm_205 rfl dX1_checkFront_27 ?_
    refine sx_bipush X (v := 10) dX1_checkFront_30 rfl ?_
    refine sx_icmp_ge X 39 dX1_checkFront_32 rfl (fun c5 => ?_) (fun c5 => ?_)
    · have hf := ob_t hf c5
      refine sx_iconst X (v := 0) dX1_checkFront_39 rfl ?_
      exact R40 v1 v3 u4.1 u4.2 w_a2_names w_a2_warm w_a2_force w_a2_from w_a2_hours w_a2_count 0 hf
    · have hf := ob_f hf c5
      refine sx_iconst X (v := 1) dX1_checkFront_35 rfl ?_
      refine sx_goto X 40 dX1_checkFront_36 rfl ?_
      exact R40 v1 v3 u4.1 u4.2 w_a2_names w_a2_warm w_a2_force w_a2_from w_a2_hours w_a2_count 1 hf
  refine sx_aload_n X 0 rfl dX1_checkFront_0 rfl ?_
  refine sx_iload_n X 1 rfl dX1_checkFront_1 rfl ?_
  obtain ⟨u1, hu1, hf⟩ := ob_c hf
  refine sx_cVr X (c_X11_valueAt (l := l) (D := D) (T := T) (sd := sd) a0 a0_kinds a0_starts a0_values x1 b_a0 hu1) (st' := [.long u1]) (q0 := 0) qm_659 qm_660 qm_661 qm_70 qm_662 hd_X11_valueAt ⟨rfl, rfl⟩ ⟨Nat.le_of_ble_eq_true rfl, Nat.le_of_ble_eq_true rfl⟩ rfl rfl (Nat.le_of_ble_eq_true rfl) rfl rfl rfl [0, 1, 2, 3] rfl rfl rfl ⟨Nat.le_of_ble_eq_true rfl, Nat.le_of_ble_eq_true rfl⟩ dX1_checkFront_2 rfl ?_
  refine sx_lstore_n X (lv' := [(3, .long u1), (0, .ref a0), (1, .int x1), (2, .ref a2)]) dX1_checkFront_5 rfl (by decide) rfl ?_
  refine sx_aload_n X 1 rfl dX1_checkFront_6 rfl ?_
  refine sx_aload_n X 3 rfl dX1_checkFront_7 rfl ?_
  refine sx_lload_n X 0 rfl dX1_checkFront_8 rfl ?_
  obtain ⟨u2, hu2, hf⟩ := ob_c hf
  refine sx_cVr X (c_X2_find (l := l) (D := D) (T := T) (sd := sd) a2 a2_names a2_warm a2_force a2_from a2_hours n u1 b_a2 hu2) (st' := [.int u2, .ref a0]) (q0 := 4) qm_663 qm_664 qm_665 qm_76 qm_666 hd_X2_find ⟨rfl, rfl⟩ ⟨Nat.le_of_ble_eq_true rfl, Nat.le_of_ble_eq_true rfl⟩ rfl rfl (Nat.le_of_ble_eq_true rfl) rfl rfl rfl [4, 5, 6, 7, 8, 9] rfl rfl rfl ⟨Nat.le_of_ble_eq_true rfl, Nat.le_of_ble_eq_true rfl⟩ dX1_checkFront_9 rfl ?_
  refine sx_if_ge X 19 dX1_checkFront_12 rfl (fun c3 => ?_) (fun c3 => ?_)
  · have hf := ob_t hf c3
    refine sx_iconst X (v := 0) dX1_checkFront_19 rfl ?_
    refine sx_lsub [1, 2, 3, 0] rfl ?_
    exact R20 x1 u1 (X11_error b_a0) (X11_errorToken b_a0) (X2_names b_a2) (X2_warm b_a2) (X2_force b_a2) (X2_from b_a2) (X2_hours b_a2) (X2_count b_a2) 0 hf
  · have hf := ob_f hf c3
    refine sx_iconst X (v := 1) dX1_checkFront_15 rfl ?_
    refine sx_goto X 20 dX1_checkFront_16 rfl ?_
    refine sx_lsub [1, 2, 3, 0] rfl ?_
    exact R20 x1 u1 (X11_error b_a0) (X11_errorToken b_a0) (X2_names b_a2) (X2_warm b_a2) (X2_force b_a2) (X2_from b_a2) (X2_hours b_a2) (X2_count b_a2) 1 hf

abbrev vf_X4_find (r : Int32) : Option Value := some (.int r)
abbrev wc_X4_find (T : Nat → ClassId) (sd : SdT) (h : Nat) (h_names : Nat) (h_from : Nat) (h_weakest : Nat) (h_strongest : Nat) (h_nerve : Nat) (b_h : bX4) : va_W := [zO h 1 [.ref h_names, .ref h_from, .ref h_weakest, .ref h_strongest, .ref h_nerve, .int (X4_count b_h)], zJ T h_names 10 (X4_names b_h), zI T h_from 10 (X4_from b_h), zI T h_weakest 10 (X4_weakest b_h), zI T h_strongest 10 (X4_strongest b_h), zI T h_nerve 10 (X4_nerve b_h)]
abbrev wf_X4_find (T : Nat → ClassId) (sd : SdT) (h : Nat) (h_names : Nat) (h_from : Nat) (h_weakest : Nat) (h_strongest : Nat) (h_nerve : Nat) (b_h : bX4) (r : Int32) : va_W := [zO h 1 [.ref h_names, .ref h_from, .ref h_weakest, .ref h_strongest, .ref h_nerve, .int (X4_count b_h)], zJ T h_names 10 (X4_names b_h), zI T h_from 10 (X4_from b_h), zI T h_weakest 10 (X4_weakest b_h), zI T h_strongest 10 (X4_strongest b_h), zI T h_nerve 10 (X4_nerve b_h)]
abbrev rm_X4_find : Room := { frames := 0, cells := 0, slots := 0, locals := 0 }
theorem hd_X4_find : yX4_find.cls ≠ "java/lang/invoke/MethodHandle" ∧ yX4_find.cls ≠ "java/lang/invoke/VarHandle" ∧ (parseMethodDescriptor yX4_find.desc).map (fun d => d.parameters.length) = some 1 := ⟨by decide, by decide, by decide +kernel⟩
set_option maxHeartbeats 4000000 in
set_option maxRecDepth 100000 in
theorem c_X4_find {l : Launch} {D : va_G} {T : Nat → ClassId} {sd : SdT} (h : Nat) (h_names : Nat) (h_from : Nat) (h_weakest : Nat) (h_strongest : Nat) (h_nerve : Nat) (n : Nat) (x0 : Int64) (b_h : bX4) {res : Int32} (hf : f_X4_find n x0 b_h = some res) : SxK (SFx sd) l D T yX4_find cX4_find 4 (some .int) rm_X4_find [.ref h, .long x0] (wc_X4_find T sd h h_names h_from h_weakest h_strongest h_nerve b_h) vf_X4_find (wf_X4_find T sd h h_names h_from h_weakest h_strongest h_nerve b_h) res 0 0 := by
  refine sx_start (SFx_ok sd) (by decide +kernel) (Nat.le_of_ble_eq_true rfl) (fun p e s m args below meth c A X hnm => ?_)
  have hf := ob_1 hf
  have L2 : ∀ (v1 : Int64) (n0 : Nat) (v3 : Int32), (iter (fun s : Int32 => f_X4_find_L2 n x0 b_h v1 s) n0 v3).bind some = some res → SxG p l e rm_X4_find s m args below meth c D A 4 0 0 (SxE below args s D A vf_X4_find (wf_X4_find T sd h h_names h_from h_weakest h_strongest h_nerve b_h) res 0 0) [zO h 1 [.ref h_names, .ref h_from, .ref h_weakest, .ref h_strongest, .ref h_nerve, .int (X4_count b_h)], zJ T h_names 10 (X4_names b_h), zI T h_from 10 (X4_from b_h), zI T h_weakest 10 (X4_weakest b_h), zI T h_strongest 10 (X4_strongest b_h), zI T h_nerve 10 (X4_nerve b_h)] [(0, .ref h), (1, .long v1), (3, .int v3)] 2 [] := by
    intro v1 n0
    induction n0 with
    | zero =>
      intro v3 hf
      exact (iter_z hf).elim
    | succ n0 ih2 =>
      intro v3 hf
      obtain ⟨κ2, hκ2, hf⟩ := iter_k hf
      have hf : (f_X4_find_L2 n x0 b_h v1 v3).bind κ2 = some res := hf
      refine sx_iload_n X 2 rfl dX4_find_2 rfl ?_
      refine sx_aload_n X 0 rfl dX4_find_3 rfl ?_
      refine sx_get X kX4 0 rfl 5 (Nat.le_of_ble_eq_true rfl) qm_236 rfl dX4_find_4 ?_
      refine sx_icmp_ge X 29 dX4_find_7 rfl (fun c1 => ?_) (fun c1 => ?_)
      · have hf := ob_t hf c1
        refine sx_iconst X (v := (-1)) dX4_find_29 rfl ?_
        have hf := ob_kr hκ2 hf
        exact sx_iret X rfl dX4_find_30 (ob_e hf) rfl rfl
      · have hf := ob_f hf c1
        refine sx_aload_n X 0 rfl dX4_find_10 rfl ?_
        refine sx_get X kX4 0 rfl 0 (Nat.le_of_ble_eq_true rfl) qm_227 rfl dX4_find_11 ?_
        refine sx_iload_n X 2 rfl dX4_find_14 rfl ?_
        obtain ⟨g2, hf⟩ := ob_g hf
        refine sx_lald X 1 rfl g2 dX4_find_15 ?_
        refine sx_lload_n X 1 rfl dX4_find_16 rfl ?_
        refine sx_lcmp X dX4_find_17 ?_
        refine sx_if_ne X 23 dX4_find_18 rfl (fun c3 => ?_) (fun c3 => ?_)
        · have hf := ob_f hf c3
          refine sx_iinc X (v := (v3 + 1)) (lv' := [(3, .int (v3 + 1)), (0, .ref h), (1, .long v1)]) 2 rfl dX4_find_23 rfl (by decide) rfl ?_
          refine sx_goto X 2 dX4_find_26 rfl ?_
          have hf := ob_k hκ2 hf
          refine sx_lsub [1, 2, 0] rfl ?_
          exact ih2 (v3 + 1) hf
        · have hf := ob_t hf c3
          refine sx_iload_n X 2 rfl dX4_find_21 rfl ?_
          have hf := ob_kr hκ2 hf
          exact sx_iret X rfl dX4_find_22 (ob_e hf) rfl rfl
  refine sx_iconst X (v := 0) dX4_find_0 rfl ?_
  refine sx_istore_n X (lv' := [(3, .int 0), (0, .ref h), (1, .long x0)]) dX4_find_1 rfl (by decide) rfl ?_
  refine sx_lsub [1, 2, 0] rfl ?_
  exact L2 x0 n 0 hf

abbrev vf_X4_add (_r : (Nat → Int64) × (Nat → Int32) × (Nat → Int32) × (Nat → Int32) × (Nat → Int32) × Int32) : Option Value := none
abbrev wc_X4_add (T : Nat → ClassId) (sd : SdT) (h : Nat) (h_names : Nat) (h_from : Nat) (h_weakest : Nat) (h_strongest : Nat) (h_nerve : Nat) (b_h : bX4) : va_W := [zO h 1 [.ref h_names, .ref h_from, .ref h_weakest, .ref h_strongest, .ref h_nerve, .int (X4_count b_h)], zJ T h_names 10 (X4_names b_h), zI T h_from 10 (X4_from b_h), zI T h_weakest 10 (X4_weakest b_h), zI T h_strongest 10 (X4_strongest b_h), zI T h_nerve 10 (X4_nerve b_h)]
abbrev wf_X4_add (T : Nat → ClassId) (sd : SdT) (h : Nat) (h_names : Nat) (h_from : Nat) (h_weakest : Nat) (h_strongest : Nat) (h_nerve : Nat) (b_h : bX4) (r : (Nat → Int64) × (Nat → Int32) × (Nat → Int32) × (Nat → Int32) × (Nat → Int32) × Int32) : va_W := [zO h 1 [.ref h_names, .ref h_from, .ref h_weakest, .ref h_strongest, .ref h_nerve, .int r.2.2.2.2.2], zJ T h_names 10 r.1, zI T h_from 10 r.2.1, zI T h_weakest 10 r.2.2.1, zI T h_strongest 10 r.2.2.2.1, zI T h_nerve 10 r.2.2.2.2.1]
abbrev rm_X4_add : Room := { frames := 0, cells := 0, slots := 0, locals := 0 }
theorem hd_X4_add : yX4_add.cls ≠ "java/lang/invoke/MethodHandle" ∧ yX4_add.cls ≠ "java/lang/invoke/VarHandle" ∧ (parseMethodDescriptor yX4_add.desc).map (fun d => d.parameters.length) = some 5 := ⟨by decide, by decide, by decide +kernel⟩
set_option maxHeartbeats 4000000 in
set_option maxRecDepth 100000 in
theorem c_X4_add {l : Launch} {D : va_G} {T : Nat → ClassId} {sd : SdT} (h : Nat) (h_names : Nat) (h_from : Nat) (h_weakest : Nat) (h_strongest : Nat) (h_nerve : Nat) (x0 : Int64) (x1 : Int32) (x2 : Int32) (x3 : Int32) (x4 : Int32) (b_h : bX4) {res : (Nat → Int64) × (Nat → Int32) × (Nat → Int32) × (Nat → Int32) × (Nat → Int32) × Int32} (hf : f_X4_add x0 x1 x2 x3 x4 b_h = some res) : SxK (SFx sd) l D T yX4_add cX4_add 7 none rm_X4_add [.ref h, .long x0, .int x1, .int x2, .int x3, .int x4] (wc_X4_add T sd h h_names h_from h_weakest h_strongest h_nerve b_h) vf_X4_add (wf_X4_add T sd h h_names h_from h_weakest h_strongest h_nerve b_h) res 0 0 := by
  refine sx_start (SFx_ok sd) (by decide +kernel) (Nat.le_of_ble_eq_true rfl) (fun p e s m args below meth c A X hnm => ?_)
  have hf := ob_1 hf
  refine sx_aload_n X 0 rfl dX4_add_0 rfl ?_
  refine sx_get X kX4 0 rfl 5 (Nat.le_of_ble_eq_true rfl) qm_236 rfl dX4_add_1 ?_
  refine sx_bipush X (v := 10) dX4_add_4 rfl ?_
  refine sx_icmp_ge X 72 dX4_add_6 rfl (fun c1 => ?_) (fun c1 => ?_)
  · have hf := ob_t hf c1
    exact sx_vret X dX4_add_72 (ob_e hf) rfl rfl
  · have hf := ob_f hf c1
    refine sx_aload_n X 0 rfl dX4_add_9 rfl ?_
    refine sx_get X kX4 0 rfl 0 (Nat.le_of_ble_eq_true rfl) qm_227 rfl dX4_add_10 ?_
    refine sx_aload_n X 0 rfl dX4_add_13 rfl ?_
    refine sx_get X kX4 0 rfl 5 (Nat.le_of_ble_eq_true rfl) qm_236 rfl dX4_add_14 ?_
    refine sx_lload_n X 1 rfl dX4_add_17 rfl ?_
    obtain ⟨g2, hf⟩ := ob_g hf
    refine sx_last X (ws' := [zO h 1 [.ref h_names, .ref h_from, .ref h_weakest, .ref h_strongest, .ref h_nerve, .int (X4_count b_h)], zJ T h_names 10 (vp_updL (X4_names b_h) (X4_count b_h).toNatClampNeg x0), zI T h_from 10 (X4_from b_h), zI T h_weakest 10 (X4_weakest b_h), zI T h_strongest 10 (X4_strongest b_h), zI T h_nerve 10 (X4_nerve b_h)]) 1 rfl g2 rfl dX4_add_18 ?_
    refine sx_aload_n X 0 rfl dX4_add_19 rfl ?_
    refine sx_get X kX4 0 rfl 1 (Nat.le_of_ble_eq_true rfl) qm_228 rfl dX4_add_20 ?_
    refine sx_aload_n X 0 rfl dX4_add_23 rfl ?_
    refine sx_get X kX4 0 rfl 5 (Nat.le_of_ble_eq_true rfl) qm_236 rfl dX4_add_24 ?_
    refine sx_iload_n X 2 rfl dX4_add_27 rfl ?_
    obtain ⟨g3, hf⟩ := ob_g hf
    refine sx_iast X (ws' := [zO h 1 [.ref h_names, .ref h_from, .ref h_weakest, .ref h_strongest, .ref h_nerve, .int (X4_count b_h)], zJ T h_names 10 (vp_updL (X4_names b_h) (X4_count b_h).toNatClampNeg x0), zI T h_from 10 (upd (X4_from b_h) (X4_count b_h).toNatClampNeg x1), zI T h_weakest 10 (X4_weakest b_h), zI T h_strongest 10 (X4_strongest b_h), zI T h_nerve 10 (X4_nerve b_h)]) 2 rfl g3 rfl dX4_add_28 ?_
    refine sx_aload_n X 0 rfl dX4_add_29 rfl ?_
    refine sx_get X kX4 0 rfl 2 (Nat.le_of_ble_eq_true rfl) qm_230 rfl dX4_add_30 ?_
    refine sx_aload_n X 0 rfl dX4_add_33 rfl ?_
    refine sx_get X kX4 0 rfl 5 (Nat.le_of_ble_eq_true rfl) qm_236 rfl dX4_add_34 ?_
    refine sx_iload X 3 rfl dX4_add_37 ?_
    obtain ⟨g4, hf⟩ := ob_g hf
    refine sx_iast X (ws' := [zO h 1 [.ref h_names, .ref h_from, .ref h_weakest, .ref h_strongest, .ref h_nerve, .int (X4_count b_h)], zJ T h_names 10 (vp_updL (X4_names b_h) (X4_count b_h).toNatClampNeg x0), zI T h_from 10 (upd (X4_from b_h) (X4_count b_h).toNatClampNeg x1), zI T h_weakest 10 (upd (X4_weakest b_h) (X4_count b_h).toNatClampNeg x2), zI T h_strongest 10 (X4_strongest b_h), zI T h_nerve 10 (X4_nerve b_h)]) 3 rfl g4 rfl dX4_add_39 ?_
    refine sx_aload_n X 0 rfl dX4_add_40 rfl ?_
    refine sx_get X kX4 0 rfl 3 (Nat.le_of_ble_eq_true rfl) qm_232 rfl dX4_add_41 ?_
    refine sx_aload_n X 0 rfl dX4_add_44 rfl ?_
    refine sx_get X kX4 0 rfl 5 (Nat.le_of_ble_eq_true rfl) qm_236 rfl dX4_add_45 ?_
    refine sx_iload X 4 rfl dX4_add_48 ?_
    obtain ⟨g5, hf⟩ := ob_g hf
    refine sx_iast X (ws' := [zO h 1 [.ref h_names, .ref h_from, .ref h_weakest, .ref h_strongest, .ref h_nerve, .int (X4_count b_h)], zJ T h_names 10 (vp_updL (X4_names b_h) (X4_count b_h).toNatClampNeg x0), zI T h_from 10 (upd (X4_from b_h) (X4_count b_h).toNatClampNeg x1), zI T h_weakest 10 (upd (X4_weakest b_h) (X4_count b_h).toNatClampNeg x2), zI T h_strongest 10 (upd (X4_strongest b_h) (X4_count b_h).toNatClampNeg x3), zI T h_nerve 10 (X4_nerve b_h)]) 4 rfl g5 rfl dX4_add_50 ?_
    refine sx_aload_n X 0 rfl dX4_add_51 rfl ?_
    refine sx_get X kX4 0 rfl 4 (Nat.le_of_ble_eq_true rfl) qm_234 rfl dX4_add_52 ?_
    refine sx_aload_n X 0 rfl dX4_add_55 rfl ?_
    refine sx_get X kX4 0 rfl 5 (Nat.le_of_ble_eq_true rfl) qm_236 rfl dX4_add_56 ?_
    refine sx_iload X 5 rfl dX4_add_59 ?_
    obtain ⟨g6, hf⟩ := ob_g hf
    refine sx_iast X (ws' := [zO h 1 [.ref h_names, .ref h_from, .ref h_weakest, .ref h_strongest, .ref h_nerve, .int (X4_count b_h)], zJ T h_names 10 (vp_updL (X4_names b_h) (X4_count b_h).toNatClampNeg x0), zI T h_from 10 (upd (X4_from b_h) (X4_count b_h).toNatClampNeg x1), zI T h_weakest 10 (upd (X4_weakest b_h) (X4_count b_h).toNatClampNeg x2), zI T h_strongest 10 (upd (X4_strongest b_h) (X4_count b_h).toNatClampNeg x3), zI T h_nerve 10 (upd (X4_nerve b_h) (X4_count b_h).toNatClampNeg x4)]) 5 rfl g6 rfl dX4_add_61 ?_
    refine sx_aload_n X 0 rfl dX4_add_62 rfl ?_
    refine sx_dup X dX4_add_63 rfl ?_
    refine sx_get X kX4 0 rfl 5 (Nat.le_of_ble_eq_true rfl) qm_236 rfl dX4_add_64 ?_
    refine sx_iconst X (v := 1) dX4_add_67 rfl ?_
    refine sx_iadd X dX4_add_68 ?_
    refine sx_put X (ws' := [zO h 1 [.ref h_names, .ref h_from, .ref h_weakest, .ref h_strongest, .ref h_nerve, .int ((X4_count b_h) + 1)], zJ T h_names 10 (vp_updL (X4_names b_h) (X4_count b_h).toNatClampNeg x0), zI T h_from 10 (upd (X4_from b_h) (X4_count b_h).toNatClampNeg x1), zI T h_weakest 10 (upd (X4_weakest b_h) (X4_count b_h).toNatClampNeg x2), zI T h_strongest 10 (upd (X4_strongest b_h) (X4_count b_h).toNatClampNeg x3), zI T h_nerve 10 (upd (X4_nerve b_h) (X4_count b_h).toNatClampNeg x4)]) kX4 0 rfl 5 (Nat.le_of_ble_eq_true rfl) qm_236 rfl rfl rfl (Nat.le_of_ble_eq_true rfl) rfl dX4_add_69 ?_
    exact sx_vret X dX4_add_72 (ob_e hf) rfl rfl

abbrev vf_X1_checkGuest (_r : Int32 × Int32 × (Nat → Int64) × (Nat → Int32) × (Nat → Int32) × (Nat → Int32) × (Nat → Int32) × Int32) : Option Value := none
abbrev wc_X1_checkGuest (T : Nat → ClassId) (sd : SdT) (a0 : Nat) (a0_kinds : Nat) (a0_starts : Nat) (a0_values : Nat) (a2 : Nat) (a2_names : Nat) (a2_from : Nat) (a2_weakest : Nat) (a2_strongest : Nat) (a2_nerve : Nat) (b_a0 : bX11) (b_a2 : bX4) : va_W := [zO a0 7 [.ref a0_kinds, .ref a0_starts, .ref a0_values, .int (X11_count b_a0), .int (X11_cursor b_a0), .int (X11_error b_a0), .int (X11_errorToken b_a0)], zK T sd.1 a0_kinds 401 (X11_kinds b_a0), zI T a0_starts 401 (X11_starts b_a0), zJ T a0_values 401 (X11_values b_a0), zO a2 1 [.ref a2_names, .ref a2_from, .ref a2_weakest, .ref a2_strongest, .ref a2_nerve, .int (X4_count b_a2)], zJ T a2_names 10 (X4_names b_a2), zI T a2_from 10 (X4_from b_a2), zI T a2_weakest 10 (X4_weakest b_a2), zI T a2_strongest 10 (X4_strongest b_a2), zI T a2_nerve 10 (X4_nerve b_a2)]
abbrev wf_X1_checkGuest (T : Nat → ClassId) (sd : SdT) (a0 : Nat) (a0_kinds : Nat) (a0_starts : Nat) (a0_values : Nat) (a2 : Nat) (a2_names : Nat) (a2_from : Nat) (a2_weakest : Nat) (a2_strongest : Nat) (a2_nerve : Nat) (b_a0 : bX11) (b_a2 : bX4) (r : Int32 × Int32 × (Nat → Int64) × (Nat → Int32) × (Nat → Int32) × (Nat → Int32) × (Nat → Int32) × Int32) : va_W := [zO a0 7 [.ref a0_kinds, .ref a0_starts, .ref a0_values, .int (X11_count b_a0), .int (X11_cursor b_a0), .int r.1, .int r.2.1], zK T sd.1 a0_kinds 401 (X11_kinds b_a0), zI T a0_starts 401 (X11_starts b_a0), zJ T a0_values 401 (X11_values b_a0), zO a2 1 [.ref a2_names, .ref a2_from, .ref a2_weakest, .ref a2_strongest, .ref a2_nerve, .int r.2.2.2.2.2.2.2], zJ T a2_names 10 r.2.2.1, zI T a2_from 10 r.2.2.2.1, zI T a2_weakest 10 r.2.2.2.2.1, zI T a2_strongest 10 r.2.2.2.2.2.1, zI T a2_nerve 10 r.2.2.2.2.2.2.1]
abbrev rm_X1_checkGuest : Room := { frames := 3, cells := 0, slots := 0, locals := 66 }
theorem hd_X1_checkGuest : yX1_checkGuest.cls ≠ "java/lang/invoke/MethodHandle" ∧ yX1_checkGuest.cls ≠ "java/lang/invoke/VarHandle" ∧ (parseMethodDescriptor yX1_checkGuest.desc).map (fun d => d.parameters.length) = some 3 := ⟨by decide, by decide, by decide +kernel⟩
set_option maxHeartbeats 4000000 in
set_option maxRecDepth 100000 in
theorem c_X1_checkGuest {l : Launch} {D : va_G} {T : Nat → ClassId} {sd : SdT} (a0 : Nat) (a0_kinds : Nat) (a0_starts : Nat) (a0_values : Nat) (a2 : Nat) (a2_names : Nat) (a2_from : Nat) (a2_weakest : Nat) (a2_strongest : Nat) (a2_nerve : Nat) (n : Nat) (x1 : Int32) (b_a0 : bX11) (b_a2 : bX4) {res : Int32 × Int32 × (Nat → Int64) × (Nat → Int32) × (Nat → Int32) × (Nat → Int32) × (Nat → Int32) × Int32} (hf : f_X1_checkGuest n x1 b_a0 b_a2 = some res) : SxK (SFx sd) l D T yX1_checkGuest cX1_checkGuest 9 none rm_X1_checkGuest [.ref a0, .int x1, .ref a2] (wc_X1_checkGuest T sd a0 a0_kinds a0_starts a0_values a2 a2_names a2_from a2_weakest a2_strongest a2_nerve b_a0 b_a2) vf_X1_checkGuest (wf_X1_checkGuest T sd a0 a0_kinds a0_starts a0_values a2 a2_names a2_from a2_weakest a2_strongest a2_nerve b_a0 b_a2) res 0 0 := by
  refine sx_start (SFx_ok sd) (by decide +kernel) (Nat.le_of_ble_eq_true rfl) (fun p e s m args below meth c A X hnm => ?_)
  have hf := ob_1 hf
  have R40 : ∀ (v1 : Int32) (v3 : Int64) (w_a0_error : Int32) (w_a0_errorToken : Int32) (w_a2_names : Nat → Int64) (w_a2_from : Nat → Int32) (w_a2_weakest : Nat → Int32) (w_a2_strongest : Nat → Int32) (w_a2_nerve : Nat → Int32) (w_a2_count : Int32) (t0 : Int32), (f_X1_checkGuest_R40 n x1 b_a0 b_a2 v1 v3 w_a0_error w_a0_errorToken w_a2_names w_a2_from w_a2_weakest w_a2_strongest w_a2_nerve w_a2_count t0).bind some = some res → SxG p l e rm_X1_checkGuest s m args below meth c D A 9 0 0 (SxE below args s D A vf_X1_checkGuest (wf_X1_checkGuest T sd a0 a0_kinds a0_starts a0_values a2 a2_names a2_from a2_weakest a2_strongest a2_nerve b_a0 b_a2) res 0 0) [zO a0 7 [.ref a0_kinds, .ref a0_starts, .ref a0_values, .int (X11_count b_a0), .int (X11_cursor b_a0), .int w_a0_error, .int w_a0_errorToken], zK T sd.1 a0_kinds 401 (X11_kinds b_a0), zI T a0_starts 401 (X11_starts b_a0), zJ T a0_values 401 (X11_values b_a0), zO a2 1 [.ref a2_names, .ref a2_from, .ref a2_weakest, .ref a2_strongest, .ref a2_nerve, .int w_a2_count], zJ T a2_names 10 w_a2_names, zI T a2_from 10 w_a2_from, zI T a2_weakest 10 w_a2_weakest, zI T a2_strongest 10 w_a2_strongest, zI T a2_nerve 10 w_a2_nerve] [(0, .ref a0), (1, .int v1), (2, .ref a2), (3, .long v3)] 40 [.int t0, .ref a0] := by
    intro v1 v3 w_a0_error w_a0_errorToken w_a2_names w_a2_from w_a2_weakest w_a2_strongest w_a2_nerve w_a2_count t0 hf
    refine sx_iconst X (v := 4) dX1_checkGuest_40 rfl ?_
    refine sx_iload_n X 1 rfl dX1_checkGuest_41 rfl ?_
    obtain ⟨u6, hu6, hf⟩ := ob_c hf
    refine sx_cV X (c_X11_failUnless (l := l) (D := D) (T := T) (sd := sd) a0 a0_kinds a0_starts a0_values t0 4 v1 ((X11_kinds b_a0), (X11_starts b_a0), (X11_values b_a0), (X11_count b_a0), (X11_cursor b_a0), w_a0_error, w_a0_errorToken) hu6) (st' := []) (q0 := 0) qm_650 qm_629 qm_630 qm_70 qm_631 hd_X11_failUnless ⟨rfl, rfl⟩ ⟨Nat.le_of_ble_eq_true rfl, Nat.le_of_ble_eq_true rfl⟩ rfl rfl (Nat.le_of_ble_eq_true rfl) rfl rfl rfl [0, 1, 2, 3] rfl rfl (ws' := [zO a0 7 [.ref a0_kinds, .ref a0_starts, .ref a0_values, .int (X11_count b_a0), .int (X11_cursor b_a0), .int u6.1, .int u6.2], zK T sd.1 a0_kinds 401 (X11_kinds b_a0), zI T a0_starts 401 (X11_starts b_a0), zJ T a0_values 401 (X11_values b_a0), zO a2 1 [.ref a2_names, .ref a2_from, .ref a2_weakest, .ref a2_strongest, .ref a2_nerve, .int w_a2_count], zJ T a2_names 10 w_a2_names, zI T a2_from 10 w_a2_from, zI T a2_weakest 10 w_a2_weakest, zI T a2_strongest 10 w_a2_strongest, zI T a2_nerve 10 w_a2_nerve]) rfl rfl ⟨Nat.le_of_ble_eq_true rfl, Nat.le_of_ble_eq_true rfl⟩ dX1_checkGuest_42 rfl ?_
    refine sx_aload_n X 0 rfl dX1_checkGuest_45 rfl ?_
    refine sx_iload_n X 1 rfl dX1_checkGuest_46 rfl ?_
    refine sx_iconst X (v := 2) dX1_checkGuest_47 rfl ?_
    refine sx_iadd X dX1_checkGuest_48 ?_
    refine sx_iconst X (v := 0) dX1_checkGuest_49 rfl ?_
    refine sx_bipush X (v := 60) dX1_checkGuest_50 rfl ?_
    obtain ⟨u7, hu7, hf⟩ := ob_c hf
    refine sx_cS X (c_X1_numberIn (l := l) (D := D) (T := T) (sd := sd) a0 a0_kinds a0_starts a0_values (v1 + 2) 0 60 ((X11_kinds b_a0), (X11_starts b_a0), (X11_values b_a0), (X11_count b_a0), (X11_cursor b_a0), u6.1, u6.2) hu7) (st' := [.int u7.1]) qm_668 qm_669 qm_92 qm_670 hd_X1_numberIn ⟨rfl, rfl⟩ ⟨Nat.le_of_ble_eq_true rfl, Nat.le_of_ble_eq_true rfl⟩ rfl rfl (Nat.le_of_ble_eq_true rfl) [0, 1, 2, 3] rfl rfl (ws' := [zO a0 7 [.ref a0_kinds, .ref a0_starts, .ref a0_values, .int (X11_count b_a0), .int (X11_cursor b_a0), .int u7.2.1, .int u7.2.2], zK T sd.1 a0_kinds 401 (X11_kinds b_a0), zI T a0_starts 401 (X11_starts b_a0), zJ T a0_values 401 (X11_values b_a0), zO a2 1 [.ref a2_names, .ref a2_from, .ref a2_weakest, .ref a2_strongest, .ref a2_nerve, .int w_a2_count], zJ T a2_names 10 w_a2_names, zI T a2_from 10 w_a2_from, zI T a2_weakest 10 w_a2_weakest, zI T a2_strongest 10 w_a2_strongest, zI T a2_nerve 10 w_a2_nerve]) rfl rfl ⟨Nat.le_of_ble_eq_true rfl, Nat.le_of_ble_eq_true rfl⟩ dX1_checkGuest_52 rfl ?_
    refine sx_istore X (lv' := [(5, .int u7.1), (0, .ref a0), (1, .int v1), (2, .ref a2), (3, .long v3)]) dX1_checkGuest_55 (by decide) rfl ?_
    refine sx_aload_n X 1 rfl dX1_checkGuest_57 rfl ?_
    refine sx_iload_n X 2 rfl dX1_checkGuest_58 rfl ?_
    refine sx_iconst X (v := 4) dX1_checkGuest_59 rfl ?_
    refine sx_iadd X dX1_checkGuest_60 ?_
    refine sx_iconst X (v := 0) dX1_checkGuest_61 rfl ?_
    refine sx_bipush X (v := 30) dX1_checkGuest_62 rfl ?_
    obtain ⟨u8, hu8, hf⟩ := ob_c hf
    refine sx_cS X (c_X1_numberIn (l := l) (D := D) (T := T) (sd := sd) a0 a0_kinds a0_starts a0_values (v1 + 4) 0 30 ((X11_kinds b_a0), (X11_starts b_a0), (X11_values b_a0), (X11_count b_a0), (X11_cursor b_a0), u7.2.1, u7.2.2) hu8) (st' := [.int u8.1]) qm_668 qm_669 qm_92 qm_670 hd_X1_numberIn ⟨rfl, rfl⟩ ⟨Nat.le_of_ble_eq_true rfl, Nat.le_of_ble_eq_true rfl⟩ rfl rfl (Nat.le_of_ble_eq_true rfl) [0, 1, 2, 3] rfl rfl (ws' := [zO a0 7 [.ref a0_kinds, .ref a0_starts, .ref a0_values, .int (X11_count b_a0), .int (X11_cursor b_a0), .int u8.2.1, .int u8.2.2], zK T sd.1 a0_kinds 401 (X11_kinds b_a0), zI T a0_starts 401 (X11_starts b_a0), zJ T a0_values 401 (X11_values b_a0), zO a2 1 [.ref a2_names, .ref a2_from, .ref a2_weakest, .ref a2_strongest, .ref a2_nerve, .int w_a2_count], zJ T a2_names 10 w_a2_names, zI T a2_from 10 w_a2_from, zI T a2_weakest 10 w_a2_weakest, zI T a2_strongest 10 w_a2_strongest, zI T a2_nerve 10 w_a2_nerve]) rfl rfl ⟨Nat.le_of_ble_eq_true rfl, Nat.le_of_ble_eq_true rfl⟩ dX1_checkGuest_64 rfl ?_
    refine sx_istore X (lv' := [(6, .int u8.1), (5, .int u7.1), (0, .ref a0), (1, .int v1), (2, .ref a2), (3, .long v3)]) dX1_checkGuest_67 (by decide) rfl ?_
    refine sx_aload_n X 2 rfl dX1_checkGuest_69 rfl ?_
    refine sx_iload_n X 3 rfl dX1_checkGuest_70 rfl ?_
    refine sx_bipush X (v := 6) dX1_checkGuest_71 rfl ?_
    refine sx_iadd X dX1_checkGuest_73 ?_
    refine sx_iload X 0 rfl dX1_checkGuest_74 ?_
    refine sx_bipush X (v := 30) dX1_checkGuest_76 rfl ?_
    obtain ⟨u9, hu9, hf⟩ := ob_c hf
    refine sx_cS X (c_X1_numberIn (l := l) (D := D) (T := T) (sd := sd) a0 a0_kinds a0_starts a0_values (v1 + 6) u8.1 30 ((X11_kinds b_a0), (X11_starts b_a0), (X11_values b_a0), (X11_count b_a0), (X11_cursor b_a0), u8.2.1, u8.2.2) hu9) (st' := [.int u9.1]) qm_668 qm_669 qm_92 qm_670 hd_X1_numberIn ⟨rfl, rfl⟩ ⟨Nat.le_of_ble_eq_true rfl, Nat.le_of_ble_eq_true rfl⟩ rfl rfl (Nat.le_of_ble_eq_true rfl) [0, 1, 2, 3] rfl rfl (ws' := [zO a0 7 [.ref a0_kinds, .ref a0_starts, .ref a0_values, .int (X11_count b_a0), .int (X11_cursor b_a0), .int u9.2.1, .int u9.2.2], zK T sd.1 a0_kinds 401 (X11_kinds b_a0), zI T a0_starts 401 (X11_starts b_a0), zJ T a0_values 401 (X11_values b_a0), zO a2 1 [.ref a2_names, .ref a2_from, .ref a2_weakest, .ref a2_strongest, .ref a2_nerve, .int w_a2_count], zJ T a2_names 10 w_a2_names, zI T a2_from 10 w_a2_from, zI T a2_weakest 10 w_a2_weakest, zI T a2_strongest 10 w_a2_strongest, zI T a2_nerve 10 w_a2_nerve]) rfl rfl ⟨Nat.le_of_ble_eq_true rfl, Nat.le_of_ble_eq_true rfl⟩ dX1_checkGuest_78 rfl ?_
    refine sx_istore X (lv' := [(7, .int u9.1), (6, .int u8.1), (5, .int u7.1), (0, .ref a0), (1, .int v1), (2, .ref a2), (3, .long v3)]) dX1_checkGuest_81 (by decide) rfl ?_
    refine sx_aload_n X 3 rfl dX1_checkGuest_83 rfl ?_
    refine sx_iload_n X 4 rfl dX1_checkGuest_84 rfl ?_
    refine sx_bipush X (v := 8) dX1_checkGuest_85 rfl ?_
    refine sx_iadd X dX1_checkGuest_87 ?_
    refine sx_iconst X (v := 0) dX1_checkGuest_88 rfl ?_
    refine sx_bipush X (v := 20) dX1_checkGuest_89 rfl ?_
    obtain ⟨u10, hu10, hf⟩ := ob_c hf
    refine sx_cS X (c_X1_numberIn (l := l) (D := D) (T := T) (sd := sd) a0 a0_kinds a0_starts a0_values (v1 + 8) 0 20 ((X11_kinds b_a0), (X11_starts b_a0), (X11_values b_a0), (X11_count b_a0), (X11_cursor b_a0), u9.2.1, u9.2.2) hu10) (st' := [.int u10.1]) qm_668 qm_669 qm_92 qm_670 hd_X1_numberIn ⟨rfl, rfl⟩ ⟨Nat.le_of_ble_eq_true rfl, Nat.le_of_ble_eq_true rfl⟩ rfl rfl (Nat.le_of_ble_eq_true rfl) [0, 1, 2, 3] rfl rfl (ws' := [zO a0 7 [.ref a0_kinds, .ref a0_starts, .ref a0_values, .int (X11_count b_a0), .int (X11_cursor b_a0), .int u10.2.1, .int u10.2.2], zK T sd.1 a0_kinds 401 (X11_kinds b_a0), zI T a0_starts 401 (X11_starts b_a0), zJ T a0_values 401 (X11_values b_a0), zO a2 1 [.ref a2_names, .ref a2_from, .ref a2_weakest, .ref a2_strongest, .ref a2_nerve, .int w_a2_count], zJ T a2_names 10 w_a2_names, zI T a2_from 10 w_a2_from, zI T a2_weakest 10 w_a2_weakest, zI T a2_strongest 10 w_a2_strongest, zI T a2_nerve 10 w_a2_nerve]) rfl rfl ⟨Nat.le_of_ble_eq_true rfl, Nat.le_of_ble_eq_true rfl⟩ dX1_checkGuest_91 rfl ?_
    refine sx_istore X (lv' := [(8, .int u10.1), (7, .int u9.1), (6, .int u8.1), (5, .int u7.1), (0, .ref a0), (1, .int v1), (2, .ref a2), (3, .long v3)]) dX1_checkGuest_94 (by decide) rfl ?_
    refine sx_aload_n X 6 rfl dX1_checkGuest_96 rfl ?_
    refine sx_lload_n X 7 rfl dX1_checkGuest_97 rfl ?_
    refine sx_iload X 3 rfl dX1_checkGuest_98 ?_
    refine sx_iload X 2 rfl dX1_checkGuest_100 ?_
    refine sx_iload X 1 rfl dX1_checkGuest_102 ?_
    refine sx_iload X 0 rfl dX1_checkGuest_104 ?_
    obtain ⟨u11, hu11, hf⟩ := ob_c hf
    refine sx_cV X (c_X4_add (l := l) (D := D) (T := T) (sd := sd) a2 a2_names a2_from a2_weakest a2_strongest a2_nerve v3 u7.1 u8.1 u9.1 u10.1 (w_a2_names, w_a2_from, w_a2_weakest, w_a2_strongest, w_a2_nerve, w_a2_count) hu11) (st' := []) (q0 := 4) qm_682 qm_683 qm_684 qm_77 qm_685 hd_X4_add ⟨rfl, rfl⟩ ⟨Nat.le_of_ble_eq_true rfl, Nat.le_of_ble_eq_true rfl⟩ rfl rfl (Nat.le_of_ble_eq_true rfl) rfl rfl rfl [4, 5, 6, 7, 8, 9] rfl rfl (ws' := [zO a0 7 [.ref a0_kinds, .ref a0_starts, .ref a0_values, .int (X11_count b_a0), .int (X11_cursor b_a0), .int u10.2.1, .int u10.2.2], zK T sd.1 a0_kinds 401 (X11_kinds b_a0), zI T a0_starts 401 (X11_starts b_a0), zJ T a0_values 401 (X11_values b_a0), zO a2 1 [.ref a2_names, .ref a2_from, .ref a2_weakest, .ref a2_strongest, .ref a2_nerve, .int u11.2.2.2.2.2], zJ T a2_names 10 u11.1, zI T a2_from 10 u11.2.1, zI T a2_weakest 10 u11.2.2.1, zI T a2_strongest 10 u11.2.2.2.1, zI T a2_nerve 10 u11.2.2.2.2.1]) rfl rfl ⟨Nat.le_of_ble_eq_true rfl, Nat.le_of_ble_eq_true rfl⟩ dX1_checkGuest_106 rfl ?_
    exact sx_vret X dX1_checkGuest_109 (ob_e hf) rfl rfl
  have R20 : ∀ (v1 : Int32) (v3 : Int64) (w_a0_error : Int32) (w_a0_errorToken : Int32) (w_a2_names : Nat → Int64) (w_a2_from : Nat → Int32) (w_a2_weakest : Nat → Int32) (w_a2_strongest : Nat → Int32) (w_a2_nerve : Nat → Int32) (w_a2_count : Int32) (t0 : Int32), (f_X1_checkGuest_R20 n x1 b_a0 b_a2 v1 v3 w_a0_error w_a0_errorToken w_a2_names w_a2_from w_a2_weakest w_a2_strongest w_a2_nerve w_a2_count t0).bind some = some res → SxG p l e rm_X1_checkGuest s m args below meth c D A 9 0 0 (SxE below args s D A vf_X1_checkGuest (wf_X1_checkGuest T sd a0 a0_kinds a0_starts a0_values a2 a2_names a2_from a2_weakest a2_strongest a2_nerve b_a0 b_a2) res 0 0) [zO a0 7 [.ref a0_kinds, .ref a0_starts, .ref a0_values, .int (X11_count b_a0), .int (X11_cursor b_a0), .int w_a0_error, .int w_a0_errorToken], zK T sd.1 a0_kinds 401 (X11_kinds b_a0), zI T a0_starts 401 (X11_starts b_a0), zJ T a0_values 401 (X11_values b_a0), zO a2 1 [.ref a2_names, .ref a2_from, .ref a2_weakest, .ref a2_strongest, .ref a2_nerve, .int w_a2_count], zJ T a2_names 10 w_a2_names, zI T a2_from 10 w_a2_from, zI T a2_weakest 10 w_a2_weakest, zI T a2_strongest 10 w_a2_strongest, zI T a2_nerve 10 w_a2_nerve] [(0, .ref a0), (1, .int v1), (2, .ref a2), (3, .long v3)] 20 [.int t0, .ref a0] := by
    intro v1 v3 w_a0_error w_a0_errorToken w_a2_names w_a2_from w_a2_weakest w_a2_strongest w_a2_nerve w_a2_count t0 hf
    refine sx_iconst X (v := 2) dX1_checkGuest_20 rfl ?_
    refine sx_iload_n X 1 rfl dX1_checkGuest_21 rfl ?_
    obtain ⟨u4, hu4, hf⟩ := ob_c hf
    refine sx_cV X (c_X11_failUnless (l := l) (D := D) (T := T) (sd := sd) a0 a0_kinds a0_starts a0_values t0 2 v1 ((X11_kinds b_a0), (X11_starts b_a0), (X11_values b_a0), (X11_count b_a0), (X11_cursor b_a0), w_a0_error, w_a0_errorToken) hu4) (st' := []) (q0 := 0) qm_650 qm_629 qm_630 qm_70 qm_631 hd_X11_failUnless ⟨rfl, rfl⟩ ⟨Nat.le_of_ble_eq_true rfl, Nat.le_of_ble_eq_true rfl⟩ rfl rfl (Nat.le_of_ble_eq_true rfl) rfl rfl rfl [0, 1, 2, 3] rfl rfl (ws' := [zO a0 7 [.ref a0_kinds, .ref a0_starts, .ref a0_values, .int (X11_count b_a0), .int (X11_cursor b_a0), .int u4.1, .int u4.2], zK T sd.1 a0_kinds 401 (X11_kinds b_a0), zI T a0_starts 401 (X11_starts b_a0), zJ T a0_values 401 (X11_values b_a0), zO a2 1 [.ref a2_names, .ref a2_from, .ref a2_weakest, .ref a2_strongest, .ref a2_nerve, .int w_a2_count], zJ T a2_names 10 w_a2_names, zI T a2_from 10 w_a2_from, zI T a2_weakest 10 w_a2_weakest, zI T a2_strongest 10 w_a2_strongest, zI T a2_nerve 10 w_a2_nerve]) rfl rfl ⟨Nat.le_of_ble_eq_true rfl, Nat.le_of_ble_eq_true rfl⟩ dX1_checkGuest_22 rfl ?_
    refine sx_aload_n X 0 rfl dX1_checkGuest_25 rfl ?_
    refine sx_aload_n X 2 rfl dX1_checkGuest_26 rfl ?_
    refine sx_get X kX4 4 rfl 5 (Nat.le_of_ble_eq_true rfl) qm_240 rfl dX1_checkGuest_27 ?_
    refine sx_bipush X (v := 10) dX1_checkGuest_30 rfl ?_
    refine sx_icmp_ge X 39 dX1_checkGuest_32 rfl (fun c5 => ?_) (fun c5 => ?_)
    · have hf := ob_t hf c5
      refine sx_iconst X (v := 0) dX1_checkGuest_39 rfl ?_
      exact R40 v1 v3 u4.1 u4.2 w_a2_names w_a2_from w_a2_weakest w_a2_strongest w_a2_nerve w_a2_count 0 hf
    · have hf := ob_f hf c5
      refine sx_iconst X (v := 1) dX1_checkGuest_35 rfl ?_
      refine sx_goto X 40 dX1_checkGuest_36 rfl ?_
      exact R40 v1 v3 u4.1 u4.2 w_a2_names w_a2_from w_a2_weakest w_a2_strongest w_a2_nerve w_a2_count 1 hf
  refine sx_aload_n X 0 rfl dX1_checkGuest_0 rfl ?_
  refine sx_iload_n X 1 rfl dX1_checkGuest_1 rfl ?_
  obtain ⟨u1, hu1, hf⟩ := ob_c hf
  refine sx_cVr X (c_X11_valueAt (l := l) (D := D) (T := T) (sd := sd) a0 a0_kinds a0_starts a0_values x1 b_a0 hu1) (st' := [.long u1]) (q0 := 0) qm_659 qm_660 qm_661 qm_70 qm_662 hd_X11_valueAt ⟨rfl, rfl⟩ ⟨Nat.le_of_ble_eq_true rfl, Nat.le_of_ble_eq_true rfl⟩ rfl rfl (Nat.le_of_ble_eq_true rfl) rfl rfl rfl [0, 1, 2, 3] rfl rfl rfl ⟨Nat.le_of_ble_eq_true rfl, Nat.le_of_ble_eq_true rfl⟩ dX1_checkGuest_2 rfl ?_
  refine sx_lstore_n X (lv' := [(3, .long u1), (0, .ref a0), (1, .int x1), (2, .ref a2)]) dX1_checkGuest_5 rfl (by decide) rfl ?_
  refine sx_aload_n X 1 rfl dX1_checkGuest_6 rfl ?_
  refine sx_aload_n X 3 rfl dX1_checkGuest_7 rfl ?_
  refine sx_lload_n X 0 rfl dX1_checkGuest_8 rfl ?_
  obtain ⟨u2, hu2, hf⟩ := ob_c hf
  refine sx_cVr X (c_X4_find (l := l) (D := D) (T := T) (sd := sd) a2 a2_names a2_from a2_weakest a2_strongest a2_nerve n u1 b_a2 hu2) (st' := [.int u2, .ref a0]) (q0 := 4) qm_678 qm_679 qm_680 qm_77 qm_681 hd_X4_find ⟨rfl, rfl⟩ ⟨Nat.le_of_ble_eq_true rfl, Nat.le_of_ble_eq_true rfl⟩ rfl rfl (Nat.le_of_ble_eq_true rfl) rfl rfl rfl [4, 5, 6, 7, 8, 9] rfl rfl rfl ⟨Nat.le_of_ble_eq_true rfl, Nat.le_of_ble_eq_true rfl⟩ dX1_checkGuest_9 rfl ?_
  refine sx_if_ge X 19 dX1_checkGuest_12 rfl (fun c3 => ?_) (fun c3 => ?_)
  · have hf := ob_t hf c3
    refine sx_iconst X (v := 0) dX1_checkGuest_19 rfl ?_
    refine sx_lsub [1, 2, 3, 0] rfl ?_
    exact R20 x1 u1 (X11_error b_a0) (X11_errorToken b_a0) (X4_names b_a2) (X4_from b_a2) (X4_weakest b_a2) (X4_strongest b_a2) (X4_nerve b_a2) (X4_count b_a2) 0 hf
  · have hf := ob_f hf c3
    refine sx_iconst X (v := 1) dX1_checkGuest_15 rfl ?_
    refine sx_goto X 20 dX1_checkGuest_16 rfl ?_
    refine sx_lsub [1, 2, 3, 0] rfl ?_
    exact R20 x1 u1 (X11_error b_a0) (X11_errorToken b_a0) (X4_names b_a2) (X4_from b_a2) (X4_weakest b_a2) (X4_strongest b_a2) (X4_nerve b_a2) (X4_count b_a2) 1 hf

abbrev vf_X11_setValue (_r : (Nat → Int64)) : Option Value := none
abbrev wc_X11_setValue (T : Nat → ClassId) (sd : SdT) (h : Nat) (h_kinds : Nat) (h_starts : Nat) (h_values : Nat) (b_h : bX11) : va_W := [zO h 7 [.ref h_kinds, .ref h_starts, .ref h_values, .int (X11_count b_h), .int (X11_cursor b_h), .int (X11_error b_h), .int (X11_errorToken b_h)], zK T sd.1 h_kinds 401 (X11_kinds b_h), zI T h_starts 401 (X11_starts b_h), zJ T h_values 401 (X11_values b_h)]
abbrev wf_X11_setValue (T : Nat → ClassId) (sd : SdT) (h : Nat) (h_kinds : Nat) (h_starts : Nat) (h_values : Nat) (b_h : bX11) (r : (Nat → Int64)) : va_W := [zO h 7 [.ref h_kinds, .ref h_starts, .ref h_values, .int (X11_count b_h), .int (X11_cursor b_h), .int (X11_error b_h), .int (X11_errorToken b_h)], zK T sd.1 h_kinds 401 (X11_kinds b_h), zI T h_starts 401 (X11_starts b_h), zJ T h_values 401 r]
abbrev rm_X11_setValue : Room := { frames := 1, cells := 0, slots := 0, locals := 21 }
theorem hd_X11_setValue : yX11_setValue.cls ≠ "java/lang/invoke/MethodHandle" ∧ yX11_setValue.cls ≠ "java/lang/invoke/VarHandle" ∧ (parseMethodDescriptor yX11_setValue.desc).map (fun d => d.parameters.length) = some 2 := ⟨by decide, by decide, by decide +kernel⟩
set_option maxHeartbeats 4000000 in
set_option maxRecDepth 100000 in
theorem c_X11_setValue {l : Launch} {D : va_G} {T : Nat → ClassId} {sd : SdT} (h : Nat) (h_kinds : Nat) (h_starts : Nat) (h_values : Nat) (x0 : Int32) (x1 : Int32) (b_h : bX11) {res : (Nat → Int64)} (hf : f_X11_setValue x0 x1 b_h = some res) : SxK (SFx sd) l D T yX11_setValue cX11_setValue 3 none rm_X11_setValue [.ref h, .int x0, .int x1] (wc_X11_setValue T sd h h_kinds h_starts h_values b_h) vf_X11_setValue (wf_X11_setValue T sd h h_kinds h_starts h_values b_h) res 0 0 := by
  refine sx_start (SFx_ok sd) (by decide +kernel) (Nat.le_of_ble_eq_true rfl) (fun p e s m args below meth c A X hnm => ?_)
  have hf := ob_1 hf
  refine sx_aload_n X 0 rfl dX11_setValue_0 rfl ?_
  refine sx_iload_n X 1 rfl dX11_setValue_1 rfl ?_
  obtain ⟨u1, hu1, hf⟩ := ob_c hf
  refine sx_cVr X (c_X11_has (l := l) (D := D) (T := T) (sd := sd) h h_kinds h_starts h_values x0 b_h hu1) (st' := [.int u1]) (q0 := 0) qm_639 qm_640 qm_641 qm_70 qm_642 hd_X11_has ⟨rfl, rfl⟩ ⟨Nat.le_of_ble_eq_true rfl, Nat.le_of_ble_eq_true rfl⟩ rfl rfl (Nat.le_of_ble_eq_true rfl) rfl rfl rfl [0, 1, 2, 3] rfl rfl rfl ⟨Nat.le_of_ble_eq_true rfl, Nat.le_of_ble_eq_true rfl⟩ dX11_setValue_2 rfl ?_
  refine sx_if_eq X 16 dX11_setValue_5 rfl (fun c2 => ?_) (fun c2 => ?_)
  · have hf := ob_t hf c2
    exact sx_vret X dX11_setValue_16 (ob_e hf) rfl rfl
  · have hf := ob_f hf c2
    refine sx_aload_n X 0 rfl dX11_setValue_8 rfl ?_
    refine sx_get X kX11 0 rfl 2 (Nat.le_of_ble_eq_true rfl) qm_133 rfl dX11_setValue_9 ?_
    refine sx_iload_n X 1 rfl dX11_setValue_12 rfl ?_
    refine sx_iload_n X 2 rfl dX11_setValue_13 rfl ?_
    refine sx_i2l X dX11_setValue_14 ?_
    obtain ⟨g3, hf⟩ := ob_g hf
    refine sx_last X (ws' := [zO h 7 [.ref h_kinds, .ref h_starts, .ref h_values, .int (X11_count b_h), .int (X11_cursor b_h), .int (X11_error b_h), .int (X11_errorToken b_h)], zK T sd.1 h_kinds 401 (X11_kinds b_h), zI T h_starts 401 (X11_starts b_h), zJ T h_values 401 (vp_updL (X11_values b_h) x0.toNatClampNeg (Int32.toInt64 x1))]) 3 rfl g3 rfl dX11_setValue_15 ?_
    exact sx_vret X dX11_setValue_16 (ob_e hf) rfl rfl

abbrev vf_X1_checkNamed (_r : (Nat → Int64) × Int32 × Int32) : Option Value := none
abbrev wc_X1_checkNamed (T : Nat → ClassId) (sd : SdT) (a0 : Nat) (a0_kinds : Nat) (a0_starts : Nat) (a0_values : Nat) (b_a0 : bX11) : va_W := [zO a0 7 [.ref a0_kinds, .ref a0_starts, .ref a0_values, .int (X11_count b_a0), .int (X11_cursor b_a0), .int (X11_error b_a0), .int (X11_errorToken b_a0)], zK T sd.1 a0_kinds 401 (X11_kinds b_a0), zI T a0_starts 401 (X11_starts b_a0), zJ T a0_values 401 (X11_values b_a0)]
abbrev wf_X1_checkNamed (T : Nat → ClassId) (sd : SdT) (a0 : Nat) (a0_kinds : Nat) (a0_starts : Nat) (a0_values : Nat) (b_a0 : bX11) (r : (Nat → Int64) × Int32 × Int32) : va_W := [zO a0 7 [.ref a0_kinds, .ref a0_starts, .ref a0_values, .int (X11_count b_a0), .int (X11_cursor b_a0), .int r.2.1, .int r.2.2], zK T sd.1 a0_kinds 401 (X11_kinds b_a0), zI T a0_starts 401 (X11_starts b_a0), zJ T a0_values 401 r.1]
abbrev rm_X1_checkNamed : Room := { frames := 2, cells := 0, slots := 0, locals := 43 }
theorem hd_X1_checkNamed : yX1_checkNamed.cls ≠ "java/lang/invoke/MethodHandle" ∧ yX1_checkNamed.cls ≠ "java/lang/invoke/VarHandle" ∧ (parseMethodDescriptor yX1_checkNamed.desc).map (fun d => d.parameters.length) = some 3 := ⟨by decide, by decide, by decide +kernel⟩
set_option maxHeartbeats 4000000 in
set_option maxRecDepth 100000 in
theorem c_X1_checkNamed {l : Launch} {D : va_G} {T : Nat → ClassId} {sd : SdT} (a0 : Nat) (a0_kinds : Nat) (a0_starts : Nat) (a0_values : Nat) (x1 : Int32) (x2 : Int32) (b_a0 : bX11) {res : (Nat → Int64) × Int32 × Int32} (hf : f_X1_checkNamed x1 x2 b_a0 = some res) : SxK (SFx sd) l D T yX1_checkNamed cX1_checkNamed 3 none rm_X1_checkNamed [.ref a0, .int x1, .int x2] (wc_X1_checkNamed T sd a0 a0_kinds a0_starts a0_values b_a0) vf_X1_checkNamed (wf_X1_checkNamed T sd a0 a0_kinds a0_starts a0_values b_a0) res 0 0 := by
  refine sx_start (SFx_ok sd) (by decide +kernel) (Nat.le_of_ble_eq_true rfl) (fun p e s m args below meth c A X hnm => ?_)
  have hf := ob_1 hf
  have R10 : ∀ (v1 : Int32) (v2 : Int32) (w_a0_values : Nat → Int64) (w_a0_error : Int32) (w_a0_errorToken : Int32) (t0 : Int32), (f_X1_checkNamed_R10 x1 x2 b_a0 v1 v2 w_a0_values w_a0_error w_a0_errorToken t0).bind some = some res → SxG p l e rm_X1_checkNamed s m args below meth c D A 3 0 0 (SxE below args s D A vf_X1_checkNamed (wf_X1_checkNamed T sd a0 a0_kinds a0_starts a0_values b_a0) res 0 0) [zO a0 7 [.ref a0_kinds, .ref a0_starts, .ref a0_values, .int (X11_count b_a0), .int (X11_cursor b_a0), .int w_a0_error, .int w_a0_errorToken], zK T sd.1 a0_kinds 401 (X11_kinds b_a0), zI T a0_starts 401 (X11_starts b_a0), zJ T a0_values 401 w_a0_values] [(0, .ref a0), (1, .int v1), (2, .int v2)] 10 [.int t0, .ref a0] := by
    intro v1 v2 w_a0_values w_a0_error w_a0_errorToken t0 hf
    refine sx_iconst X (v := 3) dX1_checkNamed_10 rfl ?_
    refine sx_iload_n X 1 rfl dX1_checkNamed_11 rfl ?_
    obtain ⟨u2, hu2, hf⟩ := ob_c hf
    refine sx_cV X (c_X11_failUnless (l := l) (D := D) (T := T) (sd := sd) a0 a0_kinds a0_starts a0_values t0 3 v1 ((X11_kinds b_a0), (X11_starts b_a0), w_a0_values, (X11_count b_a0), (X11_cursor b_a0), w_a0_error, w_a0_errorToken) hu2) (st' := []) (q0 := 0) qm_650 qm_629 qm_630 qm_70 qm_631 hd_X11_failUnless ⟨rfl, rfl⟩ ⟨Nat.le_of_ble_eq_true rfl, Nat.le_of_ble_eq_true rfl⟩ rfl rfl (Nat.le_of_ble_eq_true rfl) rfl rfl rfl [0, 1, 2, 3] rfl rfl (ws' := [zO a0 7 [.ref a0_kinds, .ref a0_starts, .ref a0_values, .int (X11_count b_a0), .int (X11_cursor b_a0), .int u2.1, .int u2.2], zK T sd.1 a0_kinds 401 (X11_kinds b_a0), zI T a0_starts 401 (X11_starts b_a0), zJ T a0_values 401 w_a0_values]) rfl rfl ⟨Nat.le_of_ble_eq_true rfl, Nat.le_of_ble_eq_true rfl⟩ dX1_checkNamed_12 rfl ?_
    refine sx_aload_n X 0 rfl dX1_checkNamed_15 rfl ?_
    refine sx_iload_n X 1 rfl dX1_checkNamed_16 rfl ?_
    refine sx_iload_n X 2 rfl dX1_checkNamed_17 rfl ?_
    obtain ⟨u3, hu3, hf⟩ := ob_c hf
    refine sx_cV X (c_X11_setValue (l := l) (D := D) (T := T) (sd := sd) a0 a0_kinds a0_starts a0_values v1 v2 ((X11_kinds b_a0), (X11_starts b_a0), w_a0_values, (X11_count b_a0), (X11_cursor b_a0), u2.1, u2.2) hu3) (st' := []) (q0 := 0) qm_689 qm_690 qm_691 qm_70 qm_692 hd_X11_setValue ⟨rfl, rfl⟩ ⟨Nat.le_of_ble_eq_true rfl, Nat.le_of_ble_eq_true rfl⟩ rfl rfl (Nat.le_of_ble_eq_true rfl) rfl rfl rfl [0, 1, 2, 3] rfl rfl (ws' := [zO a0 7 [.ref a0_kinds, .ref a0_starts, .ref a0_values, .int (X11_count b_a0), .int (X11_cursor b_a0), .int u2.1, .int u2.2], zK T sd.1 a0_kinds 401 (X11_kinds b_a0), zI T a0_starts 401 (X11_starts b_a0), zJ T a0_values 401 u3]) rfl rfl ⟨Nat.le_of_ble_eq_true rfl, Nat.le_of_ble_eq_true rfl⟩ dX1_checkNamed_18 rfl ?_
    exact sx_vret X dX1_checkNamed_21 (ob_e hf) rfl rfl
  refine sx_aload_n X 0 rfl dX1_checkNamed_0 rfl ?_
  refine sx_iload_n X 2 rfl dX1_checkNamed_1 rfl ?_
  refine sx_if_lt X 9 dX1_checkNamed_2 rfl (fun c1 => ?_) (fun c1 => ?_)
  · have hf := ob_t hf c1
    refine sx_iconst X (v := 0) dX1_checkNamed_9 rfl ?_
    exact R10 x1 x2 (X11_values b_a0) (X11_error b_a0) (X11_errorToken b_a0) 0 hf
  · have hf := ob_f hf c1
    refine sx_iconst X (v := 1) dX1_checkNamed_5 rfl ?_
    refine sx_goto X 10 dX1_checkNamed_6 rfl ?_
    exact R10 x1 x2 (X11_values b_a0) (X11_error b_a0) (X11_errorToken b_a0) 1 hf

abbrev vf_X1_checkBehind (_r : (Nat → Int64) × Int32 × Int32 × (Nat → Int64) × (Nat → Int32) × (Nat → Int32) × (Nat → Int32) × (Nat → Int32) × Int32 × (Nat → Int64) × (Nat → Int32) × (Nat → Int32) × (Nat → Int32) × (Nat → Int32) × Int32) : Option Value := none
abbrev wc_X1_checkBehind (T : Nat → ClassId) (sd : SdT) (a0 : Nat) (a0_kinds : Nat) (a0_starts : Nat) (a0_values : Nat) (a2 : Nat) (a2_fronts : Nat) (a2_guests : Nat) (a2_orders : Nat) (a2_fronts_names : Nat) (a2_fronts_warm : Nat) (a2_fronts_force : Nat) (a2_fronts_from : Nat) (a2_fronts_hours : Nat) (a2_guests_names : Nat) (a2_guests_from : Nat) (a2_guests_weakest : Nat) (a2_guests_strongest : Nat) (a2_guests_nerve : Nat) (b_a0 : bX11) (b_a2_fronts : bX2) (b_a2_guests : bX4) : va_W := [zO a0 7 [.ref a0_kinds, .ref a0_starts, .ref a0_values, .int (X11_count b_a0), .int (X11_cursor b_a0), .int (X11_error b_a0), .int (X11_errorToken b_a0)], zK T sd.1 a0_kinds 401 (X11_kinds b_a0), zI T a0_starts 401 (X11_starts b_a0), zJ T a0_values 401 (X11_values b_a0), zO a2 3 [.ref a2_fronts, .ref a2_guests, .ref a2_orders], zO a2_fronts 0 [.ref a2_fronts_names, .ref a2_fronts_warm, .ref a2_fronts_force, .ref a2_fronts_from, .ref a2_fronts_hours, .int (X2_count b_a2_fronts)], zJ T a2_fronts_names 10 (X2_names b_a2_fronts), zZ T a2_fronts_warm 10 (X2_warm b_a2_fronts), zI T a2_fronts_force 10 (X2_force b_a2_fronts), zI T a2_fronts_from 10 (X2_from b_a2_fronts), zI T a2_fronts_hours 10 (X2_hours b_a2_fronts), zO a2_guests 1 [.ref a2_guests_names, .ref a2_guests_from, .ref a2_guests_weakest, .ref a2_guests_strongest, .ref a2_guests_nerve, .int (X4_count b_a2_guests)], zJ T a2_guests_names 10 (X4_names b_a2_guests), zI T a2_guests_from 10 (X4_from b_a2_guests), zI T a2_guests_weakest 10 (X4_weakest b_a2_guests), zI T a2_guests_strongest 10 (X4_strongest b_a2_guests), zI T a2_guests_nerve 10 (X4_nerve b_a2_guests)]
abbrev wf_X1_checkBehind (T : Nat → ClassId) (sd : SdT) (a0 : Nat) (a0_kinds : Nat) (a0_starts : Nat) (a0_values : Nat) (a2 : Nat) (a2_fronts : Nat) (a2_guests : Nat) (a2_orders : Nat) (a2_fronts_names : Nat) (a2_fronts_warm : Nat) (a2_fronts_force : Nat) (a2_fronts_from : Nat) (a2_fronts_hours : Nat) (a2_guests_names : Nat) (a2_guests_from : Nat) (a2_guests_weakest : Nat) (a2_guests_strongest : Nat) (a2_guests_nerve : Nat) (b_a0 : bX11) (b_a2_fronts : bX2) (b_a2_guests : bX4) (r : (Nat → Int64) × Int32 × Int32 × (Nat → Int64) × (Nat → Int32) × (Nat → Int32) × (Nat → Int32) × (Nat → Int32) × Int32 × (Nat → Int64) × (Nat → Int32) × (Nat → Int32) × (Nat → Int32) × (Nat → Int32) × Int32) : va_W := [zO a0 7 [.ref a0_kinds, .ref a0_starts, .ref a0_values, .int (X11_count b_a0), .int (X11_cursor b_a0), .int r.2.1, .int r.2.2.1], zK T sd.1 a0_kinds 401 (X11_kinds b_a0), zI T a0_starts 401 (X11_starts b_a0), zJ T a0_values 401 r.1, zO a2 3 [.ref a2_fronts, .ref a2_guests, .ref a2_orders], zO a2_fronts 0 [.ref a2_fronts_names, .ref a2_fronts_warm, .ref a2_fronts_force, .ref a2_fronts_from, .ref a2_fronts_hours, .int r.2.2.2.2.2.2.2.2.1], zJ T a2_fronts_names 10 r.2.2.2.1, zZ T a2_fronts_warm 10 r.2.2.2.2.1, zI T a2_fronts_force 10 r.2.2.2.2.2.1, zI T a2_fronts_from 10 r.2.2.2.2.2.2.1, zI T a2_fronts_hours 10 r.2.2.2.2.2.2.2.1, zO a2_guests 1 [.ref a2_guests_names, .ref a2_guests_from, .ref a2_guests_weakest, .ref a2_guests_strongest, .ref a2_guests_nerve, .int r.2.2.2.2.2.2.2.2.2.2.2.2.2.2], zJ T a2_guests_names 10 r.2.2.2.2.2.2.2.2.2.1, zI T a2_guests_from 10 r.2.2.2.2.2.2.2.2.2.2.1, zI T a2_guests_weakest 10 r.2.2.2.2.2.2.2.2.2.2.2.1, zI T a2_guests_strongest 10 r.2.2.2.2.2.2.2.2.2.2.2.2.1, zI T a2_guests_nerve 10 r.2.2.2.2.2.2.2.2.2.2.2.2.2.1]
abbrev rm_X1_checkBehind : Room := { frames := 4, cells := 0, slots := 0, locals := 94 }
theorem hd_X1_checkBehind : yX1_checkBehind.cls ≠ "java/lang/invoke/MethodHandle" ∧ yX1_checkBehind.cls ≠ "java/lang/invoke/VarHandle" ∧ (parseMethodDescriptor yX1_checkBehind.desc).map (fun d => d.parameters.length) = some 3 := ⟨by decide, by decide, by decide +kernel⟩
theorem tin_X1_checkBehind_12_0 (x : Int32) (h : x = 3 ∨ x = 21 ∨ x = 22) : SxIn (3) (23) #[128, 152, 152, 176, 176, 176, 176, 176, 176, 176, 176, 176, 176, 176, 176, 176, 100, 114, 128, 128, 152] (128) x := by
  rcases h with rfl | rfl | rfl <;> exact ⟨by decide, by decide, by decide⟩
theorem tin_X1_checkBehind_12_1 (x : Int32) (h : x = 4 ∨ x = 5 ∨ x = 23) : SxIn (3) (23) #[128, 152, 152, 176, 176, 176, 176, 176, 176, 176, 176, 176, 176, 176, 176, 176, 100, 114, 128, 128, 152] (152) x := by
  rcases h with rfl | rfl | rfl <;> exact ⟨by decide, by decide, by decide⟩
theorem tin_X1_checkBehind_12_2 (x : Int32) (h : x = 19) : SxIn (3) (23) #[128, 152, 152, 176, 176, 176, 176, 176, 176, 176, 176, 176, 176, 176, 176, 176, 100, 114, 128, 128, 152] (100) x := by
  rcases h with rfl <;> exact ⟨by decide, by decide, by decide⟩
theorem tin_X1_checkBehind_12_3 (x : Int32) (h : x = 20) : SxIn (3) (23) #[128, 152, 152, 176, 176, 176, 176, 176, 176, 176, 176, 176, 176, 176, 176, 176, 100, 114, 128, 128, 152] (114) x := by
  rcases h with rfl <;> exact ⟨by decide, by decide, by decide⟩
theorem tab_X1_checkBehind_12 (x : Int32) (c0 : ¬ (x = 3 ∨ x = 21 ∨ x = 22)) (c1 : ¬ (x = 4 ∨ x = 5 ∨ x = 23)) (c2 : ¬ (x = 19)) (c3 : ¬ (x = 20)) : SxTab (3) (23) #[128, 152, 152, 176, 176, 176, 176, 176, 176, 176, 176, 176, 176, 176, 176, 176, 100, 114, 128, 128, 152] (176) x := by
  rcases sx_rng (3) 21 x with h | ⟨j, hj, h⟩
  · exact Or.inl (by omega)
  · rcases (show j = 0 ∨ j = 1 ∨ j = 2 ∨ j = 3 ∨ j = 4 ∨ j = 5 ∨ j = 6 ∨ j = 7 ∨ j = 8 ∨ j = 9 ∨ j = 10 ∨ j = 11 ∨ j = 12 ∨ j = 13 ∨ j = 14 ∨ j = 15 ∨ j = 16 ∨ j = 17 ∨ j = 18 ∨ j = 19 ∨ j = 20 by omega) with rfl | rfl | rfl | rfl | rfl | rfl | rfl | rfl | rfl | rfl | rfl | rfl | rfl | rfl | rfl | rfl | rfl | rfl | rfl | rfl | rfl
    · exact absurd (Int32.toInt_inj.mp (h.trans (by decide : (3 : Int) + ((0 : Nat) : Int) = Int32.toInt 3))) (fun q => c0 (by rw [q]; decide))
    · exact absurd (Int32.toInt_inj.mp (h.trans (by decide : (3 : Int) + ((1 : Nat) : Int) = Int32.toInt 4))) (fun q => c1 (by rw [q]; decide))
    · exact absurd (Int32.toInt_inj.mp (h.trans (by decide : (3 : Int) + ((2 : Nat) : Int) = Int32.toInt 5))) (fun q => c1 (by rw [q]; decide))
    · exact Or.inr ⟨by rw [h]; decide, by rw [h]; decide, by rw [h]; decide⟩
    · exact Or.inr ⟨by rw [h]; decide, by rw [h]; decide, by rw [h]; decide⟩
    · exact Or.inr ⟨by rw [h]; decide, by rw [h]; decide, by rw [h]; decide⟩
    · exact Or.inr ⟨by rw [h]; decide, by rw [h]; decide, by rw [h]; decide⟩
    · exact Or.inr ⟨by rw [h]; decide, by rw [h]; decide, by rw [h]; decide⟩
    · exact Or.inr ⟨by rw [h]; decide, by rw [h]; decide, by rw [h]; decide⟩
    · exact Or.inr ⟨by rw [h]; decide, by rw [h]; decide, by rw [h]; decide⟩
    · exact Or.inr ⟨by rw [h]; decide, by rw [h]; decide, by rw [h]; decide⟩
    · exact Or.inr ⟨by rw [h]; decide, by rw [h]; decide, by rw [h]; decide⟩
    · exact Or.inr ⟨by rw [h]; decide, by rw [h]; decide, by rw [h]; decide⟩
    · exact Or.inr ⟨by rw [h]; decide, by rw [h]; decide, by rw [h]; decide⟩
    · exact Or.inr ⟨by rw [h]; decide, by rw [h]; decide, by rw [h]; decide⟩
    · exact Or.inr ⟨by rw [h]; decide, by rw [h]; decide, by rw [h]; decide⟩
    · exact absurd (Int32.toInt_inj.mp (h.trans (by decide : (3 : Int) + ((16 : Nat) : Int) = Int32.toInt 19))) (fun q => c2 (by rw [q]; decide))
    · exact absurd (Int32.toInt_inj.mp (h.trans (by decide : (3 : Int) + ((17 : Nat) : Int) = Int32.toInt 20))) (fun q => c3 (by rw [q]; decide))
    · exact absurd (Int32.toInt_inj.mp (h.trans (by decide : (3 : Int) + ((18 : Nat) : Int) = Int32.toInt 21))) (fun q => c0 (by rw [q]; decide))
    · exact absurd (Int32.toInt_inj.mp (h.trans (by decide : (3 : Int) + ((19 : Nat) : Int) = Int32.toInt 22))) (fun q => c0 (by rw [q]; decide))
    · exact absurd (Int32.toInt_inj.mp (h.trans (by decide : (3 : Int) + ((20 : Nat) : Int) = Int32.toInt 23))) (fun q => c1 (by rw [q]; decide))
set_option maxHeartbeats 4000000 in
set_option maxRecDepth 100000 in
theorem c_X1_checkBehind {l : Launch} {D : va_G} {T : Nat → ClassId} {sd : SdT} (a0 : Nat) (a0_kinds : Nat) (a0_starts : Nat) (a0_values : Nat) (a2 : Nat) (a2_fronts : Nat) (a2_guests : Nat) (a2_orders : Nat) (a2_fronts_names : Nat) (a2_fronts_warm : Nat) (a2_fronts_force : Nat) (a2_fronts_from : Nat) (a2_fronts_hours : Nat) (a2_guests_names : Nat) (a2_guests_from : Nat) (a2_guests_weakest : Nat) (a2_guests_strongest : Nat) (a2_guests_nerve : Nat) (n : Nat) (x1 : Int32) (b_a0 : bX11) (b_a2_fronts : bX2) (b_a2_guests : bX4) {res : (Nat → Int64) × Int32 × Int32 × (Nat → Int64) × (Nat → Int32) × (Nat → Int32) × (Nat → Int32) × (Nat → Int32) × Int32 × (Nat → Int64) × (Nat → Int32) × (Nat → Int32) × (Nat → Int32) × (Nat → Int32) × Int32} (hf : f_X1_checkBehind n x1 b_a0 b_a2_fronts b_a2_guests = some res) : SxK (SFx sd) l D T yX1_checkBehind cX1_checkBehind 3 none rm_X1_checkBehind [.ref a0, .int x1, .ref a2] (wc_X1_checkBehind T sd a0 a0_kinds a0_starts a0_values a2 a2_fronts a2_guests a2_orders a2_fronts_names a2_fronts_warm a2_fronts_force a2_fronts_from a2_fronts_hours a2_guests_names a2_guests_from a2_guests_weakest a2_guests_strongest a2_guests_nerve b_a0 b_a2_fronts b_a2_guests) vf_X1_checkBehind (wf_X1_checkBehind T sd a0 a0_kinds a0_starts a0_values a2 a2_fronts a2_guests a2_orders a2_fronts_names a2_fronts_warm a2_fronts_force a2_fronts_from a2_fronts_hours a2_guests_names a2_guests_from a2_guests_weakest a2_guests_strongest a2_guests_nerve b_a0 b_a2_fronts b_a2_guests) res 0 0 := by
  refine sx_start (SFx_ok sd) (by decide +kernel) (Nat.le_of_ble_eq_true rfl) (fun p e s m args below meth c A X hnm => ?_)
  have hf := ob_1 hf
  refine sx_mst X qm_654 dX1_checkBehind_0 ?_
  refine sx_aload_n X 0 rfl dX1_checkBehind_3 rfl ?_
  refine sx_iload_n X 1 rfl dX1_checkBehind_4 rfl ?_
  obtain ⟨u1, hu1, hf⟩ := ob_c hf
  refine sx_cVr X (c_X11_kindAt (l := l) (D := D) (T := T) (sd := sd) a0 a0_kinds a0_starts a0_values x1 b_a0 hu1) (st' := [.ref (sd.1 u1), .ref sd.2.2.2.2.1]) (q0 := 0) qm_635 qm_636 qm_637 qm_70 qm_638 hd_X11_kindAt ⟨rfl, rfl⟩ ⟨Nat.le_of_ble_eq_true rfl, Nat.le_of_ble_eq_true rfl⟩ rfl rfl (Nat.le_of_ble_eq_true rfl) rfl rfl rfl [0, 1, 2, 3] rfl rfl rfl ⟨Nat.le_of_ble_eq_true rfl, Nat.le_of_ble_eq_true rfl⟩ dX1_checkBehind_5 rfl ?_
  obtain ⟨g2, hf⟩ := ob_h hf
  refine sx_ord X u1 g2 qm_655 (Nat.le_of_ble_eq_true rfl) (Nat.le_of_ble_eq_true rfl) (Nat.le_of_ble_eq_true rfl) (Nat.zero_le _) (Nat.zero_le _) dX1_checkBehind_8 ?_
  refine sx_mld X u1 g2 dX1_checkBehind_11 ?_
  by_cases c3 : (smap u1) = 3 ∨ (smap u1) = 21 ∨ (smap u1) = 22
  · have hf := ob_t hf c3
    refine sx_tin X 140 dX1_checkBehind_12 rfl (tin_X1_checkBehind_12_0 (smap u1) c3) ?_
    refine sx_aload_n X 0 rfl dX1_checkBehind_140 rfl ?_
    refine sx_iload_n X 1 rfl dX1_checkBehind_141 rfl ?_
    refine sx_iconst X (v := 1) dX1_checkBehind_142 rfl ?_
    refine sx_iadd X dX1_checkBehind_143 ?_
    refine sx_aload_n X 2 rfl dX1_checkBehind_144 rfl ?_
    refine sx_get X kX7 4 rfl 0 (Nat.le_of_ble_eq_true rfl) qm_298 rfl dX1_checkBehind_145 ?_
    refine sx_aload_n X 0 rfl dX1_checkBehind_148 rfl ?_
    refine sx_iload_n X 1 rfl dX1_checkBehind_149 rfl ?_
    refine sx_iconst X (v := 1) dX1_checkBehind_150 rfl ?_
    refine sx_iadd X dX1_checkBehind_151 ?_
    obtain ⟨u4, hu4, hf⟩ := ob_c hf
    refine sx_cVr X (c_X11_valueAt (l := l) (D := D) (T := T) (sd := sd) a0 a0_kinds a0_starts a0_values (x1 + 1) b_a0 hu4) (st' := [.long u4, .ref a2_fronts, .int (x1 + 1), .ref a0]) (q0 := 0) qm_659 qm_660 qm_661 qm_70 qm_662 hd_X11_valueAt ⟨rfl, rfl⟩ ⟨Nat.le_of_ble_eq_true rfl, Nat.le_of_ble_eq_true rfl⟩ rfl rfl (Nat.le_of_ble_eq_true rfl) rfl rfl rfl [0, 1, 2, 3] rfl rfl rfl ⟨Nat.le_of_ble_eq_true rfl, Nat.le_of_ble_eq_true rfl⟩ dX1_checkBehind_152 rfl ?_
    obtain ⟨u5, hu5, hf⟩ := ob_c hf
    refine sx_cVr X (c_X2_find (l := l) (D := D) (T := T) (sd := sd) a2_fronts a2_fronts_names a2_fronts_warm a2_fronts_force a2_fronts_from a2_fronts_hours n u4 b_a2_fronts hu5) (st' := [.int u5, .int (x1 + 1), .ref a0]) (q0 := 5) qm_663 qm_664 qm_665 qm_76 qm_666 hd_X2_find ⟨rfl, rfl⟩ ⟨Nat.le_of_ble_eq_true rfl, Nat.le_of_ble_eq_true rfl⟩ rfl rfl (Nat.le_of_ble_eq_true rfl) rfl rfl rfl [5, 6, 7, 8, 9, 10] rfl rfl rfl ⟨Nat.le_of_ble_eq_true rfl, Nat.le_of_ble_eq_true rfl⟩ dX1_checkBehind_155 rfl ?_
    obtain ⟨u6, hu6, hf⟩ := ob_c hf
    refine sx_cS X (c_X1_checkNamed (l := l) (D := D) (T := T) (sd := sd) a0 a0_kinds a0_starts a0_values (x1 + 1) u5 b_a0 hu6) (st' := []) qm_686 qm_687 qm_92 qm_688 hd_X1_checkNamed ⟨rfl, rfl⟩ ⟨Nat.le_of_ble_eq_true rfl, Nat.le_of_ble_eq_true rfl⟩ rfl rfl (Nat.le_of_ble_eq_true rfl) [0, 1, 2, 3] rfl rfl (ws' := [zO a0 7 [.ref a0_kinds, .ref a0_starts, .ref a0_values, .int (X11_count b_a0), .int (X11_cursor b_a0), .int u6.2.1, .int u6.2.2], zK T sd.1 a0_kinds 401 (X11_kinds b_a0), zI T a0_starts 401 (X11_starts b_a0), zJ T a0_values 401 u6.1, zO a2 3 [.ref a2_fronts, .ref a2_guests, .ref a2_orders], zO a2_fronts 0 [.ref a2_fronts_names, .ref a2_fronts_warm, .ref a2_fronts_force, .ref a2_fronts_from, .ref a2_fronts_hours, .int (X2_count b_a2_fronts)], zJ T a2_fronts_names 10 (X2_names b_a2_fronts), zZ T a2_fronts_warm 10 (X2_warm b_a2_fronts), zI T a2_fronts_force 10 (X2_force b_a2_fronts), zI T a2_fronts_from 10 (X2_from b_a2_fronts), zI T a2_fronts_hours 10 (X2_hours b_a2_fronts), zO a2_guests 1 [.ref a2_guests_names, .ref a2_guests_from, .ref a2_guests_weakest, .ref a2_guests_strongest, .ref a2_guests_nerve, .int (X4_count b_a2_guests)], zJ T a2_guests_names 10 (X4_names b_a2_guests), zI T a2_guests_from 10 (X4_from b_a2_guests), zI T a2_guests_weakest 10 (X4_weakest b_a2_guests), zI T a2_guests_strongest 10 (X4_strongest b_a2_guests), zI T a2_guests_nerve 10 (X4_nerve b_a2_guests)]) rfl rfl ⟨Nat.le_of_ble_eq_true rfl, Nat.le_of_ble_eq_true rfl⟩ dX1_checkBehind_158 rfl ?_
    refine sx_goto X 188 dX1_checkBehind_161 rfl ?_
    exact sx_vret X dX1_checkBehind_188 (ob_e hf) rfl rfl
  · have hf := ob_f hf c3
    by_cases c7 : (smap u1) = 4 ∨ (smap u1) = 5 ∨ (smap u1) = 23
    · have hf := ob_t hf c7
      refine sx_tin X 164 dX1_checkBehind_12 rfl (tin_X1_checkBehind_12_1 (smap u1) c7) ?_
      refine sx_aload_n X 0 rfl dX1_checkBehind_164 rfl ?_
      refine sx_iload_n X 1 rfl dX1_checkBehind_165 rfl ?_
      refine sx_iconst X (v := 1) dX1_checkBehind_166 rfl ?_
      refine sx_iadd X dX1_checkBehind_167 ?_
      refine sx_aload_n X 2 rfl dX1_checkBehind_168 rfl ?_
      refine sx_get X kX7 4 rfl 1 (Nat.le_of_ble_eq_true rfl) qm_301 rfl dX1_checkBehind_169 ?_
      refine sx_aload_n X 0 rfl dX1_checkBehind_172 rfl ?_
      refine sx_iload_n X 1 rfl dX1_checkBehind_173 rfl ?_
      refine sx_iconst X (v := 1) dX1_checkBehind_174 rfl ?_
      refine sx_iadd X dX1_checkBehind_175 ?_
      obtain ⟨u8, hu8, hf⟩ := ob_c hf
      refine sx_cVr X (c_X11_valueAt (l := l) (D := D) (T := T) (sd := sd) a0 a0_kinds a0_starts a0_values (x1 + 1) b_a0 hu8) (st' := [.long u8, .ref a2_guests, .int (x1 + 1), .ref a0]) (q0 := 0) qm_659 qm_660 qm_661 qm_70 qm_662 hd_X11_valueAt ⟨rfl, rfl⟩ ⟨Nat.le_of_ble_eq_true rfl, Nat.le_of_ble_eq_true rfl⟩ rfl rfl (Nat.le_of_ble_eq_true rfl) rfl rfl rfl [0, 1, 2, 3] rfl rfl rfl ⟨Nat.le_of_ble_eq_true rfl, Nat.le_of_ble_eq_true rfl⟩ dX1_checkBehind_176 rfl ?_
      obtain ⟨u9, hu9, hf⟩ := ob_c hf
      refine sx_cVr X (c_X4_find (l := l) (D := D) (T := T) (sd := sd) a2_guests a2_guests_names a2_guests_from a2_guests_weakest a2_guests_strongest a2_guests_nerve n u8 b_a2_guests hu9) (st' := [.int u9, .int (x1 + 1), .ref a0]) (q0 := 11) qm_678 qm_679 qm_680 qm_77 qm_681 hd_X4_find ⟨rfl, rfl⟩ ⟨Nat.le_of_ble_eq_true rfl, Nat.le_of_ble_eq_true rfl⟩ rfl rfl (Nat.le_of_ble_eq_true rfl) rfl rfl rfl [11, 12, 13, 14, 15, 16] rfl rfl rfl ⟨Nat.le_of_ble_eq_true rfl, Nat.le_of_ble_eq_true rfl⟩ dX1_checkBehind_179 rfl ?_
      obtain ⟨u10, hu10, hf⟩ := ob_c hf
      refine sx_cS X (c_X1_checkNamed (l := l) (D := D) (T := T) (sd := sd) a0 a0_kinds a0_starts a0_values (x1 + 1) u9 b_a0 hu10) (st' := []) qm_686 qm_687 qm_92 qm_688 hd_X1_checkNamed ⟨rfl, rfl⟩ ⟨Nat.le_of_ble_eq_true rfl, Nat.le_of_ble_eq_true rfl⟩ rfl rfl (Nat.le_of_ble_eq_true rfl) [0, 1, 2, 3] rfl rfl (ws' := [zO a0 7 [.ref a0_kinds, .ref a0_starts, .ref a0_values, .int (X11_count b_a0), .int (X11_cursor b_a0), .int u10.2.1, .int u10.2.2], zK T sd.1 a0_kinds 401 (X11_kinds b_a0), zI T a0_starts 401 (X11_starts b_a0), zJ T a0_values 401 u10.1, zO a2 3 [.ref a2_fronts, .ref a2_guests, .ref a2_orders], zO a2_fronts 0 [.ref a2_fronts_names, .ref a2_fronts_warm, .ref a2_fronts_force, .ref a2_fronts_from, .ref a2_fronts_hours, .int (X2_count b_a2_fronts)], zJ T a2_fronts_names 10 (X2_names b_a2_fronts), zZ T a2_fronts_warm 10 (X2_warm b_a2_fronts), zI T a2_fronts_force 10 (X2_force b_a2_fronts), zI T a2_fronts_from 10 (X2_from b_a2_fronts), zI T a2_fronts_hours 10 (X2_hours b_a2_fronts), zO a2_guests 1 [.ref a2_guests_names, .ref a2_guests_from, .ref a2_guests_weakest, .ref a2_guests_strongest, .ref a2_guests_nerve, .int (X4_count b_a2_guests)], zJ T a2_guests_names 10 (X4_names b_a2_guests), zI T a2_guests_from 10 (X4_from b_a2_guests), zI T a2_guests_weakest 10 (X4_weakest b_a2_guests), zI T a2_guests_strongest 10 (X4_strongest b_a2_guests), zI T a2_guests_nerve 10 (X4_nerve b_a2_guests)]) rfl rfl ⟨Nat.le_of_ble_eq_true rfl, Nat.le_of_ble_eq_true rfl⟩ dX1_checkBehind_182 rfl ?_
      refine sx_goto X 188 dX1_checkBehind_185 rfl ?_
      exact sx_vret X dX1_checkBehind_188 (ob_e hf) rfl rfl
    · have hf := ob_f hf c7
      by_cases c11 : (smap u1) = 19
      · have hf := ob_t hf c11
        refine sx_tin X 112 dX1_checkBehind_12 rfl (tin_X1_checkBehind_12_2 (smap u1) c11) ?_
        refine sx_aload_n X 0 rfl dX1_checkBehind_112 rfl ?_
        refine sx_iload_n X 1 rfl dX1_checkBehind_113 rfl ?_
        refine sx_iconst X (v := 1) dX1_checkBehind_114 rfl ?_
        refine sx_iadd X dX1_checkBehind_115 ?_
        refine sx_aload_n X 2 rfl dX1_checkBehind_116 rfl ?_
        refine sx_get X kX7 4 rfl 0 (Nat.le_of_ble_eq_true rfl) qm_298 rfl dX1_checkBehind_117 ?_
        obtain ⟨u12, hu12, hf⟩ := ob_c hf
        refine sx_cS X (c_X1_checkFront (l := l) (D := D) (T := T) (sd := sd) a0 a0_kinds a0_starts a0_values a2_fronts a2_fronts_names a2_fronts_warm a2_fronts_force a2_fronts_from a2_fronts_hours n (x1 + 1) b_a0 b_a2_fronts hu12) (st' := []) qm_656 qm_657 qm_92 qm_658 hd_X1_checkFront ⟨rfl, rfl⟩ ⟨Nat.le_of_ble_eq_true rfl, Nat.le_of_ble_eq_true rfl⟩ rfl rfl (Nat.le_of_ble_eq_true rfl) [0, 1, 2, 3, 5, 6, 7, 8, 9, 10] rfl rfl (ws' := [zO a0 7 [.ref a0_kinds, .ref a0_starts, .ref a0_values, .int (X11_count b_a0), .int (X11_cursor b_a0), .int u12.1, .int u12.2.1], zK T sd.1 a0_kinds 401 (X11_kinds b_a0), zI T a0_starts 401 (X11_starts b_a0), zJ T a0_values 401 (X11_values b_a0), zO a2 3 [.ref a2_fronts, .ref a2_guests, .ref a2_orders], zO a2_fronts 0 [.ref a2_fronts_names, .ref a2_fronts_warm, .ref a2_fronts_force, .ref a2_fronts_from, .ref a2_fronts_hours, .int u12.2.2.2.2.2.2.2], zJ T a2_fronts_names 10 u12.2.2.1, zZ T a2_fronts_warm 10 u12.2.2.2.1, zI T a2_fronts_force 10 u12.2.2.2.2.1, zI T a2_fronts_from 10 u12.2.2.2.2.2.1, zI T a2_fronts_hours 10 u12.2.2.2.2.2.2.1, zO a2_guests 1 [.ref a2_guests_names, .ref a2_guests_from, .ref a2_guests_weakest, .ref a2_guests_strongest, .ref a2_guests_nerve, .int (X4_count b_a2_guests)], zJ T a2_guests_names 10 (X4_names b_a2_guests), zI T a2_guests_from 10 (X4_from b_a2_guests), zI T a2_guests_weakest 10 (X4_weakest b_a2_guests), zI T a2_guests_strongest 10 (X4_strongest b_a2_guests), zI T a2_guests_nerve 10 (X4_nerve b_a2_guests)]) rfl rfl ⟨Nat.le_of_ble_eq_true rfl, Nat.le_of_ble_eq_true rfl⟩ dX1_checkBehind_120 rfl ?_
        refine sx_goto X 188 dX1_checkBehind_123 rfl ?_
        exact sx_vret X dX1_checkBehind_188 (ob_e hf) rfl rfl
      · have hf := ob_f hf c11
        by_cases c13 : (smap u1) = 20
        · have hf := ob_t hf c13
          refine sx_tin X 126 dX1_checkBehind_12 rfl (tin_X1_checkBehind_12_3 (smap u1) c13) ?_
          refine sx_aload_n X 0 rfl dX1_checkBehind_126 rfl ?_
          refine sx_iload_n X 1 rfl dX1_checkBehind_127 rfl ?_
          refine sx_iconst X (v := 1) dX1_checkBehind_128 rfl ?_
          refine sx_iadd X dX1_checkBehind_129 ?_
          refine sx_aload_n X 2 rfl dX1_checkBehind_130 rfl ?_
          refine sx_get X kX7 4 rfl 1 (Nat.le_of_ble_eq_true rfl) qm_301 rfl dX1_checkBehind_131 ?_
          obtain ⟨u14, hu14, hf⟩ := ob_c hf
          refine sx_cS X (c_X1_checkGuest (l := l) (D := D) (T := T) (sd := sd) a0 a0_kinds a0_starts a0_values a2_guests a2_guests_names a2_guests_from a2_guests_weakest a2_guests_strongest a2_guests_nerve n (x1 + 1) b_a0 b_a2_guests hu14) (st' := []) qm_675 qm_676 qm_92 qm_677 hd_X1_checkGuest ⟨rfl, rfl⟩ ⟨Nat.le_of_ble_eq_true rfl, Nat.le_of_ble_eq_true rfl⟩ rfl rfl (Nat.le_of_ble_eq_true rfl) [0, 1, 2, 3, 11, 12, 13, 14, 15, 16] rfl rfl (ws' := [zO a0 7 [.ref a0_kinds, .ref a0_starts, .ref a0_values, .int (X11_count b_a0), .int (X11_cursor b_a0), .int u14.1, .int u14.2.1], zK T sd.1 a0_kinds 401 (X11_kinds b_a0), zI T a0_starts 401 (X11_starts b_a0), zJ T a0_values 401 (X11_values b_a0), zO a2 3 [.ref a2_fronts, .ref a2_guests, .ref a2_orders], zO a2_fronts 0 [.ref a2_fronts_names, .ref a2_fronts_warm, .ref a2_fronts_force, .ref a2_fronts_from, .ref a2_fronts_hours, .int (X2_count b_a2_fronts)], zJ T a2_fronts_names 10 (X2_names b_a2_fronts), zZ T a2_fronts_warm 10 (X2_warm b_a2_fronts), zI T a2_fronts_force 10 (X2_force b_a2_fronts), zI T a2_fronts_from 10 (X2_from b_a2_fronts), zI T a2_fronts_hours 10 (X2_hours b_a2_fronts), zO a2_guests 1 [.ref a2_guests_names, .ref a2_guests_from, .ref a2_guests_weakest, .ref a2_guests_strongest, .ref a2_guests_nerve, .int u14.2.2.2.2.2.2.2], zJ T a2_guests_names 10 u14.2.2.1, zI T a2_guests_from 10 u14.2.2.2.1, zI T a2_guests_weakest 10 u14.2.2.2.2.1, zI T a2_guests_strongest 10 u14.2.2.2.2.2.1, zI T a2_guests_nerve 10 u14.2.2.2.2.2.2.1]) rfl rfl ⟨Nat.le_of_ble_eq_true rfl, Nat.le_of_ble_eq_true rfl⟩ dX1_checkBehind_134 rfl ?_
          refine sx_goto X 188 dX1_checkBehind_137 rfl ?_
          exact sx_vret X dX1_checkBehind_188 (ob_e hf) rfl rfl
        · have hf := ob_f hf c13
          refine sx_tdef X 188 dX1_checkBehind_12 rfl (tab_X1_checkBehind_12 (smap u1) c3 c7 c11 c13) ?_
          exact sx_vret X dX1_checkBehind_188 (ob_e hf) rfl rfl

abbrev vf_X1_check (_r : (Nat → Int64) × Int32 × Int32 × (Nat → Int64) × (Nat → Int32) × (Nat → Int32) × (Nat → Int32) × (Nat → Int32) × Int32 × (Nat → Int64) × (Nat → Int32) × (Nat → Int32) × (Nat → Int32) × (Nat → Int32) × Int32) : Option Value := none
abbrev wc_X1_check (T : Nat → ClassId) (sd : SdT) (a0 : Nat) (a0_kinds : Nat) (a0_starts : Nat) (a0_values : Nat) (a1 : Nat) (a1_fronts : Nat) (a1_guests : Nat) (a1_orders : Nat) (a1_fronts_names : Nat) (a1_fronts_warm : Nat) (a1_fronts_force : Nat) (a1_fronts_from : Nat) (a1_fronts_hours : Nat) (a1_guests_names : Nat) (a1_guests_from : Nat) (a1_guests_weakest : Nat) (a1_guests_strongest : Nat) (a1_guests_nerve : Nat) (b_a0 : bX11) (b_a1_fronts : bX2) (b_a1_guests : bX4) : va_W := [zO a0 7 [.ref a0_kinds, .ref a0_starts, .ref a0_values, .int (X11_count b_a0), .int (X11_cursor b_a0), .int (X11_error b_a0), .int (X11_errorToken b_a0)], zK T sd.1 a0_kinds 401 (X11_kinds b_a0), zI T a0_starts 401 (X11_starts b_a0), zJ T a0_values 401 (X11_values b_a0), zO a1 3 [.ref a1_fronts, .ref a1_guests, .ref a1_orders], zO a1_fronts 0 [.ref a1_fronts_names, .ref a1_fronts_warm, .ref a1_fronts_force, .ref a1_fronts_from, .ref a1_fronts_hours, .int (X2_count b_a1_fronts)], zJ T a1_fronts_names 10 (X2_names b_a1_fronts), zZ T a1_fronts_warm 10 (X2_warm b_a1_fronts), zI T a1_fronts_force 10 (X2_force b_a1_fronts), zI T a1_fronts_from 10 (X2_from b_a1_fronts), zI T a1_fronts_hours 10 (X2_hours b_a1_fronts), zO a1_guests 1 [.ref a1_guests_names, .ref a1_guests_from, .ref a1_guests_weakest, .ref a1_guests_strongest, .ref a1_guests_nerve, .int (X4_count b_a1_guests)], zJ T a1_guests_names 10 (X4_names b_a1_guests), zI T a1_guests_from 10 (X4_from b_a1_guests), zI T a1_guests_weakest 10 (X4_weakest b_a1_guests), zI T a1_guests_strongest 10 (X4_strongest b_a1_guests), zI T a1_guests_nerve 10 (X4_nerve b_a1_guests)]
abbrev wf_X1_check (T : Nat → ClassId) (sd : SdT) (a0 : Nat) (a0_kinds : Nat) (a0_starts : Nat) (a0_values : Nat) (a1 : Nat) (a1_fronts : Nat) (a1_guests : Nat) (a1_orders : Nat) (a1_fronts_names : Nat) (a1_fronts_warm : Nat) (a1_fronts_force : Nat) (a1_fronts_from : Nat) (a1_fronts_hours : Nat) (a1_guests_names : Nat) (a1_guests_from : Nat) (a1_guests_weakest : Nat) (a1_guests_strongest : Nat) (a1_guests_nerve : Nat) (b_a0 : bX11) (b_a1_fronts : bX2) (b_a1_guests : bX4) (r : (Nat → Int64) × Int32 × Int32 × (Nat → Int64) × (Nat → Int32) × (Nat → Int32) × (Nat → Int32) × (Nat → Int32) × Int32 × (Nat → Int64) × (Nat → Int32) × (Nat → Int32) × (Nat → Int32) × (Nat → Int32) × Int32) : va_W := [zO a0 7 [.ref a0_kinds, .ref a0_starts, .ref a0_values, .int (X11_count b_a0), .int (X11_cursor b_a0), .int r.2.1, .int r.2.2.1], zK T sd.1 a0_kinds 401 (X11_kinds b_a0), zI T a0_starts 401 (X11_starts b_a0), zJ T a0_values 401 r.1, zO a1 3 [.ref a1_fronts, .ref a1_guests, .ref a1_orders], zO a1_fronts 0 [.ref a1_fronts_names, .ref a1_fronts_warm, .ref a1_fronts_force, .ref a1_fronts_from, .ref a1_fronts_hours, .int r.2.2.2.2.2.2.2.2.1], zJ T a1_fronts_names 10 r.2.2.2.1, zZ T a1_fronts_warm 10 r.2.2.2.2.1, zI T a1_fronts_force 10 r.2.2.2.2.2.1, zI T a1_fronts_from 10 r.2.2.2.2.2.2.1, zI T a1_fronts_hours 10 r.2.2.2.2.2.2.2.1, zO a1_guests 1 [.ref a1_guests_names, .ref a1_guests_from, .ref a1_guests_weakest, .ref a1_guests_strongest, .ref a1_guests_nerve, .int r.2.2.2.2.2.2.2.2.2.2.2.2.2.2], zJ T a1_guests_names 10 r.2.2.2.2.2.2.2.2.2.1, zI T a1_guests_from 10 r.2.2.2.2.2.2.2.2.2.2.1, zI T a1_guests_weakest 10 r.2.2.2.2.2.2.2.2.2.2.2.1, zI T a1_guests_strongest 10 r.2.2.2.2.2.2.2.2.2.2.2.2.1, zI T a1_guests_nerve 10 r.2.2.2.2.2.2.2.2.2.2.2.2.2.1]
abbrev rm_X1_check : Room := { frames := 5, cells := 0, slots := 0, locals := 116 }
theorem hd_X1_check : yX1_check.cls ≠ "java/lang/invoke/MethodHandle" ∧ yX1_check.cls ≠ "java/lang/invoke/VarHandle" ∧ (parseMethodDescriptor yX1_check.desc).map (fun d => d.parameters.length) = some 2 := ⟨by decide, by decide, by decide +kernel⟩
set_option maxHeartbeats 4000000 in
set_option maxRecDepth 100000 in
theorem c_X1_check {l : Launch} {D : va_G} {T : Nat → ClassId} {sd : SdT} (a0 : Nat) (a0_kinds : Nat) (a0_starts : Nat) (a0_values : Nat) (a1 : Nat) (a1_fronts : Nat) (a1_guests : Nat) (a1_orders : Nat) (a1_fronts_names : Nat) (a1_fronts_warm : Nat) (a1_fronts_force : Nat) (a1_fronts_from : Nat) (a1_fronts_hours : Nat) (a1_guests_names : Nat) (a1_guests_from : Nat) (a1_guests_weakest : Nat) (a1_guests_strongest : Nat) (a1_guests_nerve : Nat) (n : Nat) (b_a0 : bX11) (b_a1_fronts : bX2) (b_a1_guests : bX4) {res : (Nat → Int64) × Int32 × Int32 × (Nat → Int64) × (Nat → Int32) × (Nat → Int32) × (Nat → Int32) × (Nat → Int32) × Int32 × (Nat → Int64) × (Nat → Int32) × (Nat → Int32) × (Nat → Int32) × (Nat → Int32) × Int32} (hf : f_X1_check n b_a0 b_a1_fronts b_a1_guests = some res) : SxK (SFx sd) l D T yX1_check cX1_check 4 none rm_X1_check [.ref a0, .ref a1] (wc_X1_check T sd a0 a0_kinds a0_starts a0_values a1 a1_fronts a1_guests a1_orders a1_fronts_names a1_fronts_warm a1_fronts_force a1_fronts_from a1_fronts_hours a1_guests_names a1_guests_from a1_guests_weakest a1_guests_strongest a1_guests_nerve b_a0 b_a1_fronts b_a1_guests) vf_X1_check (wf_X1_check T sd a0 a0_kinds a0_starts a0_values a1 a1_fronts a1_guests a1_orders a1_fronts_names a1_fronts_warm a1_fronts_force a1_fronts_from a1_fronts_hours a1_guests_names a1_guests_from a1_guests_weakest a1_guests_strongest a1_guests_nerve b_a0 b_a1_fronts b_a1_guests) res 0 0 := by
  refine sx_start (SFx_ok sd) (by decide +kernel) (Nat.le_of_ble_eq_true rfl) (fun p e s m args below meth c A X hnm => ?_)
  have hf := ob_1 hf
  have L4 : ∀ (n0 : Nat) (v2 : Int32) (v3 : Int32) (w_a0_values : Nat → Int64) (w_a0_error : Int32) (w_a0_errorToken : Int32) (w_a1_fronts_names : Nat → Int64) (w_a1_fronts_warm : Nat → Int32) (w_a1_fronts_force : Nat → Int32) (w_a1_fronts_from : Nat → Int32) (w_a1_fronts_hours : Nat → Int32) (w_a1_fronts_count : Int32) (w_a1_guests_names : Nat → Int64) (w_a1_guests_from : Nat → Int32) (w_a1_guests_weakest : Nat → Int32) (w_a1_guests_strongest : Nat → Int32) (w_a1_guests_nerve : Nat → Int32) (w_a1_guests_count : Int32), (iter (fun s : Int32 × Int32 × (Nat → Int64) × Int32 × Int32 × (Nat → Int64) × (Nat → Int32) × (Nat → Int32) × (Nat → Int32) × (Nat → Int32) × Int32 × (Nat → Int64) × (Nat → Int32) × (Nat → Int32) × (Nat → Int32) × (Nat → Int32) × Int32 => f_X1_check_L4 n b_a0 b_a1_fronts b_a1_guests s.1 s.2.1 s.2.2.1 s.2.2.2.1 s.2.2.2.2.1 s.2.2.2.2.2.1 s.2.2.2.2.2.2.1 s.2.2.2.2.2.2.2.1 s.2.2.2.2.2.2.2.2.1 s.2.2.2.2.2.2.2.2.2.1 s.2.2.2.2.2.2.2.2.2.2.1 s.2.2.2.2.2.2.2.2.2.2.2.1 s.2.2.2.2.2.2.2.2.2.2.2.2.1 s.2.2.2.2.2.2.2.2.2.2.2.2.2.1 s.2.2.2.2.2.2.2.2.2.2.2.2.2.2.1 s.2.2.2.2.2.2.2.2.2.2.2.2.2.2.2.1 s.2.2.2.2.2.2.2.2.2.2.2.2.2.2.2.2) n0 (v2, v3, w_a0_values, w_a0_error, w_a0_errorToken, w_a1_fronts_names, w_a1_fronts_warm, w_a1_fronts_force, w_a1_fronts_from, w_a1_fronts_hours, w_a1_fronts_count, w_a1_guests_names, w_a1_guests_from, w_a1_guests_weakest, w_a1_guests_strongest, w_a1_guests_nerve, w_a1_guests_count)).bind some = some res → SxG p l e rm_X1_check s m args below meth c D A 4 0 0 (SxE below args s D A vf_X1_check (wf_X1_check T sd a0 a0_kinds a0_starts a0_values a1 a1_fronts a1_guests a1_orders a1_fronts_names a1_fronts_warm a1_fronts_force a1_fronts_from a1_fronts_hours a1_guests_names a1_guests_from a1_guests_weakest a1_guests_strongest a1_guests_nerve b_a0 b_a1_fronts b_a1_guests) res 0 0) [zO a0 7 [.ref a0_kinds, .ref a0_starts, .ref a0_values, .int (X11_count b_a0), .int (X11_cursor b_a0), .int w_a0_error, .int w_a0_errorToken], zK T sd.1 a0_kinds 401 (X11_kinds b_a0), zI T a0_starts 401 (X11_starts b_a0), zJ T a0_values 401 w_a0_values, zO a1 3 [.ref a1_fronts, .ref a1_guests, .ref a1_orders], zO a1_fronts 0 [.ref a1_fronts_names, .ref a1_fronts_warm, .ref a1_fronts_force, .ref a1_fronts_from, .ref a1_fronts_hours, .int w_a1_fronts_count], zJ T a1_fronts_names 10 w_a1_fronts_names, zZ T a1_fronts_warm 10 w_a1_fronts_warm, zI T a1_fronts_force 10 w_a1_fronts_force, zI T a1_fronts_from 10 w_a1_fronts_from, zI T a1_fronts_hours 10 w_a1_fronts_hours, zO a1_guests 1 [.ref a1_guests_names, .ref a1_guests_from, .ref a1_guests_weakest, .ref a1_guests_strongest, .ref a1_guests_nerve, .int w_a1_guests_count], zJ T a1_guests_names 10 w_a1_guests_names, zI T a1_guests_from 10 w_a1_guests_from, zI T a1_guests_weakest 10 w_a1_guests_weakest, zI T a1_guests_strongest 10 w_a1_guests_strongest, zI T a1_guests_nerve 10 w_a1_guests_nerve] [(0, .ref a0), (1, .ref a1), (2, .int v2), (3, .int v3)] 4 [] := by
    intro n0
    induction n0 with
    | zero =>
      intro v2 v3 w_a0_values w_a0_error w_a0_errorToken w_a1_fronts_names w_a1_fronts_warm w_a1_fronts_force w_a1_fronts_from w_a1_fronts_hours w_a1_fronts_count w_a1_guests_names w_a1_guests_from w_a1_guests_weakest w_a1_guests_strongest w_a1_guests_nerve w_a1_guests_count hf
      exact (iter_z hf).elim
    | succ n0 ih4 =>
      intro v2 v3 w_a0_values w_a0_error w_a0_errorToken w_a1_fronts_names w_a1_fronts_warm w_a1_fronts_force w_a1_fronts_from w_a1_fronts_hours w_a1_fronts_count w_a1_guests_names w_a1_guests_from w_a1_guests_weakest w_a1_guests_strongest w_a1_guests_nerve w_a1_guests_count hf
      obtain ⟨κ4, hκ4, hf⟩ := iter_k hf
      have hf : (f_X1_check_L4 n b_a0 b_a1_fronts b_a1_guests v2 v3 w_a0_values w_a0_error w_a0_errorToken w_a1_fronts_names w_a1_fronts_warm w_a1_fronts_force w_a1_fronts_from w_a1_fronts_hours w_a1_fronts_count w_a1_guests_names w_a1_guests_from w_a1_guests_weakest w_a1_guests_strongest w_a1_guests_nerve w_a1_guests_count).bind κ4 = some res := hf
      have R50 : ∀ (v2 : Int32) (v3 : Int32) (w_a0_values : Nat → Int64) (w_a0_error : Int32) (w_a0_errorToken : Int32) (w_a1_fronts_names : Nat → Int64) (w_a1_fronts_warm : Nat → Int32) (w_a1_fronts_force : Nat → Int32) (w_a1_fronts_from : Nat → Int32) (w_a1_fronts_hours : Nat → Int32) (w_a1_fronts_count : Int32) (w_a1_guests_names : Nat → Int64) (w_a1_guests_from : Nat → Int32) (w_a1_guests_weakest : Nat → Int32) (w_a1_guests_strongest : Nat → Int32) (w_a1_guests_nerve : Nat → Int32) (w_a1_guests_count : Int32), (f_X1_check_R50 n b_a0 b_a1_fronts b_a1_guests v2 v3 w_a0_values w_a0_error w_a0_errorToken w_a1_fronts_names w_a1_fronts_warm w_a1_fronts_force w_a1_fronts_from w_a1_fronts_hours w_a1_fronts_count w_a1_guests_names w_a1_guests_from w_a1_guests_weakest w_a1_guests_strongest w_a1_guests_nerve w_a1_guests_count).bind κ4 = some res → SxG p l e rm_X1_check s m args below meth c D A 4 0 0 (SxE below args s D A vf_X1_check (wf_X1_check T sd a0 a0_kinds a0_starts a0_values a1 a1_fronts a1_guests a1_orders a1_fronts_names a1_fronts_warm a1_fronts_force a1_fronts_from a1_fronts_hours a1_guests_names a1_guests_from a1_guests_weakest a1_guests_strongest a1_guests_nerve b_a0 b_a1_fronts b_a1_guests) res 0 0) [zO a0 7 [.ref a0_kinds, .ref a0_starts, .ref a0_values, .int (X11_count b_a0), .int (X11_cursor b_a0), .int w_a0_error, .int w_a0_errorToken], zK T sd.1 a0_kinds 401 (X11_kinds b_a0), zI T a0_starts 401 (X11_starts b_a0), zJ T a0_values 401 w_a0_values, zO a1 3 [.ref a1_fronts, .ref a1_guests, .ref a1_orders], zO a1_fronts 0 [.ref a1_fronts_names, .ref a1_fronts_warm, .ref a1_fronts_force, .ref a1_fronts_from, .ref a1_fronts_hours, .int w_a1_fronts_count], zJ T a1_fronts_names 10 w_a1_fronts_names, zZ T a1_fronts_warm 10 w_a1_fronts_warm, zI T a1_fronts_force 10 w_a1_fronts_force, zI T a1_fronts_from 10 w_a1_fronts_from, zI T a1_fronts_hours 10 w_a1_fronts_hours, zO a1_guests 1 [.ref a1_guests_names, .ref a1_guests_from, .ref a1_guests_weakest, .ref a1_guests_strongest, .ref a1_guests_nerve, .int w_a1_guests_count], zJ T a1_guests_names 10 w_a1_guests_names, zI T a1_guests_from 10 w_a1_guests_from, zI T a1_guests_weakest 10 w_a1_guests_weakest, zI T a1_guests_strongest 10 w_a1_guests_strongest, zI T a1_guests_nerve 10 w_a1_guests_nerve] [(0, .ref a0), (1, .ref a1), (2, .int v2), (3, .int v3)] 50 [] := by
        intro v2 v3 w_a0_values w_a0_error w_a0_errorToken w_a1_fronts_names w_a1_fronts_warm w_a1_fronts_force w_a1_fronts_from w_a1_fronts_hours w_a1_fronts_count w_a1_guests_names w_a1_guests_from w_a1_guests_weakest w_a1_guests_strongest w_a1_guests_nerve w_a1_guests_count hf
        refine sx_aload_n X 0 rfl dX1_check_50 rfl ?_
        refine sx_iload_n X 3 rfl dX1_check_51 rfl ?_
        refine sx_aload_n X 1 rfl dX1_check_52 rfl ?_
        obtain ⟨u6, hu6, hf⟩ := ob_c hf
        refine sx_cS X (c_X1_checkBehind (l := l) (D := D) (T := T) (sd := sd) a0 a0_kinds a0_starts a0_values a1 a1_fronts a1_guests a1_orders a1_fronts_names a1_fronts_warm a1_fronts_force a1_fronts_from a1_fronts_hours a1_guests_names a1_guests_from a1_guests_weakest a1_guests_strongest a1_guests_nerve n v3 ((X11_kinds b_a0), (X11_starts b_a0), w_a0_values, (X11_count b_a0), (X11_cursor b_a0), w_a0_error, w_a0_errorToken) (w_a1_fronts_names, w_a1_fronts_warm, w_a1_fronts_force, w_a1_fronts_from, w_a1_fronts_hours, w_a1_fronts_count) (w_a1_guests_names, w_a1_guests_from, w_a1_guests_weakest, w_a1_guests_strongest, w_a1_guests_nerve, w_a1_guests_count) hu6) (st' := []) qm_651 qm_652 qm_92 qm_653 hd_X1_checkBehind ⟨rfl, rfl⟩ ⟨Nat.le_of_ble_eq_true rfl, Nat.le_of_ble_eq_true rfl⟩ rfl rfl (Nat.le_of_ble_eq_true rfl) [0, 1, 2, 3, 4, 5, 6, 7, 8, 9, 10, 11, 12, 13, 14, 15, 16] rfl rfl (ws' := [zO a0 7 [.ref a0_kinds, .ref a0_starts, .ref a0_values, .int (X11_count b_a0), .int (X11_cursor b_a0), .int u6.2.1, .int u6.2.2.1], zK T sd.1 a0_kinds 401 (X11_kinds b_a0), zI T a0_starts 401 (X11_starts b_a0), zJ T a0_values 401 u6.1, zO a1 3 [.ref a1_fronts, .ref a1_guests, .ref a1_orders], zO a1_fronts 0 [.ref a1_fronts_names, .ref a1_fronts_warm, .ref a1_fronts_force, .ref a1_fronts_from, .ref a1_fronts_hours, .int u6.2.2.2.2.2.2.2.2.1], zJ T a1_fronts_names 10 u6.2.2.2.1, zZ T a1_fronts_warm 10 u6.2.2.2.2.1, zI T a1_fronts_force 10 u6.2.2.2.2.2.1, zI T a1_fronts_from 10 u6.2.2.2.2.2.2.1, zI T a1_fronts_hours 10 u6.2.2.2.2.2.2.2.1, zO a1_guests 1 [.ref a1_guests_names, .ref a1_guests_from, .ref a1_guests_weakest, .ref a1_guests_strongest, .ref a1_guests_nerve, .int u6.2.2.2.2.2.2.2.2.2.2.2.2.2.2], zJ T a1_guests_names 10 u6.2.2.2.2.2.2.2.2.2.1, zI T a1_guests_from 10 u6.2.2.2.2.2.2.2.2.2.2.1, zI T a1_guests_weakest 10 u6.2.2.2.2.2.2.2.2.2.2.2.1, zI T a1_guests_strongest 10 u6.2.2.2.2.2.2.2.2.2.2.2.2.1, zI T a1_guests_nerve 10 u6.2.2.2.2.2.2.2.2.2.2.2.2.2.1]) rfl rfl ⟨Nat.le_of_ble_eq_true rfl, Nat.le_of_ble_eq_true rfl⟩ dX1_check_53 rfl ?_
        refine sx_iinc X (v := (v3 + 1)) (lv' := [(3, .int (v3 + 1)), (0, .ref a0), (1, .ref a1), (2, .int v2)]) 3 rfl dX1_check_56 rfl (by decide) rfl ?_
        refine sx_goto X 4 dX1_check_59 rfl ?_
        have hf := ob_k hκ4 hf
        refine sx_lsub [1, 2, 3, 0] rfl ?_
        exact ih4 v2 (v3 + 1) u6.1 u6.2.1 u6.2.2.1 u6.2.2.2.1 u6.2.2.2.2.1 u6.2.2.2.2.2.1 u6.2.2.2.2.2.2.1 u6.2.2.2.2.2.2.2.1 u6.2.2.2.2.2.2.2.2.1 u6.2.2.2.2.2.2.2.2.2.1 u6.2.2.2.2.2.2.2.2.2.2.1 u6.2.2.2.2.2.2.2.2.2.2.2.1 u6.2.2.2.2.2.2.2.2.2.2.2.2.1 u6.2.2.2.2.2.2.2.2.2.2.2.2.2.1 u6.2.2.2.2.2.2.2.2.2.2.2.2.2.2 hf
      have R45 : ∀ (v2 : Int32) (v3 : Int32) (w_a0_values : Nat → Int64) (w_a0_error : Int32) (w_a0_errorToken : Int32) (w_a1_fronts_names : Nat → Int64) (w_a1_fronts_warm : Nat → Int32) (w_a1_fronts_force : Nat → Int32) (w_a1_fronts_from : Nat → Int32) (w_a1_fronts_hours : Nat → Int32) (w_a1_fronts_count : Int32) (w_a1_guests_names : Nat → Int64) (w_a1_guests_from : Nat → Int32) (w_a1_guests_weakest : Nat → Int32) (w_a1_guests_strongest : Nat → Int32) (w_a1_guests_nerve : Nat → Int32) (w_a1_guests_count : Int32) (t0 : Int32), (f_X1_check_R45 n b_a0 b_a1_fronts b_a1_guests v2 v3 w_a0_values w_a0_error w_a0_errorToken w_a1_fronts_names w_a1_fronts_warm w_a1_fronts_force w_a1_fronts_from w_a1_fronts_hours w_a1_fronts_count w_a1_guests_names w_a1_guests_from w_a1_guests_weakest w_a1_guests_strongest w_a1_guests_nerve w_a1_guests_count t0).bind κ4 = some res → SxG p l e rm_X1_check s m args below meth c D A 4 0 0 (SxE below args s D A vf_X1_check (wf_X1_check T sd a0 a0_kinds a0_starts a0_values a1 a1_fronts a1_guests a1_orders a1_fronts_names a1_fronts_warm a1_fronts_force a1_fronts_from a1_fronts_hours a1_guests_names a1_guests_from a1_guests_weakest a1_guests_strongest a1_guests_nerve b_a0 b_a1_fronts b_a1_guests) res 0 0) [zO a0 7 [.ref a0_kinds, .ref a0_starts, .ref a0_values, .int (X11_count b_a0), .int (X11_cursor b_a0), .int w_a0_error, .int w_a0_errorToken], zK T sd.1 a0_kinds 401 (X11_kinds b_a0), zI T a0_starts 401 (X11_starts b_a0), zJ T a0_values 401 w_a0_values, zO a1 3 [.ref a1_fronts, .ref a1_guests, .ref a1_orders], zO a1_fronts 0 [.ref a1_fronts_names, .ref a1_fronts_warm, .ref a1_fronts_force, .ref a1_fronts_from, .ref a1_fronts_hours, .int w_a1_fronts_count], zJ T a1_fronts_names 10 w_a1_fronts_names, zZ T a1_fronts_warm 10 w_a1_fronts_warm, zI T a1_fronts_force 10 w_a1_fronts_force, zI T a1_fronts_from 10 w_a1_fronts_from, zI T a1_fronts_hours 10 w_a1_fronts_hours, zO a1_guests 1 [.ref a1_guests_names, .ref a1_guests_from, .ref a1_guests_weakest, .ref a1_guests_strongest, .ref a1_guests_nerve, .int w_a1_guests_count], zJ T a1_guests_names 10 w_a1_guests_names, zI T a1_guests_from 10 w_a1_guests_from, zI T a1_guests_weakest 10 w_a1_guests_weakest, zI T a1_guests_strongest 10 w_a1_guests_strongest, zI T a1_guests_nerve 10 w_a1_guests_nerve] [(0, .ref a0), (1, .ref a1), (2, .int v2), (3, .int v3)] 45 [.int t0, .ref a0] := by
        intro v2 v3 w_a0_values w_a0_error w_a0_errorToken w_a1_fronts_names w_a1_fronts_warm w_a1_fronts_force w_a1_fronts_from w_a1_fronts_hours w_a1_fronts_count w_a1_guests_names w_a1_guests_from w_a1_guests_weakest w_a1_guests_strongest w_a1_guests_nerve w_a1_guests_count t0 hf
        refine sx_iconst X (v := 4) dX1_check_45 rfl ?_
        refine sx_iload_n X 3 rfl dX1_check_46 rfl ?_
        obtain ⟨u8, hu8, hf⟩ := ob_c hf
        refine sx_cV X (c_X11_failUnless (l := l) (D := D) (T := T) (sd := sd) a0 a0_kinds a0_starts a0_values t0 4 v3 ((X11_kinds b_a0), (X11_starts b_a0), w_a0_values, (X11_count b_a0), (X11_cursor b_a0), w_a0_error, w_a0_errorToken) hu8) (st' := []) (q0 := 0) qm_650 qm_629 qm_630 qm_70 qm_631 hd_X11_failUnless ⟨rfl, rfl⟩ ⟨Nat.le_of_ble_eq_true rfl, Nat.le_of_ble_eq_true rfl⟩ rfl rfl (Nat.le_of_ble_eq_true rfl) rfl rfl rfl [0, 1, 2, 3] rfl rfl (ws' := [zO a0 7 [.ref a0_kinds, .ref a0_starts, .ref a0_values, .int (X11_count b_a0), .int (X11_cursor b_a0), .int u8.1, .int u8.2], zK T sd.1 a0_kinds 401 (X11_kinds b_a0), zI T a0_starts 401 (X11_starts b_a0), zJ T a0_values 401 w_a0_values, zO a1 3 [.ref a1_fronts, .ref a1_guests, .ref a1_orders], zO a1_fronts 0 [.ref a1_fronts_names, .ref a1_fronts_warm, .ref a1_fronts_force, .ref a1_fronts_from, .ref a1_fronts_hours, .int w_a1_fronts_count], zJ T a1_fronts_names 10 w_a1_fronts_names, zZ T a1_fronts_warm 10 w_a1_fronts_warm, zI T a1_fronts_force 10 w_a1_fronts_force, zI T a1_fronts_from 10 w_a1_fronts_from, zI T a1_fronts_hours 10 w_a1_fronts_hours, zO a1_guests 1 [.ref a1_guests_names, .ref a1_guests_from, .ref a1_guests_weakest, .ref a1_guests_strongest, .ref a1_guests_nerve, .int w_a1_guests_count], zJ T a1_guests_names 10 w_a1_guests_names, zI T a1_guests_from 10 w_a1_guests_from, zI T a1_guests_weakest 10 w_a1_guests_weakest, zI T a1_guests_strongest 10 w_a1_guests_strongest, zI T a1_guests_nerve 10 w_a1_guests_nerve]) rfl rfl ⟨Nat.le_of_ble_eq_true rfl, Nat.le_of_ble_eq_true rfl⟩ dX1_check_47 rfl ?_
        exact R50 v2 v3 w_a0_values u8.1 u8.2 w_a1_fronts_names w_a1_fronts_warm w_a1_fronts_force w_a1_fronts_from w_a1_fronts_hours w_a1_fronts_count w_a1_guests_names w_a1_guests_from w_a1_guests_weakest w_a1_guests_strongest w_a1_guests_nerve w_a1_guests_count hf
      refine sx_iload_n X 3 rfl dX1_check_4 rfl ?_
      refine sx_aload_n X 0 rfl dX1_check_5 rfl ?_
      refine sx_get X kX11 0 rfl 3 (Nat.le_of_ble_eq_true rfl) qm_135 rfl dX1_check_6 ?_
      refine sx_icmp_ge X 62 dX1_check_9 rfl (fun c1 => ?_) (fun c1 => ?_)
      · have hf := ob_t hf c1
        have hf := ob_kr hκ4 hf
        exact sx_vret X dX1_check_62 (ob_e hf) rfl rfl
      · have hf := ob_f hf c1
        refine sx_aload_n X 0 rfl dX1_check_12 rfl ?_
        refine sx_get X kX11 0 rfl 5 (Nat.le_of_ble_eq_true rfl) qm_139 rfl dX1_check_13 ?_
        refine sx_if_ne X 62 dX1_check_16 rfl (fun c2 => ?_) (fun c2 => ?_)
        · have hf := ob_f hf c2
          have hf := ob_kr hκ4 hf
          exact sx_vret X dX1_check_62 (ob_e hf) rfl rfl
        · have hf := ob_t hf c2
          refine sx_aload_n X 0 rfl dX1_check_19 rfl ?_
          refine sx_iload_n X 3 rfl dX1_check_20 rfl ?_
          obtain ⟨u3, hu3, hf⟩ := ob_c hf
          refine sx_cVr X (c_X11_kindAt (l := l) (D := D) (T := T) (sd := sd) a0 a0_kinds a0_starts a0_values v3 ((X11_kinds b_a0), (X11_starts b_a0), w_a0_values, (X11_count b_a0), (X11_cursor b_a0), w_a0_error, w_a0_errorToken) hu3) (st' := [.ref (sd.1 u3)]) (q0 := 0) qm_635 qm_636 qm_637 qm_70 qm_638 hd_X11_kindAt ⟨rfl, rfl⟩ ⟨Nat.le_of_ble_eq_true rfl, Nat.le_of_ble_eq_true rfl⟩ rfl rfl (Nat.le_of_ble_eq_true rfl) rfl rfl rfl [0, 1, 2, 3] rfl rfl rfl ⟨Nat.le_of_ble_eq_true rfl, Nat.le_of_ble_eq_true rfl⟩ dX1_check_21 rfl ?_
          obtain ⟨u4, hu4, hf⟩ := ob_c hf
          refine sx_cSr X (c_X1_beginsOrder (l := l) (D := D) (T := T) (sd := sd) u3 hu4) (st' := [.int u4]) qm_643 qm_644 qm_92 qm_645 hd_X1_beginsOrder ⟨rfl, rfl⟩ ⟨Nat.le_of_ble_eq_true rfl, Nat.le_of_ble_eq_true rfl⟩ rfl rfl (Nat.le_of_ble_eq_true rfl) [] rfl rfl rfl ⟨Nat.le_of_ble_eq_true rfl, Nat.le_of_ble_eq_true rfl⟩ dX1_check_24 rfl ?_
          refine sx_if_eq X 50 dX1_check_27 rfl (fun c5 => ?_) (fun c5 => ?_)
          · have hf := ob_t hf c5
            exact R50 v2 v3 w_a0_values w_a0_error w_a0_errorToken w_a1_fronts_names w_a1_fronts_warm w_a1_fronts_force w_a1_fronts_from w_a1_fronts_hours w_a1_fronts_count w_a1_guests_names w_a1_guests_from w_a1_guests_weakest w_a1_guests_strongest w_a1_guests_nerve w_a1_guests_count hf
          · have hf := ob_f hf c5
            refine sx_iinc X (v := (v2 + 1)) (lv' := [(2, .int (v2 + 1)), (0, .ref a0), (1, .ref a1), (3, .int v3)]) 2 rfl dX1_check_30 rfl (by decide) rfl ?_
            refine sx_aload_n X 1 rfl dX1_check_33 rfl ?_
            refine sx_iload_n X 0 rfl dX1_check_34 rfl ?_
            refine sx_bipush X (v := 16) dX1_check_35 rfl ?_
            refine sx_icmp_gt X 44 dX1_check_37 rfl (fun c7 => ?_) (fun c7 => ?_)
            · have hf := ob_t hf c7
              refine sx_iconst X (v := 0) dX1_check_44 rfl ?_
              refine sx_lsub [1, 2, 0, 3] rfl ?_
              exact R45 (v2 + 1) v3 w_a0_values w_a0_error w_a0_errorToken w_a1_fronts_names w_a1_fronts_warm w_a1_fronts_force w_a1_fronts_from w_a1_fronts_hours w_a1_fronts_count w_a1_guests_names w_a1_guests_from w_a1_guests_weakest w_a1_guests_strongest w_a1_guests_nerve w_a1_guests_count 0 hf
            · have hf := ob_f hf c7
              refine sx_iconst X (v := 1) dX1_check_40 rfl ?_
              refine sx_goto X 45 dX1_check_41 rfl ?_
              refine sx_lsub [1, 2, 0, 3] rfl ?_
              exact R45 (v2 + 1) v3 w_a0_values w_a0_error w_a0_errorToken w_a1_fronts_names w_a1_fronts_warm w_a1_fronts_force w_a1_fronts_from w_a1_fronts_hours w_a1_fronts_count w_a1_guests_names w_a1_guests_from w_a1_guests_weakest w_a1_guests_strongest w_a1_guests_nerve w_a1_guests_count 1 hf
  refine sx_iconst X (v := 0) dX1_check_0 rfl ?_
  refine sx_istore_n X (lv' := [(2, .int 0), (0, .ref a0), (1, .ref a1)]) dX1_check_1 rfl (by decide) rfl ?_
  refine sx_iconst X (v := 0) dX1_check_2 rfl ?_
  refine sx_istore_n X (lv' := [(3, .int 0), (2, .int 0), (0, .ref a0), (1, .ref a1)]) dX1_check_3 rfl (by decide) rfl ?_
  refine sx_lsub [2, 3, 1, 0] rfl ?_
  exact L4 n 0 0 (X11_values b_a0) (X11_error b_a0) (X11_errorToken b_a0) (X2_names b_a1_fronts) (X2_warm b_a1_fronts) (X2_force b_a1_fronts) (X2_from b_a1_fronts) (X2_hours b_a1_fronts) (X2_count b_a1_fronts) (X4_names b_a1_guests) (X4_from b_a1_guests) (X4_weakest b_a1_guests) (X4_strongest b_a1_guests) (X4_nerve b_a1_guests) (X4_count b_a1_guests) hf

abbrev vf_X10_append (_r : (Nat → Int32) × Int32) : Option Value := none
abbrev wc_X10_append (T : Nat → ClassId) (sd : SdT) (h : Nat) (h_bytes : Nat) (b_h : bX10) : va_W := [zO h 6 [.ref h_bytes, .int (X10_length b_h)], zB T h_bytes 2000 (X10_bytes b_h)]
abbrev wf_X10_append (T : Nat → ClassId) (sd : SdT) (h : Nat) (h_bytes : Nat) (b_h : bX10) (r : (Nat → Int32) × Int32) : va_W := [zO h 6 [.ref h_bytes, .int r.2], zB T h_bytes 2000 r.1]
abbrev rm_X10_append : Room := { frames := 0, cells := 0, slots := 0, locals := 0 }
theorem hd_X10_append : yX10_append.cls ≠ "java/lang/invoke/MethodHandle" ∧ yX10_append.cls ≠ "java/lang/invoke/VarHandle" ∧ (parseMethodDescriptor yX10_append.desc).map (fun d => d.parameters.length) = some 1 := ⟨by decide, by decide, by decide +kernel⟩
set_option maxHeartbeats 4000000 in
set_option maxRecDepth 100000 in
theorem c_X10_append {l : Launch} {D : va_G} {T : Nat → ClassId} {sd : SdT} (h : Nat) (h_bytes : Nat) (n : Nat) (x0 : Int32) (b_h : bX10) {res : (Nat → Int32) × Int32} (hf : f_X10_append n x0 b_h = some res) : SxK (SFx sd) l D T yX10_append cX10_append 3 none rm_X10_append [.ref h, .int x0] (wc_X10_append T sd h h_bytes b_h) vf_X10_append (wf_X10_append T sd h h_bytes b_h) res 0 0 := by
  refine sx_start (SFx_ok sd) (by decide +kernel) (Nat.le_of_ble_eq_true rfl) (fun p e s m args below meth c A X hnm => ?_)
  have hf := ob_1 hf
  have L3 : ∀ (v1 : Int32) (n0 : Nat) (v2 : Int32) (w_h_bytes : Nat → Int32) (w_h_length : Int32), (iter (fun s : Int32 × (Nat → Int32) × Int32 => f_X10_append_L3 n x0 b_h v1 s.1 s.2.1 s.2.2) n0 (v2, w_h_bytes, w_h_length)).bind some = some res → SxG p l e rm_X10_append s m args below meth c D A 3 0 0 (SxE below args s D A vf_X10_append (wf_X10_append T sd h h_bytes b_h) res 0 0) [zO h 6 [.ref h_bytes, .int w_h_length], zB T h_bytes 2000 w_h_bytes] [(0, .ref h), (1, .int v1), (2, .int v2)] 3 [] := by
    intro v1 n0
    induction n0 with
    | zero =>
      intro v2 w_h_bytes w_h_length hf
      exact (iter_z hf).elim
    | succ n0 ih3 =>
      intro v2 w_h_bytes w_h_length hf
      obtain ⟨κ3, hκ3, hf⟩ := iter_k hf
      have hf : (f_X10_append_L3 n x0 b_h v1 v2 w_h_bytes w_h_length).bind κ3 = some res := hf
      refine sx_iload_n X 2 rfl dX10_append_3 rfl ?_
      refine sx_if_lt X 46 dX10_append_4 rfl (fun c1 => ?_) (fun c1 => ?_)
      · have hf := ob_t hf c1
        have hf := ob_kr hκ3 hf
        exact sx_vret X dX10_append_46 (ob_e hf) rfl rfl
      · have hf := ob_f hf c1
        refine sx_aload_n X 0 rfl dX10_append_7 rfl ?_
        refine sx_get X kX10 0 rfl 1 (Nat.le_of_ble_eq_true rfl) qm_113 rfl dX10_append_8 ?_
        refine sx_sipush X (v := 2000) dX10_append_11 rfl ?_
        refine sx_icmp_ge X 46 dX10_append_14 rfl (fun c2 => ?_) (fun c2 => ?_)
        · have hf := ob_t hf c2
          have hf := ob_kr hκ3 hf
          exact sx_vret X dX10_append_46 (ob_e hf) rfl rfl
        · have hf := ob_f hf c2
          refine sx_aload_n X 0 rfl dX10_append_17 rfl ?_
          refine sx_get X kX10 0 rfl 0 (Nat.le_of_ble_eq_true rfl) qm_111 rfl dX10_append_18 ?_
          refine sx_aload_n X 0 rfl dX10_append_21 rfl ?_
          refine sx_get X kX10 0 rfl 1 (Nat.le_of_ble_eq_true rfl) qm_113 rfl dX10_append_22 ?_
          refine sx_iload_n X 1 rfl dX10_append_25 rfl ?_
          refine sx_iload_n X 2 rfl dX10_append_26 rfl ?_
          refine sx_ishr X dX10_append_27 ?_
          refine sx_i2b X dX10_append_28 ?_
          obtain ⟨g3, hf⟩ := ob_g hf
          refine sx_bast X (ws' := [zO h 6 [.ref h_bytes, .int w_h_length], zB T h_bytes 2000 (upd w_h_bytes w_h_length.toNatClampNeg (vp_nar .byte (Int8.toInt32 (Int32.toInt8 (v1 >>> (v2 &&& 31))))))]) 1 rfl g3 rfl dX10_append_29 ?_
          refine sx_aload_n X 0 rfl dX10_append_30 rfl ?_
          refine sx_dup X dX10_append_31 rfl ?_
          refine sx_get X kX10 0 rfl 1 (Nat.le_of_ble_eq_true rfl) qm_113 rfl dX10_append_32 ?_
          refine sx_iconst X (v := 1) dX10_append_35 rfl ?_
          refine sx_iadd X dX10_append_36 ?_
          refine sx_put X (ws' := [zO h 6 [.ref h_bytes, .int (w_h_length + 1)], zB T h_bytes 2000 (upd w_h_bytes w_h_length.toNatClampNeg (vp_nar .byte (Int8.toInt32 (Int32.toInt8 (v1 >>> (v2 &&& 31))))))]) kX10 0 rfl 1 (Nat.le_of_ble_eq_true rfl) qm_113 rfl rfl rfl (Nat.le_of_ble_eq_true rfl) rfl dX10_append_37 ?_
          refine sx_iinc X (v := (v2 + (-8))) (lv' := [(2, .int (v2 + (-8))), (0, .ref h), (1, .int v1)]) 2 rfl dX10_append_40 rfl (by decide) rfl ?_
          refine sx_goto X 3 dX10_append_43 rfl ?_
          have hf := ob_k hκ3 hf
          refine sx_lsub [1, 2, 0] rfl ?_
          exact ih3 (v2 + (-8)) (upd w_h_bytes w_h_length.toNatClampNeg (vp_nar .byte (Int8.toInt32 (Int32.toInt8 (v1 >>> (v2 &&& 31)))))) (w_h_length + 1) hf
  refine sx_bipush X (v := 24) dX10_append_0 rfl ?_
  refine sx_istore_n X (lv' := [(2, .int 24), (0, .ref h), (1, .int x0)]) dX10_append_2 rfl (by decide) rfl ?_
  refine sx_lsub [1, 2, 0] rfl ?_
  exact L3 x0 n 24 (X10_bytes b_h) (X10_length b_h) hf

abbrev vf_X10_byteAt (r : Int32) : Option Value := some (.int r)
abbrev wc_X10_byteAt (T : Nat → ClassId) (sd : SdT) (h : Nat) (h_bytes : Nat) (b_h : bX10) : va_W := [zO h 6 [.ref h_bytes, .int (X10_length b_h)], zB T h_bytes 2000 (X10_bytes b_h)]
abbrev wf_X10_byteAt (T : Nat → ClassId) (sd : SdT) (h : Nat) (h_bytes : Nat) (b_h : bX10) (r : Int32) : va_W := [zO h 6 [.ref h_bytes, .int (X10_length b_h)], zB T h_bytes 2000 (X10_bytes b_h)]
abbrev rm_X10_byteAt : Room := { frames := 0, cells := 0, slots := 0, locals := 0 }
theorem hd_X10_byteAt : yX10_byteAt.cls ≠ "java/lang/invoke/MethodHandle" ∧ yX10_byteAt.cls ≠ "java/lang/invoke/VarHandle" ∧ (parseMethodDescriptor yX10_byteAt.desc).map (fun d => d.parameters.length) = some 1 := ⟨by decide, by decide, by decide +kernel⟩
set_option maxHeartbeats 4000000 in
set_option maxRecDepth 100000 in
theorem c_X10_byteAt {l : Launch} {D : va_G} {T : Nat → ClassId} {sd : SdT} (h : Nat) (h_bytes : Nat) (x0 : Int32) (b_h : bX10) {res : Int32} (hf : f_X10_byteAt x0 b_h = some res) : SxK (SFx sd) l D T yX10_byteAt cX10_byteAt 2 (some .int) rm_X10_byteAt [.ref h, .int x0] (wc_X10_byteAt T sd h h_bytes b_h) vf_X10_byteAt (wf_X10_byteAt T sd h h_bytes b_h) res 0 0 := by
  refine sx_start (SFx_ok sd) (by decide +kernel) (Nat.le_of_ble_eq_true rfl) (fun p e s m args below meth c A X hnm => ?_)
  have hf := ob_1 hf
  refine sx_iload_n X 1 rfl dX10_byteAt_0 rfl ?_
  refine sx_if_lt X 30 dX10_byteAt_1 rfl (fun c1 => ?_) (fun c1 => ?_)
  · have hf := ob_t hf c1
    refine sx_iconst X (v := 0) dX10_byteAt_30 rfl ?_
    exact sx_iret X rfl dX10_byteAt_31 (ob_e hf) rfl rfl
  · have hf := ob_f hf c1
    refine sx_iload_n X 1 rfl dX10_byteAt_4 rfl ?_
    refine sx_aload_n X 0 rfl dX10_byteAt_5 rfl ?_
    refine sx_get X kX10 0 rfl 1 (Nat.le_of_ble_eq_true rfl) qm_113 rfl dX10_byteAt_6 ?_
    refine sx_icmp_ge X 30 dX10_byteAt_9 rfl (fun c2 => ?_) (fun c2 => ?_)
    · have hf := ob_t hf c2
      refine sx_iconst X (v := 0) dX10_byteAt_30 rfl ?_
      exact sx_iret X rfl dX10_byteAt_31 (ob_e hf) rfl rfl
    · have hf := ob_f hf c2
      refine sx_iload_n X 1 rfl dX10_byteAt_12 rfl ?_
      refine sx_aload_n X 0 rfl dX10_byteAt_13 rfl ?_
      refine sx_get X kX10 0 rfl 0 (Nat.le_of_ble_eq_true rfl) qm_111 rfl dX10_byteAt_14 ?_
      refine sx_alen X (t0 := 2) (v := 2000) 1 rfl rfl rfl dX10_byteAt_17 ?_
      refine sx_icmp_ge X 30 dX10_byteAt_18 rfl (fun c3 => ?_) (fun c3 => ?_)
      · have hf := ob_t hf c3
        refine sx_iconst X (v := 0) dX10_byteAt_30 rfl ?_
        exact sx_iret X rfl dX10_byteAt_31 (ob_e hf) rfl rfl
      · have hf := ob_f hf c3
        refine sx_aload_n X 0 rfl dX10_byteAt_21 rfl ?_
        refine sx_get X kX10 0 rfl 0 (Nat.le_of_ble_eq_true rfl) qm_111 rfl dX10_byteAt_22 ?_
        refine sx_iload_n X 1 rfl dX10_byteAt_25 rfl ?_
        obtain ⟨g4, hf⟩ := ob_g hf
        refine sx_bald X 1 rfl g4 dX10_byteAt_26 ?_
        refine sx_goto X 31 dX10_byteAt_27 rfl ?_
        exact sx_iret X rfl dX10_byteAt_31 (ob_e hf) rfl rfl
