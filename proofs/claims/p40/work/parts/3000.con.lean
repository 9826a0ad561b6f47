/-! contracts, part 0 -/
abbrev vf_X1_beginsOrder (sd : SdT) (r : Int32) : Option Value := some (.int r)
abbrev wc_X1_beginsOrder (T : Nat → ClassId) (sd : SdT)  : va_W := []
abbrev wf_X1_beginsOrder (T : Nat → ClassId) (sd : SdT)  (r : Int32) : va_W := []
abbrev rm_X1_beginsOrder : Room := { frames := 0, cells := 0, slots := 0, locals := 0 }
theorem hd_X1_beginsOrder : yX1_beginsOrder.cls ≠ "java/lang/invoke/MethodHandle" ∧ yX1_beginsOrder.cls ≠ "java/lang/invoke/VarHandle" ∧ (parseMethodDescriptor yX1_beginsOrder.desc).map (fun d => d.parameters.length) = some 1 := ⟨by decide, by decide, by decide +kernel⟩
set_option maxHeartbeats 4000000 in
set_option maxRecDepth 100000 in
theorem c_X1_beginsOrder {l : Launch} {D : va_G} {T : Nat → ClassId} {sd : SdT}  (x0 : Nat) {res : Int32} (hf : f_X1_beginsOrder x0 = some res) : SxK (SFx sd) l D T yX1_beginsOrder cX1_beginsOrder 1 (some .boolean) rm_X1_beginsOrder [.ref (sd.1 x0)] (wc_X1_beginsOrder T sd ) (vf_X1_beginsOrder sd) (wf_X1_beginsOrder T sd ) res 0 0 := by
  refine sx_start (SFx_ok sd) (by decide +kernel) (Nat.le_of_ble_eq_true rfl) (fun p e s m args below meth c A X hnm => ?_)
  have hf := ob_1 hf
  refine sx_aload_n X 0 rfl dX1_beginsOrder_0 rfl ?_
  refine sx_kst X 11 (by decide) qm_1068 dX1_beginsOrder_1 ?_
  obtain ⟨g2, hf⟩ := ob_h hf
  refine sx_keq X 28 g2 (by decide) dX1_beginsOrder_4 rfl (fun c1 => ?_) (fun c1 => ?_)
  · have hf := ob_t hf c1
    refine sx_iconst X (v := 1) dX1_beginsOrder_28 rfl ?_
    refine sx_goto X 33 dX1_beginsOrder_29 rfl ?_
    exact sx_iret X rfl dX1_beginsOrder_33 (ob_e hf) rfl rfl
  · have hf := ob_f hf c1
    refine sx_aload_n X 0 rfl dX1_beginsOrder_7 rfl ?_
    refine sx_kst X 14 (by decide) qm_1069 dX1_beginsOrder_8 ?_
    obtain ⟨g4, hf⟩ := ob_h hf
    refine sx_keq X 28 g4 (by decide) dX1_beginsOrder_11 rfl (fun c3 => ?_) (fun c3 => ?_)
    · have hf := ob_t hf c3
      refine sx_iconst X (v := 1) dX1_beginsOrder_28 rfl ?_
      refine sx_goto X 33 dX1_beginsOrder_29 rfl ?_
      exact sx_iret X rfl dX1_beginsOrder_33 (ob_e hf) rfl rfl
    · have hf := ob_f hf c3
      refine sx_aload_n X 0 rfl dX1_beginsOrder_14 rfl ?_
      refine sx_kst X 12 (by decide) qm_1070 dX1_beginsOrder_15 ?_
      obtain ⟨g6, hf⟩ := ob_h hf
      refine sx_keq X 28 g6 (by decide) dX1_beginsOrder_18 rfl (fun c5 => ?_) (fun c5 => ?_)
      · have hf := ob_t hf c5
        refine sx_iconst X (v := 1) dX1_beginsOrder_28 rfl ?_
        refine sx_goto X 33 dX1_beginsOrder_29 rfl ?_
        exact sx_iret X rfl dX1_beginsOrder_33 (ob_e hf) rfl rfl
      · have hf := ob_f hf c5
        refine sx_aload_n X 0 rfl dX1_beginsOrder_21 rfl ?_
        refine sx_kst X 13 (by decide) qm_1071 dX1_beginsOrder_22 ?_
        obtain ⟨g8, hf⟩ := ob_h hf
        refine sx_kne X 32 g8 (by decide) dX1_beginsOrder_25 rfl (fun c7 => ?_) (fun c7 => ?_)
        · have hf := ob_f hf c7
          refine sx_iconst X (v := 0) dX1_beginsOrder_32 rfl ?_
          exact sx_iret X rfl dX1_beginsOrder_33 (ob_e hf) rfl rfl
        · have hf := ob_t hf c7
          refine sx_iconst X (v := 1) dX1_beginsOrder_28 rfl ?_
          refine sx_goto X 33 dX1_beginsOrder_29 rfl ?_
          exact sx_iret X rfl dX1_beginsOrder_33 (ob_e hf) rfl rfl

abbrev vf_X11_has (sd : SdT) (r : Int32) : Option Value := some (.int r)
abbrev wc_X11_has (T : Nat → ClassId) (sd : SdT) (h : Nat) (h_kinds : Nat) (h_starts : Nat) (h_values : Nat) (b_h : bX11) : va_W := [zO h 9 [.ref h_kinds, .ref h_starts, .ref h_values, .int (X11_count b_h), .int (X11_cursor b_h), .int (X11_error b_h), .int (X11_errorToken b_h)], zK T sd.1 h_kinds 401 (X11_kinds b_h), zI T h_starts 401 (X11_starts b_h), zJ T h_values 401 (X11_values b_h)]
abbrev wf_X11_has (T : Nat → ClassId) (sd : SdT) (h : Nat) (h_kinds : Nat) (h_starts : Nat) (h_values : Nat) (b_h : bX11) (r : Int32) : va_W := [zO h 9 [.ref h_kinds, .ref h_starts, .ref h_values, .int (X11_count b_h), .int (X11_cursor b_h), .int (X11_error b_h), .int (X11_errorToken b_h)], zK T sd.1 h_kinds 401 (X11_kinds b_h), zI T h_starts 401 (X11_starts b_h), zJ T h_values 401 (X11_values b_h)]
abbrev rm_X11_has : Room := { frames := 0, cells := 0, slots := 0, locals := 0 }
theorem hd_X11_has : yX11_has.cls ≠ "java/lang/invoke/MethodHandle" ∧ yX11_has.cls ≠ "java/lang/invoke/VarHandle" ∧ (parseMethodDescriptor yX11_has.desc).map (fun d => d.parameters.length) = some 1 := ⟨by decide, by decide, by decide +kernel⟩
set_option maxHeartbeats 4000000 in
set_option maxRecDepth 100000 in
theorem c_X11_has {l : Launch} {D : va_G} {T : Nat → ClassId} {sd : SdT} (h : Nat) (h_kinds : Nat) (h_starts : Nat) (h_values : Nat) (x0 : Int32) (b_h : bX11) {res : Int32} (hf : f_X11_has x0 b_h = some res) : SxK (SFx sd) l D T yX11_has cX11_has 2 (some .boolean) rm_X11_has [.ref h, .int x0] (wc_X11_has T sd h h_kinds h_starts h_values b_h) (vf_X11_has sd) (wf_X11_has T sd h h_kinds h_starts h_values b_h) res 0 0 := by
  refine sx_start (SFx_ok sd) (by decide +kernel) (Nat.le_of_ble_eq_true rfl) (fun p e s m args below meth c A X hnm => ?_)
  have hf := ob_1 hf
  refine sx_iload_n X 1 rfl dX11_has_0 rfl ?_
  refine sx_if_lt X 23 dX11_has_1 rfl (fun c1 => ?_) (fun c1 => ?_)
  · have hf := ob_t hf c1
    refine sx_iconst X (v := 0) dX11_has_23 rfl ?_
    exact sx_iret X rfl dX11_has_24 (ob_e hf) rfl rfl
  · have hf := ob_f hf c1
    refine sx_iload_n X 1 rfl dX11_has_4 rfl ?_
    refine sx_aload_n X 0 rfl dX11_has_5 rfl ?_
    refine sx_get X kX11 0 rfl 3 (Nat.le_of_ble_eq_true rfl) qm_87 rfl dX11_has_6 ?_
    refine sx_icmp_ge X 23 dX11_has_9 rfl (fun c2 => ?_) (fun c2 => ?_)
    · have hf := ob_t hf c2
      refine sx_iconst X (v := 0) dX11_has_23 rfl ?_
      exact sx_iret X rfl dX11_has_24 (ob_e hf) rfl rfl
    · have hf := ob_f hf c2
      refine sx_iload_n X 1 rfl dX11_has_12 rfl ?_
      refine sx_sipush X (v := 400) dX11_has_13 rfl ?_
      refine sx_icmp_gt X 23 dX11_has_16 rfl (fun c3 => ?_) (fun c3 => ?_)
      · have hf := ob_t hf c3
        refine sx_iconst X (v := 0) dX11_has_23 rfl ?_
        exact sx_iret X rfl dX11_has_24 (ob_e hf) rfl rfl
      · have hf := ob_f hf c3
        refine sx_iconst X (v := 1) dX11_has_19 rfl ?_
        refine sx_goto X 24 dX11_has_20 rfl ?_
        exact sx_iret X rfl dX11_has_24 (ob_e hf) rfl rfl

abbrev vf_X11_kindAt (sd : SdT) (r : Nat) : Option Value := some (.ref (sd.1 r))
abbrev wc_X11_kindAt (T : Nat → ClassId) (sd : SdT) (h : Nat) (h_kinds : Nat) (h_starts : Nat) (h_values : Nat) (b_h : bX11) : va_W := [zO h 9 [.ref h_kinds, .ref h_starts, .ref h_values, .int (X11_count b_h), .int (X11_cursor b_h), .int (X11_error b_h), .int (X11_errorToken b_h)], zK T sd.1 h_kinds 401 (X11_kinds b_h), zI T h_starts 401 (X11_starts b_h), zJ T h_values 401 (X11_values b_h)]
abbrev wf_X11_kindAt (T : Nat → ClassId) (sd : SdT) (h : Nat) (h_kinds : Nat) (h_starts : Nat) (h_values : Nat) (b_h : bX11) (r : Nat) : va_W := [zO h 9 [.ref h_kinds, .ref h_starts, .ref h_values, .int (X11_count b_h), .int (X11_cursor b_h), .int (X11_error b_h), .int (X11_errorToken b_h)], zK T sd.1 h_kinds 401 (X11_kinds b_h), zI T h_starts 401 (X11_starts b_h), zJ T h_values 401 (X11_values b_h)]
abbrev rm_X11_kindAt : Room := { frames := 1, cells := 0, slots := 0, locals := 21 }
theorem hd_X11_kindAt : yX11_kindAt.cls ≠ "java/lang/invoke/MethodHandle" ∧ yX11_kindAt.cls ≠ "java/lang/invoke/VarHandle" ∧ (parseMethodDescriptor yX11_kindAt.desc).map (fun d => d.parameters.length) = some 1 := ⟨by decide, by decide, by decide +kernel⟩
set_option maxHeartbeats 4000000 in
set_option maxRecDepth 100000 in
theorem c_X11_kindAt {l : Launch} {D : va_G} {T : Nat → ClassId} {sd : SdT} (h : Nat) (h_kinds : Nat) (h_starts : Nat) (h_values : Nat) (x0 : Int32) (b_h : bX11) {res : Nat} (hf : f_X11_kindAt x0 b_h = some res) : SxK (SFx sd) l D T yX11_kindAt cX11_kindAt 2 (some (.object "WeatherTea$Kind")) rm_X11_kindAt [.ref h, .int x0] (wc_X11_kindAt T sd h h_kinds h_starts h_values b_h) (vf_X11_kindAt sd) (wf_X11_kindAt T sd h h_kinds h_starts h_values b_h) res 0 0 := by
  refine sx_start (SFx_ok sd) (by decide +kernel) (Nat.le_of_ble_eq_true rfl) (fun p e s m args below meth c A X hnm => ?_)
  have hf := ob_1 hf
  refine sx_aload_n X 0 rfl dX11_kindAt_0 rfl ?_
  refine sx_iload_n X 1 rfl dX11_kindAt_1 rfl ?_
  obtain ⟨u1, hu1, hf⟩ := ob_c hf
  refine sx_cVr X (c_X11_has (l := l) (D := D) (T := T) (sd := sd) h h_kinds h_starts h_values x0 b_h hu1) (st' := [.int u1]) (q0 := 0) qm_1061 qm_1062 qm_1063 qm_15 qm_1064 hd_X11_has ⟨rfl, rfl⟩ ⟨Nat.le_of_ble_eq_true rfl, Nat.le_of_ble_eq_true rfl⟩ rfl rfl (Nat.le_of_ble_eq_true rfl) rfl rfl rfl [0, 1, 2, 3] rfl rfl rfl ⟨Nat.le_of_ble_eq_true rfl, Nat.le_of_ble_eq_true rfl⟩ dX11_kindAt_2 rfl ?_
  refine sx_if_eq X 17 dX11_kindAt_5 rfl (fun c2 => ?_) (fun c2 => ?_)
  · have hf := ob_t hf c2
    refine sx_kst X 49 (by decide) qm_82 dX11_kindAt_17 ?_
    exact sx_aret X dX11_kindAt_20 (ob_e hf) rfl rfl
  · have hf := ob_f hf c2
    refine sx_aload_n X 0 rfl dX11_kindAt_8 rfl ?_
    refine sx_get X kX11 0 rfl 0 (Nat.le_of_ble_eq_true rfl) qm_84 rfl dX11_kindAt_9 ?_
    refine sx_iload_n X 1 rfl dX11_kindAt_12 rfl ?_
    obtain ⟨g3, hf⟩ := ob_g hf
    refine sx_kald X 1 rfl g3 dX11_kindAt_13 ?_
    refine sx_goto X 20 dX11_kindAt_14 rfl ?_
    exact sx_aret X dX11_kindAt_20 (ob_e hf) rfl rfl

abbrev vf_X11_failUnless (sd : SdT) (_r : Int32 × Int32) : Option Value := none
abbrev wc_X11_failUnless (T : Nat → ClassId) (sd : SdT) (h : Nat) (h_kinds : Nat) (h_starts : Nat) (h_values : Nat) (b_h : bX11) : va_W := [zO h 9 [.ref h_kinds, .ref h_starts, .ref h_values, .int (X11_count b_h), .int (X11_cursor b_h), .int (X11_error b_h), .int (X11_errorToken b_h)], zK T sd.1 h_kinds 401 (X11_kinds b_h), zI T h_starts 401 (X11_starts b_h), zJ T h_values 401 (X11_values b_h)]
abbrev wf_X11_failUnless (T : Nat → ClassId) (sd : SdT) (h : Nat) (h_kinds : Nat) (h_starts : Nat) (h_values : Nat) (b_h : bX11) (r : Int32 × Int32) : va_W := [zO h 9 [.ref h_kinds, .ref h_starts, .ref h_values, .int (X11_count b_h), .int (X11_cursor b_h), .int r.1, .int r.2], zK T sd.1 h_kinds 401 (X11_kinds b_h), zI T h_starts 401 (X11_starts b_h), zJ T h_values 401 (X11_values b_h)]
abbrev rm_X11_failUnless : Room := { frames := 0, cells := 0, slots := 0, locals := 0 }
theorem hd_X11_failUnless : yX11_failUnless.cls ≠ "java/lang/invoke/MethodHandle" ∧ yX11_failUnless.cls ≠ "java/lang/invoke/VarHandle" ∧ (parseMethodDescriptor yX11_failUnless.desc).map (fun d => d.parameters.length) = some 3 := ⟨by decide, by decide, by decide +kernel⟩
set_option maxHeartbeats 4000000 in
set_option maxRecDepth 100000 in
theorem c_X11_failUnless {l : Launch} {D : va_G} {T : Nat → ClassId} {sd : SdT} (h : Nat) (h_kinds : Nat) (h_starts : Nat) (h_values : Nat) (x0 : Int32) (x1 : Int32) (x2 : Int32) (b_h : bX11) {res : Int32 × Int32} (hf : f_X11_failUnless x0 x1 x2 b_h = some res) : SxK (SFx sd) l D T yX11_failUnless cX11_failUnless 4 none rm_X11_failUnless [.ref h, .int x0, .int x1, .int x2] (wc_X11_failUnless T sd h h_kinds h_starts h_values b_h) (vf_X11_failUnless sd) (wf_X11_failUnless T sd h h_kinds h_starts h_values b_h) res 0 0 := by
  refine sx_start (SFx_ok sd) (by decide +kernel) (Nat.le_of_ble_eq_true rfl) (fun p e s m args below meth c A X hnm => ?_)
  have hf := ob_1 hf
  refine sx_iload_n X 1 rfl dX11_failUnless_0 rfl ?_
  refine sx_if_ne X 21 dX11_failUnless_1 rfl (fun c1 => ?_) (fun c1 => ?_)
  · have hf := ob_f hf c1
    exact sx_vret X dX11_failUnless_21 (ob_e hf) rfl rfl
  · have hf := ob_t hf c1
    refine sx_aload_n X 0 rfl dX11_failUnless_4 rfl ?_
    refine sx_get X kX11 0 rfl 5 (Nat.le_of_ble_eq_true rfl) qm_91 rfl dX11_failUnless_5 ?_
    refine sx_if_ne X 21 dX11_failUnless_8 rfl (fun c2 => ?_) (fun c2 => ?_)
    · have hf := ob_f hf c2
      exact sx_vret X dX11_failUnless_21 (ob_e hf) rfl rfl
    · have hf := ob_t hf c2
      refine sx_aload_n X 0 rfl dX11_failUnless_11 rfl ?_
      refine sx_iload_n X 2 rfl dX11_failUnless_12 rfl ?_
      refine sx_put X (ws' := [zO h 9 [.ref h_kinds, .ref h_starts, .ref h_values, .int (X11_count b_h), .int (X11_cursor b_h), .int x1, .int (X11_errorToken b_h)], zK T sd.1 h_kinds 401 (X11_kinds b_h), zI T h_starts 401 (X11_starts b_h), zJ T h_values 401 (X11_values b_h)]) kX11 0 rfl 5 (Nat.le_of_ble_eq_true rfl) qm_91 rfl rfl rfl (Nat.le_of_ble_eq_true rfl) rfl dX11_failUnless_13 ?_
      refine sx_aload_n X 0 rfl dX11_failUnless_16 rfl ?_
      refine sx_iload_n X 3 rfl dX11_failUnless_17 rfl ?_
      refine sx_put X (ws' := [zO h 9 [.ref h_kinds, .ref h_starts, .ref h_values, .int (X11_count b_h), .int (X11_cursor b_h), .int x1, .int x2], zK T sd.1 h_kinds 401 (X11_kinds b_h), zI T h_starts 401 (X11_starts b_h), zJ T h_values 401 (X11_values b_h)]) kX11 0 rfl 6 (Nat.le_of_ble_eq_true rfl) qm_94 rfl rfl rfl (Nat.le_of_ble_eq_true rfl) rfl dX11_failUnless_18 ?_
      exact sx_vret X dX11_failUnless_21 (ob_e hf) rfl rfl

abbrev vf_X11_valueAt (sd : SdT) (r : Int64) : Option Value := some (.long r)
abbrev wc_X11_valueAt (T : Nat → ClassId) (sd : SdT) (h : Nat) (h_kinds : Nat) (h_starts : Nat) (h_values : Nat) (b_h : bX11) : va_W := [zO h 9 [.ref h_kinds, .ref h_starts, .ref h_values, .int (X11_count b_h), .int (X11_cursor b_h), .int (X11_error b_h), .int (X11_errorToken b_h)], zK T sd.1 h_kinds 401 (X11_kinds b_h), zI T h_starts 401 (X11_starts b_h), zJ T h_values 401 (X11_values b_h)]
abbrev wf_X11_valueAt (T : Nat → ClassId) (sd : SdT) (h : Nat) (h_kinds : Nat) (h_starts : Nat) (h_values : Nat) (b_h : bX11) (r : Int64) : va_W := [zO h 9 [.ref h_kinds, .ref h_starts, .ref h_values, .int (X11_count b_h), .int (X11_cursor b_h), .int (X11_error b_h), .int (X11_errorToken b_h)], zK T sd.1 h_kinds 401 (X11_kinds b_h), zI T h_starts 401 (X11_starts b_h), zJ T h_values 401 (X11_values b_h)]
abbrev rm_X11_valueAt : Room := { frames := 1, cells := 0, slots := 0, locals := 21 }
theorem hd_X11_valueAt : yX11_valueAt.cls ≠ "java/lang/invoke/MethodHandle" ∧ yX11_valueAt.cls ≠ "java/lang/invoke/VarHandle" ∧ (parseMethodDescriptor yX11_valueAt.desc).map (fun d => d.parameters.length) = some 1 := ⟨by decide, by decide, by decide +kernel⟩
set_option maxHeartbeats 4000000 in
set_option maxRecDepth 100000 in
theorem c_X11_valueAt {l : Launch} {D : va_G} {T : Nat → ClassId} {sd : SdT} (h : Nat) (h_kinds : Nat) (h_starts : Nat) (h_values : Nat) (x0 : Int32) (b_h : bX11) {res : Int64} (hf : f_X11_valueAt x0 b_h = some res) : SxK (SFx sd) l D T yX11_valueAt cX11_valueAt 2 (some .long) rm_X11_valueAt [.ref h, .int x0] (wc_X11_valueAt T sd h h_kinds h_starts h_values b_h) (vf_X11_valueAt sd) (wf_X11_valueAt T sd h h_kinds h_starts h_values b_h) res 0 0 := by
  refine sx_start (SFx_ok sd) (by decide +kernel) (Nat.le_of_ble_eq_true rfl) (fun p e s m args below meth c A X hnm => ?_)
  have hf := ob_1 hf
  refine sx_aload_n X 0 rfl dX11_valueAt_0 rfl ?_
  refine sx_iload_n X 1 rfl dX11_valueAt_1 rfl ?_
  obtain ⟨u1, hu1, hf⟩ := ob_c hf
  refine sx_cVr X (c_X11_has (l := l) (D := D) (T := T) (sd := sd) h h_kinds h_starts h_values x0 b_h hu1) (st' := [.int u1]) (q0 := 0) qm_1061 qm_1062 qm_1063 qm_15 qm_1064 hd_X11_has ⟨rfl, rfl⟩ ⟨Nat.le_of_ble_eq_true rfl, Nat.le_of_ble_eq_true rfl⟩ rfl rfl (Nat.le_of_ble_eq_true rfl) rfl rfl rfl [0, 1, 2, 3] rfl rfl rfl ⟨Nat.le_of_ble_eq_true rfl, Nat.le_of_ble_eq_true rfl⟩ dX11_valueAt_2 rfl ?_
  refine sx_if_eq X 17 dX11_valueAt_5 rfl (fun c2 => ?_) (fun c2 => ?_)
  · have hf := ob_t hf c2
    refine sx_lconst X (v := 0) dX11_valueAt_17 rfl ?_
    exact sx_lret X dX11_valueAt_18 (ob_e hf) rfl rfl
  · have hf := ob_f hf c2
    refine sx_aload_n X 0 rfl dX11_valueAt_8 rfl ?_
    refine sx_get X kX11 0 rfl 2 (Nat.le_of_ble_eq_true rfl) qm_86 rfl dX11_valueAt_9 ?_
    refine sx_iload_n X 1 rfl dX11_valueAt_12 rfl ?_
    obtain ⟨g3, hf⟩ := ob_g hf
    refine sx_lald X 3 rfl g3 dX11_valueAt_13 ?_
    refine sx_goto X 18 dX11_valueAt_14 rfl ?_
    exact sx_lret X dX11_valueAt_18 (ob_e hf) rfl rfl

abbrev vf_X2_find (sd : SdT) (r : Int32) : Option Value := some (.int r)
abbrev wc_X2_find (T : Nat → ClassId) (sd : SdT) (h : Nat) (h_names : Nat) (h_warm : Nat) (h_force : Nat) (h_from : Nat) (h_hours : Nat) (b_h : bX2) : va_W := [zO h 2 [.ref h_names, .ref h_warm, .ref h_force, .ref h_from, .ref h_hours, .int (X2_count b_h)], zJ T h_names 10 (X2_names b_h), zZ T h_warm 10 (X2_warm b_h), zI T h_force 10 (X2_force b_h), zI T h_from 10 (X2_from b_h), zI T h_hours 10 (X2_hours b_h)]
abbrev wf_X2_find (T : Nat → ClassId) (sd : SdT) (h : Nat) (h_names : Nat) (h_warm : Nat) (h_force : Nat) (h_from : Nat) (h_hours : Nat) (b_h : bX2) (r : Int32) : va_W := [zO h 2 [.ref h_names, .ref h_warm, .ref h_force, .ref h_from, .ref h_hours, .int (X2_count b_h)], zJ T h_names 10 (X2_names b_h), zZ T h_warm 10 (X2_warm b_h), zI T h_force 10 (X2_force b_h), zI T h_from 10 (X2_from b_h), zI T h_hours 10 (X2_hours b_h)]
abbrev rm_X2_find : Room := { frames := 0, cells := 0, slots := 0, locals := 0 }
theorem hd_X2_find : yX2_find.cls ≠ "java/lang/invoke/MethodHandle" ∧ yX2_find.cls ≠ "java/lang/invoke/VarHandle" ∧ (parseMethodDescriptor yX2_find.desc).map (fun d => d.parameters.length) = some 1 := ⟨by decide, by decide, by decide +kernel⟩
set_option maxHeartbeats 4000000 in
set_option maxRecDepth 100000 in
theorem c_X2_find {l : Launch} {D : va_G} {T : Nat → ClassId} {sd : SdT} (h : Nat) (h_names : Nat) (h_warm : Nat) (h_force : Nat) (h_from : Nat) (h_hours : Nat) (n : Nat) (x0 : Int64) (b_h : bX2) {res : Int32} (hf : f_X2_find n x0 b_h = some res) : SxK (SFx sd) l D T yX2_find cX2_find 4 (some .int) rm_X2_find [.ref h, .long x0] (wc_X2_find T sd h h_names h_warm h_force h_from h_hours b_h) (vf_X2_find sd) (wf_X2_find T sd h h_names h_warm h_force h_from h_hours b_h) res 0 0 := by
  refine sx_start (SFx_ok sd) (by decide +kernel) (Nat.le_of_ble_eq_true rfl) (fun p e s m args below meth c A X hnm => ?_)
  have hf := ob_1 hf
  have L2 : ∀ (v1 : Int64) (n0 : Nat) (v3 : Int32), (iter (fun s : Int32 => f_X2_find_L2 n x0 b_h v1 s) n0 v3).bind some = some res → SxG p l e rm_X2_find s m args below meth c D A 4 0 0 (SxE below args s D A (vf_X2_find sd) (wf_X2_find T sd h h_names h_warm h_force h_from h_hours b_h) res 0 0) [zO h 2 [.ref h_names, .ref h_warm, .ref h_force, .ref h_from, .ref h_hours, .int (X2_count b_h)], zJ T h_names 10 (X2_names b_h), zZ T h_warm 10 (X2_warm b_h), zI T h_force 10 (X2_force b_h), zI T h_from 10 (X2_from b_h), zI T h_hours 10 (X2_hours b_h)] [(0, .ref h), (1, .long v1), (3, .int v3)] 2 [] := by
    intro v1 n0
    induction n0 with
    | zero =>
      intro v3 hf
      exact (iter_z hf).elim
    | succ n0 ih2 =>
      intro v3 hf
      obtain ⟨κ2, hκ2, hf⟩ := iter_k hf
      have hf : (f_X2_find_L2 n x0 b_h v1 v3).bind κ2 = some res := hf
      refine sx_iload_n X 2 rfl dX2_find_2 rfl ?_
      refine sx_aload_n X 0 rfl dX2_find_3 rfl ?_
      refine sx_get X kX2 0 rfl 5 (Nat.le_of_ble_eq_true rfl) qm_156 rfl dX2_find_4 ?_
      refine sx_icmp_ge X 29 dX2_find_7 rfl (fun c1 => ?_) (fun c1 => ?_)
      · have hf := ob_t hf c1
        refine sx_iconst X (v := (-1)) dX2_find_29 rfl ?_
        have hf := ob_kr hκ2 hf
        exact sx_iret X rfl dX2_find_30 (ob_e hf) rfl rfl
      · have hf := ob_f hf c1
        refine sx_aload_n X 0 rfl dX2_find_10 rfl ?_
        refine sx_get X kX2 0 rfl 0 (Nat.le_of_ble_eq_true rfl) qm_144 rfl dX2_find_11 ?_
        refine sx_iload_n X 2 rfl dX2_find_14 rfl ?_
        obtain ⟨g2, hf⟩ := ob_g hf
        refine sx_lald X 1 rfl g2 dX2_find_15 ?_
        refine sx_lload_n X 1 rfl dX2_find_16 rfl ?_
        refine sx_lcmp X dX2_find_17 ?_
        refine sx_if_ne X 23 dX2_find_18 rfl (fun c3 => ?_) (fun c3 => ?_)
        · have hf := ob_f hf c3
          refine sx_iinc X (v := (v3 + 1)) (lv' := [(3, .int (v3 + 1)), (0, .ref h), (1, .long v1)]) 2 rfl dX2_find_23 rfl (by decide) rfl ?_
          refine sx_goto X 2 dX2_find_26 rfl ?_
          have hf := ob_k hκ2 hf
          refine sx_lsub [1, 2, 0] rfl ?_
          exact ih2 (v3 + 1) hf
        · have hf := ob_t hf c3
          refine sx_iload_n X 2 rfl dX2_find_21 rfl ?_
          have hf := ob_kr hκ2 hf
          exact sx_iret X rfl dX2_find_22 (ob_e hf) rfl rfl
  refine sx_iconst X (v := 0) dX2_find_0 rfl ?_
  refine sx_istore_n X (lv' := [(3, .int 0), (0, .ref h), (1, .long x0)]) dX2_find_1 rfl (by decide) rfl ?_
  refine sx_lsub [1, 2, 0] rfl ?_
  exact L2 x0 n 0 hf

abbrev vf_X1_numberIn (sd : SdT) (r : Int32 × Int32 × Int32) : Option Value := some (.int r.1)
abbrev wc_X1_numberIn (T : Nat → ClassId) (sd : SdT) (a0 : Nat) (a0_kinds : Nat) (a0_starts : Nat) (a0_values : Nat) (b_a0 : bX11) : va_W := [zO a0 9 [.ref a0_kinds, .ref a0_starts, .ref a0_values, .int (X11_count b_a0), .int (X11_cursor b_a0), .int (X11_error b_a0), .int (X11_errorToken b_a0)], zK T sd.1 a0_kinds 401 (X11_kinds b_a0), zI T a0_starts 401 (X11_starts b_a0), zJ T a0_values 401 (X11_values b_a0)]
abbrev wf_X1_numberIn (T : Nat → ClassId) (sd : SdT) (a0 : Nat) (a0_kinds : Nat) (a0_starts : Nat) (a0_values : Nat) (b_a0 : bX11) (r : Int32 × Int32 × Int32) : va_W := [zO a0 9 [.ref a0_kinds, .ref a0_starts, .ref a0_values, .int (X11_count b_a0), .int (X11_cursor b_a0), .int r.2.1, .int r.2.2], zK T sd.1 a0_kinds 401 (X11_kinds b_a0), zI T a0_starts 401 (X11_starts b_a0), zJ T a0_values 401 (X11_values b_a0)]
abbrev rm_X1_numberIn : Room := { frames := 2, cells := 0, slots := 0, locals := 42 }
theorem hd_X1_numberIn : yX1_numberIn.cls ≠ "java/lang/invoke/MethodHandle" ∧ yX1_numberIn.cls ≠ "java/lang/invoke/VarHandle" ∧ (parseMethodDescriptor yX1_numberIn.desc).map (fun d => d.parameters.length) = some 4 := ⟨by decide, by decide, by decide +kernel⟩
set_option maxHeartbeats 4000000 in
set_option maxRecDepth 100000 in
theorem c_X1_numberIn {l : Launch} {D : va_G} {T : Nat → ClassId} {sd : SdT} (a0 : Nat) (a0_kinds : Nat) (a0_starts : Nat) (a0_values : Nat) (x1 : Int32) (x2 : Int32) (x3 : Int32) (b_a0 : bX11) {res : Int32 × Int32 × Int32} (hf : f_X1_numberIn x1 x2 x3 b_a0 = some res) : SxK (SFx sd) l D T yX1_numberIn cX1_numberIn 5 (some .int) rm_X1_numberIn [.ref a0, .int x1, .int x2, .int x3] (wc_X1_numberIn T sd a0 a0_kinds a0_starts a0_values b_a0) (vf_X1_numberIn sd) (wf_X1_numberIn T sd a0 a0_kinds a0_starts a0_values b_a0) res 0 0 := by
  refine sx_start (SFx_ok sd) (by decide +kernel) (Nat.le_of_ble_eq_true rfl) (fun p e s m args below meth c A X hnm => ?_)
  have hf := ob_1 hf
  have R26 : ∀ (v1 : Int32) (v4 : Int32) (w_a0_error : Int32) (w_a0_errorToken : Int32) (t0 : Int32), (f_X1_numberIn_R26 x1 x2 x3 b_a0 v1 v4 w_a0_error w_a0_errorToken t0).bind some = some res → SxG p l e rm_X1_numberIn s m args below meth c D A 5 0 0 (SxE below args s D A (vf_X1_numberIn sd) (wf_X1_numberIn T sd a0 a0_kinds a0_starts a0_values b_a0) res 0 0) [zO a0 9 [.ref a0_kinds, .ref a0_starts, .ref a0_values, .int (X11_count b_a0), .int (X11_cursor b_a0), .int w_a0_error, .int w_a0_errorToken], zK T sd.1 a0_kinds 401 (X11_kinds b_a0), zI T a0_starts 401 (X11_starts b_a0), zJ T a0_values 401 (X11_values b_a0)] [(1, .int v1), (4, .int v4)] 26 [.int t0, .ref a0] := by
    intro v1 v4 w_a0_error w_a0_errorToken t0 hf
    refine sx_iconst X (v := 5) dX1_numberIn_26 rfl ?_
    refine sx_iload_n X 0 rfl dX1_numberIn_27 rfl ?_
    obtain ⟨u3, hu3, hf⟩ := ob_c hf
    refine sx_cV X (c_X11_failUnless (l := l) (D := D) (T := T) (sd := sd) a0 a0_kinds a0_starts a0_values t0 5 v1 ((X11_kinds b_a0), (X11_starts b_a0), (X11_values b_a0), (X11_count b_a0), (X11_cursor b_a0), w_a0_error, w_a0_errorToken) hu3) (st' := []) (q0 := 0) qm_1072 qm_1051 qm_1052 qm_15 qm_1053 hd_X11_failUnless ⟨rfl, rfl⟩ ⟨Nat.le_of_ble_eq_true rfl, Nat.le_of_ble_eq_true rfl⟩ rfl rfl (Nat.le_of_ble_eq_true rfl) rfl rfl rfl [0, 1, 2, 3] rfl rfl (ws' := [zO a0 9 [.ref a0_kinds, .ref a0_starts, .ref a0_values, .int (X11_count b_a0), .int (X11_cursor b_a0), .int u3.1, .int u3.2], zK T sd.1 a0_kinds 401 (X11_kinds b_a0), zI T a0_starts 401 (X11_starts b_a0), zJ T a0_values 401 (X11_values b_a0)]) (sxPatch_pk [(true, 0), (true, 1), (true, 2), (true, 3)] (by decide +kernel) rfl rfl rfl) rfl ⟨Nat.le_of_ble_eq_true rfl, Nat.le_of_ble_eq_true rfl⟩ dX1_numberIn_28 rfl ?_
    refine sx_iload X 1 rfl dX1_numberIn_31 ?_
    exact sx_iret X rfl dX1_numberIn_33 (ob_e hf) rfl rfl
  have R25 : ∀ (v1 : Int32) (v4 : Int32) (w_a0_error : Int32) (w_a0_errorToken : Int32), (f_X1_numberIn_R25 x1 x2 x3 b_a0 v1 v4 w_a0_error w_a0_errorToken).bind some = some res → SxG p l e rm_X1_numberIn s m args below meth c D A 5 0 0 (SxE below args s D A (vf_X1_numberIn sd) (wf_X1_numberIn T sd a0 a0_kinds a0_starts a0_values b_a0) res 0 0) [zO a0 9 [.ref a0_kinds, .ref a0_starts, .ref a0_values, .int (X11_count b_a0), .int (X11_cursor b_a0), .int w_a0_error, .int w_a0_errorToken], zK T sd.1 a0_kinds 401 (X11_kinds b_a0), zI T a0_starts 401 (X11_starts b_a0), zJ T a0_values 401 (X11_values b_a0)] [(1, .int v1), (4, .int v4)] 25 [.ref a0] := by
    intro v1 v4 w_a0_error w_a0_errorToken hf
    refine sx_iconst X (v := 0) dX1_numberIn_25 rfl ?_
    exact R26 v1 v4 w_a0_error w_a0_errorToken 0 hf
  refine sx_aload_n X 0 rfl dX1_numberIn_0 rfl ?_
  refine sx_iload_n X 1 rfl dX1_numberIn_1 rfl ?_
  obtain ⟨u1, hu1, hf⟩ := ob_c hf
  refine sx_cVr X (c_X11_valueAt (l := l) (D := D) (T := T) (sd := sd) a0 a0_kinds a0_starts a0_values x1 b_a0 hu1) (st' := [.long u1]) (q0 := 0) qm_1081 qm_1082 qm_1083 qm_15 qm_1084 hd_X11_valueAt ⟨rfl, rfl⟩ ⟨Nat.le_of_ble_eq_true rfl, Nat.le_of_ble_eq_true rfl⟩ rfl rfl (Nat.le_of_ble_eq_true rfl) rfl rfl rfl [0, 1, 2, 3] rfl rfl rfl ⟨Nat.le_of_ble_eq_true rfl, Nat.le_of_ble_eq_true rfl⟩ dX1_numberIn_2 rfl ?_
  refine sx_l2i X dX1_numberIn_5 ?_
  refine sx_istore X (lv' := [(4, .int (Int64.toInt32 u1)), (0, .ref a0), (1, .int x1), (2, .int x2), (3, .int x3)]) dX1_numberIn_6 (by decide) rfl ?_
  refine sx_aload_n X 1 rfl dX1_numberIn_8 rfl ?_
  refine sx_iload X 0 rfl dX1_numberIn_9 ?_
  refine sx_iload_n X 3 rfl dX1_numberIn_11 rfl ?_
  refine sx_icmp_lt X 25 dX1_numberIn_12 rfl (fun c2 => ?_) (fun c2 => ?_)
  · have hf := ob_t hf c2
    refine sx_lsub [2, 0] rfl ?_
    exact R25 x1 (Int64.toInt32 u1) (X11_error b_a0) (X11_errorToken b_a0) hf
  · have hf := ob_f hf c2
    refine sx_iload X 0 rfl dX1_numberIn_15 ?_
    refine sx_iload_n X 4 rfl dX1_numberIn_17 rfl ?_
    refine sx_icmp_gt X 25 dX1_numberIn_18 rfl (fun c4 => ?_) (fun c4 => ?_)
    · have hf := ob_t hf c4
      refine sx_lsub [2, 0] rfl ?_
      exact R25 x1 (Int64.toInt32 u1) (X11_error b_a0) (X11_errorToken b_a0) hf
    · have hf := ob_f hf c4
      refine sx_iconst X (v := 1) dX1_numberIn_21 rfl ?_
      refine sx_goto X 26 dX1_numberIn_22 rfl ?_
      refine sx_lsub [2, 0] rfl ?_
      exact R26 x1 (Int64.toInt32 u1) (X11_error b_a0) (X11_errorToken b_a0) 1 hf

abbrev vf_X2_add (sd : SdT) (_r : (Nat → Int64) × (Nat → Int32) × (Nat → Int32) × (Nat → Int32) × (Nat → Int32) × Int32) : Option Value := none
abbrev wc_X2_add (T : Nat → ClassId) (sd : SdT) (h : Nat) (h_names : Nat) (h_warm : Nat) (h_force : Nat) (h_from : Nat) (h_hours : Nat) (b_h : bX2) : va_W := [zO h 2 [.ref h_names, .ref h_warm, .ref h_force, .ref h_from, .ref h_hours, .int (X2_count b_h)], zJ T h_names 10 (X2_names b_h), zZ T h_warm 10 (X2_warm b_h), zI T h_force 10 (X2_force b_h), zI T h_from 10 (X2_from b_h), zI T h_hours 10 (X2_hours b_h)]
abbrev wf_X2_add (T : Nat → ClassId) (sd : SdT) (h : Nat) (h_names : Nat) (h_warm : Nat) (h_force : Nat) (h_from : Nat) (h_hours : Nat) (b_h : bX2) (r : (Nat → Int64) × (Nat → Int32) × (Nat → Int32) × (Nat → Int32) × (Nat → Int32) × Int32) : va_W := [zO h 2 [.ref h_names, .ref h_warm, .ref h_force, .ref h_from, .ref h_hours, .int r.2.2.2.2.2], zJ T h_names 10 r.1, zZ T h_warm 10 r.2.1, zI T h_force 10 r.2.2.1, zI T h_from 10 r.2.2.2.1, zI T h_hours 10 r.2.2.2.2.1]
abbrev rm_X2_add : Room := { frames := 0, cells := 0, slots := 0, locals := 0 }
theorem hd_X2_add : yX2_add.cls ≠ "java/lang/invoke/MethodHandle" ∧ yX2_add.cls ≠ "java/lang/invoke/VarHandle" ∧ (parseMethodDescriptor yX2_add.desc).map (fun d => d.parameters.length) = some 5 := ⟨by decide, by decide, by decide +kernel⟩
set_option maxHeartbeats 4000000 in
set_option maxRecDepth 100000 in
theorem c_X2_add {l : Launch} {D : va_G} {T : Nat → ClassId} {sd : SdT} (h : Nat) (h_names : Nat) (h_warm : Nat) (h_force : Nat) (h_from : Nat) (h_hours : Nat) (x0 : Int64) (x1 : Int32) (x2 : Int32) (x3 : Int32) (x4 : Int32) (b_h : bX2) {res : (Nat → Int64) × (Nat → Int32) × (Nat → Int32) × (Nat → Int32) × (Nat → Int32) × Int32} (hf : f_X2_add x0 x1 x2 x3 x4 b_h = some res) : SxK (SFx sd) l D T yX2_add cX2_add 7 none rm_X2_add [.ref h, .long x0, .int x1, .int x2, .int x3, .int x4] (wc_X2_add T sd h h_names h_warm h_force h_from h_hours b_h) (vf_X2_add sd) (wf_X2_add T sd h h_names h_warm h_force h_from h_hours b_h) res 0 0 := by
  refine sx_start (SFx_ok sd) (by decide +kernel) (Nat.le_of_ble_eq_true rfl) (fun p e s m args below meth c A X hnm => ?_)
  have hf := ob_1 hf
  refine sx_aload_n X 0 rfl dX2_add_0 rfl ?_
  refine sx_get X kX2 0 rfl 5 (Nat.le_of_ble_eq_true rfl) qm_156 rfl dX2_add_1 ?_
  refine sx_bipush X (v := 10) dX2_add_4 rfl ?_
  refine sx_icmp_ge X 72 dX2_add_6 rfl (fun c1 => ?_) (fun c1 => ?_)
  · have hf := ob_t hf c1
    exact sx_vret X dX2_add_72 (ob_e hf) rfl rfl
  · have hf := ob_f hf c1
    refine sx_aload_n X 0 rfl dX2_add_9 rfl ?_
    refine sx_get X kX2 0 rfl 0 (Nat.le_of_ble_eq_true rfl) qm_144 rfl dX2_add_10 ?_
    refine sx_aload_n X 0 rfl dX2_add_13 rfl ?_
    refine sx_get X kX2 0 rfl 5 (Nat.le_of_ble_eq_true rfl) qm_156 rfl dX2_add_14 ?_
    refine sx_lload_n X 1 rfl dX2_add_17 rfl ?_
    obtain ⟨g2, hf⟩ := ob_g hf
    refine sx_last X (ws' := [zO h 2 [.ref h_names, .ref h_warm, .ref h_force, .ref h_from, .ref h_hours, .int (X2_count b_h)], zJ T h_names 10 (vp_updL (X2_names b_h) (X2_count b_h).toNatClampNeg x0), zZ T h_warm 10 (X2_warm b_h), zI T h_force 10 (X2_force b_h), zI T h_from 10 (X2_from b_h), zI T h_hours 10 (X2_hours b_h)]) 1 rfl g2 rfl dX2_add_18 ?_
    refine sx_aload_n X 0 rfl dX2_add_19 rfl ?_
    refine sx_get X kX2 0 rfl 1 (Nat.le_of_ble_eq_true rfl) qm_145 rfl dX2_add_20 ?_
    refine sx_aload_n X 0 rfl dX2_add_23 rfl ?_
    refine sx_get X kX2 0 rfl 5 (Nat.le_of_ble_eq_true rfl) qm_156 rfl dX2_add_24 ?_
    refine sx_iload_n X 2 rfl dX2_add_27 rfl ?_
    obtain ⟨g3, hf⟩ := ob_g hf
    refine sx_zast X (ws' := [zO h 2 [.ref h_names, .ref h_warm, .ref h_force, .ref h_from, .ref h_hours, .int (X2_count b_h)], zJ T h_names 10 (vp_updL (X2_names b_h) (X2_count b_h).toNatClampNeg x0), zZ T h_warm 10 (upd (X2_warm b_h) (X2_count b_h).toNatClampNeg (vp_nar .boolean x1)), zI T h_force 10 (X2_force b_h), zI T h_from 10 (X2_from b_h), zI T h_hours 10 (X2_hours b_h)]) 2 rfl g3 rfl dX2_add_28 ?_
    refine sx_aload_n X 0 rfl dX2_add_29 rfl ?_
    refine sx_get X kX2 0 rfl 2 (Nat.le_of_ble_eq_true rfl) qm_148 rfl dX2_add_30 ?_
    refine sx_aload_n X 0 rfl dX2_add_33 rfl ?_
    refine sx_get X kX2 0 rfl 5 (Nat.le_of_ble_eq_true rfl) qm_156 rfl dX2_add_34 ?_
    refine sx_iload X 3 rfl dX2_add_37 ?_
    obtain ⟨g4, hf⟩ := ob_g hf
    refine sx_iast X (ws' := [zO h 2 [.ref h_names, .ref h_warm, .ref h_force, .ref h_from, .ref h_hours, .int (X2_count b_h)], zJ T h_names 10 (vp_updL (X2_names b_h) (X2_count b_h).toNatClampNeg x0), zZ T h_warm 10 (upd (X2_warm b_h) (X2_count b_h).toNatClampNeg (vp_nar .boolean x1)), zI T h_force 10 (upd (X2_force b_h) (X2_count b_h).toNatClampNeg x2), zI T h_from 10 (X2_from b_h), zI T h_hours 10 (X2_hours b_h)]) 3 rfl g4 rfl dX2_add_39 ?_
    refine sx_aload_n X 0 rfl dX2_add_40 rfl ?_
    refine sx_get X kX2 0 rfl 3 (Nat.le_of_ble_eq_true rfl) qm_151 rfl dX2_add_41 ?_
    refine sx_aload_n X 0 rfl dX2_add_44 rfl ?_
    refine sx_get X kX2 0 rfl 5 (Nat.le_of_ble_eq_true rfl) qm_156 rfl dX2_add_45 ?_
    refine sx_iload X 4 rfl dX2_add_48 ?_
    obtain ⟨g5, hf⟩ := ob_g hf
    refine sx_iast X (ws' := [zO h 2 [.ref h_names, .ref h_warm, .ref h_force, .ref h_from, .ref h_hours, .int (X2_count b_h)], zJ T h_names 10 (vp_updL (X2_names b_h) (X2_count b_h).toNatClampNeg x0), zZ T h_warm 10 (upd (X2_warm b_h) (X2_count b_h).toNatClampNeg (vp_nar .boolean x1)), zI T h_force 10 (upd (X2_force b_h) (X2_count b_h).toNatClampNeg x2), zI T h_from 10 (upd (X2_from b_h) (X2_count b_h).toNatClampNeg x3), zI T h_hours 10 (X2_hours b_h)]) 4 rfl g5 rfl dX2_add_50 ?_
    refine sx_aload_n X 0 rfl dX2_add_51 rfl ?_
    refine sx_get X kX2 0 rfl 4 (Nat.le_of_ble_eq_true rfl) qm_153 rfl dX2_add_52 ?_
    refine sx_aload_n X 0 rfl dX2_add_55 rfl ?_
    refine sx_get X kX2 0 rfl 5 (Nat.le_of_ble_eq_true rfl) qm_156 rfl dX2_add_56 ?_
    refine sx_iload X 5 rfl dX2_add_59 ?_
    obtain ⟨g6, hf⟩ := ob_g hf
    refine sx_iast X (ws' := [zO h 2 [.ref h_names, .ref h_warm, .ref h_force, .ref h_from, .ref h_hours, .int (X2_count b_h)], zJ T h_names 10 (vp_updL (X2_names b_h) (X2_count b_h).toNatClampNeg x0), zZ T h_warm 10 (upd (X2_warm b_h) (X2_count b_h).toNatClampNeg (vp_nar .boolean x1)), zI T h_force 10 (upd (X2_force b_h) (X2_count b_h).toNatClampNeg x2), zI T h_from 10 (upd (X2_from b_h) (X2_count b_h).toNatClampNeg x3), zI T h_hours 10 (upd (X2_hours b_h) (X2_count b_h).toNatClampNeg x4)]) 5 rfl g6 rfl dX2_add_61 ?_
    refine sx_aload_n X 0 rfl dX2_add_62 rfl ?_
    refine sx_dup X dX2_add_63 rfl ?_
    refine sx_get X kX2 0 rfl 5 (Nat.le_of_ble_eq_true rfl) qm_156 rfl dX2_add_64 ?_
    refine sx_iconst X (v := 1) dX2_add_67 rfl ?_
    refine sx_iadd X dX2_add_68 ?_
    refine sx_put X (ws' := [zO h 2 [.ref h_names, .ref h_warm, .ref h_force, .ref h_from, .ref h_hours, .int ((X2_count b_h) + 1)], zJ T h_names 10 (vp_updL (X2_names b_h) (X2_count b_h).toNatClampNeg x0), zZ T h_warm 10 (upd (X2_warm b_h) (X2_count b_h).toNatClampNeg (vp_nar .boolean x1)), zI T h_force 10 (upd (X2_force b_h) (X2_count b_h).toNatClampNeg x2), zI T h_from 10 (upd (X2_from b_h) (X2_count b_h).toNatClampNeg x3), zI T h_hours 10 (upd (X2_hours b_h) (X2_count b_h).toNatClampNeg x4)]) kX2 0 rfl 5 (Nat.le_of_ble_eq_true rfl) qm_156 rfl rfl rfl (Nat.le_of_ble_eq_true rfl) rfl dX2_add_69 ?_
    exact sx_vret X dX2_add_72 (ob_e hf) rfl rfl

abbrev vf_X1_checkFront (sd : SdT) (_r : Int32 × Int32 × (Nat → Int64) × (Nat → Int32) × (Nat → Int32) × (Nat → Int32) × (Nat → Int32) × Int32) : Option Value := none
abbrev wc_X1_checkFront (T : Nat → ClassId) (sd : SdT) (a0 : Nat) (a0_kinds : Nat) (a0_starts : Nat) (a0_values : Nat) (a2 : Nat) (a2_names : Nat) (a2_warm : Nat) (a2_force : Nat) (a2_from : Nat) (a2_hours : Nat) (b_a0 : bX11) (b_a2 : bX2) : va_W := [zO a0 9 [.ref a0_kinds, .ref a0_starts, .ref a0_values, .int (X11_count b_a0), .int (X11_cursor b_a0), .int (X11_error b_a0), .int (X11_errorToken b_a0)], zK T sd.1 a0_kinds 401 (X11_kinds b_a0), zI T a0_starts 401 (X11_starts b_a0), zJ T a0_values 401 (X11_values b_a0), zO a2 2 [.ref a2_names, .ref a2_warm, .ref a2_force, .ref a2_from, .ref a2_hours, .int (X2_count b_a2)], zJ T a2_names 10 (X2_names b_a2), zZ T a2_warm 10 (X2_warm b_a2), zI T a2_force 10 (X2_force b_a2), zI T a2_from 10 (X2_from b_a2), zI T a2_hours 10 (X2_hours b_a2)]
abbrev wf_X1_checkFront (T : Nat → ClassId) (sd : SdT) (a0 : Nat) (a0_kinds : Nat) (a0_starts : Nat) (a0_values : Nat) (a2 : Nat) (a2_names : Nat) (a2_warm : Nat) (a2_force : Nat) (a2_from : Nat) (a2_hours : Nat) (b_a0 : bX11) (b_a2 : bX2) (r : Int32 × Int32 × (Nat → Int64) × (Nat → Int32) × (Nat → Int32) × (Nat → Int32) × (Nat → Int32) × Int32) : va_W := [zO a0 9 [.ref a0_kinds, .ref a0_starts, .ref a0_values, .int (X11_count b_a0), .int (X11_cursor b_a0), .int r.1, .int r.2.1], zK T sd.1 a0_kinds 401 (X11_kinds b_a0), zI T a0_starts 401 (X11_starts b_a0), zJ T a0_values 401 (X11_values b_a0), zO a2 2 [.ref a2_names, .ref a2_warm, .ref a2_force, .ref a2_from, .ref a2_hours, .int r.2.2.2.2.2.2.2], zJ T a2_names 10 r.2.2.1, zZ T a2_warm 10 r.2.2.2.1, zI T a2_force 10 r.2.2.2.2.1, zI T a2_from 10 r.2.2.2.2.2.1, zI T a2_hours 10 r.2.2.2.2.2.2.1]
abbrev rm_X1_checkFront : Room := { frames := 3, cells := 0, slots := 0, locals := 66 }
theorem hd_X1_checkFront : yX1_checkFront.cls ≠ "java/lang/invoke/MethodHandle" ∧ yX1_checkFront.cls ≠ "java/lang/invoke/VarHandle" ∧ (parseMethodDescriptor yX1_checkFront.desc).map (fun d => d.parameters.length) = some 3 := ⟨by decide, by decide, by decide +kernel⟩
set_option maxHeartbeats 4000000 in
set_option maxRecDepth 100000 in
theorem c_X1_checkFront {l : Launch} {D : va_G} {T : Nat → ClassId} {sd : SdT} (a0 : Nat) (a0_kinds : Nat) (a0_starts : Nat) (a0_values : Nat) (a2 : Nat) (a2_names : Nat) (a2_warm : Nat) (a2_force : Nat) (a2_from : Nat) (a2_hours : Nat) (n : Nat) (x1 : Int32) (b_a0 : bX11) (b_a2 : bX2) {res : Int32 × Int32 × (Nat → Int64) × (Nat → Int32) × (Nat → Int32) × (Nat → Int32) × (Nat → Int32) × Int32} (hf : f_X1_checkFront n x1 b_a0 b_a2 = some res) : SxK (SFx sd) l D T yX1_checkFront cX1_checkFront 9 none rm_X1_checkFront [.ref a0, .int x1, .ref a2] (wc_X1_checkFront T sd a0 a0_kinds a0_starts a0_values a2 a2_names a2_warm a2_force a2_from a2_hours b_a0 b_a2) (vf_X1_checkFront sd) (wf_X1_checkFront T sd a0 a0_kinds a0_starts a0_values a2 a2_names a2_warm a2_force a2_from a2_hours b_a0 b_a2) res 0 0 := by
  refine sx_start (SFx_ok sd) (by decide +kernel) (Nat.le_of_ble_eq_true rfl) (fun p e s m args below meth c A X hnm => ?_)
  have hf := ob_1 hf
  have R63 : ∀ (v1 : Int32) (v3 : Int64) (w_a0_error : Int32) (w_a0_errorToken : Int32) (w_a2_names : Nat → Int64) (w_a2_warm : Nat → Int32) (w_a2_force : Nat → Int32) (w_a2_from : Nat → Int32) (w_a2_hours : Nat → Int32) (w_a2_count : Int32) (t0 : Int32), (f_X1_checkFront_R63 n x1 b_a0 b_a2 v1 v3 w_a0_error w_a0_errorToken w_a2_names w_a2_warm w_a2_force w_a2_from w_a2_hours w_a2_count t0).bind some = some res → SxG p l e rm_X1_checkFront s m args below meth c D A 9 0 0 (SxE below args s D A (vf_X1_checkFront sd) (wf_X1_checkFront T sd a0 a0_kinds a0_starts a0_values a2 a2_names a2_warm a2_force a2_from a2_hours b_a0 b_a2) res 0 0) [zO a0 9 [.ref a0_kinds, .ref a0_starts, .ref a0_values, .int (X11_count b_a0), .int (X11_cursor b_a0), .int w_a0_error, .int w_a0_errorToken], zK T sd.1 a0_kinds 401 (X11_kinds b_a0), zI T a0_starts 401 (X11_starts b_a0), zJ T a0_values 401 (X11_values b_a0), zO a2 2 [.ref a2_names, .ref a2_warm, .ref a2_force, .ref a2_from, .ref a2_hours, .int w_a2_count], zJ T a2_names 10 w_a2_names, zZ T a2_warm 10 w_a2_warm, zI T a2_force 10 w_a2_force, zI T a2_from 10 w_a2_from, zI T a2_hours 10 w_a2_hours] [(0, .ref a0), (1, .int v1), (2, .ref a2), (3, .long v3)] 63 [.int t0] := by
    intro v1 v3 w_a0_error w_a0_errorToken w_a2_names w_a2_warm w_a2_force w_a2_from w_a2_hours w_a2_count t0 hf
    refine sx_istore X (lv' := [(5, .int t0), (0, .ref a0), (1, .int v1), (2, .ref a2), (3, .long v3)]) dX1_checkFront_63 (by decide) rfl ?_
    refine sx_aload_n X 1 rfl dX1_checkFront_65 rfl ?_
    refine sx_iload_n X 2 rfl dX1_checkFront_66 rfl ?_
    refine sx_iconst X (v := 4) dX1_checkFront_67 rfl ?_
    refine sx_iadd X dX1_checkFront_68 ?_
    refine sx_iconst X (v := 1) dX1_checkFront_69 rfl ?_
    refine sx_bipush X (v := 9) dX1_checkFront_70 rfl ?_
    obtain ⟨u10, hu10, hf⟩ := ob_c hf
    refine sx_cS X (c_X1_numberIn (l := l) (D := D) (T := T) (sd := sd) a0 a0_kinds a0_starts a0_values (v1 + 4) 1 9 ((X11_kinds b_a0), (X11_starts b_a0), (X11_values b_a0), (X11_count b_a0), (X11_cursor b_a0), w_a0_error, w_a0_errorToken) hu10) (st' := [.int u10.1]) qm_1090 qm_1091 qm_48 qm_1092 hd_X1_numberIn ⟨rfl, rfl⟩ ⟨Nat.le_of_ble_eq_true rfl, Nat.le_of_ble_eq_true rfl⟩ rfl rfl (Nat.le_of_ble_eq_true rfl) [0, 1, 2, 3] rfl rfl (ws' := [zO a0 9 [.ref a0_kinds, .ref a0_starts, .ref a0_values, .int (X11_count b_a0), .int (X11_cursor b_a0), .int u10.2.1, .int u10.2.2], zK T sd.1 a0_kinds 401 (X11_kinds b_a0), zI T a0_starts 401 (X11_starts b_a0), zJ T a0_values 401 (X11_values b_a0), zO a2 2 [.ref a2_names, .ref a2_warm, .ref a2_force, .ref a2_from, .ref a2_hours, .int w_a2_count], zJ T a2_names 10 w_a2_names, zZ T a2_warm 10 w_a2_warm, zI T a2_force 10 w_a2_force, zI T a2_from 10 w_a2_from, zI T a2_hours 10 w_a2_hours]) (sxPatch_pk [(true, 0), (true, 1), (true, 2), (true, 3), (false, 4), (false, 5), (false, 6), (false, 7), (false, 8), (false, 9)] (by decide +kernel) rfl rfl rfl) rfl ⟨Nat.le_of_ble_eq_true rfl, Nat.le_of_ble_eq_true rfl⟩ dX1_checkFront_72 rfl ?_
    refine sx_istore X (lv' := [(6, .int u10.1), (5, .int t0), (0, .ref a0), (1, .int v1), (2, .ref a2), (3, .long v3)]) dX1_checkFront_75 (by decide) rfl ?_
    refine sx_aload_n X 2 rfl dX1_checkFront_77 rfl ?_
    refine sx_iload_n X 3 rfl dX1_checkFront_78 rfl ?_
    refine sx_bipush X (v := 6) dX1_checkFront_79 rfl ?_
    refine sx_iadd X dX1_checkFront_81 ?_
    refine sx_iconst X (v := 0) dX1_checkFront_82 rfl ?_
    refine sx_bipush X (v := 60) dX1_checkFront_83 rfl ?_
    obtain ⟨u11, hu11, hf⟩ := ob_c hf
    refine sx_cS X (c_X1_numberIn (l := l) (D := D) (T := T) (sd := sd) a0 a0_kinds a0_starts a0_values (v1 + 6) 0 60 ((X11_kinds b_a0), (X11_starts b_a0), (X11_values b_a0), (X11_count b_a0), (X11_cursor b_a0), u10.2.1, u10.2.2) hu11) (st' := [.int u11.1]) qm_1090 qm_1091 qm_48 qm_1092 hd_X1_numberIn ⟨rfl, rfl⟩ ⟨Nat.le_of_ble_eq_true rfl, Nat.le_of_ble_eq_true rfl⟩ rfl rfl (Nat.le_of_ble_eq_true rfl) [0, 1, 2, 3] rfl rfl (ws' := [zO a0 9 [.ref a0_kinds, .ref a0_starts, .ref a0_values, .int (X11_count b_a0), .int (X11_cursor b_a0), .int u11.2.1, .int u11.2.2], zK T sd.1 a0_kinds 401 (X11_kinds b_a0), zI T a0_starts 401 (X11_starts b_a0), zJ T a0_values 401 (X11_values b_a0), zO a2 2 [.ref a2_names, .ref a2_warm, .ref a2_force, .ref a2_from, .ref a2_hours, .int w_a2_count], zJ T a2_names 10 w_a2_names, zZ T a2_warm 10 w_a2_warm, zI T a2_force 10 w_a2_force, zI T a2_from 10 w_a2_from, zI T a2_hours 10 w_a2_hours]) (sxPatch_pk [(true, 0), (true, 1), (true, 2), (true, 3), (false, 4), (false, 5), (false, 6), (false, 7), (false, 8), (false, 9)] (by decide +kernel) rfl rfl rfl) rfl ⟨Nat.le_of_ble_eq_true rfl, Nat.le_of_ble_eq_true rfl⟩ dX1_checkFront_85 rfl ?_
    refine sx_istore X (lv' := [(7, .int u11.1), (6, .int u10.1), (5, .int t0), (0, .ref a0), (1, .int v1), (2, .ref a2), (3, .long v3)]) dX1_checkFront_88 (by decide) rfl ?_
    refine sx_aload_n X 3 rfl dX1_checkFront_90 rfl ?_
    refine sx_iload_n X 4 rfl dX1_checkFront_91 rfl ?_
    refine sx_bipush X (v := 8) dX1_checkFront_92 rfl ?_
    refine sx_iadd X dX1_checkFront_94 ?_
    refine sx_iconst X (v := 1) dX1_checkFront_95 rfl ?_
    refine sx_bipush X (v := 12) dX1_checkFront_96 rfl ?_
    obtain ⟨u12, hu12, hf⟩ := ob_c hf
    refine sx_cS X (c_X1_numberIn (l := l) (D := D) (T := T) (sd := sd) a0 a0_kinds a0_starts a0_values (v1 + 8) 1 12 ((X11_kinds b_a0), (X11_starts b_a0), (X11_values b_a0), (X11_count b_a0), (X11_cursor b_a0), u11.2.1, u11.2.2) hu12) (st' := [.int u12.1]) qm_1090 qm_1091 qm_48 qm_1092 hd_X1_numberIn ⟨rfl, rfl⟩ ⟨Nat.le_of_ble_eq_true rfl, Nat.le_of_ble_eq_true rfl⟩ rfl rfl (Nat.le_of_ble_eq_true rfl) [0, 1, 2, 3] rfl rfl (ws' := [zO a0 9 [.ref a0_kinds, .ref a0_starts, .ref a0_values, .int (X11_count b_a0), .int (X11_cursor b_a0), .int u12.2.1, .int u12.2.2], zK T sd.1 a0_kinds 401 (X11_kinds b_a0), zI T a0_starts 401 (X11_starts b_a0), zJ T a0_values 401 (X11_values b_a0), zO a2 2 [.ref a2_names, .ref a2_warm, .ref a2_force, .ref a2_from, .ref a2_hours, .int w_a2_count], zJ T a2_names 10 w_a2_names, zZ T a2_warm 10 w_a2_warm, zI T a2_force 10 w_a2_force, zI T a2_from 10 w_a2_from, zI T a2_hours 10 w_a2_hours]) (sxPatch_pk [(true, 0), (true, 1), (true, 2), (true, 3), (false, 4), (false, 5), (false, 6), (false, 7), (false, 8), (false, 9)] (by decide +kernel) rfl rfl rfl) rfl ⟨Nat.le_of_ble_eq_true rfl, Nat.le_of_ble_eq_true rfl⟩ dX1_checkFront_98 rfl ?_
    refine sx_istore X (lv' := [(8, .int u12.1), (7, .int u11.1), (6, .int u10.1), (5, .int t0), (0, .ref a0), (1, .int v1), (2, .ref a2), (3, .long v3)]) dX1_checkFront_101 (by decide) rfl ?_
    refine sx_aload_n X 6 rfl dX1_checkFront_103 rfl ?_
    refine sx_lload_n X 7 rfl dX1_checkFront_104 rfl ?_
    refine sx_iload X 3 rfl dX1_checkFront_105 ?_
    refine sx_iload X 2 rfl dX1_checkFront_107 ?_
    refine sx_iload X 1 rfl dX1_checkFront_109 ?_
    refine sx_iload X 0 rfl dX1_checkFront_111 ?_
    obtain ⟨u13, hu13, hf⟩ := ob_c hf
    refine sx_cV X (c_X2_add (l := l) (D := D) (T := T) (sd := sd) a2 a2_names a2_warm a2_force a2_from a2_hours v3 t0 u10.1 u11.1 u12.1 (w_a2_names, w_a2_warm, w_a2_force, w_a2_from, w_a2_hours, w_a2_count) hu13) (st' := []) (q0 := 4) qm_1093 qm_1094 qm_1095 qm_21 qm_1096 hd_X2_add ⟨rfl, rfl⟩ ⟨Nat.le_of_ble_eq_true rfl, Nat.le_of_ble_eq_true rfl⟩ rfl rfl (Nat.le_of_ble_eq_true rfl) rfl rfl rfl [4, 5, 6, 7, 8, 9] rfl rfl (ws' := [zO a0 9 [.ref a0_kinds, .ref a0_starts, .ref a0_values, .int (X11_count b_a0), .int (X11_cursor b_a0), .int u12.2.1, .int u12.2.2], zK T sd.1 a0_kinds 401 (X11_kinds b_a0), zI T a0_starts 401 (X11_starts b_a0), zJ T a0_values 401 (X11_values b_a0), zO a2 2 [.ref a2_names, .ref a2_warm, .ref a2_force, .ref a2_from, .ref a2_hours, .int u13.2.2.2.2.2], zJ T a2_names 10 u13.1, zZ T a2_warm 10 u13.2.1, zI T a2_force 10 u13.2.2.1, zI T a2_from 10 u13.2.2.2.1, zI T a2_hours 10 u13.2.2.2.2.1]) (sxPatch_pk [(false, 0), (false, 1), (false, 2), (false, 3), (true, 0), (true, 1), (true, 2), (true, 3), (true, 4), (true, 5)] (by decide +kernel) rfl rfl rfl) rfl ⟨Nat.le_of_ble_eq_true rfl, Nat.le_of_ble_eq_true rfl⟩ dX1_checkFront_113 rfl ?_
    exact sx_vret X dX1_checkFront_116 (ob_e hf) rfl rfl
  have R40 : ∀ (v1 : Int32) (v3 : Int64) (w_a0_error : Int32) (w_a0_errorToken : Int32) (w_a2_names : Nat → Int64) (w_a2_warm : Nat → Int32) (w_a2_force : Nat → Int32) (w_a2_from : Nat → Int32) (w_a2_hours : Nat → Int32) (w_a2_count : Int32) (t0 : Int32), (f_X1_checkFront_R40 n x1 b_a0 b_a2 v1 v3 w_a0_error w_a0_errorToken w_a2_names w_a2_warm w_a2_force w_a2_from w_a2_hours w_a2_count t0).bind some = some res → SxG p l e rm_X1_checkFront s m args below meth c D A 9 0 0 (SxE below args s D A (vf_X1_checkFront sd) (wf_X1_checkFront T sd a0 a0_kinds a0_starts a0_values a2 a2_names a2_warm a2_force a2_from a2_hours b_a0 b_a2) res 0 0) [zO a0 9 [.ref a0_kinds, .ref a0_starts, .ref a0_values, .int (X11_count b_a0), .int (X11_cursor b_a0), .int w_a0_error, .int w_a0_errorToken], zK T sd.1 a0_kinds 401 (X11_kinds b_a0), zI T a0_starts 401 (X11_starts b_a0), zJ T a0_values 401 (X11_values b_a0), zO a2 2 [.ref a2_names, .ref a2_warm, .ref a2_force, .ref a2_from, .ref a2_hours, .int w_a2_count], zJ T a2_names 10 w_a2_names, zZ T a2_warm 10 w_a2_warm, zI T a2_force 10 w_a2_force, zI T a2_from 10 w_a2_from, zI T a2_hours 10 w_a2_hours] [(0, .ref a0), (1, .int v1), (2, .ref a2), (3, .long v3)] 40 [.int t0, .ref a0] := by
    intro v1 v3 w_a0_error w_a0_errorToken w_a2_names w_a2_warm w_a2_force w_a2_from w_a2_hours w_a2_count t0 hf
    refine sx_iconst X (v := 4) dX1_checkFront_40 rfl ?_
    refine sx_iload_n X 1 rfl dX1_checkFront_41 rfl ?_
    obtain ⟨u6, hu6, hf⟩ := ob_c hf
    refine sx_cV X (c_X11_failUnless (l := l) (D := D) (T := T) (sd := sd) a0 a0_kinds a0_starts a0_values t0 4 v1 ((X11_kinds b_a0), (X11_starts b_a0), (X11_values b_a0), (X11_count b_a0), (X11_cursor b_a0), w_a0_error, w_a0_errorToken) hu6) (st' := []) (q0 := 0) qm_1072 qm_1051 qm_1052 qm_15 qm_1053 hd_X11_failUnless ⟨rfl, rfl⟩ ⟨Nat.le_of_ble_eq_true rfl, Nat.le_of_ble_eq_true rfl⟩ rfl rfl (Nat.le_of_ble_eq_true rfl) rfl rfl rfl [0, 1, 2, 3] rfl rfl (ws' := [zO a0 9 [.ref a0_kinds, .ref a0_starts, .ref a0_values, .int (X11_count b_a0), .int (X11_cursor b_a0), .int u6.1, .int u6.2], zK T sd.1 a0_kinds 401 (X11_kinds b_a0), zI T a0_starts 401 (X11_starts b_a0), zJ T a0_values 401 (X11_values b_a0), zO a2 2 [.ref a2_names, .ref a2_warm, .ref a2_force, .ref a2_from, .ref a2_hours, .int w_a2_count], zJ T a2_names 10 w_a2_names, zZ T a2_warm 10 w_a2_warm, zI T a2_force 10 w_a2_force, zI T a2_from 10 w_a2_from, zI T a2_hours 10 w_a2_hours]) (sxPatch_pk [(true, 0), (true, 1), (true, 2), (true, 3), (false, 4), (false, 5), (false, 6), (false, 7), (false, 8), (false, 9)] (by decide +kernel) rfl rfl rfl) rfl ⟨Nat.le_of_ble_eq_true rfl, Nat.le_of_ble_eq_true rfl⟩ dX1_checkFront_42 rfl ?_
    refine sx_aload_n X 0 rfl dX1_checkFront_45 rfl ?_
    refine sx_iload_n X 1 rfl dX1_checkFront_46 rfl ?_
    refine sx_iconst X (v := 2) dX1_checkFront_47 rfl ?_
    refine sx_iadd X dX1_checkFront_48 ?_
    obtain ⟨u7, hu7, hf⟩ := ob_c hf
    refine sx_cVr X (c_X11_kindAt (l := l) (D := D) (T := T) (sd := sd) a0 a0_kinds a0_starts a0_values (v1 + 2) ((X11_kinds b_a0), (X11_starts b_a0), (X11_values b_a0), (X11_count b_a0), (X11_cursor b_a0), u6.1, u6.2) hu7) (st' := [.ref (sd.1 u7)]) (q0 := 0) qm_1057 qm_1058 qm_1059 qm_15 qm_1060 hd_X11_kindAt ⟨rfl, rfl⟩ ⟨Nat.le_of_ble_eq_true rfl, Nat.le_of_ble_eq_true rfl⟩ rfl rfl (Nat.le_of_ble_eq_true rfl) rfl rfl rfl [0, 1, 2, 3] rfl rfl rfl ⟨Nat.le_of_ble_eq_true rfl, Nat.le_of_ble_eq_true rfl⟩ dX1_checkFront_49 rfl ?_
    refine sx_kst X 2 (by decide) qm_1089 dX1_checkFront_52 ?_
    obtain ⟨g9, hf⟩ := ob_h hf
    refine sx_kne X 62 g9 (by decide) dX1_checkFront_55 rfl (fun c8 => ?_) (fun c8 => ?_)
    · have hf := ob_f hf c8
      refine sx_iconst X (v := 0) dX1_checkFront_62 rfl ?_
      exact R63 v1 v3 u6.1 u6.2 w_a2_names w_a2_warm w_a2_force w_a2_from w_a2_hours w_a2_count 0 hf
    · have hf := ob_t hf c8
      refine sx_iconst X (v := 1) dX1_checkFront_58 rfl ?_
      refine sx_goto X 63 dX1_checkFront_59 rfl ?_
      exact R63 v1 v3 u6.1 u6.2 w_a2_names w_a2_warm w_a2_force w_a2_from w_a2_hours w_a2_count 1 hf
  have R20 : ∀ (v1 : Int32) (v3 : Int64) (w_a0_error : Int32) (w_a0_errorToken : Int32) (w_a2_names : Nat → Int64) (w_a2_warm : Nat → Int32) (w_a2_force : Nat → Int32) (w_a2_from : Nat → Int32) (w_a2_hours : Nat → Int32) (w_a2_count : Int32) (t0 : Int32), (f_X1_checkFront_R20 n x1 b_a0 b_a2 v1 v3 w_a0_error w_a0_errorToken w_a2_names w_a2_warm w_a2_force w_a2_from w_a2_hours w_a2_count t0).bind some = some res → SxG p l e rm_X1_checkFront s m args below meth c D A 9 0 0 (SxE below args s D A (vf_X1_checkFront sd) (wf_X1_checkFront T sd a0 a0_kinds a0_starts a0_values a2 a2_names a2_warm a2_force a2_from a2_hours b_a0 b_a2) res 0 0) [zO a0 9 [.ref a0_kinds, .ref a0_starts, .ref a0_values, .int (X11_count b_a0), .int (X11_cursor b_a0), .int w_a0_error, .int w_a0_errorToken], zK T sd.1 a0_kinds 401 (X11_kinds b_a0), zI T a0_starts 401 (X11_starts b_a0), zJ T a0_values 401 (X11_values b_a0), zO a2 2 [.ref a2_names, .ref a2_warm, .ref a2_force, .ref a2_from, .ref a2_hours, .int w_a2_count], zJ T a2_names 10 w_a2_names, zZ T a2_warm 10 w_a2_warm, zI T a2_force 10 w_a2_force, zI T a2_from 10 w_a2_from, zI T a2_hours 10 w_a2_hours] [(0, .ref a0), (1, .int v1), (2, .ref a2), (3, .long v3)] 20 [.int t0, .ref a0] := by
    intro v1 v3 w_a0_error w_a0_errorToken w_a2_names w_a2_warm w_a2_force w_a2_from w_a2_hours w_a2_count t0 hf
    refine sx_iconst X (v := 2) dX1_checkFront_20 rfl ?_
    refine sx_iload_n X 1 rfl dX1_checkFront_21 rfl ?_
    obtain ⟨u4, hu4, hf⟩ := ob_c hf
    refine sx_cV X (c_X11_failUnless (l := l) (D := D) (T := T) (sd := sd) a0 a0_kinds a0_starts a0_values t0 2 v1 ((X11_kinds b_a0), (X11_starts b_a0), (X11_values b_a0), (X11_count b_a0), (X11_cursor b_a0), w_a0_error, w_a0_errorToken) hu4) (st' := []) (q0 := 0) qm_1072 qm_1051 qm_1052 qm_15 qm_1053 hd_X11_failUnless ⟨rfl, rfl⟩ ⟨Nat.le_of_ble_eq_true rfl, Nat.le_of_ble_eq_true rfl⟩ rfl rfl (Nat.le_of_ble_eq_true rfl) rfl rfl rfl [0, 1, 2, 3] rfl rfl (ws' := [zO a0 9 [.ref a0_kinds, .ref a0_starts, .ref a0_values, .int (X11_count b_a0), .int (X11_cursor b_a0), .int u4.1, .int u4.2], zK T sd.1 a0_kinds 401 (X11_kinds b_a0), zI T a0_starts 401 (X11_starts b_a0), zJ T a0_values 401 (X11_values b_a0), zO a2 2 [.ref a2_names, .ref a2_warm, .ref a2_force, .ref a2_from, .ref a2_hours, .int w_a2_count], zJ T a2_names 10 w_a2_names, zZ T a2_warm 10 w_a2_warm, zI T a2_force 10 w_a2_force, zI T a2_from 10 w_a2_from, zI T a2_hours 10 w_a2_hours]) (sxPatch_pk [(true, 0), (true, 1), (true, 2), (true, 3), (false, 4), (false, 5), (false, 6), (false, 7), (false, 8), (false, 9)] (by decide +kernel) rfl rfl rfl) rfl ⟨Nat.le_of_ble_eq_true rfl, Nat.le_of_ble_eq_true rfl⟩ dX1_checkFront_22 rfl ?_
    refine sx_aload_n X 0 rfl dX1_checkFront_25 rfl ?_
    refine sx_aload_n X 2 rfl dX1_checkFront_26 rfl ?_
    refine sx_get X kX2 4 rfl 5 (Nat.le_of_ble_eq_true rfl) qm_158 rfl dX1_checkFront_27 ?_
    refine sx_bipush X (v := 10) dX1_checkFront_30 rfl ?_
    refine sx_icmp_ge X 39 dX1_checkFront_32 rfl (fun c5 => ?_) (fun c5 => ?_)
    · have hf := ob_t hf c5
      refine sx_iconst X (v := 0) dX1_checkFront_39 rfl ?_
      exact R40 v1 v3 u4.1 u4.2 w_a2_names w_a2_warm w_a2_force w_a2_from w_a2_hours w_a2_count 0 hf
    · have hf := ob_f hf c5
      refine sx_iconst X (v := 1) dX1_checkFront_35 rfl ?_
      refine sx_goto X 40 dX1_checkFront_36 rfl ?_
      exact R40 v1 v3 u4.1 u4.2 w_a2_names w_a2_warm w_a2_force w_a2_from w_a2_hours w_a2_count 1 hf
  refine sx_aload_n X 0 rfl dX1_checkFront_0 rfl ?_
  refine sx_iload_n X 1 rfl dX1_checkFront_1 rfl ?_
  obtain ⟨u1, hu1, hf⟩ := ob_c hf
  refine sx_cVr X (c_X11_valueAt (l := l) (D := D) (T := T) (sd := sd) a0 a0_kinds a0_starts a0_values x1 b_a0 hu1) (st' := [.long u1]) (q0 := 0) qm_1081 qm_1082 qm_1083 qm_15 qm_1084 hd_X11_valueAt ⟨rfl, rfl⟩ ⟨Nat.le_of_ble_eq_true rfl, Nat.le_of_ble_eq_true rfl⟩ rfl rfl (Nat.le_of_ble_eq_true rfl) rfl rfl rfl [0, 1, 2, 3] rfl rfl rfl ⟨Nat.le_of_ble_eq_true rfl, Nat.le_of_ble_eq_true rfl⟩ dX1_checkFront_2 rfl ?_
  refine sx_lstore_n X (lv' := [(3, .long u1), (0, .ref a0), (1, .int x1), (2, .ref a2)]) dX1_checkFront_5 rfl (by decide) rfl ?_
  refine sx_aload_n X 1 rfl dX1_checkFront_6 rfl ?_
  refine sx_aload_n X 3 rfl dX1_checkFront_7 rfl ?_
  refine sx_lload_n X 0 rfl dX1_checkFront_8 rfl ?_
  obtain ⟨u2, hu2, hf⟩ := ob_c hf
  refine sx_cVr X (c_X2_find (l := l) (D := D) (T := T) (sd := sd) a2 a2_names a2_warm a2_force a2_from a2_hours n u1 b_a2 hu2) (st' := [.int u2, .ref a0]) (q0 := 4) qm_1085 qm_1086 qm_1087 qm_21 qm_1088 hd_X2_find ⟨rfl, rfl⟩ ⟨Nat.le_of_ble_eq_true rfl, Nat.le_of_ble_eq_true rfl⟩ rfl rfl (Nat.le_of_ble_eq_true rfl) rfl rfl rfl [4, 5, 6, 7, 8, 9] rfl rfl rfl ⟨Nat.le_of_ble_eq_true rfl, Nat.le_of_ble_eq_true rfl⟩ dX1_checkFront_9 rfl ?_
  refine sx_if_ge X 19 dX1_checkFront_12 rfl (fun c3 => ?_) (fun c3 => ?_)
  · have hf := ob_t hf c3
    refine sx_iconst X (v := 0) dX1_checkFront_19 rfl ?_
    refine sx_lsub [1, 2, 3, 0] rfl ?_
    exact R20 x1 u1 (X11_error b_a0) (X11_errorToken b_a0) (X2_names b_a2) (X2_warm b_a2) (X2_force b_a2) (X2_from b_a2) (X2_hours b_a2) (X2_count b_a2) 0 hf
  · have hf := ob_f hf c3
    refine sx_iconst X (v := 1) dX1_checkFront_15 rfl ?_
    refine sx_goto X 20 dX1_checkFront_16 rfl ?_
    refine sx_lsub [1, 2, 3, 0] rfl ?_
    exact R20 x1 u1 (X11_error b_a0) (X11_errorToken b_a0) (X2_names b_a2) (X2_warm b_a2) (X2_force b_a2) (X2_from b_a2) (X2_hours b_a2) (X2_count b_a2) 1 hf

abbrev vf_X4_find (sd : SdT) (r : Int32) : Option Value := some (.int r)
abbrev wc_X4_find (T : Nat → ClassId) (sd : SdT) (h : Nat) (h_names : Nat) (h_from : Nat) (h_weakest : Nat) (h_strongest : Nat) (h_nerve : Nat) (b_h : bX4) : va_W := [zO h 3 [.ref h_names, .ref h_from, .ref h_weakest, .ref h_strongest, .ref h_nerve, .int (X4_count b_h)], zJ T h_names 10 (X4_names b_h), zI T h_from 10 (X4_from b_h), zI T h_weakest 10 (X4_weakest b_h), zI T h_strongest 10 (X4_strongest b_h), zI T h_nerve 10 (X4_nerve b_h)]
abbrev wf_X4_find (T : Nat → ClassId) (sd : SdT) (h : Nat) (h_names : Nat) (h_from : Nat) (h_weakest : Nat) (h_strongest : Nat) (h_nerve : Nat) (b_h : bX4) (r : Int32) : va_W := [zO h 3 [.ref h_names, .ref h_from, .ref h_weakest, .ref h_strongest, .ref h_nerve, .int (X4_count b_h)], zJ T h_names 10 (X4_names b_h), zI T h_from 10 (X4_from b_h), zI T h_weakest 10 (X4_weakest b_h), zI T h_strongest 10 (X4_strongest b_h), zI T h_nerve 10 (X4_nerve b_h)]
abbrev rm_X4_find : Room := { frames := 0, cells := 0, slots := 0, locals := 0 }
theorem hd_X4_find : yX4_find.cls ≠ "java/lang/invoke/MethodHandle" ∧ yX4_find.cls ≠ "java/lang/invoke/VarHandle" ∧ (parseMethodDescriptor yX4_find.desc).map (fun d => d.parameters.length) = some 1 := ⟨by decide, by decide, by decide +kernel⟩
set_option maxHeartbeats 4000000 in
set_option maxRecDepth 100000 in
theorem c_X4_find {l : Launch} {D : va_G} {T : Nat → ClassId} {sd : SdT} (h : Nat) (h_names : Nat) (h_from : Nat) (h_weakest : Nat) (h_strongest : Nat) (h_nerve : Nat) (n : Nat) (x0 : Int64) (b_h : bX4) {res : Int32} (hf : f_X4_find n x0 b_h = some res) : SxK (SFx sd) l D T yX4_find cX4_find 4 (some .int) rm_X4_find [.ref h, .long x0] (wc_X4_find T sd h h_names h_from h_weakest h_strongest h_nerve b_h) (vf_X4_find sd) (wf_X4_find T sd h h_names h_from h_weakest h_strongest h_nerve b_h) res 0 0 := by
  refine sx_start (SFx_ok sd) (by decide +kernel) (Nat.le_of_ble_eq_true rfl) (fun p e s m args below meth c A X hnm => ?_)
  have hf := ob_1 hf
  have L2 : ∀ (v1 : Int64) (n0 : Nat) (v3 : Int32), (iter (fun s : Int32 => f_X4_find_L2 n x0 b_h v1 s) n0 v3).bind some = some res → SxG p l e rm_X4_find s m args below meth c D A 4 0 0 (SxE below args s D A (vf_X4_find sd) (wf_X4_find T sd h h_names h_from h_weakest h_strongest h_nerve b_h) res 0 0) [zO h 3 [.ref h_names, .ref h_from, .ref h_weakest, .ref h_strongest, .ref h_nerve, .int (X4_count b_h)], zJ T h_names 10 (X4_names b_h), zI T h_from 10 (X4_from b_h), zI T h_weakest 10 (X4_weakest b_h), zI T h_strongest 10 (X4_strongest b_h), zI T h_nerve 10 (X4_nerve b_h)] [(0, .ref h), (1, .long v1), (3, .int v3)] 2 [] := by
    intro v1 n0
    induction n0 with
    | zero =>
      intro v3 hf
      exact (iter_z hf).elim
    | succ n0 ih2 =>
      intro v3 hf
      obtain ⟨κ2, hκ2, hf⟩ := iter_k hf
      have hf : (f_X4_find_L2 n x0 b_h v1 v3).bind κ2 = some res := hf
      refine sx_iload_n X 2 rfl dX4_find_2 rfl ?_
      refine sx_aload_n X 0 rfl dX4_find_3 rfl ?_
      refine sx_get X kX4 0 rfl 5 (Nat.le_of_ble_eq_true rfl) qm_189 rfl dX4_find_4 ?_
      refine sx_icmp_ge X 29 dX4_find_7 rfl (fun c1 => ?_) (fun c1 => ?_)
      · have hf := ob_t hf c1
        refine sx_iconst X (v := (-1)) dX4_find_29 rfl ?_
        have hf := ob_kr hκ2 hf
        exact sx_iret X rfl dX4_find_30 (ob_e hf) rfl rfl
      · have hf := ob_f hf c1
        refine sx_aload_n X 0 rfl dX4_find_10 rfl ?_
        refine sx_get X kX4 0 rfl 0 (Nat.le_of_ble_eq_true rfl) qm_180 rfl dX4_find_11 ?_
        refine sx_iload_n X 2 rfl dX4_find_14 rfl ?_
        obtain ⟨g2, hf⟩ := ob_g hf
        refine sx_lald X 1 rfl g2 dX4_find_15 ?_
        refine sx_lload_n X 1 rfl dX4_find_16 rfl ?_
        refine sx_lcmp X dX4_find_17 ?_
        refine sx_if_ne X 23 dX4_find_18 rfl (fun c3 => ?_) (fun c3 => ?_)
        · have hf := ob_f hf c3
          refine sx_iinc X (v := (v3 + 1)) (lv' := [(3, .int (v3 + 1)), (0, .ref h), (1, .long v1)]) 2 rfl dX4_find_23 rfl (by decide) rfl ?_
          refine sx_goto X 2 dX4_find_26 rfl ?_
          have hf := ob_k hκ2 hf
          refine sx_lsub [1, 2, 0] rfl ?_
          exact ih2 (v3 + 1) hf
        · have hf := ob_t hf c3
          refine sx_iload_n X 2 rfl dX4_find_21 rfl ?_
          have hf := ob_kr hκ2 hf
          exact sx_iret X rfl dX4_find_22 (ob_e hf) rfl rfl
  refine sx_iconst X (v := 0) dX4_find_0 rfl ?_
  refine sx_istore_n X (lv' := [(3, .int 0), (0, .ref h), (1, .long x0)]) dX4_find_1 rfl (by decide) rfl ?_
  refine sx_lsub [1, 2, 0] rfl ?_
  exact L2 x0 n 0 hf
