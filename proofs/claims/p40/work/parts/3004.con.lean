/-! contracts, part 4 -/
abbrev vf_X11_takeNumber (sd : SdT) (r : Int32 × Int32) : Option Value := some (.int r.1)
abbrev wc_X11_takeNumber (T : Nat → ClassId) (sd : SdT) (h : Nat) (h_kinds : Nat) (h_starts : Nat) (h_values : Nat) (b_h : bX11) : va_W := [zO h 9 [.ref h_kinds, .ref h_starts, .ref h_values, .int (X11_count b_h), .int (X11_cursor b_h), .int (X11_error b_h), .int (X11_errorToken b_h)], zK T sd.1 h_kinds 401 (X11_kinds b_h), zI T h_starts 401 (X11_starts b_h), zJ T h_values 401 (X11_values b_h)]
abbrev wf_X11_takeNumber (T : Nat → ClassId) (sd : SdT) (h : Nat) (h_kinds : Nat) (h_starts : Nat) (h_values : Nat) (b_h : bX11) (r : Int32 × Int32) : va_W := [zO h 9 [.ref h_kinds, .ref h_starts, .ref h_values, .int (X11_count b_h), .int r.2, .int (X11_error b_h), .int (X11_errorToken b_h)], zK T sd.1 h_kinds 401 (X11_kinds b_h), zI T h_starts 401 (X11_starts b_h), zJ T h_values 401 (X11_values b_h)]
abbrev rm_X11_takeNumber : Room := { frames := 1, cells := 0, slots := 0, locals := 21 }
theorem hd_X11_takeNumber : yX11_takeNumber.cls ≠ "java/lang/invoke/MethodHandle" ∧ yX11_takeNumber.cls ≠ "java/lang/invoke/VarHandle" ∧ (parseMethodDescriptor yX11_takeNumber.desc).map (fun d => d.parameters.length) = some 1 := ⟨by decide, by decide, by decide +kernel⟩
set_option maxHeartbeats 4000000 in
set_option maxRecDepth 100000 in
theorem c_X11_takeNumber {l : Launch} {D : va_G} {T : Nat → ClassId} {sd : SdT} (h : Nat) (h_kinds : Nat) (h_starts : Nat) (h_values : Nat) (x0 : Nat) (b_h : bX11) {res : Int32 × Int32} (hf : f_X11_takeNumber x0 b_h = some res) : SxK (SFx sd) l D T yX11_takeNumber cX11_takeNumber 2 (some .boolean) rm_X11_takeNumber [.ref h, .ref (sd.1 x0)] (wc_X11_takeNumber T sd h h_kinds h_starts h_values b_h) (vf_X11_takeNumber sd) (wf_X11_takeNumber T sd h h_kinds h_starts h_values b_h) res 0 0 := by
  refine sx_start (SFx_ok sd) (by decide +kernel) (Nat.le_of_ble_eq_true rfl) (fun p e s m args below meth c A X hnm => ?_)
  have hf := ob_1 hf
  refine sx_aload_n X 0 rfl dX11_takeNumber_0 rfl ?_
  refine sx_aload_n X 1 rfl dX11_takeNumber_1 rfl ?_
  obtain ⟨u1, hu1, hf⟩ := ob_c hf
  refine sx_cV X (c_X11_take (l := l) (D := D) (T := T) (sd := sd) h h_kinds h_starts h_values x0 b_h hu1) (st' := [.int u1.1]) (q0 := 0) qm_949 qm_933 qm_934 qm_15 qm_935 hd_X11_take ⟨rfl, rfl⟩ ⟨Nat.le_of_ble_eq_true rfl, Nat.le_of_ble_eq_true rfl⟩ rfl rfl (Nat.le_of_ble_eq_true rfl) rfl rfl rfl [0, 1, 2, 3] rfl rfl (ws' := [zO h 9 [.ref h_kinds, .ref h_starts, .ref h_values, .int (X11_count b_h), .int u1.2, .int (X11_error b_h), .int (X11_errorToken b_h)], zK T sd.1 h_kinds 401 (X11_kinds b_h), zI T h_starts 401 (X11_starts b_h), zJ T h_values 401 (X11_values b_h)]) (sxPatch_pk [(true, 0), (true, 1), (true, 2), (true, 3)] (by decide +kernel) rfl rfl rfl) rfl ⟨Nat.le_of_ble_eq_true rfl, Nat.le_of_ble_eq_true rfl⟩ dX11_takeNumber_2 rfl ?_
  refine sx_if_eq X 22 dX11_takeNumber_5 rfl (fun c2 => ?_) (fun c2 => ?_)
  · have hf := ob_t hf c2
    refine sx_iconst X (v := 0) dX11_takeNumber_22 rfl ?_
    exact sx_iret X rfl dX11_takeNumber_23 (ob_e hf) rfl rfl
  · have hf := ob_f hf c2
    refine sx_aload_n X 0 rfl dX11_takeNumber_8 rfl ?_
    refine sx_kst X 48 (by decide) qm_890 dX11_takeNumber_9 ?_
    obtain ⟨u3, hu3, hf⟩ := ob_c hf
    refine sx_cV X (c_X11_take (l := l) (D := D) (T := T) (sd := sd) h h_kinds h_starts h_values 48 ((X11_kinds b_h), (X11_starts b_h), (X11_values b_h), (X11_count b_h), u1.2, (X11_error b_h), (X11_errorToken b_h)) hu3) (st' := [.int u3.1]) (q0 := 0) qm_949 qm_933 qm_934 qm_15 qm_935 hd_X11_take ⟨rfl, rfl⟩ ⟨Nat.le_of_ble_eq_true rfl, Nat.le_of_ble_eq_true rfl⟩ rfl rfl (Nat.le_of_ble_eq_true rfl) rfl rfl rfl [0, 1, 2, 3] rfl rfl (ws' := [zO h 9 [.ref h_kinds, .ref h_starts, .ref h_values, .int (X11_count b_h), .int u3.2, .int (X11_error b_h), .int (X11_errorToken b_h)], zK T sd.1 h_kinds 401 (X11_kinds b_h), zI T h_starts 401 (X11_starts b_h), zJ T h_values 401 (X11_values b_h)]) (sxPatch_pk [(true, 0), (true, 1), (true, 2), (true, 3)] (by decide +kernel) rfl rfl rfl) rfl ⟨Nat.le_of_ble_eq_true rfl, Nat.le_of_ble_eq_true rfl⟩ dX11_takeNumber_12 rfl ?_
    refine sx_if_eq X 22 dX11_takeNumber_15 rfl (fun c4 => ?_) (fun c4 => ?_)
    · have hf := ob_t hf c4
      refine sx_iconst X (v := 0) dX11_takeNumber_22 rfl ?_
      exact sx_iret X rfl dX11_takeNumber_23 (ob_e hf) rfl rfl
    · have hf := ob_f hf c4
      refine sx_iconst X (v := 1) dX11_takeNumber_18 rfl ?_
      refine sx_goto X 23 dX11_takeNumber_19 rfl ?_
      exact sx_iret X rfl dX11_takeNumber_23 (ob_e hf) rfl rfl

abbrev vf_X2_has (sd : SdT) (r : Int32) : Option Value := some (.int r)
abbrev wc_X2_has (T : Nat → ClassId) (sd : SdT) (h : Nat) (h_names : Nat) (h_warm : Nat) (h_force : Nat) (h_from : Nat) (h_hours : Nat) (b_h : bX2) : va_W := [zO h 2 [.ref h_names, .ref h_warm, .ref h_force, .ref h_from, .ref h_hours, .int (X2_count b_h)], zJ T h_names 10 (X2_names b_h), zZ T h_warm 10 (X2_warm b_h), zI T h_force 10 (X2_force b_h), zI T h_from 10 (X2_from b_h), zI T h_hours 10 (X2_hours b_h)]
abbrev wf_X2_has (T : Nat → ClassId) (sd : SdT) (h : Nat) (h_names : Nat) (h_warm : Nat) (h_force : Nat) (h_from : Nat) (h_hours : Nat) (b_h : bX2) (r : Int32) : va_W := [zO h 2 [.ref h_names, .ref h_warm, .ref h_force, .ref h_from, .ref h_hours, .int (X2_count b_h)], zJ T h_names 10 (X2_names b_h), zZ T h_warm 10 (X2_warm b_h), zI T h_force 10 (X2_force b_h), zI T h_from 10 (X2_from b_h), zI T h_hours 10 (X2_hours b_h)]
abbrev rm_X2_has : Room := { frames := 0, cells := 0, slots := 0, locals := 0 }
theorem hd_X2_has : yX2_has.cls ≠ "java/lang/invoke/MethodHandle" ∧ yX2_has.cls ≠ "java/lang/invoke/VarHandle" ∧ (parseMethodDescriptor yX2_has.desc).map (fun d => d.parameters.length) = some 1 := ⟨by decide, by decide, by decide +kernel⟩
set_option maxHeartbeats 4000000 in
set_option maxRecDepth 100000 in
theorem c_X2_has {l : Launch} {D : va_G} {T : Nat → ClassId} {sd : SdT} (h : Nat) (h_names : Nat) (h_warm : Nat) (h_force : Nat) (h_from : Nat) (h_hours : Nat) (x0 : Int32) (b_h : bX2) {res : Int32} (hf : f_X2_has x0 b_h = some res) : SxK (SFx sd) l D T yX2_has cX2_has 2 (some .boolean) rm_X2_has [.ref h, .int x0] (wc_X2_has T sd h h_names h_warm h_force h_from h_hours b_h) (vf_X2_has sd) (wf_X2_has T sd h h_names h_warm h_force h_from h_hours b_h) res 0 0 := by
  refine sx_start (SFx_ok sd) (by decide +kernel) (Nat.le_of_ble_eq_true rfl) (fun p e s m args below meth c A X hnm => ?_)
  have hf := ob_1 hf
  refine sx_iload_n X 1 rfl dX2_has_0 rfl ?_
  refine sx_if_lt X 22 dX2_has_1 rfl (fun c1 => ?_) (fun c1 => ?_)
  · have hf := ob_t hf c1
    refine sx_iconst X (v := 0) dX2_has_22 rfl ?_
    exact sx_iret X rfl dX2_has_23 (ob_e hf) rfl rfl
  · have hf := ob_f hf c1
    refine sx_iload_n X 1 rfl dX2_has_4 rfl ?_
    refine sx_aload_n X 0 rfl dX2_has_5 rfl ?_
    refine sx_get X kX2 0 rfl 5 (Nat.le_of_ble_eq_true rfl) qm_156 rfl dX2_has_6 ?_
    refine sx_icmp_ge X 22 dX2_has_9 rfl (fun c2 => ?_) (fun c2 => ?_)
    · have hf := ob_t hf c2
      refine sx_iconst X (v := 0) dX2_has_22 rfl ?_
      exact sx_iret X rfl dX2_has_23 (ob_e hf) rfl rfl
    · have hf := ob_f hf c2
      refine sx_iload_n X 1 rfl dX2_has_12 rfl ?_
      refine sx_bipush X (v := 10) dX2_has_13 rfl ?_
      refine sx_icmp_ge X 22 dX2_has_15 rfl (fun c3 => ?_) (fun c3 => ?_)
      · have hf := ob_t hf c3
        refine sx_iconst X (v := 0) dX2_has_22 rfl ?_
        exact sx_iret X rfl dX2_has_23 (ob_e hf) rfl rfl
      · have hf := ob_f hf c3
        refine sx_iconst X (v := 1) dX2_has_18 rfl ?_
        refine sx_goto X 23 dX2_has_19 rfl ?_
        exact sx_iret X rfl dX2_has_23 (ob_e hf) rfl rfl

abbrev vf_X8_hangsOver (sd : SdT) (r : Int32) : Option Value := some (.int r)
abbrev wc_X8_hangsOver (T : Nat → ClassId) (sd : SdT) (h : Nat) (h_reckoner : Nat) (h_plan : Nat) (h_frontSteeped : Nat) (h_guestServed : Nat) (h_guestStormed : Nat) (h_plan_fronts : Nat) (h_plan_guests : Nat) (h_plan_orders : Nat) (h_plan_fronts_names : Nat) (h_plan_fronts_warm : Nat) (h_plan_fronts_force : Nat) (h_plan_fronts_from : Nat) (h_plan_fronts_hours : Nat) (b_h : bX8) (b_h_plan_fronts : bX2) : va_W := [zO h 6 [.ref h_reckoner, .ref h_plan, .int (X8_hour b_h), .int (X8_warmth b_h), .int (X8_strength b_h), .int (X8_charge b_h), .int (X8_lemons b_h), .int (X8_saucers b_h), .int (X8_coins b_h), .int (X8_storms b_h), .ref h_frontSteeped, .ref h_guestServed, .ref h_guestStormed], zZ T h_frontSteeped 10 (X8_frontSteeped b_h), zZ T h_guestServed 10 (X8_guestServed b_h), zZ T h_guestStormed 10 (X8_guestStormed b_h), zO h_plan 5 [.ref h_plan_fronts, .ref h_plan_guests, .ref h_plan_orders], zO h_plan_fronts 2 [.ref h_plan_fronts_names, .ref h_plan_fronts_warm, .ref h_plan_fronts_force, .ref h_plan_fronts_from, .ref h_plan_fronts_hours, .int (X2_count b_h_plan_fronts)], zJ T h_plan_fronts_names 10 (X2_names b_h_plan_fronts), zZ T h_plan_fronts_warm 10 (X2_warm b_h_plan_fronts), zI T h_plan_fronts_force 10 (X2_force b_h_plan_fronts), zI T h_plan_fronts_from 10 (X2_from b_h_plan_fronts), zI T h_plan_fronts_hours 10 (X2_hours b_h_plan_fronts)]
abbrev wf_X8_hangsOver (T : Nat → ClassId) (sd : SdT) (h : Nat) (h_reckoner : Nat) (h_plan : Nat) (h_frontSteeped : Nat) (h_guestServed : Nat) (h_guestStormed : Nat) (h_plan_fronts : Nat) (h_plan_guests : Nat) (h_plan_orders : Nat) (h_plan_fronts_names : Nat) (h_plan_fronts_warm : Nat) (h_plan_fronts_force : Nat) (h_plan_fronts_from : Nat) (h_plan_fronts_hours : Nat) (b_h : bX8) (b_h_plan_fronts : bX2) (r : Int32) : va_W := [zO h 6 [.ref h_reckoner, .ref h_plan, .int (X8_hour b_h), .int (X8_warmth b_h), .int (X8_strength b_h), .int (X8_charge b_h), .int (X8_lemons b_h), .int (X8_saucers b_h), .int (X8_coins b_h), .int (X8_storms b_h), .ref h_frontSteeped, .ref h_guestServed, .ref h_guestStormed], zZ T h_frontSteeped 10 (X8_frontSteeped b_h), zZ T h_guestServed 10 (X8_guestServed b_h), zZ T h_guestStormed 10 (X8_guestStormed b_h), zO h_plan 5 [.ref h_plan_fronts, .ref h_plan_guests, .ref h_plan_orders], zO h_plan_fronts 2 [.ref h_plan_fronts_names, .ref h_plan_fronts_warm, .ref h_plan_fronts_force, .ref h_plan_fronts_from, .ref h_plan_fronts_hours, .int (X2_count b_h_plan_fronts)], zJ T h_plan_fronts_names 10 (X2_names b_h_plan_fronts), zZ T h_plan_fronts_warm 10 (X2_warm b_h_plan_fronts), zI T h_plan_fronts_force 10 (X2_force b_h_plan_fronts), zI T h_plan_fronts_from 10 (X2_from b_h_plan_fronts), zI T h_plan_fronts_hours 10 (X2_hours b_h_plan_fronts)]
abbrev rm_X8_hangsOver : Room := { frames := 1, cells := 0, slots := 0, locals := 21 }
theorem hd_X8_hangsOver : yX8_hangsOver.cls ≠ "java/lang/invoke/MethodHandle" ∧ yX8_hangsOver.cls ≠ "java/lang/invoke/VarHandle" ∧ (parseMethodDescriptor yX8_hangsOver.desc).map (fun d => d.parameters.length) = some 1 := ⟨by decide, by decide, by decide +kernel⟩
set_option maxHeartbeats 4000000 in
set_option maxRecDepth 100000 in
theorem c_X8_hangsOver {l : Launch} {D : va_G} {T : Nat → ClassId} {sd : SdT} (h : Nat) (h_reckoner : Nat) (h_plan : Nat) (h_frontSteeped : Nat) (h_guestServed : Nat) (h_guestStormed : Nat) (h_plan_fronts : Nat) (h_plan_guests : Nat) (h_plan_orders : Nat) (h_plan_fronts_names : Nat) (h_plan_fronts_warm : Nat) (h_plan_fronts_force : Nat) (h_plan_fronts_from : Nat) (h_plan_fronts_hours : Nat) (x0 : Int32) (b_h : bX8) (b_h_plan_fronts : bX2) {res : Int32} (hf : f_X8_hangsOver x0 b_h b_h_plan_fronts = some res) : SxK (SFx sd) l D T yX8_hangsOver cX8_hangsOver 3 (some .boolean) rm_X8_hangsOver [.ref h, .int x0] (wc_X8_hangsOver T sd h h_reckoner h_plan h_frontSteeped h_guestServed h_guestStormed h_plan_fronts h_plan_guests h_plan_orders h_plan_fronts_names h_plan_fronts_warm h_plan_fronts_force h_plan_fronts_from h_plan_fronts_hours b_h b_h_plan_fronts) (vf_X8_hangsOver sd) (wf_X8_hangsOver T sd h h_reckoner h_plan h_frontSteeped h_guestServed h_guestStormed h_plan_fronts h_plan_guests h_plan_orders h_plan_fronts_names h_plan_fronts_warm h_plan_fronts_force h_plan_fronts_from h_plan_fronts_hours b_h b_h_plan_fronts) res 0 0 := by
  refine sx_start (SFx_ok sd) (by decide +kernel) (Nat.le_of_ble_eq_true rfl) (fun p e s m args below meth c A X hnm => ?_)
  have hf := ob_1 hf
  refine sx_aload_n X 0 rfl dX8_hangsOver_0 rfl ?_
  refine sx_get X kX8 0 rfl 1 (Nat.le_of_ble_eq_true rfl) qm_268 rfl dX8_hangsOver_1 ?_
  refine sx_get X kX7 4 rfl 0 (Nat.le_of_ble_eq_true rfl) qm_250 rfl dX8_hangsOver_4 ?_
  refine sx_astore_n X (lv' := [(2, .ref h_plan_fronts), (0, .ref h), (1, .int x0)]) dX8_hangsOver_7 rfl (by decide) rfl ?_
  refine sx_aload_n X 0 rfl dX8_hangsOver_8 rfl ?_
  refine sx_iload_n X 2 rfl dX8_hangsOver_9 rfl ?_
  obtain ⟨u1, hu1, hf⟩ := ob_c hf
  refine sx_cVr X (c_X2_has (l := l) (D := D) (T := T) (sd := sd) h_plan_fronts h_plan_fronts_names h_plan_fronts_warm h_plan_fronts_force h_plan_fronts_from h_plan_fronts_hours x0 b_h_plan_fronts hu1) (st' := [.int u1]) (q0 := 5) qm_493 qm_415 qm_416 qm_21 qm_417 hd_X2_has ⟨rfl, rfl⟩ ⟨Nat.le_of_ble_eq_true rfl, Nat.le_of_ble_eq_true rfl⟩ rfl rfl (Nat.le_of_ble_eq_true rfl) rfl rfl rfl [5, 6, 7, 8, 9, 10] rfl rfl rfl ⟨Nat.le_of_ble_eq_true rfl, Nat.le_of_ble_eq_true rfl⟩ dX8_hangsOver_10 rfl ?_
  refine sx_if_eq X 62 dX8_hangsOver_13 rfl (fun c2 => ?_) (fun c2 => ?_)
  · have hf := ob_t hf c2
    refine sx_iconst X (v := 0) dX8_hangsOver_62 rfl ?_
    exact sx_iret X rfl dX8_hangsOver_63 (ob_e hf) rfl rfl
  · have hf := ob_f hf c2
    refine sx_aload_n X 1 rfl dX8_hangsOver_16 rfl ?_
    refine sx_get X kX8 0 rfl 10 (Nat.le_of_ble_eq_true rfl) qm_286 rfl dX8_hangsOver_17 ?_
    refine sx_iload_n X 2 rfl dX8_hangsOver_20 rfl ?_
    obtain ⟨g3, hf⟩ := ob_g hf
    refine sx_zald X 1 rfl g3 dX8_hangsOver_21 ?_
    refine sx_if_ne X 62 dX8_hangsOver_22 rfl (fun c4 => ?_) (fun c4 => ?_)
    · have hf := ob_f hf c4
      refine sx_iconst X (v := 0) dX8_hangsOver_62 rfl ?_
      exact sx_iret X rfl dX8_hangsOver_63 (ob_e hf) rfl rfl
    · have hf := ob_t hf c4
      refine sx_aload_n X 1 rfl dX8_hangsOver_25 rfl ?_
      refine sx_get X kX8 0 rfl 2 (Nat.le_of_ble_eq_true rfl) qm_270 rfl dX8_hangsOver_26 ?_
      refine sx_aload_n X 0 rfl dX8_hangsOver_29 rfl ?_
      refine sx_get X kX2 5 rfl 3 (Nat.le_of_ble_eq_true rfl) qm_152 rfl dX8_hangsOver_30 ?_
      refine sx_iload_n X 2 rfl dX8_hangsOver_33 rfl ?_
      obtain ⟨g5, hf⟩ := ob_g hf
      refine sx_iald X 9 rfl g5 dX8_hangsOver_34 ?_
      refine sx_icmp_lt X 62 dX8_hangsOver_35 rfl (fun c6 => ?_) (fun c6 => ?_)
      · have hf := ob_t hf c6
        refine sx_iconst X (v := 0) dX8_hangsOver_62 rfl ?_
        exact sx_iret X rfl dX8_hangsOver_63 (ob_e hf) rfl rfl
      · have hf := ob_f hf c6
        refine sx_aload_n X 1 rfl dX8_hangsOver_38 rfl ?_
        refine sx_get X kX8 0 rfl 2 (Nat.le_of_ble_eq_true rfl) qm_270 rfl dX8_hangsOver_39 ?_
        refine sx_aload_n X 0 rfl dX8_hangsOver_42 rfl ?_
        refine sx_get X kX2 5 rfl 3 (Nat.le_of_ble_eq_true rfl) qm_152 rfl dX8_hangsOver_43 ?_
        refine sx_iload_n X 2 rfl dX8_hangsOver_46 rfl ?_
        obtain ⟨g7, hf⟩ := ob_g hf
        refine sx_iald X 9 rfl g7 dX8_hangsOver_47 ?_
        refine sx_aload_n X 0 rfl dX8_hangsOver_48 rfl ?_
        refine sx_get X kX2 5 rfl 4 (Nat.le_of_ble_eq_true rfl) qm_154 rfl dX8_hangsOver_49 ?_
        refine sx_iload_n X 2 rfl dX8_hangsOver_52 rfl ?_
        obtain ⟨g8, hf⟩ := ob_g hf
        refine sx_iald X 10 rfl g8 dX8_hangsOver_53 ?_
        refine sx_iadd X dX8_hangsOver_54 ?_
        refine sx_icmp_ge X 62 dX8_hangsOver_55 rfl (fun c9 => ?_) (fun c9 => ?_)
        · have hf := ob_t hf c9
          refine sx_iconst X (v := 0) dX8_hangsOver_62 rfl ?_
          exact sx_iret X rfl dX8_hangsOver_63 (ob_e hf) rfl rfl
        · have hf := ob_f hf c9
          refine sx_iconst X (v := 1) dX8_hangsOver_58 rfl ?_
          refine sx_goto X 63 dX8_hangsOver_59 rfl ?_
          exact sx_iret X rfl dX8_hangsOver_63 (ob_e hf) rfl rfl

abbrev vf_X8_strengthWith (sd : SdT) (r : Int32) : Option Value := some (.int r)
abbrev wc_X8_strengthWith (T : Nat → ClassId) (sd : SdT) (h : Nat) (h_reckoner : Nat) (h_plan : Nat) (h_frontSteeped : Nat) (h_guestServed : Nat) (h_guestStormed : Nat) (h_plan_fronts : Nat) (h_plan_guests : Nat) (h_plan_orders : Nat) (h_plan_fronts_names : Nat) (h_plan_fronts_warm : Nat) (h_plan_fronts_force : Nat) (h_plan_fronts_from : Nat) (h_plan_fronts_hours : Nat) (b_h : bX8) (b_h_plan_fronts : bX2) : va_W := [zO h 6 [.ref h_reckoner, .ref h_plan, .int (X8_hour b_h), .int (X8_warmth b_h), .int (X8_strength b_h), .int (X8_charge b_h), .int (X8_lemons b_h), .int (X8_saucers b_h), .int (X8_coins b_h), .int (X8_storms b_h), .ref h_frontSteeped, .ref h_guestServed, .ref h_guestStormed], zZ T h_frontSteeped 10 (X8_frontSteeped b_h), zZ T h_guestServed 10 (X8_guestServed b_h), zZ T h_guestStormed 10 (X8_guestStormed b_h), zO h_plan 5 [.ref h_plan_fronts, .ref h_plan_guests, .ref h_plan_orders], zO h_plan_fronts 2 [.ref h_plan_fronts_names, .ref h_plan_fronts_warm, .ref h_plan_fronts_force, .ref h_plan_fronts_from, .ref h_plan_fronts_hours, .int (X2_count b_h_plan_fronts)], zJ T h_plan_fronts_names 10 (X2_names b_h_plan_fronts), zZ T h_plan_fronts_warm 10 (X2_warm b_h_plan_fronts), zI T h_plan_fronts_force 10 (X2_force b_h_plan_fronts), zI T h_plan_fronts_from 10 (X2_from b_h_plan_fronts), zI T h_plan_fronts_hours 10 (X2_hours b_h_plan_fronts)]
abbrev wf_X8_strengthWith (T : Nat → ClassId) (sd : SdT) (h : Nat) (h_reckoner : Nat) (h_plan : Nat) (h_frontSteeped : Nat) (h_guestServed : Nat) (h_guestStormed : Nat) (h_plan_fronts : Nat) (h_plan_guests : Nat) (h_plan_orders : Nat) (h_plan_fronts_names : Nat) (h_plan_fronts_warm : Nat) (h_plan_fronts_force : Nat) (h_plan_fronts_from : Nat) (h_plan_fronts_hours : Nat) (b_h : bX8) (b_h_plan_fronts : bX2) (r : Int32) : va_W := [zO h 6 [.ref h_reckoner, .ref h_plan, .int (X8_hour b_h), .int (X8_warmth b_h), .int (X8_strength b_h), .int (X8_charge b_h), .int (X8_lemons b_h), .int (X8_saucers b_h), .int (X8_coins b_h), .int (X8_storms b_h), .ref h_frontSteeped, .ref h_guestServed, .ref h_guestStormed], zZ T h_frontSteeped 10 (X8_frontSteeped b_h), zZ T h_guestServed 10 (X8_guestServed b_h), zZ T h_guestStormed 10 (X8_guestStormed b_h), zO h_plan 5 [.ref h_plan_fronts, .ref h_plan_guests, .ref h_plan_orders], zO h_plan_fronts 2 [.ref h_plan_fronts_names, .ref h_plan_fronts_warm, .ref h_plan_fronts_force, .ref h_plan_fronts_from, .ref h_plan_fronts_hours, .int (X2_count b_h_plan_fronts)], zJ T h_plan_fronts_names 10 (X2_names b_h_plan_fronts), zZ T h_plan_fronts_warm 10 (X2_warm b_h_plan_fronts), zI T h_plan_fronts_force 10 (X2_force b_h_plan_fronts), zI T h_plan_fronts_from 10 (X2_from b_h_plan_fronts), zI T h_plan_fronts_hours 10 (X2_hours b_h_plan_fronts)]
abbrev rm_X8_strengthWith : Room := { frames := 1, cells := 0, slots := 0, locals := 21 }
theorem hd_X8_strengthWith : yX8_strengthWith.cls ≠ "java/lang/invoke/MethodHandle" ∧ yX8_strengthWith.cls ≠ "java/lang/invoke/VarHandle" ∧ (parseMethodDescriptor yX8_strengthWith.desc).map (fun d => d.parameters.length) = some 1 := ⟨by decide, by decide, by decide +kernel⟩
set_option maxHeartbeats 4000000 in
set_option maxRecDepth 100000 in
theorem c_X8_strengthWith {l : Launch} {D : va_G} {T : Nat → ClassId} {sd : SdT} (h : Nat) (h_reckoner : Nat) (h_plan : Nat) (h_frontSteeped : Nat) (h_guestServed : Nat) (h_guestStormed : Nat) (h_plan_fronts : Nat) (h_plan_guests : Nat) (h_plan_orders : Nat) (h_plan_fronts_names : Nat) (h_plan_fronts_warm : Nat) (h_plan_fronts_force : Nat) (h_plan_fronts_from : Nat) (h_plan_fronts_hours : Nat) (x0 : Int32) (b_h : bX8) (b_h_plan_fronts : bX2) {res : Int32} (hf : f_X8_strengthWith x0 b_h b_h_plan_fronts = some res) : SxK (SFx sd) l D T yX8_strengthWith cX8_strengthWith 3 (some .int) rm_X8_strengthWith [.ref h, .int x0] (wc_X8_strengthWith T sd h h_reckoner h_plan h_frontSteeped h_guestServed h_guestStormed h_plan_fronts h_plan_guests h_plan_orders h_plan_fronts_names h_plan_fronts_warm h_plan_fronts_force h_plan_fronts_from h_plan_fronts_hours b_h b_h_plan_fronts) (vf_X8_strengthWith sd) (wf_X8_strengthWith T sd h h_reckoner h_plan h_frontSteeped h_guestServed h_guestStormed h_plan_fronts h_plan_guests h_plan_orders h_plan_fronts_names h_plan_fronts_warm h_plan_fronts_force h_plan_fronts_from h_plan_fronts_hours b_h b_h_plan_fronts) res 0 0 := by
  refine sx_start (SFx_ok sd) (by decide +kernel) (Nat.le_of_ble_eq_true rfl) (fun p e s m args below meth c A X hnm => ?_)
  have hf := ob_1 hf
  have R30 : ∀ (t0 : Int32), (f_X8_strengthWith_R30 x0 b_h b_h_plan_fronts t0).bind some = some res → SxG p l e rm_X8_strengthWith s m args below meth c D A 3 0 0 (SxE below args s D A (vf_X8_strengthWith sd) (wf_X8_strengthWith T sd h h_reckoner h_plan h_frontSteeped h_guestServed h_guestStormed h_plan_fronts h_plan_guests h_plan_orders h_plan_fronts_names h_plan_fronts_warm h_plan_fronts_force h_plan_fronts_from h_plan_fronts_hours b_h b_h_plan_fronts) res 0 0) [zO h 6 [.ref h_reckoner, .ref h_plan, .int (X8_hour b_h), .int (X8_warmth b_h), .int (X8_strength b_h), .int (X8_charge b_h), .int (X8_lemons b_h), .int (X8_saucers b_h), .int (X8_coins b_h), .int (X8_storms b_h), .ref h_frontSteeped, .ref h_guestServed, .ref h_guestStormed], zZ T h_frontSteeped 10 (X8_frontSteeped b_h), zZ T h_guestServed 10 (X8_guestServed b_h), zZ T h_guestStormed 10 (X8_guestStormed b_h), zO h_plan 5 [.ref h_plan_fronts, .ref h_plan_guests, .ref h_plan_orders], zO h_plan_fronts 2 [.ref h_plan_fronts_names, .ref h_plan_fronts_warm, .ref h_plan_fronts_force, .ref h_plan_fronts_from, .ref h_plan_fronts_hours, .int (X2_count b_h_plan_fronts)], zJ T h_plan_fronts_names 10 (X2_names b_h_plan_fronts), zZ T h_plan_fronts_warm 10 (X2_warm b_h_plan_fronts), zI T h_plan_fronts_force 10 (X2_force b_h_plan_fronts), zI T h_plan_fronts_from 10 (X2_from b_h_plan_fronts), zI T h_plan_fronts_hours 10 (X2_hours b_h_plan_fronts)] [(0, .ref h)] 30 [.int t0] := by
    intro t0 hf
    refine sx_istore_n X (lv' := [(2, .int t0), (0, .ref h)]) dX8_strengthWith_30 rfl (by decide) rfl ?_
    refine sx_bipush X (v := 30) dX8_strengthWith_31 rfl ?_
    refine sx_aload_n X 1 rfl dX8_strengthWith_33 rfl ?_
    refine sx_get X kX8 0 rfl 4 (Nat.le_of_ble_eq_true rfl) qm_274 rfl dX8_strengthWith_34 ?_
    refine sx_iload_n X 0 rfl dX8_strengthWith_37 rfl ?_
    refine sx_iadd X dX8_strengthWith_38 ?_
    refine sx_min X qm_611 qm_594 qm_32 qm_595 (Nat.le_of_ble_eq_true rfl) (Nat.le_of_ble_eq_true rfl) (Nat.zero_le _) (Nat.zero_le _) dX8_strengthWith_39 ?_
    exact sx_iret X rfl dX8_strengthWith_42 (ob_e hf) rfl rfl
  refine sx_aload_n X 0 rfl dX8_strengthWith_0 rfl ?_
  refine sx_get X kX8 0 rfl 1 (Nat.le_of_ble_eq_true rfl) qm_268 rfl dX8_strengthWith_1 ?_
  refine sx_get X kX7 4 rfl 0 (Nat.le_of_ble_eq_true rfl) qm_250 rfl dX8_strengthWith_4 ?_
  refine sx_iload_n X 1 rfl dX8_strengthWith_7 rfl ?_
  obtain ⟨u1, hu1, hf⟩ := ob_c hf
  refine sx_cVr X (c_X2_has (l := l) (D := D) (T := T) (sd := sd) h_plan_fronts h_plan_fronts_names h_plan_fronts_warm h_plan_fronts_force h_plan_fronts_from h_plan_fronts_hours x0 b_h_plan_fronts hu1) (st' := [.int u1]) (q0 := 5) qm_493 qm_415 qm_416 qm_21 qm_417 hd_X2_has ⟨rfl, rfl⟩ ⟨Nat.le_of_ble_eq_true rfl, Nat.le_of_ble_eq_true rfl⟩ rfl rfl (Nat.le_of_ble_eq_true rfl) rfl rfl rfl [5, 6, 7, 8, 9, 10] rfl rfl rfl ⟨Nat.le_of_ble_eq_true rfl, Nat.le_of_ble_eq_true rfl⟩ dX8_strengthWith_8 rfl ?_
  refine sx_if_eq X 29 dX8_strengthWith_11 rfl (fun c2 => ?_) (fun c2 => ?_)
  · have hf := ob_t hf c2
    refine sx_iconst X (v := 0) dX8_strengthWith_29 rfl ?_
    refine sx_lsub [0] rfl ?_
    exact R30 0 hf
  · have hf := ob_f hf c2
    refine sx_aload_n X 0 rfl dX8_strengthWith_14 rfl ?_
    refine sx_get X kX8 0 rfl 1 (Nat.le_of_ble_eq_true rfl) qm_268 rfl dX8_strengthWith_15 ?_
    refine sx_get X kX7 4 rfl 0 (Nat.le_of_ble_eq_true rfl) qm_250 rfl dX8_strengthWith_18 ?_
    refine sx_get X kX2 5 rfl 2 (Nat.le_of_ble_eq_true rfl) qm_149 rfl dX8_strengthWith_21 ?_
    refine sx_iload_n X 1 rfl dX8_strengthWith_24 rfl ?_
    obtain ⟨g3, hf⟩ := ob_g hf
    refine sx_iald X 8 rfl g3 dX8_strengthWith_25 ?_
    refine sx_goto X 30 dX8_strengthWith_26 rfl ?_
    refine sx_lsub [0] rfl ?_
    exact R30 ((X2_force b_h_plan_fronts) x0.toNatClampNeg) hf

abbrev vf_X4_has (sd : SdT) (r : Int32) : Option Value := some (.int r)
abbrev wc_X4_has (T : Nat → ClassId) (sd : SdT) (h : Nat) (h_names : Nat) (h_from : Nat) (h_weakest : Nat) (h_strongest : Nat) (h_nerve : Nat) (b_h : bX4) : va_W := [zO h 3 [.ref h_names, .ref h_from, .ref h_weakest, .ref h_strongest, .ref h_nerve, .int (X4_count b_h)], zJ T h_names 10 (X4_names b_h), zI T h_from 10 (X4_from b_h), zI T h_weakest 10 (X4_weakest b_h), zI T h_strongest 10 (X4_strongest b_h), zI T h_nerve 10 (X4_nerve b_h)]
abbrev wf_X4_has (T : Nat → ClassId) (sd : SdT) (h : Nat) (h_names : Nat) (h_from : Nat) (h_weakest : Nat) (h_strongest : Nat) (h_nerve : Nat) (b_h : bX4) (r : Int32) : va_W := [zO h 3 [.ref h_names, .ref h_from, .ref h_weakest, .ref h_strongest, .ref h_nerve, .int (X4_count b_h)], zJ T h_names 10 (X4_names b_h), zI T h_from 10 (X4_from b_h), zI T h_weakest 10 (X4_weakest b_h), zI T h_strongest 10 (X4_strongest b_h), zI T h_nerve 10 (X4_nerve b_h)]
abbrev rm_X4_has : Room := { frames := 0, cells := 0, slots := 0, locals := 0 }
theorem hd_X4_has : yX4_has.cls ≠ "java/lang/invoke/MethodHandle" ∧ yX4_has.cls ≠ "java/lang/invoke/VarHandle" ∧ (parseMethodDescriptor yX4_has.desc).map (fun d => d.parameters.length) = some 1 := ⟨by decide, by decide, by decide +kernel⟩
set_option maxHeartbeats 4000000 in
set_option maxRecDepth 100000 in
theorem c_X4_has {l : Launch} {D : va_G} {T : Nat → ClassId} {sd : SdT} (h : Nat) (h_names : Nat) (h_from : Nat) (h_weakest : Nat) (h_strongest : Nat) (h_nerve : Nat) (x0 : Int32) (b_h : bX4) {res : Int32} (hf : f_X4_has x0 b_h = some res) : SxK (SFx sd) l D T yX4_has cX4_has 2 (some .boolean) rm_X4_has [.ref h, .int x0] (wc_X4_has T sd h h_names h_from h_weakest h_strongest h_nerve b_h) (vf_X4_has sd) (wf_X4_has T sd h h_names h_from h_weakest h_strongest h_nerve b_h) res 0 0 := by
  refine sx_start (SFx_ok sd) (by decide +kernel) (Nat.le_of_ble_eq_true rfl) (fun p e s m args below meth c A X hnm => ?_)
  have hf := ob_1 hf
  refine sx_iload_n X 1 rfl dX4_has_0 rfl ?_
  refine sx_if_lt X 22 dX4_has_1 rfl (fun c1 => ?_) (fun c1 => ?_)
  · have hf := ob_t hf c1
    refine sx_iconst X (v := 0) dX4_has_22 rfl ?_
    exact sx_iret X rfl dX4_has_23 (ob_e hf) rfl rfl
  · have hf := ob_f hf c1
    refine sx_iload_n X 1 rfl dX4_has_4 rfl ?_
    refine sx_aload_n X 0 rfl dX4_has_5 rfl ?_
    refine sx_get X kX4 0 rfl 5 (Nat.le_of_ble_eq_true rfl) qm_189 rfl dX4_has_6 ?_
    refine sx_icmp_ge X 22 dX4_has_9 rfl (fun c2 => ?_) (fun c2 => ?_)
    · have hf := ob_t hf c2
      refine sx_iconst X (v := 0) dX4_has_22 rfl ?_
      exact sx_iret X rfl dX4_has_23 (ob_e hf) rfl rfl
    · have hf := ob_f hf c2
      refine sx_iload_n X 1 rfl dX4_has_12 rfl ?_
      refine sx_bipush X (v := 10) dX4_has_13 rfl ?_
      refine sx_icmp_ge X 22 dX4_has_15 rfl (fun c3 => ?_) (fun c3 => ?_)
      · have hf := ob_t hf c3
        refine sx_iconst X (v := 0) dX4_has_22 rfl ?_
        exact sx_iret X rfl dX4_has_23 (ob_e hf) rfl rfl
      · have hf := ob_f hf c3
        refine sx_iconst X (v := 1) dX4_has_18 rfl ?_
        refine sx_goto X 23 dX4_has_19 rfl ?_
        exact sx_iret X rfl dX4_has_23 (ob_e hf) rfl rfl

abbrev vf_X8_sits (sd : SdT) (r : Int32) : Option Value := some (.int r)
abbrev wc_X8_sits (T : Nat → ClassId) (sd : SdT) (h : Nat) (h_reckoner : Nat) (h_plan : Nat) (h_frontSteeped : Nat) (h_guestServed : Nat) (h_guestStormed : Nat) (h_plan_fronts : Nat) (h_plan_guests : Nat) (h_plan_orders : Nat) (h_plan_guests_names : Nat) (h_plan_guests_from : Nat) (h_plan_guests_weakest : Nat) (h_plan_guests_strongest : Nat) (h_plan_guests_nerve : Nat) (b_h : bX8) (b_h_plan_guests : bX4) : va_W := [zO h 6 [.ref h_reckoner, .ref h_plan, .int (X8_hour b_h), .int (X8_warmth b_h), .int (X8_strength b_h), .int (X8_charge b_h), .int (X8_lemons b_h), .int (X8_saucers b_h), .int (X8_coins b_h), .int (X8_storms b_h), .ref h_frontSteeped, .ref h_guestServed, .ref h_guestStormed], zZ T h_frontSteeped 10 (X8_frontSteeped b_h), zZ T h_guestServed 10 (X8_guestServed b_h), zZ T h_guestStormed 10 (X8_guestStormed b_h), zO h_plan 5 [.ref h_plan_fronts, .ref h_plan_guests, .ref h_plan_orders], zO h_plan_guests 3 [.ref h_plan_guests_names, .ref h_plan_guests_from, .ref h_plan_guests_weakest, .ref h_plan_guests_strongest, .ref h_plan_guests_nerve, .int (X4_count b_h_plan_guests)], zJ T h_plan_guests_names 10 (X4_names b_h_plan_guests), zI T h_plan_guests_from 10 (X4_from b_h_plan_guests), zI T h_plan_guests_weakest 10 (X4_weakest b_h_plan_guests), zI T h_plan_guests_strongest 10 (X4_strongest b_h_plan_guests), zI T h_plan_guests_nerve 10 (X4_nerve b_h_plan_guests)]
abbrev wf_X8_sits (T : Nat → ClassId) (sd : SdT) (h : Nat) (h_reckoner : Nat) (h_plan : Nat) (h_frontSteeped : Nat) (h_guestServed : Nat) (h_guestStormed : Nat) (h_plan_fronts : Nat) (h_plan_guests : Nat) (h_plan_orders : Nat) (h_plan_guests_names : Nat) (h_plan_guests_from : Nat) (h_plan_guests_weakest : Nat) (h_plan_guests_strongest : Nat) (h_plan_guests_nerve : Nat) (b_h : bX8) (b_h_plan_guests : bX4) (r : Int32) : va_W := [zO h 6 [.ref h_reckoner, .ref h_plan, .int (X8_hour b_h), .int (X8_warmth b_h), .int (X8_strength b_h), .int (X8_charge b_h), .int (X8_lemons b_h), .int (X8_saucers b_h), .int (X8_coins b_h), .int (X8_storms b_h), .ref h_frontSteeped, .ref h_guestServed, .ref h_guestStormed], zZ T h_frontSteeped 10 (X8_frontSteeped b_h), zZ T h_guestServed 10 (X8_guestServed b_h), zZ T h_guestStormed 10 (X8_guestStormed b_h), zO h_plan 5 [.ref h_plan_fronts, .ref h_plan_guests, .ref h_plan_orders], zO h_plan_guests 3 [.ref h_plan_guests_names, .ref h_plan_guests_from, .ref h_plan_guests_weakest, .ref h_plan_guests_strongest, .ref h_plan_guests_nerve, .int (X4_count b_h_plan_guests)], zJ T h_plan_guests_names 10 (X4_names b_h_plan_guests), zI T h_plan_guests_from 10 (X4_from b_h_plan_guests), zI T h_plan_guests_weakest 10 (X4_weakest b_h_plan_guests), zI T h_plan_guests_strongest 10 (X4_strongest b_h_plan_guests), zI T h_plan_guests_nerve 10 (X4_nerve b_h_plan_guests)]
abbrev rm_X8_sits : Room := { frames := 1, cells := 0, slots := 0, locals := 21 }
theorem hd_X8_sits : yX8_sits.cls ≠ "java/lang/invoke/MethodHandle" ∧ yX8_sits.cls ≠ "java/lang/invoke/VarHandle" ∧ (parseMethodDescriptor yX8_sits.desc).map (fun d => d.parameters.length) = some 1 := ⟨by decide, by decide, by decide +kernel⟩
set_option maxHeartbeats 4000000 in
set_option maxRecDepth 100000 in
theorem c_X8_sits {l : Launch} {D : va_G} {T : Nat → ClassId} {sd : SdT} (h : Nat) (h_reckoner : Nat) (h_plan : Nat) (h_frontSteeped : Nat) (h_guestServed : Nat) (h_guestStormed : Nat) (h_plan_fronts : Nat) (h_plan_guests : Nat) (h_plan_orders : Nat) (h_plan_guests_names : Nat) (h_plan_guests_from : Nat) (h_plan_guests_weakest : Nat) (h_plan_guests_strongest : Nat) (h_plan_guests_nerve : Nat) (x0 : Int32) (b_h : bX8) (b_h_plan_guests : bX4) {res : Int32} (hf : f_X8_sits x0 b_h b_h_plan_guests = some res) : SxK (SFx sd) l D T yX8_sits cX8_sits 3 (some .boolean) rm_X8_sits [.ref h, .int x0] (wc_X8_sits T sd h h_reckoner h_plan h_frontSteeped h_guestServed h_guestStormed h_plan_fronts h_plan_guests h_plan_orders h_plan_guests_names h_plan_guests_from h_plan_guests_weakest h_plan_guests_strongest h_plan_guests_nerve b_h b_h_plan_guests) (vf_X8_sits sd) (wf_X8_sits T sd h h_reckoner h_plan h_frontSteeped h_guestServed h_guestStormed h_plan_fronts h_plan_guests h_plan_orders h_plan_guests_names h_plan_guests_from h_plan_guests_weakest h_plan_guests_strongest h_plan_guests_nerve b_h b_h_plan_guests) res 0 0 := by
  refine sx_start (SFx_ok sd) (by decide +kernel) (Nat.le_of_ble_eq_true rfl) (fun p e s m args below meth c A X hnm => ?_)
  have hf := ob_1 hf
  refine sx_aload_n X 0 rfl dX8_sits_0 rfl ?_
  refine sx_get X kX8 0 rfl 1 (Nat.le_of_ble_eq_true rfl) qm_268 rfl dX8_sits_1 ?_
  refine sx_get X kX7 4 rfl 1 (Nat.le_of_ble_eq_true rfl) qm_255 rfl dX8_sits_4 ?_
  refine sx_astore_n X (lv' := [(2, .ref h_plan_guests), (0, .ref h), (1, .int x0)]) dX8_sits_7 rfl (by decide) rfl ?_
  refine sx_aload_n X 0 rfl dX8_sits_8 rfl ?_
  refine sx_iload_n X 2 rfl dX8_sits_9 rfl ?_
  obtain ⟨u1, hu1, hf⟩ := ob_c hf
  refine sx_cVr X (c_X4_has (l := l) (D := D) (T := T) (sd := sd) h_plan_guests h_plan_guests_names h_plan_guests_from h_plan_guests_weakest h_plan_guests_strongest h_plan_guests_nerve x0 b_h_plan_guests hu1) (st' := [.int u1]) (q0 := 5) qm_388 qm_389 qm_390 qm_22 qm_391 hd_X4_has ⟨rfl, rfl⟩ ⟨Nat.le_of_ble_eq_true rfl, Nat.le_of_ble_eq_true rfl⟩ rfl rfl (Nat.le_of_ble_eq_true rfl) rfl rfl rfl [5, 6, 7, 8, 9, 10] rfl rfl rfl ⟨Nat.le_of_ble_eq_true rfl, Nat.le_of_ble_eq_true rfl⟩ dX8_sits_10 rfl ?_
  refine sx_if_eq X 67 dX8_sits_13 rfl (fun c2 => ?_) (fun c2 => ?_)
  · have hf := ob_t hf c2
    refine sx_iconst X (v := 0) dX8_sits_67 rfl ?_
    exact sx_iret X rfl dX8_sits_68 (ob_e hf) rfl rfl
  · have hf := ob_f hf c2
    refine sx_aload_n X 1 rfl dX8_sits_16 rfl ?_
    refine sx_get X kX8 0 rfl 11 (Nat.le_of_ble_eq_true rfl) qm_288 rfl dX8_sits_17 ?_
    refine sx_iload_n X 2 rfl dX8_sits_20 rfl ?_
    obtain ⟨g3, hf⟩ := ob_g hf
    refine sx_zald X 2 rfl g3 dX8_sits_21 ?_
    refine sx_if_ne X 67 dX8_sits_22 rfl (fun c4 => ?_) (fun c4 => ?_)
    · have hf := ob_f hf c4
      refine sx_iconst X (v := 0) dX8_sits_67 rfl ?_
      exact sx_iret X rfl dX8_sits_68 (ob_e hf) rfl rfl
    · have hf := ob_t hf c4
      refine sx_aload_n X 1 rfl dX8_sits_25 rfl ?_
      refine sx_get X kX8 0 rfl 12 (Nat.le_of_ble_eq_true rfl) qm_290 rfl dX8_sits_26 ?_
      refine sx_iload_n X 2 rfl dX8_sits_29 rfl ?_
      obtain ⟨g5, hf⟩ := ob_g hf
      refine sx_zald X 3 rfl g5 dX8_sits_30 ?_
      refine sx_if_ne X 67 dX8_sits_31 rfl (fun c6 => ?_) (fun c6 => ?_)
      · have hf := ob_f hf c6
        refine sx_iconst X (v := 0) dX8_sits_67 rfl ?_
        exact sx_iret X rfl dX8_sits_68 (ob_e hf) rfl rfl
      · have hf := ob_t hf c6
        refine sx_aload_n X 1 rfl dX8_sits_34 rfl ?_
        refine sx_get X kX8 0 rfl 2 (Nat.le_of_ble_eq_true rfl) qm_270 rfl dX8_sits_35 ?_
        refine sx_aload_n X 0 rfl dX8_sits_38 rfl ?_
        refine sx_get X kX4 5 rfl 1 (Nat.le_of_ble_eq_true rfl) qm_182 rfl dX8_sits_39 ?_
        refine sx_iload_n X 2 rfl dX8_sits_42 rfl ?_
        obtain ⟨g7, hf⟩ := ob_g hf
        refine sx_iald X 7 rfl g7 dX8_sits_43 ?_
        refine sx_icmp_lt X 67 dX8_sits_44 rfl (fun c8 => ?_) (fun c8 => ?_)
        · have hf := ob_t hf c8
          refine sx_iconst X (v := 0) dX8_sits_67 rfl ?_
          exact sx_iret X rfl dX8_sits_68 (ob_e hf) rfl rfl
        · have hf := ob_f hf c8
          refine sx_aload_n X 1 rfl dX8_sits_47 rfl ?_
          refine sx_get X kX8 0 rfl 2 (Nat.le_of_ble_eq_true rfl) qm_270 rfl dX8_sits_48 ?_
          refine sx_aload_n X 0 rfl dX8_sits_51 rfl ?_
          refine sx_get X kX4 5 rfl 1 (Nat.le_of_ble_eq_true rfl) qm_182 rfl dX8_sits_52 ?_
          refine sx_iload_n X 2 rfl dX8_sits_55 rfl ?_
          obtain ⟨g9, hf⟩ := ob_g hf
          refine sx_iald X 7 rfl g9 dX8_sits_56 ?_
          refine sx_bipush X (v := 8) dX8_sits_57 rfl ?_
          refine sx_iadd X dX8_sits_59 ?_
          refine sx_icmp_ge X 67 dX8_sits_60 rfl (fun c10 => ?_) (fun c10 => ?_)
          · have hf := ob_t hf c10
            refine sx_iconst X (v := 0) dX8_sits_67 rfl ?_
            exact sx_iret X rfl dX8_sits_68 (ob_e hf) rfl rfl
          · have hf := ob_f hf c10
            refine sx_iconst X (v := 1) dX8_sits_63 rfl ?_
            refine sx_goto X 68 dX8_sits_64 rfl ?_
            exact sx_iret X rfl dX8_sits_68 (ob_e hf) rfl rfl

abbrev vf_X8_wouldLike (sd : SdT) (r : Int32) : Option Value := some (.int r)
abbrev wc_X8_wouldLike (T : Nat → ClassId) (sd : SdT) (h : Nat) (h_reckoner : Nat) (h_plan : Nat) (h_frontSteeped : Nat) (h_guestServed : Nat) (h_guestStormed : Nat) (h_plan_fronts : Nat) (h_plan_guests : Nat) (h_plan_orders : Nat) (h_plan_guests_names : Nat) (h_plan_guests_from : Nat) (h_plan_guests_weakest : Nat) (h_plan_guests_strongest : Nat) (h_plan_guests_nerve : Nat) (b_h : bX8) (b_h_plan_guests : bX4) : va_W := [zO h 6 [.ref h_reckoner, .ref h_plan, .int (X8_hour b_h), .int (X8_warmth b_h), .int (X8_strength b_h), .int (X8_charge b_h), .int (X8_lemons b_h), .int (X8_saucers b_h), .int (X8_coins b_h), .int (X8_storms b_h), .ref h_frontSteeped, .ref h_guestServed, .ref h_guestStormed], zZ T h_frontSteeped 10 (X8_frontSteeped b_h), zZ T h_guestServed 10 (X8_guestServed b_h), zZ T h_guestStormed 10 (X8_guestStormed b_h), zO h_plan 5 [.ref h_plan_fronts, .ref h_plan_guests, .ref h_plan_orders], zO h_plan_guests 3 [.ref h_plan_guests_names, .ref h_plan_guests_from, .ref h_plan_guests_weakest, .ref h_plan_guests_strongest, .ref h_plan_guests_nerve, .int (X4_count b_h_plan_guests)], zJ T h_plan_guests_names 10 (X4_names b_h_plan_guests), zI T h_plan_guests_from 10 (X4_from b_h_plan_guests), zI T h_plan_guests_weakest 10 (X4_weakest b_h_plan_guests), zI T h_plan_guests_strongest 10 (X4_strongest b_h_plan_guests), zI T h_plan_guests_nerve 10 (X4_nerve b_h_plan_guests)]
abbrev wf_X8_wouldLike (T : Nat → ClassId) (sd : SdT) (h : Nat) (h_reckoner : Nat) (h_plan : Nat) (h_frontSteeped : Nat) (h_guestServed : Nat) (h_guestStormed : Nat) (h_plan_fronts : Nat) (h_plan_guests : Nat) (h_plan_orders : Nat) (h_plan_guests_names : Nat) (h_plan_guests_from : Nat) (h_plan_guests_weakest : Nat) (h_plan_guests_strongest : Nat) (h_plan_guests_nerve : Nat) (b_h : bX8) (b_h_plan_guests : bX4) (r : Int32) : va_W := [zO h 6 [.ref h_reckoner, .ref h_plan, .int (X8_hour b_h), .int (X8_warmth b_h), .int (X8_strength b_h), .int (X8_charge b_h), .int (X8_lemons b_h), .int (X8_saucers b_h), .int (X8_coins b_h), .int (X8_storms b_h), .ref h_frontSteeped, .ref h_guestServed, .ref h_guestStormed], zZ T h_frontSteeped 10 (X8_frontSteeped b_h), zZ T h_guestServed 10 (X8_guestServed b_h), zZ T h_guestStormed 10 (X8_guestStormed b_h), zO h_plan 5 [.ref h_plan_fronts, .ref h_plan_guests, .ref h_plan_orders], zO h_plan_guests 3 [.ref h_plan_guests_names, .ref h_plan_guests_from, .ref h_plan_guests_weakest, .ref h_plan_guests_strongest, .ref h_plan_guests_nerve, .int (X4_count b_h_plan_guests)], zJ T h_plan_guests_names 10 (X4_names b_h_plan_guests), zI T h_plan_guests_from 10 (X4_from b_h_plan_guests), zI T h_plan_guests_weakest 10 (X4_weakest b_h_plan_guests), zI T h_plan_guests_strongest 10 (X4_strongest b_h_plan_guests), zI T h_plan_guests_nerve 10 (X4_nerve b_h_plan_guests)]
abbrev rm_X8_wouldLike : Room := { frames := 2, cells := 0, slots := 0, locals := 43 }
theorem hd_X8_wouldLike : yX8_wouldLike.cls ≠ "java/lang/invoke/MethodHandle" ∧ yX8_wouldLike.cls ≠ "java/lang/invoke/VarHandle" ∧ (parseMethodDescriptor yX8_wouldLike.desc).map (fun d => d.parameters.length) = some 2 := ⟨by decide, by decide, by decide +kernel⟩
set_option maxHeartbeats 4000000 in
set_option maxRecDepth 100000 in
theorem c_X8_wouldLike {l : Launch} {D : va_G} {T : Nat → ClassId} {sd : SdT} (h : Nat) (h_reckoner : Nat) (h_plan : Nat) (h_frontSteeped : Nat) (h_guestServed : Nat) (h_guestStormed : Nat) (h_plan_fronts : Nat) (h_plan_guests : Nat) (h_plan_orders : Nat) (h_plan_guests_names : Nat) (h_plan_guests_from : Nat) (h_plan_guests_weakest : Nat) (h_plan_guests_strongest : Nat) (h_plan_guests_nerve : Nat) (x0 : Int32) (x1 : Int32) (b_h : bX8) (b_h_plan_guests : bX4) {res : Int32} (hf : f_X8_wouldLike x0 x1 b_h b_h_plan_guests = some res) : SxK (SFx sd) l D T yX8_wouldLike cX8_wouldLike 3 (some .boolean) rm_X8_wouldLike [.ref h, .int x0, .int x1] (wc_X8_wouldLike T sd h h_reckoner h_plan h_frontSteeped h_guestServed h_guestStormed h_plan_fronts h_plan_guests h_plan_orders h_plan_guests_names h_plan_guests_from h_plan_guests_weakest h_plan_guests_strongest h_plan_guests_nerve b_h b_h_plan_guests) (vf_X8_wouldLike sd) (wf_X8_wouldLike T sd h h_reckoner h_plan h_frontSteeped h_guestServed h_guestStormed h_plan_fronts h_plan_guests h_plan_orders h_plan_guests_names h_plan_guests_from h_plan_guests_weakest h_plan_guests_strongest h_plan_guests_nerve b_h b_h_plan_guests) res 0 0 := by
  refine sx_start (SFx_ok sd) (by decide +kernel) (Nat.le_of_ble_eq_true rfl) (fun p e s m args below meth c A X hnm => ?_)
  have hf := ob_1 hf
  refine sx_aload_n X 0 rfl dX8_wouldLike_0 rfl ?_
  refine sx_iload_n X 1 rfl dX8_wouldLike_1 rfl ?_
  obtain ⟨u1, hu1, hf⟩ := ob_c hf
  refine sx_cVr X (c_X8_sits (l := l) (D := D) (T := T) (sd := sd) h h_reckoner h_plan h_frontSteeped h_guestServed h_guestStormed h_plan_fronts h_plan_guests h_plan_orders h_plan_guests_names h_plan_guests_from h_plan_guests_weakest h_plan_guests_strongest h_plan_guests_nerve x0 b_h b_h_plan_guests hu1) (st' := [.int u1]) (q0 := 0) qm_516 qm_385 qm_386 qm_18 qm_387 hd_X8_sits ⟨rfl, rfl⟩ ⟨Nat.le_of_ble_eq_true rfl, Nat.le_of_ble_eq_true rfl⟩ rfl rfl (Nat.le_of_ble_eq_true rfl) rfl rfl rfl [0, 1, 2, 3, 4, 5, 6, 7, 8, 9, 10] rfl rfl rfl ⟨Nat.le_of_ble_eq_true rfl, Nat.le_of_ble_eq_true rfl⟩ dX8_wouldLike_2 rfl ?_
  refine sx_if_eq X 53 dX8_wouldLike_5 rfl (fun c2 => ?_) (fun c2 => ?_)
  · have hf := ob_t hf c2
    refine sx_iconst X (v := 0) dX8_wouldLike_53 rfl ?_
    exact sx_iret X rfl dX8_wouldLike_54 (ob_e hf) rfl rfl
  · have hf := ob_f hf c2
    refine sx_aload_n X 0 rfl dX8_wouldLike_8 rfl ?_
    refine sx_get X kX8 0 rfl 3 (Nat.le_of_ble_eq_true rfl) qm_272 rfl dX8_wouldLike_9 ?_
    refine sx_bipush X (v := 15) dX8_wouldLike_12 rfl ?_
    refine sx_icmp_lt X 53 dX8_wouldLike_14 rfl (fun c3 => ?_) (fun c3 => ?_)
    · have hf := ob_t hf c3
      refine sx_iconst X (v := 0) dX8_wouldLike_53 rfl ?_
      exact sx_iret X rfl dX8_wouldLike_54 (ob_e hf) rfl rfl
    · have hf := ob_f hf c3
      refine sx_iload_n X 2 rfl dX8_wouldLike_17 rfl ?_
      refine sx_aload_n X 0 rfl dX8_wouldLike_18 rfl ?_
      refine sx_get X kX8 0 rfl 1 (Nat.le_of_ble_eq_true rfl) qm_268 rfl dX8_wouldLike_19 ?_
      refine sx_get X kX7 4 rfl 1 (Nat.le_of_ble_eq_true rfl) qm_255 rfl dX8_wouldLike_22 ?_
      refine sx_get X kX4 5 rfl 2 (Nat.le_of_ble_eq_true rfl) qm_184 rfl dX8_wouldLike_25 ?_
      refine sx_iload_n X 1 rfl dX8_wouldLike_28 rfl ?_
      obtain ⟨g4, hf⟩ := ob_g hf
      refine sx_iald X 8 rfl g4 dX8_wouldLike_29 ?_
      refine sx_icmp_lt X 53 dX8_wouldLike_30 rfl (fun c5 => ?_) (fun c5 => ?_)
      · have hf := ob_t hf c5
        refine sx_iconst X (v := 0) dX8_wouldLike_53 rfl ?_
        exact sx_iret X rfl dX8_wouldLike_54 (ob_e hf) rfl rfl
      · have hf := ob_f hf c5
        refine sx_iload_n X 2 rfl dX8_wouldLike_33 rfl ?_
        refine sx_aload_n X 0 rfl dX8_wouldLike_34 rfl ?_
        refine sx_get X kX8 0 rfl 1 (Nat.le_of_ble_eq_true rfl) qm_268 rfl dX8_wouldLike_35 ?_
        refine sx_get X kX7 4 rfl 1 (Nat.le_of_ble_eq_true rfl) qm_255 rfl dX8_wouldLike_38 ?_
        refine sx_get X kX4 5 rfl 3 (Nat.le_of_ble_eq_true rfl) qm_186 rfl dX8_wouldLike_41 ?_
        refine sx_iload_n X 1 rfl dX8_wouldLike_44 rfl ?_
        obtain ⟨g6, hf⟩ := ob_g hf
        refine sx_iald X 9 rfl g6 dX8_wouldLike_45 ?_
        refine sx_icmp_gt X 53 dX8_wouldLike_46 rfl (fun c7 => ?_) (fun c7 => ?_)
        · have hf := ob_t hf c7
          refine sx_iconst X (v := 0) dX8_wouldLike_53 rfl ?_
          exact sx_iret X rfl dX8_wouldLike_54 (ob_e hf) rfl rfl
        · have hf := ob_f hf c7
          refine sx_iconst X (v := 1) dX8_wouldLike_49 rfl ?_
          refine sx_goto X 54 dX8_wouldLike_50 rfl ?_
          exact sx_iret X rfl dX8_wouldLike_54 (ob_e hf) rfl rfl

abbrev vf_X12_oneIf (sd : SdT) (r : Int32) : Option Value := some (.int r)
abbrev wc_X12_oneIf (T : Nat → ClassId) (sd : SdT)  : va_W := []
abbrev wf_X12_oneIf (T : Nat → ClassId) (sd : SdT)  (r : Int32) : va_W := []
abbrev rm_X12_oneIf : Room := { frames := 0, cells := 0, slots := 0, locals := 0 }
theorem hd_X12_oneIf : yX12_oneIf.cls ≠ "java/lang/invoke/MethodHandle" ∧ yX12_oneIf.cls ≠ "java/lang/invoke/VarHandle" ∧ (parseMethodDescriptor yX12_oneIf.desc).map (fun d => d.parameters.length) = some 1 := ⟨by decide, by decide, by decide +kernel⟩
set_option maxHeartbeats 4000000 in
set_option maxRecDepth 100000 in
theorem c_X12_oneIf {l : Launch} {D : va_G} {T : Nat → ClassId} {sd : SdT}  (x0 : Int32) {res : Int32} (hf : f_X12_oneIf x0 = some res) : SxK (SFx sd) l D T yX12_oneIf cX12_oneIf 1 (some .int) rm_X12_oneIf [.int x0] (wc_X12_oneIf T sd ) (vf_X12_oneIf sd) (wf_X12_oneIf T sd ) res 0 0 := by
  refine sx_start (SFx_ok sd) (by decide +kernel) (Nat.le_of_ble_eq_true rfl) (fun p e s m args below meth c A X hnm => ?_)
  have hf := ob_1 hf
  refine sx_iload_n X 0 rfl dX12_oneIf_0 rfl ?_
  refine sx_if_eq X 8 dX12_oneIf_1 rfl (fun c1 => ?_) (fun c1 => ?_)
  · have hf := ob_t hf c1
    refine sx_iconst X (v := 0) dX12_oneIf_8 rfl ?_
    exact sx_iret X rfl dX12_oneIf_9 (ob_e hf) rfl rfl
  · have hf := ob_f hf c1
    refine sx_iconst X (v := 1) dX12_oneIf_4 rfl ?_
    refine sx_goto X 9 dX12_oneIf_5 rfl ?_
    exact sx_iret X rfl dX12_oneIf_9 (ob_e hf) rfl rfl

abbrev vf_X8_contentIfSteeped (sd : SdT) (r : Int32) : Option Value := some (.int r)
abbrev wc_X8_contentIfSteeped (T : Nat → ClassId) (sd : SdT) (h : Nat) (h_reckoner : Nat) (h_plan : Nat) (h_frontSteeped : Nat) (h_guestServed : Nat) (h_guestStormed : Nat) (h_plan_fronts : Nat) (h_plan_guests : Nat) (h_plan_orders : Nat) (h_plan_fronts_names : Nat) (h_plan_fronts_warm : Nat) (h_plan_fronts_force : Nat) (h_plan_fronts_from : Nat) (h_plan_fronts_hours : Nat) (h_plan_guests_names : Nat) (h_plan_guests_from : Nat) (h_plan_guests_weakest : Nat) (h_plan_guests_strongest : Nat) (h_plan_guests_nerve : Nat) (b_h : bX8) (b_h_plan_fronts : bX2) (b_h_plan_guests : bX4) : va_W := [zO h 6 [.ref h_reckoner, .ref h_plan, .int (X8_hour b_h), .int (X8_warmth b_h), .int (X8_strength b_h), .int (X8_charge b_h), .int (X8_lemons b_h), .int (X8_saucers b_h), .int (X8_coins b_h), .int (X8_storms b_h), .ref h_frontSteeped, .ref h_guestServed, .ref h_guestStormed], zZ T h_frontSteeped 10 (X8_frontSteeped b_h), zZ T h_guestServed 10 (X8_guestServed b_h), zZ T h_guestStormed 10 (X8_guestStormed b_h), zO h_plan 5 [.ref h_plan_fronts, .ref h_plan_guests, .ref h_plan_orders], zO h_plan_fronts 2 [.ref h_plan_fronts_names, .ref h_plan_fronts_warm, .ref h_plan_fronts_force, .ref h_plan_fronts_from, .ref h_plan_fronts_hours, .int (X2_count b_h_plan_fronts)], zJ T h_plan_fronts_names 10 (X2_names b_h_plan_fronts), zZ T h_plan_fronts_warm 10 (X2_warm b_h_plan_fronts), zI T h_plan_fronts_force 10 (X2_force b_h_plan_fronts), zI T h_plan_fronts_from 10 (X2_from b_h_plan_fronts), zI T h_plan_fronts_hours 10 (X2_hours b_h_plan_fronts), zO h_plan_guests 3 [.ref h_plan_guests_names, .ref h_plan_guests_from, .ref h_plan_guests_weakest, .ref h_plan_guests_strongest, .ref h_plan_guests_nerve, .int (X4_count b_h_plan_guests)], zJ T h_plan_guests_names 10 (X4_names b_h_plan_guests), zI T h_plan_guests_from 10 (X4_from b_h_plan_guests), zI T h_plan_guests_weakest 10 (X4_weakest b_h_plan_guests), zI T h_plan_guests_strongest 10 (X4_strongest b_h_plan_guests), zI T h_plan_guests_nerve 10 (X4_nerve b_h_plan_guests)]
abbrev wf_X8_contentIfSteeped (T : Nat → ClassId) (sd : SdT) (h : Nat) (h_reckoner : Nat) (h_plan : Nat) (h_frontSteeped : Nat) (h_guestServed : Nat) (h_guestStormed : Nat) (h_plan_fronts : Nat) (h_plan_guests : Nat) (h_plan_orders : Nat) (h_plan_fronts_names : Nat) (h_plan_fronts_warm : Nat) (h_plan_fronts_force : Nat) (h_plan_fronts_from : Nat) (h_plan_fronts_hours : Nat) (h_plan_guests_names : Nat) (h_plan_guests_from : Nat) (h_plan_guests_weakest : Nat) (h_plan_guests_strongest : Nat) (h_plan_guests_nerve : Nat) (b_h : bX8) (b_h_plan_fronts : bX2) (b_h_plan_guests : bX4) (r : Int32) : va_W := [zO h 6 [.ref h_reckoner, .ref h_plan, .int (X8_hour b_h), .int (X8_warmth b_h), .int (X8_strength b_h), .int (X8_charge b_h), .int (X8_lemons b_h), .int (X8_saucers b_h), .int (X8_coins b_h), .int (X8_storms b_h), .ref h_frontSteeped, .ref h_guestServed, .ref h_guestStormed], zZ T h_frontSteeped 10 (X8_frontSteeped b_h), zZ T h_guestServed 10 (X8_guestServed b_h), zZ T h_guestStormed 10 (X8_guestStormed b_h), zO h_plan 5 [.ref h_plan_fronts, .ref h_plan_guests, .ref h_plan_orders], zO h_plan_fronts 2 [.ref h_plan_fronts_names, .ref h_plan_fronts_warm, .ref h_plan_fronts_force, .ref h_plan_fronts_from, .ref h_plan_fronts_hours, .int (X2_count b_h_plan_fronts)], zJ T h_plan_fronts_names 10 (X2_names b_h_plan_fronts), zZ T h_plan_fronts_warm 10 (X2_warm b_h_plan_fronts), zI T h_plan_fronts_force 10 (X2_force b_h_plan_fronts), zI T h_plan_fronts_from 10 (X2_from b_h_plan_fronts), zI T h_plan_fronts_hours 10 (X2_hours b_h_plan_fronts), zO h_plan_guests 3 [.ref h_plan_guests_names, .ref h_plan_guests_from, .ref h_plan_guests_weakest, .ref h_plan_guests_strongest, .ref h_plan_guests_nerve, .int (X4_count b_h_plan_guests)], zJ T h_plan_guests_names 10 (X4_names b_h_plan_guests), zI T h_plan_guests_from 10 (X4_from b_h_plan_guests), zI T h_plan_guests_weakest 10 (X4_weakest b_h_plan_guests), zI T h_plan_guests_strongest 10 (X4_strongest b_h_plan_guests), zI T h_plan_guests_nerve 10 (X4_nerve b_h_plan_guests)]
abbrev rm_X8_contentIfSteeped : Room := { frames := 3, cells := 0, slots := 0, locals := 65 }
theorem hd_X8_contentIfSteeped : yX8_contentIfSteeped.cls ≠ "java/lang/invoke/MethodHandle" ∧ yX8_contentIfSteeped.cls ≠ "java/lang/invoke/VarHandle" ∧ (parseMethodDescriptor yX8_contentIfSteeped.desc).map (fun d => d.parameters.length) = some 1 := ⟨by decide, by decide, by decide +kernel⟩
set_option maxHeartbeats 4000000 in
set_option maxRecDepth 100000 in
theorem c_X8_contentIfSteeped {l : Launch} {D : va_G} {T : Nat → ClassId} {sd : SdT} (h : Nat) (h_reckoner : Nat) (h_plan : Nat) (h_frontSteeped : Nat) (h_guestServed : Nat) (h_guestStormed : Nat) (h_plan_fronts : Nat) (h_plan_guests : Nat) (h_plan_orders : Nat) (h_plan_fronts_names : Nat) (h_plan_fronts_warm : Nat) (h_plan_fronts_force : Nat) (h_plan_fronts_from : Nat) (h_plan_fronts_hours : Nat) (h_plan_guests_names : Nat) (h_plan_guests_from : Nat) (h_plan_guests_weakest : Nat) (h_plan_guests_strongest : Nat) (h_plan_guests_nerve : Nat) (n : Nat) (x0 : Int32) (b_h : bX8) (b_h_plan_fronts : bX2) (b_h_plan_guests : bX4) {res : Int32} (hf : f_X8_contentIfSteeped n x0 b_h b_h_plan_fronts b_h_plan_guests = some res) : SxK (SFx sd) l D T yX8_contentIfSteeped cX8_contentIfSteeped 5 (some .int) rm_X8_contentIfSteeped [.ref h, .int x0] (wc_X8_contentIfSteeped T sd h h_reckoner h_plan h_frontSteeped h_guestServed h_guestStormed h_plan_fronts h_plan_guests h_plan_orders h_plan_fronts_names h_plan_fronts_warm h_plan_fronts_force h_plan_fronts_from h_plan_fronts_hours h_plan_guests_names h_plan_guests_from h_plan_guests_weakest h_plan_guests_strongest h_plan_guests_nerve b_h b_h_plan_fronts b_h_plan_guests) (vf_X8_contentIfSteeped sd) (wf_X8_contentIfSteeped T sd h h_reckoner h_plan h_frontSteeped h_guestServed h_guestStormed h_plan_fronts h_plan_guests h_plan_orders h_plan_fronts_names h_plan_fronts_warm h_plan_fronts_force h_plan_fronts_from h_plan_fronts_hours h_plan_guests_names h_plan_guests_from h_plan_guests_weakest h_plan_guests_strongest h_plan_guests_nerve b_h b_h_plan_fronts b_h_plan_guests) res 0 0 := by
  refine sx_start (SFx_ok sd) (by decide +kernel) (Nat.le_of_ble_eq_true rfl) (fun p e s m args below meth c A X hnm => ?_)
  have hf := ob_1 hf
  have L11 : ∀ (v2 : Int32) (n0 : Nat) (v3 : Int32) (v4 : Int32), (iter (fun s : Int32 × Int32 => f_X8_contentIfSteeped_L11 n x0 b_h b_h_plan_fronts b_h_plan_guests v2 s.1 s.2) n0 (v3, v4)).bind some = some res → SxG p l e rm_X8_contentIfSteeped s m args below meth c D A 5 0 0 (SxE below args s D A (vf_X8_contentIfSteeped sd) (wf_X8_contentIfSteeped T sd h h_reckoner h_plan h_frontSteeped h_guestServed h_guestStormed h_plan_fronts h_plan_guests h_plan_orders h_plan_fronts_names h_plan_fronts_warm h_plan_fronts_force h_plan_fronts_from h_plan_fronts_hours h_plan_guests_names h_plan_guests_from h_plan_guests_weakest h_plan_guests_strongest h_plan_guests_nerve b_h b_h_plan_fronts b_h_plan_guests) res 0 0) [zO h 6 [.ref h_reckoner, .ref h_plan, .int (X8_hour b_h), .int (X8_warmth b_h), .int (X8_strength b_h), .int (X8_charge b_h), .int (X8_lemons b_h), .int (X8_saucers b_h), .int (X8_coins b_h), .int (X8_storms b_h), .ref h_frontSteeped, .ref h_guestServed, .ref h_guestStormed], zZ T h_frontSteeped 10 (X8_frontSteeped b_h), zZ T h_guestServed 10 (X8_guestServed b_h), zZ T h_guestStormed 10 (X8_guestStormed b_h), zO h_plan 5 [.ref h_plan_fronts, .ref h_plan_guests, .ref h_plan_orders], zO h_plan_fronts 2 [.ref h_plan_fronts_names, .ref h_plan_fronts_warm, .ref h_plan_fronts_force, .ref h_plan_fronts_from, .ref h_plan_fronts_hours, .int (X2_count b_h_plan_fronts)], zJ T h_plan_fronts_names 10 (X2_names b_h_plan_fronts), zZ T h_plan_fronts_warm 10 (X2_warm b_h_plan_fronts), zI T h_plan_fronts_force 10 (X2_force b_h_plan_fronts), zI T h_plan_fronts_from 10 (X2_from b_h_plan_fronts), zI T h_plan_fronts_hours 10 (X2_hours b_h_plan_fronts), zO h_plan_guests 3 [.ref h_plan_guests_names, .ref h_plan_guests_from, .ref h_plan_guests_weakest, .ref h_plan_guests_strongest, .ref h_plan_guests_nerve, .int (X4_count b_h_plan_guests)], zJ T h_plan_guests_names 10 (X4_names b_h_plan_guests), zI T h_plan_guests_from 10 (X4_from b_h_plan_guests), zI T h_plan_guests_weakest 10 (X4_weakest b_h_plan_guests), zI T h_plan_guests_strongest 10 (X4_strongest b_h_plan_guests), zI T h_plan_guests_nerve 10 (X4_nerve b_h_plan_guests)] [(0, .ref h), (2, .int v2), (3, .int v3), (4, .int v4)] 11 [] := by
    intro v2 n0
    induction n0 with
    | zero =>
      intro v3 v4 hf
      exact (iter_z hf).elim
    | succ n0 ih11 =>
      intro v3 v4 hf
      obtain ⟨κ11, hκ11, hf⟩ := iter_k hf
      have hf : (f_X8_contentIfSteeped_L11 n x0 b_h b_h_plan_fronts b_h_plan_guests v2 v3 v4).bind κ11 = some res := hf
      refine sx_iload X 3 rfl dX8_contentIfSteeped_11 ?_
      refine sx_aload_n X 0 rfl dX8_contentIfSteeped_13 rfl ?_
      refine sx_get X kX8 0 rfl 1 (Nat.le_of_ble_eq_true rfl) qm_268 rfl dX8_contentIfSteeped_14 ?_
      refine sx_get X kX7 4 rfl 1 (Nat.le_of_ble_eq_true rfl) qm_255 rfl dX8_contentIfSteeped_17 ?_
      refine sx_get X kX4 11 rfl 5 (Nat.le_of_ble_eq_true rfl) qm_192 rfl dX8_contentIfSteeped_20 ?_
      refine sx_icmp_ge X 45 dX8_contentIfSteeped_23 rfl (fun c2 => ?_) (fun c2 => ?_)
      · have hf := ob_t hf c2
        refine sx_iload_n X 2 rfl dX8_contentIfSteeped_45 rfl ?_
        have hf := ob_kr hκ11 hf
        exact sx_iret X rfl dX8_contentIfSteeped_46 (ob_e hf) rfl rfl
      · have hf := ob_f hf c2
        refine sx_iload_n X 2 rfl dX8_contentIfSteeped_26 rfl ?_
        refine sx_aload_n X 0 rfl dX8_contentIfSteeped_27 rfl ?_
        refine sx_iload X 3 rfl dX8_contentIfSteeped_28 ?_
        refine sx_iload_n X 1 rfl dX8_contentIfSteeped_30 rfl ?_
        obtain ⟨u3, hu3, hf⟩ := ob_c hf
        refine sx_cVr X (c_X8_wouldLike (l := l) (D := D) (T := T) (sd := sd) h h_reckoner h_plan h_frontSteeped h_guestServed h_guestStormed h_plan_fronts h_plan_guests h_plan_orders h_plan_guests_names h_plan_guests_from h_plan_guests_weakest h_plan_guests_strongest h_plan_guests_nerve v4 v2 b_h b_h_plan_guests hu3) (st' := [.int u3, .int v3]) (q0 := 0) qm_580 qm_513 qm_514 qm_18 qm_515 hd_X8_wouldLike ⟨rfl, rfl⟩ ⟨Nat.le_of_ble_eq_true rfl, Nat.le_of_ble_eq_true rfl⟩ rfl rfl (Nat.le_of_ble_eq_true rfl) rfl rfl rfl [0, 1, 2, 3, 4, 11, 12, 13, 14, 15, 16] rfl rfl rfl ⟨Nat.le_of_ble_eq_true rfl, Nat.le_of_ble_eq_true rfl⟩ dX8_contentIfSteeped_31 rfl ?_
        obtain ⟨u4, hu4, hf⟩ := ob_c hf
        refine sx_cNr X (c_X12_oneIf (l := l) (D := D) (T := T) (sd := sd) u3 hu4) (st' := [.int u4, .int v3]) (X.sf.2.2.1.2.1 _ (List.mem_of_getElem? (i := 0) rfl)) qm_393 qm_13 qm_394 hd_X12_oneIf ⟨rfl, rfl⟩ ⟨Nat.le_of_ble_eq_true rfl, Nat.le_of_ble_eq_true rfl⟩ rfl rfl (Nat.le_of_ble_eq_true rfl) [] rfl rfl rfl ⟨Nat.le_of_ble_eq_true rfl, Nat.le_of_ble_eq_true rfl⟩ dX8_contentIfSteeped_34 rfl ?_
        refine sx_iadd X dX8_contentIfSteeped_37 ?_
        refine sx_istore_n X (lv' := [(3, .int (v3 + u4)), (0, .ref h), (2, .int v2), (4, .int v4)]) dX8_contentIfSteeped_38 rfl (by decide) rfl ?_
        refine sx_iinc X (v := (v4 + 1)) (lv' := [(4, .int (v4 + 1)), (3, .int (v3 + u4)), (0, .ref h), (2, .int v2)]) 3 rfl dX8_contentIfSteeped_39 rfl (by decide) rfl ?_
        refine sx_goto X 11 dX8_contentIfSteeped_42 rfl ?_
        have hf := ob_k hκ11 hf
        refine sx_lsub [2, 3, 1, 0] rfl ?_
        exact ih11 (v3 + u4) (v4 + 1) hf
  refine sx_aload_n X 0 rfl dX8_contentIfSteeped_0 rfl ?_
  refine sx_iload_n X 1 rfl dX8_contentIfSteeped_1 rfl ?_
  obtain ⟨u1, hu1, hf⟩ := ob_c hf
  refine sx_cVr X (c_X8_strengthWith (l := l) (D := D) (T := T) (sd := sd) h h_reckoner h_plan h_frontSteeped h_guestServed h_guestStormed h_plan_fronts h_plan_guests h_plan_orders h_plan_fronts_names h_plan_fronts_warm h_plan_fronts_force h_plan_fronts_from h_plan_fronts_hours x0 b_h b_h_plan_fronts hu1) (st' := [.int u1]) (q0 := 0) qm_607 qm_609 qm_8 qm_18 qm_610 hd_X8_strengthWith ⟨rfl, rfl⟩ ⟨Nat.le_of_ble_eq_true rfl, Nat.le_of_ble_eq_true rfl⟩ rfl rfl (Nat.le_of_ble_eq_true rfl) rfl rfl rfl [0, 1, 2, 3, 4, 5, 6, 7, 8, 9, 10] rfl rfl rfl ⟨Nat.le_of_ble_eq_true rfl, Nat.le_of_ble_eq_true rfl⟩ dX8_contentIfSteeped_2 rfl ?_
  refine sx_istore_n X (lv' := [(2, .int u1), (0, .ref h), (1, .int x0)]) dX8_contentIfSteeped_5 rfl (by decide) rfl ?_
  refine sx_iconst X (v := 0) dX8_contentIfSteeped_6 rfl ?_
  refine sx_istore_n X (lv' := [(3, .int 0), (2, .int u1), (0, .ref h), (1, .int x0)]) dX8_contentIfSteeped_7 rfl (by decide) rfl ?_
  refine sx_iconst X (v := 0) dX8_contentIfSteeped_8 rfl ?_
  refine sx_istore X (lv' := [(4, .int 0), (3, .int 0), (2, .int u1), (0, .ref h), (1, .int x0)]) dX8_contentIfSteeped_9 (by decide) rfl ?_
  refine sx_lsub [3, 2, 1, 0] rfl ?_
  exact L11 u1 n 0 0 hf
