/-! contracts, part 33 -/
abbrev vf_X14_no (sd : SdT) (r : Int32 × Int32) : Option Value := some (.int r.1)
abbrev wc_X14_no (T : Nat → ClassId) (sd : SdT) (h : Nat) (h_tape : Nat) (h_kind : Nat) (h_number : Nat) (h_position : Nat) (h_length : Nat) (h_frontName : Nat) (h_guestName : Nat) (h_told : Nat) (h_fresh : Nat) (h_value : Nat) (h_now : Nat) (h_kept : Nat) (b_h : bX14) : va_W := [zO h 10 [.int (X14_thrown b_h), .ref h_tape, .int (X14_bytes b_h), .int (X14_errorAt b_h), .ref h_kind, .ref h_number, .ref h_position, .ref h_length, .int (X14_token b_h), .int (X14_isWrong b_h), .int (X14_error b_h), .int (X14_errorToken b_h), .int (X14_deep b_h), .ref h_frontName, .ref h_guestName, .ref h_told, .ref h_fresh, .ref h_value, .ref h_now, .ref h_kept], zI T h_tape 2000 (X14_tape b_h), zI T h_kind 402 (X14_kind b_h), zI T h_number 402 (X14_number b_h), zI T h_position 402 (X14_position b_h), zI T h_length 402 (X14_length b_h), zI T h_frontName 10 (X14_frontName b_h), zI T h_guestName 10 (X14_guestName b_h), zI T h_value 800 (X14_value b_h), zI T h_now 58 (X14_now b_h), zI T h_kept 58 (X14_kept b_h)]
abbrev wf_X14_no (T : Nat → ClassId) (sd : SdT) (h : Nat) (h_tape : Nat) (h_kind : Nat) (h_number : Nat) (h_position : Nat) (h_length : Nat) (h_frontName : Nat) (h_guestName : Nat) (h_told : Nat) (h_fresh : Nat) (h_value : Nat) (h_now : Nat) (h_kept : Nat) (b_h : bX14) (r : Int32 × Int32) : va_W := [zO h 10 [.int r.2, .ref h_tape, .int (X14_bytes b_h), .int (X14_errorAt b_h), .ref h_kind, .ref h_number, .ref h_position, .ref h_length, .int (X14_token b_h), .int (X14_isWrong b_h), .int (X14_error b_h), .int (X14_errorToken b_h), .int (X14_deep b_h), .ref h_frontName, .ref h_guestName, .ref h_told, .ref h_fresh, .ref h_value, .ref h_now, .ref h_kept], zI T h_tape 2000 (X14_tape b_h), zI T h_kind 402 (X14_kind b_h), zI T h_number 402 (X14_number b_h), zI T h_position 402 (X14_position b_h), zI T h_length 402 (X14_length b_h), zI T h_frontName 10 (X14_frontName b_h), zI T h_guestName 10 (X14_guestName b_h), zI T h_value 800 (X14_value b_h), zI T h_now 58 (X14_now b_h), zI T h_kept 58 (X14_kept b_h)]
abbrev rm_X14_no : Room := { frames := 0, cells := 0, slots := 0, locals := 0 }
theorem hd_X14_no : yX14_no.cls ≠ "java/lang/invoke/MethodHandle" ∧ yX14_no.cls ≠ "java/lang/invoke/VarHandle" ∧ (parseMethodDescriptor yX14_no.desc).map (fun d => d.parameters.length) = some 1 := ⟨by decide, by decide, by decide +kernel⟩
set_option maxHeartbeats 4000000 in
set_option maxRecDepth 100000 in
theorem c_X14_no {l : Launch} {D : va_G} {T : Nat → ClassId} {sd : SdT} (h : Nat) (h_tape : Nat) (h_kind : Nat) (h_number : Nat) (h_position : Nat) (h_length : Nat) (h_frontName : Nat) (h_guestName : Nat) (h_told : Nat) (h_fresh : Nat) (h_value : Nat) (h_now : Nat) (h_kept : Nat) (x0 : Int32) (b_h : bX14) {res : Int32 × Int32} (hf : f_X14_no x0 b_h = some res) : SxK (SFx sd) l D T yX14_no cX14_no 2 (some .int) rm_X14_no [.ref h, .int x0] (wc_X14_no T sd h h_tape h_kind h_number h_position h_length h_frontName h_guestName h_told h_fresh h_value h_now h_kept b_h) (vf_X14_no sd) (wf_X14_no T sd h h_tape h_kind h_number h_position h_length h_frontName h_guestName h_told h_fresh h_value h_now h_kept b_h) res 0 0 := by
  refine sx_start (SFx_ok sd) (by decide +kernel) (Nat.le_of_ble_eq_true rfl) (fun p e s m args below meth c A X hnm => ?_)
  have hf := ob_1 hf
  refine sx_aload_n X 0 rfl dX14_no_0 rfl ?_
  refine sx_iload_n X 1 rfl dX14_no_1 rfl ?_
  refine sx_put X (ws' := [zO h 10 [.int x0, .ref h_tape, .int (X14_bytes b_h), .int (X14_errorAt b_h), .ref h_kind, .ref h_number, .ref h_position, .ref h_length, .int (X14_token b_h), .int (X14_isWrong b_h), .int (X14_error b_h), .int (X14_errorToken b_h), .int (X14_deep b_h), .ref h_frontName, .ref h_guestName, .ref h_told, .ref h_fresh, .ref h_value, .ref h_now, .ref h_kept], zI T h_tape 2000 (X14_tape b_h), zI T h_kind 402 (X14_kind b_h), zI T h_number 402 (X14_number b_h), zI T h_position 402 (X14_position b_h), zI T h_length 402 (X14_length b_h), zI T h_frontName 10 (X14_frontName b_h), zI T h_guestName 10 (X14_guestName b_h), zI T h_value 800 (X14_value b_h), zI T h_now 58 (X14_now b_h), zI T h_kept 58 (X14_kept b_h)]) kX14 0 rfl 0 (Nat.le_of_ble_eq_true rfl) qm_1268 rfl rfl rfl (Nat.le_of_ble_eq_true rfl) rfl dX14_no_2 ?_
  refine sx_iconst X (v := 0) dX14_no_5 rfl ?_
  exact sx_iret X rfl dX14_no_6 (ob_e hf) rfl rfl

abbrev vf_X14_keep (sd : SdT) (_r : (Nat → Int32)) : Option Value := none
abbrev wc_X14_keep (T : Nat → ClassId) (sd : SdT) (h : Nat) (h_tape : Nat) (h_kind : Nat) (h_number : Nat) (h_position : Nat) (h_length : Nat) (h_frontName : Nat) (h_guestName : Nat) (h_told : Nat) (h_fresh : Nat) (h_value : Nat) (h_now : Nat) (h_kept : Nat) (b_h : bX14) : va_W := [zO h 10 [.int (X14_thrown b_h), .ref h_tape, .int (X14_bytes b_h), .int (X14_errorAt b_h), .ref h_kind, .ref h_number, .ref h_position, .ref h_length, .int (X14_token b_h), .int (X14_isWrong b_h), .int (X14_error b_h), .int (X14_errorToken b_h), .int (X14_deep b_h), .ref h_frontName, .ref h_guestName, .ref h_told, .ref h_fresh, .ref h_value, .ref h_now, .ref h_kept], zI T h_tape 2000 (X14_tape b_h), zI T h_kind 402 (X14_kind b_h), zI T h_number 402 (X14_number b_h), zI T h_position 402 (X14_position b_h), zI T h_length 402 (X14_length b_h), zI T h_frontName 10 (X14_frontName b_h), zI T h_guestName 10 (X14_guestName b_h), zI T h_value 800 (X14_value b_h), zI T h_now 58 (X14_now b_h), zI T h_kept 58 (X14_kept b_h)]
abbrev wf_X14_keep (T : Nat → ClassId) (sd : SdT) (h : Nat) (h_tape : Nat) (h_kind : Nat) (h_number : Nat) (h_position : Nat) (h_length : Nat) (h_frontName : Nat) (h_guestName : Nat) (h_told : Nat) (h_fresh : Nat) (h_value : Nat) (h_now : Nat) (h_kept : Nat) (b_h : bX14) (r : (Nat → Int32)) : va_W := [zO h 10 [.int (X14_thrown b_h), .ref h_tape, .int (X14_bytes b_h), .int (X14_errorAt b_h), .ref h_kind, .ref h_number, .ref h_position, .ref h_length, .int (X14_token b_h), .int (X14_isWrong b_h), .int (X14_error b_h), .int (X14_errorToken b_h), .int (X14_deep b_h), .ref h_frontName, .ref h_guestName, .ref h_told, .ref h_fresh, .ref h_value, .ref h_now, .ref h_kept], zI T h_tape 2000 (X14_tape b_h), zI T h_kind 402 (X14_kind b_h), zI T h_number 402 (X14_number b_h), zI T h_position 402 (X14_position b_h), zI T h_length 402 (X14_length b_h), zI T h_frontName 10 (X14_frontName b_h), zI T h_guestName 10 (X14_guestName b_h), zI T h_value 800 (X14_value b_h), zI T h_now 58 (X14_now b_h), zI T h_kept 58 r]
abbrev rm_X14_keep : Room := { frames := 1, cells := 0, slots := 0, locals := 40 }
theorem hd_X14_keep : yX14_keep.cls ≠ "java/lang/invoke/MethodHandle" ∧ yX14_keep.cls ≠ "java/lang/invoke/VarHandle" ∧ (parseMethodDescriptor yX14_keep.desc).map (fun d => d.parameters.length) = some 0 := ⟨by decide, by decide, by decide +kernel⟩
set_option maxHeartbeats 4000000 in
set_option maxRecDepth 100000 in
theorem c_X14_keep {l : Launch} {D : va_G} {T : Nat → ClassId} {sd : SdT} (h : Nat) (h_tape : Nat) (h_kind : Nat) (h_number : Nat) (h_position : Nat) (h_length : Nat) (h_frontName : Nat) (h_guestName : Nat) (h_told : Nat) (h_fresh : Nat) (h_value : Nat) (h_now : Nat) (h_kept : Nat) (b_h : bX14) {res : (Nat → Int32)} (hf : f_X14_keep b_h = some res) : SxK (SFx sd) l D T yX14_keep cX14_keep 1 none rm_X14_keep [.ref h] (wc_X14_keep T sd h h_tape h_kind h_number h_position h_length h_frontName h_guestName h_told h_fresh h_value h_now h_kept b_h) (vf_X14_keep sd) (wf_X14_keep T sd h h_tape h_kind h_number h_position h_length h_frontName h_guestName h_told h_fresh h_value h_now h_kept b_h) res 0 0 := by
  refine sx_start (SFx_ok sd) (by decide +kernel) (Nat.le_of_ble_eq_true rfl) (fun p e s m args below meth c A X hnm => ?_)
  have hf := ob_1 hf
  refine sx_aload_n X 0 rfl dX14_keep_0 rfl ?_
  refine sx_get X kX14 0 rfl 18 (Nat.le_of_ble_eq_true rfl) qm_1286 rfl dX14_keep_1 ?_
  refine sx_iconst X (v := 0) dX14_keep_4 rfl ?_
  refine sx_aload_n X 0 rfl dX14_keep_5 rfl ?_
  refine sx_get X kX14 0 rfl 19 (Nat.le_of_ble_eq_true rfl) qm_1287 rfl dX14_keep_6 ?_
  refine sx_iconst X (v := 0) dX14_keep_9 rfl ?_
  refine sx_bipush X (v := 58) dX14_keep_10 rfl ?_
  obtain ⟨g1, hf⟩ := ob_h hf
  refine sx_copy X (ws' := [zO h 10 [.int (X14_thrown b_h), .ref h_tape, .int (X14_bytes b_h), .int (X14_errorAt b_h), .ref h_kind, .ref h_number, .ref h_position, .ref h_length, .int (X14_token b_h), .int (X14_isWrong b_h), .int (X14_error b_h), .int (X14_errorToken b_h), .int (X14_deep b_h), .ref h_frontName, .ref h_guestName, .ref h_told, .ref h_fresh, .ref h_value, .ref h_now, .ref h_kept], zI T h_tape 2000 (X14_tape b_h), zI T h_kind 402 (X14_kind b_h), zI T h_number 402 (X14_number b_h), zI T h_position 402 (X14_position b_h), zI T h_length 402 (X14_length b_h), zI T h_frontName 10 (X14_frontName b_h), zI T h_guestName 10 (X14_guestName b_h), zI T h_value 800 (X14_value b_h), zI T h_now 58 (X14_now b_h), zI T h_kept 58 (va_cpy (X14_now b_h) (X14_kept b_h) 0 0 (58 : Int32).toNatClampNeg)]) 9 10 rfl rfl g1 qm_1700 qm_1512 qm_1511 qm_94 (Nat.le_of_ble_eq_true rfl) (Nat.le_of_ble_eq_true rfl) rfl dX14_keep_12 ?_
  exact sx_vret X dX14_keep_15 (ob_e hf) rfl rfl

abbrev vf_X14_held (sd : SdT) (r : Int32) : Option Value := some (.int r)
abbrev wc_X14_held (T : Nat → ClassId) (sd : SdT)  : va_W := []
abbrev wf_X14_held (T : Nat → ClassId) (sd : SdT)  (r : Int32) : va_W := []
abbrev rm_X14_held : Room := { frames := 1, cells := 0, slots := 0, locals := 21 }
theorem hd_X14_held : yX14_held.cls ≠ "java/lang/invoke/MethodHandle" ∧ yX14_held.cls ≠ "java/lang/invoke/VarHandle" ∧ (parseMethodDescriptor yX14_held.desc).map (fun d => d.parameters.length) = some 2 := ⟨by decide, by decide, by decide +kernel⟩
set_option maxHeartbeats 4000000 in
set_option maxRecDepth 100000 in
theorem c_X14_held {l : Launch} {D : va_G} {T : Nat → ClassId} {sd : SdT}  (x0 : Int32) (x1 : Int32) {res : Int32} (hf : f_X14_held x0 x1 = some res) : SxK (SFx sd) l D T yX14_held cX14_held 2 (some .int) rm_X14_held [.int x0, .int x1] (wc_X14_held T sd ) (vf_X14_held sd) (wf_X14_held T sd ) res 0 0 := by
  refine sx_start (SFx_ok sd) (by decide +kernel) (Nat.le_of_ble_eq_true rfl) (fun p e s m args below meth c A X hnm => ?_)
  have hf := ob_1 hf
  refine sx_iconst X (v := 0) dX14_held_0 rfl ?_
  refine sx_iload_n X 1 rfl dX14_held_1 rfl ?_
  refine sx_iload_n X 0 rfl dX14_held_2 rfl ?_
  refine sx_min X qm_1409 qm_835 qm_93 qm_836 (Nat.le_of_ble_eq_true rfl) (Nat.le_of_ble_eq_true rfl) (Nat.zero_le _) (Nat.zero_le _) dX14_held_3 ?_
  refine sx_max X qm_1454 qm_838 qm_93 qm_839 (Nat.le_of_ble_eq_true rfl) (Nat.le_of_ble_eq_true rfl) (Nat.zero_le _) (Nat.zero_le _) dX14_held_6 ?_
  exact sx_iret X rfl dX14_held_9 (ob_e hf) rfl rfl

abbrev vf_X14_weather (sd : SdT) (_r : (Nat → Int32)) : Option Value := none
abbrev wc_X14_weather (T : Nat → ClassId) (sd : SdT) (h : Nat) (h_tape : Nat) (h_kind : Nat) (h_number : Nat) (h_position : Nat) (h_length : Nat) (h_frontName : Nat) (h_guestName : Nat) (h_told : Nat) (h_fresh : Nat) (h_value : Nat) (h_now : Nat) (h_kept : Nat) (h_told_warm : Nat) (h_told_force : Nat) (h_told_comes : Nat) (h_told_stays : Nat) (h_told_sits : Nat) (h_told_low : Nat) (h_told_high : Nat) (h_told_nerve : Nat) (h_told_does : Nat) (h_told_whom : Nat) (h_told_from : Nat) (h_told_to : Nat) (h_told_test : Nat) (h_told_sort : Nat) (h_told_left : Nat) (h_told_right : Nat) (b_h : bX14) (b_h_told : bX13) : va_W := [zO h 10 [.int (X14_thrown b_h), .ref h_tape, .int (X14_bytes b_h), .int (X14_errorAt b_h), .ref h_kind, .ref h_number, .ref h_position, .ref h_length, .int (X14_token b_h), .int (X14_isWrong b_h), .int (X14_error b_h), .int (X14_errorToken b_h), .int (X14_deep b_h), .ref h_frontName, .ref h_guestName, .ref h_told, .ref h_fresh, .ref h_value, .ref h_now, .ref h_kept], zI T h_tape 2000 (X14_tape b_h), zI T h_kind 402 (X14_kind b_h), zI T h_number 402 (X14_number b_h), zI T h_position 402 (X14_position b_h), zI T h_length 402 (X14_length b_h), zI T h_frontName 10 (X14_frontName b_h), zI T h_guestName 10 (X14_guestName b_h), zI T h_value 800 (X14_value b_h), zI T h_now 58 (X14_now b_h), zI T h_kept 58 (X14_kept b_h), zO h_told 9 [.int (X13_fronts b_h_told), .ref h_told_warm, .ref h_told_force, .ref h_told_comes, .ref h_told_stays, .int (X13_guests b_h_told), .ref h_told_sits, .ref h_told_low, .ref h_told_high, .ref h_told_nerve, .int (X13_orders b_h_told), .ref h_told_does, .ref h_told_whom, .ref h_told_from, .ref h_told_to, .ref h_told_test, .int (X13_nodes b_h_told), .ref h_told_sort, .ref h_told_left, .ref h_told_right], zI T h_told_warm 11 (X13_warm b_h_told), zI T h_told_force 11 (X13_force b_h_told), zI T h_told_comes 11 (X13_comes b_h_told), zI T h_told_stays 11 (X13_stays b_h_told), zI T h_told_sits 11 (X13_sits b_h_told), zI T h_told_low 11 (X13_low b_h_told), zI T h_told_high 11 (X13_high b_h_told), zI T h_told_nerve 11 (X13_nerve b_h_told), zI T h_told_does 17 (X13_does b_h_told), zI T h_told_whom 17 (X13_whom b_h_told), zI T h_told_from 17 (X13_from b_h_told), zI T h_told_to 17 (X13_to b_h_told), zI T h_told_test 17 (X13_test b_h_told), zI T h_told_sort 800 (X13_sort b_h_told), zI T h_told_left 800 (X13_left b_h_told), zI T h_told_right 800 (X13_right b_h_told)]
abbrev wf_X14_weather (T : Nat → ClassId) (sd : SdT) (h : Nat) (h_tape : Nat) (h_kind : Nat) (h_number : Nat) (h_position : Nat) (h_length : Nat) (h_frontName : Nat) (h_guestName : Nat) (h_told : Nat) (h_fresh : Nat) (h_value : Nat) (h_now : Nat) (h_kept : Nat) (h_told_warm : Nat) (h_told_force : Nat) (h_told_comes : Nat) (h_told_stays : Nat) (h_told_sits : Nat) (h_told_low : Nat) (h_told_high : Nat) (h_told_nerve : Nat) (h_told_does : Nat) (h_told_whom : Nat) (h_told_from : Nat) (h_told_to : Nat) (h_told_test : Nat) (h_told_sort : Nat) (h_told_left : Nat) (h_told_right : Nat) (b_h : bX14) (b_h_told : bX13) (r : (Nat → Int32)) : va_W := [zO h 10 [.int (X14_thrown b_h), .ref h_tape, .int (X14_bytes b_h), .int (X14_errorAt b_h), .ref h_kind, .ref h_number, .ref h_position, .ref h_length, .int (X14_token b_h), .int (X14_isWrong b_h), .int (X14_error b_h), .int (X14_errorToken b_h), .int (X14_deep b_h), .ref h_frontName, .ref h_guestName, .ref h_told, .ref h_fresh, .ref h_value, .ref h_now, .ref h_kept], zI T h_tape 2000 (X14_tape b_h), zI T h_kind 402 (X14_kind b_h), zI T h_number 402 (X14_number b_h), zI T h_position 402 (X14_position b_h), zI T h_length 402 (X14_length b_h), zI T h_frontName 10 (X14_frontName b_h), zI T h_guestName 10 (X14_guestName b_h), zI T h_value 800 (X14_value b_h), zI T h_now 58 r, zI T h_kept 58 (X14_kept b_h), zO h_told 9 [.int (X13_fronts b_h_told), .ref h_told_warm, .ref h_told_force, .ref h_told_comes, .ref h_told_stays, .int (X13_guests b_h_told), .ref h_told_sits, .ref h_told_low, .ref h_told_high, .ref h_told_nerve, .int (X13_orders b_h_told), .ref h_told_does, .ref h_told_whom, .ref h_told_from, .ref h_told_to, .ref h_told_test, .int (X13_nodes b_h_told), .ref h_told_sort, .ref h_told_left, .ref h_told_right], zI T h_told_warm 11 (X13_warm b_h_told), zI T h_told_force 11 (X13_force b_h_told), zI T h_told_comes 11 (X13_comes b_h_told), zI T h_told_stays 11 (X13_stays b_h_told), zI T h_told_sits 11 (X13_sits b_h_told), zI T h_told_low 11 (X13_low b_h_told), zI T h_told_high 11 (X13_high b_h_told), zI T h_told_nerve 11 (X13_nerve b_h_told), zI T h_told_does 17 (X13_does b_h_told), zI T h_told_whom 17 (X13_whom b_h_told), zI T h_told_from 17 (X13_from b_h_told), zI T h_told_to 17 (X13_to b_h_told), zI T h_told_test 17 (X13_test b_h_told), zI T h_told_sort 800 (X13_sort b_h_told), zI T h_told_left 800 (X13_left b_h_told), zI T h_told_right 800 (X13_right b_h_told)]
abbrev rm_X14_weather : Room := { frames := 2, cells := 0, slots := 0, locals := 42 }
theorem hd_X14_weather : yX14_weather.cls ≠ "java/lang/invoke/MethodHandle" ∧ yX14_weather.cls ≠ "java/lang/invoke/VarHandle" ∧ (parseMethodDescriptor yX14_weather.desc).map (fun d => d.parameters.length) = some 0 := ⟨by decide, by decide, by decide +kernel⟩
set_option maxHeartbeats 4000000 in
set_option maxRecDepth 100000 in
theorem c_X14_weather {l : Launch} {D : va_G} {T : Nat → ClassId} {sd : SdT} (h : Nat) (h_tape : Nat) (h_kind : Nat) (h_number : Nat) (h_position : Nat) (h_length : Nat) (h_frontName : Nat) (h_guestName : Nat) (h_told : Nat) (h_fresh : Nat) (h_value : Nat) (h_now : Nat) (h_kept : Nat) (h_told_warm : Nat) (h_told_force : Nat) (h_told_comes : Nat) (h_told_stays : Nat) (h_told_sits : Nat) (h_told_low : Nat) (h_told_high : Nat) (h_told_nerve : Nat) (h_told_does : Nat) (h_told_whom : Nat) (h_told_from : Nat) (h_told_to : Nat) (h_told_test : Nat) (h_told_sort : Nat) (h_told_left : Nat) (h_told_right : Nat) (n : Nat) (b_h : bX14) (b_h_told : bX13) {res : (Nat → Int32)} (hf : f_X14_weather n b_h b_h_told = some res) : SxK (SFx sd) l D T yX14_weather cX14_weather 5 none rm_X14_weather [.ref h] (wc_X14_weather T sd h h_tape h_kind h_number h_position h_length h_frontName h_guestName h_told h_fresh h_value h_now h_kept h_told_warm h_told_force h_told_comes h_told_stays h_told_sits h_told_low h_told_high h_told_nerve h_told_does h_told_whom h_told_from h_told_to h_told_test h_told_sort h_told_left h_told_right b_h b_h_told) (vf_X14_weather sd) (wf_X14_weather T sd h h_tape h_kind h_number h_position h_length h_frontName h_guestName h_told h_fresh h_value h_now h_kept h_told_warm h_told_force h_told_comes h_told_stays h_told_sits h_told_low h_told_high h_told_nerve h_told_does h_told_whom h_told_from h_told_to h_told_test h_told_sort h_told_left h_told_right b_h b_h_told) res 0 0 := by
  refine sx_start (SFx_ok sd) (by decide +kernel) (Nat.le_of_ble_eq_true rfl) (fun p e s m args below meth c A X hnm => ?_)
  have hf := ob_1 hf
  have R152 : ∀ (v1 : Int32) (v2 : Int32) (w_h_now : Nat → Int32) (t0 : Int32) (t1 : Int32), (f_X14_weather_R152 n b_h b_h_told v1 v2 w_h_now t0 t1).bind some = some res → SxG p l e rm_X14_weather s m args below meth c D A 5 0 0 (SxE below args s D A (vf_X14_weather sd) (wf_X14_weather T sd h h_tape h_kind h_number h_position h_length h_frontName h_guestName h_told h_fresh h_value h_now h_kept h_told_warm h_told_force h_told_comes h_told_stays h_told_sits h_told_low h_told_high h_told_nerve h_told_does h_told_whom h_told_from h_told_to h_told_test h_told_sort h_told_left h_told_right b_h b_h_told) res 0 0) [zO h 10 [.int (X14_thrown b_h), .ref h_tape, .int (X14_bytes b_h), .int (X14_errorAt b_h), .ref h_kind, .ref h_number, .ref h_position, .ref h_length, .int (X14_token b_h), .int (X14_isWrong b_h), .int (X14_error b_h), .int (X14_errorToken b_h), .int (X14_deep b_h), .ref h_frontName, .ref h_guestName, .ref h_told, .ref h_fresh, .ref h_value, .ref h_now, .ref h_kept], zI T h_tape 2000 (X14_tape b_h), zI T h_kind 402 (X14_kind b_h), zI T h_number 402 (X14_number b_h), zI T h_position 402 (X14_position b_h), zI T h_length 402 (X14_length b_h), zI T h_frontName 10 (X14_frontName b_h), zI T h_guestName 10 (X14_guestName b_h), zI T h_value 800 (X14_value b_h), zI T h_now 58 w_h_now, zI T h_kept 58 (X14_kept b_h), zO h_told 9 [.int (X13_fronts b_h_told), .ref h_told_warm, .ref h_told_force, .ref h_told_comes, .ref h_told_stays, .int (X13_guests b_h_told), .ref h_told_sits, .ref h_told_low, .ref h_told_high, .ref h_told_nerve, .int (X13_orders b_h_told), .ref h_told_does, .ref h_told_whom, .ref h_told_from, .ref h_told_to, .ref h_told_test, .int (X13_nodes b_h_told), .ref h_told_sort, .ref h_told_left, .ref h_told_right], zI T h_told_warm 11 (X13_warm b_h_told), zI T h_told_force 11 (X13_force b_h_told), zI T h_told_comes 11 (X13_comes b_h_told), zI T h_told_stays 11 (X13_stays b_h_told), zI T h_told_sits 11 (X13_sits b_h_told), zI T h_told_low 11 (X13_low b_h_told), zI T h_told_high 11 (X13_high b_h_told), zI T h_told_nerve 11 (X13_nerve b_h_told), zI T h_told_does 17 (X13_does b_h_told), zI T h_told_whom 17 (X13_whom b_h_told), zI T h_told_from 17 (X13_from b_h_told), zI T h_told_to 17 (X13_to b_h_told), zI T h_told_test 17 (X13_test b_h_told), zI T h_told_sort 800 (X13_sort b_h_told), zI T h_told_left 800 (X13_left b_h_told), zI T h_told_right 800 (X13_right b_h_told)] [(0, .ref h), (1, .int v1), (2, .int v2)] 152 [.int t0, .int t1, .ref h_now] := by
    intro v1 v2 w_h_now t0 t1 hf
    obtain ⟨g5, hf⟩ := ob_g hf
    refine sx_iast X (ws' := [zO h 10 [.int (X14_thrown b_h), .ref h_tape, .int (X14_bytes b_h), .int (X14_errorAt b_h), .ref h_kind, .ref h_number, .ref h_position, .ref h_length, .int (X14_token b_h), .int (X14_isWrong b_h), .int (X14_error b_h), .int (X14_errorToken b_h), .int (X14_deep b_h), .ref h_frontName, .ref h_guestName, .ref h_told, .ref h_fresh, .ref h_value, .ref h_now, .ref h_kept], zI T h_tape 2000 (X14_tape b_h), zI T h_kind 402 (X14_kind b_h), zI T h_number 402 (X14_number b_h), zI T h_position 402 (X14_position b_h), zI T h_length 402 (X14_length b_h), zI T h_frontName 10 (X14_frontName b_h), zI T h_guestName 10 (X14_guestName b_h), zI T h_value 800 (X14_value b_h), zI T h_now 58 (upd w_h_now t1.toNatClampNeg t0), zI T h_kept 58 (X14_kept b_h), zO h_told 9 [.int (X13_fronts b_h_told), .ref h_told_warm, .ref h_told_force, .ref h_told_comes, .ref h_told_stays, .int (X13_guests b_h_told), .ref h_told_sits, .ref h_told_low, .ref h_told_high, .ref h_told_nerve, .int (X13_orders b_h_told), .ref h_told_does, .ref h_told_whom, .ref h_told_from, .ref h_told_to, .ref h_told_test, .int (X13_nodes b_h_told), .ref h_told_sort, .ref h_told_left, .ref h_told_right], zI T h_told_warm 11 (X13_warm b_h_told), zI T h_told_force 11 (X13_force b_h_told), zI T h_told_comes 11 (X13_comes b_h_told), zI T h_told_stays 11 (X13_stays b_h_told), zI T h_told_sits 11 (X13_sits b_h_told), zI T h_told_low 11 (X13_low b_h_told), zI T h_told_high 11 (X13_high b_h_told), zI T h_told_nerve 11 (X13_nerve b_h_told), zI T h_told_does 17 (X13_does b_h_told), zI T h_told_whom 17 (X13_whom b_h_told), zI T h_told_from 17 (X13_from b_h_told), zI T h_told_to 17 (X13_to b_h_told), zI T h_told_test 17 (X13_test b_h_told), zI T h_told_sort 800 (X13_sort b_h_told), zI T h_told_left 800 (X13_left b_h_told), zI T h_told_right 800 (X13_right b_h_told)]) 9 rfl g5 rfl dX14_weather_152 ?_
    refine sx_aload_n X 0 rfl dX14_weather_153 rfl ?_
    refine sx_get X kX14 0 rfl 18 (Nat.le_of_ble_eq_true rfl) qm_1286 rfl dX14_weather_154 ?_
    refine sx_iconst X (v := 3) dX14_weather_157 rfl ?_
    refine sx_bipush X (v := 30) dX14_weather_158 rfl ?_
    refine sx_aload_n X 0 rfl dX14_weather_160 rfl ?_
    refine sx_get X kX14 0 rfl 18 (Nat.le_of_ble_eq_true rfl) qm_1286 rfl dX14_weather_161 ?_
    refine sx_iconst X (v := 3) dX14_weather_164 rfl ?_
    obtain ⟨g6, hf⟩ := ob_g hf
    refine sx_iald X 9 rfl g6 dX14_weather_165 ?_
    refine sx_iload_n X 1 rfl dX14_weather_166 rfl ?_
    refine sx_iload_n X 2 rfl dX14_weather_167 rfl ?_
    refine sx_min X qm_1409 qm_835 qm_93 qm_836 (Nat.le_of_ble_eq_true rfl) (Nat.le_of_ble_eq_true rfl) (Nat.zero_le _) (Nat.zero_le _) dX14_weather_168 ?_
    refine sx_iadd X dX14_weather_171 ?_
    refine sx_min X qm_1409 qm_835 qm_93 qm_836 (Nat.le_of_ble_eq_true rfl) (Nat.le_of_ble_eq_true rfl) (Nat.zero_le _) (Nat.zero_le _) dX14_weather_172 ?_
    obtain ⟨g7, hf⟩ := ob_g hf
    refine sx_iast X (ws' := [zO h 10 [.int (X14_thrown b_h), .ref h_tape, .int (X14_bytes b_h), .int (X14_errorAt b_h), .ref h_kind, .ref h_number, .ref h_position, .ref h_length, .int (X14_token b_h), .int (X14_isWrong b_h), .int (X14_error b_h), .int (X14_errorToken b_h), .int (X14_deep b_h), .ref h_frontName, .ref h_guestName, .ref h_told, .ref h_fresh, .ref h_value, .ref h_now, .ref h_kept], zI T h_tape 2000 (X14_tape b_h), zI T h_kind 402 (X14_kind b_h), zI T h_number 402 (X14_number b_h), zI T h_position 402 (X14_position b_h), zI T h_length 402 (X14_length b_h), zI T h_frontName 10 (X14_frontName b_h), zI T h_guestName 10 (X14_guestName b_h), zI T h_value 800 (X14_value b_h), zI T h_now 58 (upd (upd w_h_now t1.toNatClampNeg t0) (3 : Int32).toNatClampNeg (if (((upd w_h_now t1.toNatClampNeg t0) (3 : Int32).toNatClampNeg) + (if v2 < v1 then v2 else v1)) < 30 then (((upd w_h_now t1.toNatClampNeg t0) (3 : Int32).toNatClampNeg) + (if v2 < v1 then v2 else v1)) else 30)), zI T h_kept 58 (X14_kept b_h), zO h_told 9 [.int (X13_fronts b_h_told), .ref h_told_warm, .ref h_told_force, .ref h_told_comes, .ref h_told_stays, .int (X13_guests b_h_told), .ref h_told_sits, .ref h_told_low, .ref h_told_high, .ref h_told_nerve, .int (X13_orders b_h_told), .ref h_told_does, .ref h_told_whom, .ref h_told_from, .ref h_told_to, .ref h_told_test, .int (X13_nodes b_h_told), .ref h_told_sort, .ref h_told_left, .ref h_told_right], zI T h_told_warm 11 (X13_warm b_h_told), zI T h_told_force 11 (X13_force b_h_told), zI T h_told_comes 11 (X13_comes b_h_told), zI T h_told_stays 11 (X13_stays b_h_told), zI T h_told_sits 11 (X13_sits b_h_told), zI T h_told_low 11 (X13_low b_h_told), zI T h_told_high 11 (X13_high b_h_told), zI T h_told_nerve 11 (X13_nerve b_h_told), zI T h_told_does 17 (X13_does b_h_told), zI T h_told_whom 17 (X13_whom b_h_told), zI T h_told_from 17 (X13_from b_h_told), zI T h_told_to 17 (X13_to b_h_told), zI T h_told_test 17 (X13_test b_h_told), zI T h_told_sort 800 (X13_sort b_h_told), zI T h_told_left 800 (X13_left b_h_told), zI T h_told_right 800 (X13_right b_h_told)]) 9 rfl g7 rfl dX14_weather_175 ?_
    exact sx_vret X dX14_weather_176 (ob_e hf) rfl rfl
  have L9 : ∀ (w_h_now : Nat → Int32) (n0 : Nat) (v1 : Int32) (v2 : Int32) (v3 : Int32) (v4 : Int32), (iter (fun s : Int32 × Int32 × Int32 × Int32 => f_X14_weather_L9 n b_h b_h_told s.1 s.2.1 s.2.2.1 s.2.2.2 w_h_now) n0 (v1, v2, v3, v4)).bind some = some res → SxG p l e rm_X14_weather s m args below meth c D A 5 0 0 (SxE below args s D A (vf_X14_weather sd) (wf_X14_weather T sd h h_tape h_kind h_number h_position h_length h_frontName h_guestName h_told h_fresh h_value h_now h_kept h_told_warm h_told_force h_told_comes h_told_stays h_told_sits h_told_low h_told_high h_told_nerve h_told_does h_told_whom h_told_from h_told_to h_told_test h_told_sort h_told_left h_told_right b_h b_h_told) res 0 0) [zO h 10 [.int (X14_thrown b_h), .ref h_tape, .int (X14_bytes b_h), .int (X14_errorAt b_h), .ref h_kind, .ref h_number, .ref h_position, .ref h_length, .int (X14_token b_h), .int (X14_isWrong b_h), .int (X14_error b_h), .int (X14_errorToken b_h), .int (X14_deep b_h), .ref h_frontName, .ref h_guestName, .ref h_told, .ref h_fresh, .ref h_value, .ref h_now, .ref h_kept], zI T h_tape 2000 (X14_tape b_h), zI T h_kind 402 (X14_kind b_h), zI T h_number 402 (X14_number b_h), zI T h_position 402 (X14_position b_h), zI T h_length 402 (X14_length b_h), zI T h_frontName 10 (X14_frontName b_h), zI T h_guestName 10 (X14_guestName b_h), zI T h_value 800 (X14_value b_h), zI T h_now 58 w_h_now, zI T h_kept 58 (X14_kept b_h), zO h_told 9 [.int (X13_fronts b_h_told), .ref h_told_warm, .ref h_told_force, .ref h_told_comes, .ref h_told_stays, .int (X13_guests b_h_told), .ref h_told_sits, .ref h_told_low, .ref h_told_high, .ref h_told_nerve, .int (X13_orders b_h_told), .ref h_told_does, .ref h_told_whom, .ref h_told_from, .ref h_told_to, .ref h_told_test, .int (X13_nodes b_h_told), .ref h_told_sort, .ref h_told_left, .ref h_told_right], zI T h_told_warm 11 (X13_warm b_h_told), zI T h_told_force 11 (X13_force b_h_told), zI T h_told_comes 11 (X13_comes b_h_told), zI T h_told_stays 11 (X13_stays b_h_told), zI T h_told_sits 11 (X13_sits b_h_told), zI T h_told_low 11 (X13_low b_h_told), zI T h_told_high 11 (X13_high b_h_told), zI T h_told_nerve 11 (X13_nerve b_h_told), zI T h_told_does 17 (X13_does b_h_told), zI T h_told_whom 17 (X13_whom b_h_told), zI T h_told_from 17 (X13_from b_h_told), zI T h_told_to 17 (X13_to b_h_told), zI T h_told_test 17 (X13_test b_h_told), zI T h_told_sort 800 (X13_sort b_h_told), zI T h_told_left 800 (X13_left b_h_told), zI T h_told_right 800 (X13_right b_h_told)] [(0, .ref h), (1, .int v1), (2, .int v2), (3, .int v3), (4, .int v4)] 9 [] := by
    intro w_h_now n0
    induction n0 with
    | zero =>
      intro v1 v2 v3 v4 hf
      exact (iter_z hf).elim
    | succ n0 ih9 =>
      intro v1 v2 v3 v4 hf
      obtain ⟨κ9, hκ9, hf⟩ := iter_k hf
      have hf : (f_X14_weather_L9 n b_h b_h_told v1 v2 v3 v4 w_h_now).bind κ9 = some res := hf
      have R68 : ∀ (v2 : Int32) (v3 : Int32) (v4 : Int32) (t0 : Int32) (t1 : Int32), (f_X14_weather_R68 n b_h b_h_told v2 v3 v4 w_h_now t0 t1).bind κ9 = some res → SxG p l e rm_X14_weather s m args below meth c D A 5 0 0 (SxE below args s D A (vf_X14_weather sd) (wf_X14_weather T sd h h_tape h_kind h_number h_position h_length h_frontName h_guestName h_told h_fresh h_value h_now h_kept h_told_warm h_told_force h_told_comes h_told_stays h_told_sits h_told_low h_told_high h_told_nerve h_told_does h_told_whom h_told_from h_told_to h_told_test h_told_sort h_told_left h_told_right b_h b_h_told) res 0 0) [zO h 10 [.int (X14_thrown b_h), .ref h_tape, .int (X14_bytes b_h), .int (X14_errorAt b_h), .ref h_kind, .ref h_number, .ref h_position, .ref h_length, .int (X14_token b_h), .int (X14_isWrong b_h), .int (X14_error b_h), .int (X14_errorToken b_h), .int (X14_deep b_h), .ref h_frontName, .ref h_guestName, .ref h_told, .ref h_fresh, .ref h_value, .ref h_now, .ref h_kept], zI T h_tape 2000 (X14_tape b_h), zI T h_kind 402 (X14_kind b_h), zI T h_number 402 (X14_number b_h), zI T h_position 402 (X14_position b_h), zI T h_length 402 (X14_length b_h), zI T h_frontName 10 (X14_frontName b_h), zI T h_guestName 10 (X14_guestName b_h), zI T h_value 800 (X14_value b_h), zI T h_now 58 w_h_now, zI T h_kept 58 (X14_kept b_h), zO h_told 9 [.int (X13_fronts b_h_told), .ref h_told_warm, .ref h_told_force, .ref h_told_comes, .ref h_told_stays, .int (X13_guests b_h_told), .ref h_told_sits, .ref h_told_low, .ref h_told_high, .ref h_told_nerve, .int (X13_orders b_h_told), .ref h_told_does, .ref h_told_whom, .ref h_told_from, .ref h_told_to, .ref h_told_test, .int (X13_nodes b_h_told), .ref h_told_sort, .ref h_told_left, .ref h_told_right], zI T h_told_warm 11 (X13_warm b_h_told), zI T h_told_force 11 (X13_force b_h_told), zI T h_told_comes 11 (X13_comes b_h_told), zI T h_told_stays 11 (X13_stays b_h_told), zI T h_told_sits 11 (X13_sits b_h_told), zI T h_told_low 11 (X13_low b_h_told), zI T h_told_high 11 (X13_high b_h_told), zI T h_told_nerve 11 (X13_nerve b_h_told), zI T h_told_does 17 (X13_does b_h_told), zI T h_told_whom 17 (X13_whom b_h_told), zI T h_told_from 17 (X13_from b_h_told), zI T h_told_to 17 (X13_to b_h_told), zI T h_told_test 17 (X13_test b_h_told), zI T h_told_sort 800 (X13_sort b_h_told), zI T h_told_left 800 (X13_left b_h_told), zI T h_told_right 800 (X13_right b_h_told)] [(0, .ref h), (2, .int v2), (3, .int v3), (4, .int v4)] 68 [.int t0, .int t1] := by
        intro v2 v3 v4 t0 t1 hf
        refine sx_iadd X dX14_weather_68 ?_
        refine sx_istore_n X (lv' := [(1, .int (t1 + t0)), (0, .ref h), (2, .int v2), (3, .int v3), (4, .int v4)]) dX14_weather_69 rfl (by decide) rfl ?_
        refine sx_iload_n X 2 rfl dX14_weather_70 rfl ?_
        refine sx_aload_n X 1 rfl dX14_weather_71 rfl ?_
        refine sx_get X kX14 0 rfl 15 (Nat.le_of_ble_eq_true rfl) qm_1283 rfl dX14_weather_72 ?_
        refine sx_getN X kX13 11 rfl 1 (Nat.le_of_ble_eq_true rfl) (List.mem_of_getElem? (i := 2) rfl) rfl dX14_weather_75 ?_
        refine sx_iload X 4 rfl dX14_weather_78 ?_
        obtain ⟨g15, hf⟩ := ob_g hf
        refine sx_iald X 12 rfl g15 dX14_weather_80 ?_
        refine sx_iconst X (v := 1) dX14_weather_81 rfl ?_
        refine sx_icmp_ne X 89 dX14_weather_82 rfl (fun c16 => ?_) (fun c16 => ?_)
        · have hf := ob_f hf c16
          refine sx_aload_n X 1 rfl dX14_weather_89 rfl ?_
          refine sx_get X kX14 0 rfl 15 (Nat.le_of_ble_eq_true rfl) qm_1283 rfl dX14_weather_90 ?_
          refine sx_getN X kX13 11 rfl 2 (Nat.le_of_ble_eq_true rfl) (List.mem_of_getElem? (i := 3) rfl) rfl dX14_weather_93 ?_
          refine sx_iload X 4 rfl dX14_weather_96 ?_
          obtain ⟨g17, hf⟩ := ob_g hf
          refine sx_iald X 13 rfl g17 dX14_weather_98 ?_
          refine sx_iadd X dX14_weather_99 ?_
          refine sx_istore_n X (lv' := [(2, .int (v2 + ((X13_force b_h_told) v4.toNatClampNeg))), (1, .int (t1 + t0)), (0, .ref h), (3, .int v3), (4, .int v4)]) dX14_weather_100 rfl (by decide) rfl ?_
          refine sx_iinc X (v := (v4 + 1)) (lv' := [(4, .int (v4 + 1)), (2, .int (v2 + ((X13_force b_h_told) v4.toNatClampNeg))), (1, .int (t1 + t0)), (0, .ref h), (3, .int v3)]) 4 rfl dX14_weather_101 rfl (by decide) rfl ?_
          refine sx_goto X 9 dX14_weather_104 rfl ?_
          have hf := ob_k hκ9 hf
          refine sx_lsub [3, 2, 1, 4, 0] rfl ?_
          exact ih9 (t1 + t0) (v2 + ((X13_force b_h_told) v4.toNatClampNeg)) v3 (v4 + 1) hf
        · have hf := ob_t hf c16
          refine sx_iconst X (v := 0) dX14_weather_85 rfl ?_
          refine sx_goto X 99 dX14_weather_86 rfl ?_
          refine sx_iadd X dX14_weather_99 ?_
          refine sx_istore_n X (lv' := [(2, .int (v2 + 0)), (1, .int (t1 + t0)), (0, .ref h), (3, .int v3), (4, .int v4)]) dX14_weather_100 rfl (by decide) rfl ?_
          refine sx_iinc X (v := (v4 + 1)) (lv' := [(4, .int (v4 + 1)), (2, .int (v2 + 0)), (1, .int (t1 + t0)), (0, .ref h), (3, .int v3)]) 4 rfl dX14_weather_101 rfl (by decide) rfl ?_
          refine sx_goto X 9 dX14_weather_104 rfl ?_
          have hf := ob_k hκ9 hf
          refine sx_lsub [3, 2, 1, 4, 0] rfl ?_
          exact ih9 (t1 + t0) (v2 + 0) v3 (v4 + 1) hf
      refine sx_iload X 4 rfl dX14_weather_9 ?_
      refine sx_aload_n X 0 rfl dX14_weather_11 rfl ?_
      refine sx_get X kX14 0 rfl 15 (Nat.le_of_ble_eq_true rfl) qm_1283 rfl dX14_weather_12 ?_
      refine sx_getN X kX13 11 rfl 0 (Nat.le_of_ble_eq_true rfl) (List.mem_of_getElem? (i := 1) rfl) rfl dX14_weather_15 ?_
      refine sx_icmp_ge X 107 dX14_weather_18 rfl (fun c1 => ?_) (fun c1 => ?_)
      · have hf := ob_t hf c1
        refine sx_aload_n X 0 rfl dX14_weather_107 rfl ?_
        refine sx_get X kX14 0 rfl 18 (Nat.le_of_ble_eq_true rfl) qm_1286 rfl dX14_weather_108 ?_
        refine sx_iconst X (v := 1) dX14_weather_111 rfl ?_
        refine sx_iload_n X 3 rfl dX14_weather_112 rfl ?_
        refine sx_if_eq X 137 dX14_weather_113 rfl (fun c2 => ?_) (fun c2 => ?_)
        · have hf := ob_t hf c2
          refine sx_aload_n X 0 rfl dX14_weather_137 rfl ?_
          refine sx_get X kX14 0 rfl 18 (Nat.le_of_ble_eq_true rfl) qm_1286 rfl dX14_weather_138 ?_
          refine sx_iconst X (v := 1) dX14_weather_141 rfl ?_
          obtain ⟨g3, hf⟩ := ob_g hf
          refine sx_iald X 9 rfl g3 dX14_weather_142 ?_
          refine sx_iload_n X 1 rfl dX14_weather_143 rfl ?_
          refine sx_iadd X dX14_weather_144 ?_
          refine sx_iload_n X 2 rfl dX14_weather_145 rfl ?_
          refine sx_isub X dX14_weather_146 ?_
          refine sx_bipush X (v := 40) dX14_weather_147 rfl ?_
          obtain ⟨u4, hu4, hf⟩ := ob_c hf
          refine sx_cSr X (c_X14_held (l := l) (D := D) (T := T) (sd := sd) (((w_h_now (1 : Int32).toNatClampNeg) + v1) - v2) 40 hu4) (st' := [.int u4, .int 1, .ref h_now]) qm_1685 qm_1686 qm_79 qm_1687 hd_X14_held ⟨rfl, rfl⟩ ⟨Nat.le_of_ble_eq_true rfl, Nat.le_of_ble_eq_true rfl⟩ rfl rfl (Nat.le_of_ble_eq_true rfl) [] rfl rfl rfl ⟨Nat.le_of_ble_eq_true rfl, Nat.le_of_ble_eq_true rfl⟩ dX14_weather_149 rfl ?_
          have hf := ob_kx hκ9 hf
          refine sx_lsub [0, 1, 2] rfl ?_
          exact R152 v1 v2 w_h_now u4 1 hf
        · have hf := ob_f hf c2
          refine sx_aload_n X 0 rfl dX14_weather_116 rfl ?_
          refine sx_get X kX14 0 rfl 18 (Nat.le_of_ble_eq_true rfl) qm_1286 rfl dX14_weather_117 ?_
          refine sx_iconst X (v := 1) dX14_weather_120 rfl ?_
          obtain ⟨g8, hf⟩ := ob_g hf
          refine sx_iald X 9 rfl g8 dX14_weather_121 ?_
          refine sx_aload_n X 0 rfl dX14_weather_122 rfl ?_
          refine sx_get X kX14 0 rfl 18 (Nat.le_of_ble_eq_true rfl) qm_1286 rfl dX14_weather_123 ?_
          refine sx_iconst X (v := 1) dX14_weather_126 rfl ?_
          obtain ⟨g9, hf⟩ := ob_g hf
          refine sx_iald X 9 rfl g9 dX14_weather_127 ?_
          refine sx_bipush X (v := 20) dX14_weather_128 rfl ?_
          obtain ⟨u10, hu10, hf⟩ := ob_c hf
          refine sx_cSr X (c_J6_compare_7cf53 (l := l) (D := D) (T := T) (sd := sd) (w_h_now (1 : Int32).toNatClampNeg) 20 hu10) (st' := [.int u10, .int (w_h_now (1 : Int32).toNatClampNeg), .int 1, .ref h_now]) qm_1684 qm_871 qm_96 qm_872 hd_J6_compare_7cf53 ⟨rfl, rfl⟩ ⟨Nat.le_of_ble_eq_true rfl, Nat.le_of_ble_eq_true rfl⟩ rfl rfl (Nat.le_of_ble_eq_true rfl) [] rfl rfl rfl ⟨Nat.le_of_ble_eq_true rfl, Nat.le_of_ble_eq_true rfl⟩ dX14_weather_130 rfl ?_
          refine sx_isub X dX14_weather_133 ?_
          refine sx_goto X 152 dX14_weather_134 rfl ?_
          have hf := ob_kx hκ9 hf
          refine sx_lsub [0, 1, 2] rfl ?_
          exact R152 v1 v2 w_h_now ((w_h_now (1 : Int32).toNatClampNeg) - u10) 1 hf
      · have hf := ob_f hf c1
        refine sx_aload_n X 0 rfl dX14_weather_21 rfl ?_
        refine sx_get X kX14 0 rfl 18 (Nat.le_of_ble_eq_true rfl) qm_1286 rfl dX14_weather_22 ?_
        refine sx_bipush X (v := 8) dX14_weather_25 rfl ?_
        refine sx_iload X 4 rfl dX14_weather_27 ?_
        refine sx_iadd X dX14_weather_29 ?_
        obtain ⟨g11, hf⟩ := ob_g hf
        refine sx_iald X 9 rfl g11 dX14_weather_30 ?_
        refine sx_if_ne X 37 dX14_weather_31 rfl (fun c12 => ?_) (fun c12 => ?_)
        · have hf := ob_f hf c12
          refine sx_iconst X (v := 0) dX14_weather_37 rfl ?_
          refine sx_istore_n X (lv' := [(3, .int 0), (0, .ref h), (1, .int v1), (2, .int v2), (4, .int v4)]) dX14_weather_38 rfl (by decide) rfl ?_
          refine sx_iload_n X 2 rfl dX14_weather_39 rfl ?_
          refine sx_aload_n X 1 rfl dX14_weather_40 rfl ?_
          refine sx_get X kX14 0 rfl 15 (Nat.le_of_ble_eq_true rfl) qm_1283 rfl dX14_weather_41 ?_
          refine sx_getN X kX13 11 rfl 1 (Nat.le_of_ble_eq_true rfl) (List.mem_of_getElem? (i := 2) rfl) rfl dX14_weather_44 ?_
          refine sx_iload X 4 rfl dX14_weather_47 ?_
          obtain ⟨g13, hf⟩ := ob_g hf
          refine sx_iald X 12 rfl g13 dX14_weather_49 ?_
          refine sx_iconst X (v := 1) dX14_weather_50 rfl ?_
          refine sx_icmp_ne X 67 dX14_weather_51 rfl (fun c14 => ?_) (fun c14 => ?_)
          · have hf := ob_f hf c14
            refine sx_iconst X (v := 0) dX14_weather_67 rfl ?_
            refine sx_lsub [1, 3, 0, 4] rfl ?_
            exact R68 v2 0 v4 0 v1 hf
          · have hf := ob_t hf c14
            refine sx_aload_n X 1 rfl dX14_weather_54 rfl ?_
            refine sx_get X kX14 0 rfl 15 (Nat.le_of_ble_eq_true rfl) qm_1283 rfl dX14_weather_55 ?_
            refine sx_getN X kX13 11 rfl 2 (Nat.le_of_ble_eq_true rfl) (List.mem_of_getElem? (i := 3) rfl) rfl dX14_weather_58 ?_
            refine sx_iload X 4 rfl dX14_weather_61 ?_
            obtain ⟨g18, hf⟩ := ob_g hf
            refine sx_iald X 13 rfl g18 dX14_weather_63 ?_
            refine sx_goto X 68 dX14_weather_64 rfl ?_
            refine sx_lsub [1, 3, 0, 4] rfl ?_
            exact R68 v2 0 v4 ((X13_force b_h_told) v4.toNatClampNeg) v1 hf
        · have hf := ob_t hf c12
          refine sx_goto X 101 dX14_weather_34 rfl ?_
          refine sx_iinc X (v := (v4 + 1)) (lv' := [(4, .int (v4 + 1)), (0, .ref h), (1, .int v1), (2, .int v2), (3, .int v3)]) 4 rfl dX14_weather_101 rfl (by decide) rfl ?_
          refine sx_goto X 9 dX14_weather_104 rfl ?_
          have hf := ob_k hκ9 hf
          refine sx_lsub [1, 2, 3, 4, 0] rfl ?_
          exact ih9 v1 v2 v3 (v4 + 1) hf
  refine sx_iconst X (v := 0) dX14_weather_0 rfl ?_
  refine sx_istore_n X (lv' := [(1, .int 0), (0, .ref h)]) dX14_weather_1 rfl (by decide) rfl ?_
  refine sx_iconst X (v := 0) dX14_weather_2 rfl ?_
  refine sx_istore_n X (lv' := [(2, .int 0), (1, .int 0), (0, .ref h)]) dX14_weather_3 rfl (by decide) rfl ?_
  refine sx_iconst X (v := 1) dX14_weather_4 rfl ?_
  refine sx_istore_n X (lv' := [(3, .int 1), (2, .int 0), (1, .int 0), (0, .ref h)]) dX14_weather_5 rfl (by decide) rfl ?_
  refine sx_iconst X (v := 0) dX14_weather_6 rfl ?_
  refine sx_istore X (lv' := [(4, .int 0), (3, .int 1), (2, .int 0), (1, .int 0), (0, .ref h)]) dX14_weather_7 (by decide) rfl ?_
  refine sx_lsub [4, 3, 2, 1, 0] rfl ?_
  exact L9 (X14_now b_h) n 0 0 1 0 hf
