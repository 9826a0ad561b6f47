/-! contracts, part 30 -/
abbrev vf_X14_bringBack (sd : SdT) (_r : (Nat → Int32)) : Option Value := none
abbrev wc_X14_bringBack (T : Nat → ClassId) (sd : SdT) (h : Nat) (h_tape : Nat) (h_kind : Nat) (h_number : Nat) (h_position : Nat) (h_length : Nat) (h_frontName : Nat) (h_guestName : Nat) (h_told : Nat) (h_fresh : Nat) (h_value : Nat) (h_now : Nat) (h_kept : Nat) (b_h : bX14) : va_W := [zO h 10 [.int (X14_thrown b_h), .ref h_tape, .int (X14_bytes b_h), .int (X14_errorAt b_h), .ref h_kind, .ref h_number, .ref h_position, .ref h_length, .int (X14_token b_h), .int (X14_isWrong b_h), .int (X14_error b_h), .int (X14_errorToken b_h), .int (X14_deep b_h), .ref h_frontName, .ref h_guestName, .ref h_told, .ref h_fresh, .ref h_value, .ref h_now, .ref h_kept], zI T h_tape 2000 (X14_tape b_h), zI T h_kind 402 (X14_kind b_h), zI T h_number 402 (X14_number b_h), zI T h_position 402 (X14_position b_h), zI T h_length 402 (X14_length b_h), zI T h_frontName 10 (X14_frontName b_h), zI T h_guestName 10 (X14_guestName b_h), zI T h_value 800 (X14_value b_h), zI T h_now 58 (X14_now b_h), zI T h_kept 58 (X14_kept b_h)]
abbrev wf_X14_bringBack (T : Nat → ClassId) (sd : SdT) (h : Nat) (h_tape : Nat) (h_kind : Nat) (h_number : Nat) (h_position : Nat) (h_length : Nat) (h_frontName : Nat) (h_guestName : Nat) (h_told : Nat) (h_fresh : Nat) (h_value : Nat) (h_now : Nat) (h_kept : Nat) (b_h : bX14) (r : (Nat → Int32)) : va_W := [zO h 10 [.int (X14_thrown b_h), .ref h_tape, .int (X14_bytes b_h), .int (X14_errorAt b_h), .ref h_kind, .ref h_number, .ref h_position, .ref h_length, .int (X14_token b_h), .int (X14_isWrong b_h), .int (X14_error b_h), .int (X14_errorToken b_h), .int (X14_deep b_h), .ref h_frontName, .ref h_guestName, .ref h_told, .ref h_fresh, .ref h_value, .ref h_now, .ref h_kept], zI T h_tape 2000 (X14_tape b_h), zI T h_kind 402 (X14_kind b_h), zI T h_number 402 (X14_number b_h), zI T h_position 402 (X14_position b_h), zI T h_length 402 (X14_length b_h), zI T h_frontName 10 (X14_frontName b_h), zI T h_guestName 10 (X14_guestName b_h), zI T h_value 800 (X14_value b_h), zI T h_now 58 r, zI T h_kept 58 (X14_kept b_h)]
abbrev rm_X14_bringBack : Room := { frames := 1, cells := 0, slots := 0, locals := 40 }
theorem hd_X14_bringBack : yX14_bringBack.cls ≠ "java/lang/invoke/MethodHandle" ∧ yX14_bringBack.cls ≠ "java/lang/invoke/VarHandle" ∧ (parseMethodDescriptor yX14_bringBack.desc).map (fun d => d.parameters.length) = some 0 := ⟨by decide, by decide, by decide +kernel⟩
set_option maxHeartbeats 4000000 in
set_option maxRecDepth 100000 in
theorem c_X14_bringBack {l : Launch} {D : va_G} {T : Nat → ClassId} {sd : SdT} (h : Nat) (h_tape : Nat) (h_kind : Nat) (h_number : Nat) (h_position : Nat) (h_length : Nat) (h_frontName : Nat) (h_guestName : Nat) (h_told : Nat) (h_fresh : Nat) (h_value : Nat) (h_now : Nat) (h_kept : Nat) (b_h : bX14) {res : (Nat → Int32)} (hf : f_X14_bringBack b_h = some res) : SxK (SFx sd) l D T yX14_bringBack cX14_bringBack 1 none rm_X14_bringBack [.ref h] (wc_X14_bringBack T sd h h_tape h_kind h_number h_position h_length h_frontName h_guestName h_told h_fresh h_value h_now h_kept b_h) (vf_X14_bringBack sd) (wf_X14_bringBack T sd h h_tape h_kind h_number h_position h_length h_frontName h_guestName h_told h_fresh h_value h_now h_kept b_h) res 0 0 := by
  refine sx_start (SFx_ok sd) (by decide +kernel) (Nat.le_of_ble_eq_true rfl) (fun p e s m args below meth c A X hnm => ?_)
  have hf := ob_1 hf
  refine sx_aload_n X 0 rfl dX14_bringBack_0 rfl ?_
  refine sx_get X kX14 0 rfl 19 (Nat.le_of_ble_eq_true rfl) qm_1287 rfl dX14_bringBack_1 ?_
  refine sx_iconst X (v := 0) dX14_bringBack_4 rfl ?_
  refine sx_aload_n X 0 rfl dX14_bringBack_5 rfl ?_
  refine sx_get X kX14 0 rfl 18 (Nat.le_of_ble_eq_true rfl) qm_1286 rfl dX14_bringBack_6 ?_
  refine sx_iconst X (v := 0) dX14_bringBack_9 rfl ?_
  refine sx_bipush X (v := 58) dX14_bringBack_10 rfl ?_
  obtain ⟨g1, hf⟩ := ob_h hf
  refine sx_copy X (ws' := [zO h 10 [.int (X14_thrown b_h), .ref h_tape, .int (X14_bytes b_h), .int (X14_errorAt b_h), .ref h_kind, .ref h_number, .ref h_position, .ref h_length, .int (X14_token b_h), .int (X14_isWrong b_h), .int (X14_error b_h), .int (X14_errorToken b_h), .int (X14_deep b_h), .ref h_frontName, .ref h_guestName, .ref h_told, .ref h_fresh, .ref h_value, .ref h_now, .ref h_kept], zI T h_tape 2000 (X14_tape b_h), zI T h_kind 402 (X14_kind b_h), zI T h_number 402 (X14_number b_h), zI T h_position 402 (X14_position b_h), zI T h_length 402 (X14_length b_h), zI T h_frontName 10 (X14_frontName b_h), zI T h_guestName 10 (X14_guestName b_h), zI T h_value 800 (X14_value b_h), zI T h_now 58 (va_cpy (X14_kept b_h) (X14_now b_h) 0 0 (58 : Int32).toNatClampNeg), zI T h_kept 58 (X14_kept b_h)]) 10 9 rfl rfl g1 qm_1700 qm_1512 qm_1511 qm_94 (Nat.le_of_ble_eq_true rfl) (Nat.le_of_ble_eq_true rfl) rfl dX14_bringBack_12 ?_
  exact sx_vret X dX14_bringBack_15 (ob_e hf) rfl rfl

abbrev vf_X14_byteAt (sd : SdT) (r : Int32) : Option Value := some (.int r)
abbrev wc_X14_byteAt (T : Nat → ClassId) (sd : SdT) (h : Nat) (h_tape : Nat) (h_kind : Nat) (h_number : Nat) (h_position : Nat) (h_length : Nat) (h_frontName : Nat) (h_guestName : Nat) (h_told : Nat) (h_fresh : Nat) (h_value : Nat) (h_now : Nat) (h_kept : Nat) (b_h : bX14) : va_W := [zO h 10 [.int (X14_thrown b_h), .ref h_tape, .int (X14_bytes b_h), .int (X14_errorAt b_h), .ref h_kind, .ref h_number, .ref h_position, .ref h_length, .int (X14_token b_h), .int (X14_isWrong b_h), .int (X14_error b_h), .int (X14_errorToken b_h), .int (X14_deep b_h), .ref h_frontName, .ref h_guestName, .ref h_told, .ref h_fresh, .ref h_value, .ref h_now, .ref h_kept], zI T h_tape 2000 (X14_tape b_h), zI T h_kind 402 (X14_kind b_h), zI T h_number 402 (X14_number b_h), zI T h_position 402 (X14_position b_h), zI T h_length 402 (X14_length b_h), zI T h_frontName 10 (X14_frontName b_h), zI T h_guestName 10 (X14_guestName b_h), zI T h_value 800 (X14_value b_h), zI T h_now 58 (X14_now b_h), zI T h_kept 58 (X14_kept b_h)]
abbrev wf_X14_byteAt (T : Nat → ClassId) (sd : SdT) (h : Nat) (h_tape : Nat) (h_kind : Nat) (h_number : Nat) (h_position : Nat) (h_length : Nat) (h_frontName : Nat) (h_guestName : Nat) (h_told : Nat) (h_fresh : Nat) (h_value : Nat) (h_now : Nat) (h_kept : Nat) (b_h : bX14) (r : Int32) : va_W := [zO h 10 [.int (X14_thrown b_h), .ref h_tape, .int (X14_bytes b_h), .int (X14_errorAt b_h), .ref h_kind, .ref h_number, .ref h_position, .ref h_length, .int (X14_token b_h), .int (X14_isWrong b_h), .int (X14_error b_h), .int (X14_errorToken b_h), .int (X14_deep b_h), .ref h_frontName, .ref h_guestName, .ref h_told, .ref h_fresh, .ref h_value, .ref h_now, .ref h_kept], zI T h_tape 2000 (X14_tape b_h), zI T h_kind 402 (X14_kind b_h), zI T h_number 402 (X14_number b_h), zI T h_position 402 (X14_position b_h), zI T h_length 402 (X14_length b_h), zI T h_frontName 10 (X14_frontName b_h), zI T h_guestName 10 (X14_guestName b_h), zI T h_value 800 (X14_value b_h), zI T h_now 58 (X14_now b_h), zI T h_kept 58 (X14_kept b_h)]
abbrev rm_X14_byteAt : Room := { frames := 0, cells := 0, slots := 0, locals := 0 }
theorem hd_X14_byteAt : yX14_byteAt.cls ≠ "java/lang/invoke/MethodHandle" ∧ yX14_byteAt.cls ≠ "java/lang/invoke/VarHandle" ∧ (parseMethodDescriptor yX14_byteAt.desc).map (fun d => d.parameters.length) = some 1 := ⟨by decide, by decide, by decide +kernel⟩
set_option maxHeartbeats 4000000 in
set_option maxRecDepth 100000 in
theorem c_X14_byteAt {l : Launch} {D : va_G} {T : Nat → ClassId} {sd : SdT} (h : Nat) (h_tape : Nat) (h_kind : Nat) (h_number : Nat) (h_position : Nat) (h_length : Nat) (h_frontName : Nat) (h_guestName : Nat) (h_told : Nat) (h_fresh : Nat) (h_value : Nat) (h_now : Nat) (h_kept : Nat) (x0 : Int32) (b_h : bX14) {res : Int32} (hf : f_X14_byteAt x0 b_h = some res) : SxK (SFx sd) l D T yX14_byteAt cX14_byteAt 2 (some .int) rm_X14_byteAt [.ref h, .int x0] (wc_X14_byteAt T sd h h_tape h_kind h_number h_position h_length h_frontName h_guestName h_told h_fresh h_value h_now h_kept b_h) (vf_X14_byteAt sd) (wf_X14_byteAt T sd h h_tape h_kind h_number h_position h_length h_frontName h_guestName h_told h_fresh h_value h_now h_kept b_h) res 0 0 := by
  refine sx_start (SFx_ok sd) (by decide +kernel) (Nat.le_of_ble_eq_true rfl) (fun p e s m args below meth c A X hnm => ?_)
  have hf := ob_1 hf
  refine sx_iload_n X 1 rfl dX14_byteAt_0 rfl ?_
  refine sx_aload_n X 0 rfl dX14_byteAt_1 rfl ?_
  refine sx_get X kX14 0 rfl 2 (Nat.le_of_ble_eq_true rfl) qm_1270 rfl dX14_byteAt_2 ?_
  refine sx_icmp_ge X 17 dX14_byteAt_5 rfl (fun c1 => ?_) (fun c1 => ?_)
  · have hf := ob_t hf c1
    refine sx_iconst X (v := (-1)) dX14_byteAt_17 rfl ?_
    exact sx_iret X rfl dX14_byteAt_18 (ob_e hf) rfl rfl
  · have hf := ob_f hf c1
    refine sx_aload_n X 0 rfl dX14_byteAt_8 rfl ?_
    refine sx_get X kX14 0 rfl 1 (Nat.le_of_ble_eq_true rfl) qm_1269 rfl dX14_byteAt_9 ?_
    refine sx_iload_n X 1 rfl dX14_byteAt_12 rfl ?_
    obtain ⟨g2, hf⟩ := ob_g hf
    refine sx_iald X 1 rfl g2 dX14_byteAt_13 ?_
    refine sx_goto X 18 dX14_byteAt_14 rfl ?_
    exact sx_iret X rfl dX14_byteAt_18 (ob_e hf) rfl rfl

abbrev vf_X14_calm (sd : SdT) (_r : (Nat → Int32)) : Option Value := none
abbrev wc_X14_calm (T : Nat → ClassId) (sd : SdT) (h : Nat) (h_tape : Nat) (h_kind : Nat) (h_number : Nat) (h_position : Nat) (h_length : Nat) (h_frontName : Nat) (h_guestName : Nat) (h_told : Nat) (h_fresh : Nat) (h_value : Nat) (h_now : Nat) (h_kept : Nat) (b_h : bX14) : va_W := [zO h 10 [.int (X14_thrown b_h), .ref h_tape, .int (X14_bytes b_h), .int (X14_errorAt b_h), .ref h_kind, .ref h_number, .ref h_position, .ref h_length, .int (X14_token b_h), .int (X14_isWrong b_h), .int (X14_error b_h), .int (X14_errorToken b_h), .int (X14_deep b_h), .ref h_frontName, .ref h_guestName, .ref h_told, .ref h_fresh, .ref h_value, .ref h_now, .ref h_kept], zI T h_tape 2000 (X14_tape b_h), zI T h_kind 402 (X14_kind b_h), zI T h_number 402 (X14_number b_h), zI T h_position 402 (X14_position b_h), zI T h_length 402 (X14_length b_h), zI T h_frontName 10 (X14_frontName b_h), zI T h_guestName 10 (X14_guestName b_h), zI T h_value 800 (X14_value b_h), zI T h_now 58 (X14_now b_h), zI T h_kept 58 (X14_kept b_h)]
abbrev wf_X14_calm (T : Nat → ClassId) (sd : SdT) (h : Nat) (h_tape : Nat) (h_kind : Nat) (h_number : Nat) (h_position : Nat) (h_length : Nat) (h_frontName : Nat) (h_guestName : Nat) (h_told : Nat) (h_fresh : Nat) (h_value : Nat) (h_now : Nat) (h_kept : Nat) (b_h : bX14) (r : (Nat → Int32)) : va_W := [zO h 10 [.int (X14_thrown b_h), .ref h_tape, .int (X14_bytes b_h), .int (X14_errorAt b_h), .ref h_kind, .ref h_number, .ref h_position, .ref h_length, .int (X14_token b_h), .int (X14_isWrong b_h), .int (X14_error b_h), .int (X14_errorToken b_h), .int (X14_deep b_h), .ref h_frontName, .ref h_guestName, .ref h_told, .ref h_fresh, .ref h_value, .ref h_now, .ref h_kept], zI T h_tape 2000 (X14_tape b_h), zI T h_kind 402 (X14_kind b_h), zI T h_number 402 (X14_number b_h), zI T h_position 402 (X14_position b_h), zI T h_length 402 (X14_length b_h), zI T h_frontName 10 (X14_frontName b_h), zI T h_guestName 10 (X14_guestName b_h), zI T h_value 800 (X14_value b_h), zI T h_now 58 r, zI T h_kept 58 (X14_kept b_h)]
abbrev rm_X14_calm : Room := { frames := 1, cells := 0, slots := 0, locals := 21 }
theorem hd_X14_calm : yX14_calm.cls ≠ "java/lang/invoke/MethodHandle" ∧ yX14_calm.cls ≠ "java/lang/invoke/VarHandle" ∧ (parseMethodDescriptor yX14_calm.desc).map (fun d => d.parameters.length) = some 0 := ⟨by decide, by decide, by decide +kernel⟩
set_option maxHeartbeats 4000000 in
set_option maxRecDepth 100000 in
theorem c_X14_calm {l : Launch} {D : va_G} {T : Nat → ClassId} {sd : SdT} (h : Nat) (h_tape : Nat) (h_kind : Nat) (h_number : Nat) (h_position : Nat) (h_length : Nat) (h_frontName : Nat) (h_guestName : Nat) (h_told : Nat) (h_fresh : Nat) (h_value : Nat) (h_now : Nat) (h_kept : Nat) (b_h : bX14) {res : (Nat → Int32)} (hf : f_X14_calm b_h = some res) : SxK (SFx sd) l D T yX14_calm cX14_calm 1 none rm_X14_calm [.ref h] (wc_X14_calm T sd h h_tape h_kind h_number h_position h_length h_frontName h_guestName h_told h_fresh h_value h_now h_kept b_h) (vf_X14_calm sd) (wf_X14_calm T sd h h_tape h_kind h_number h_position h_length h_frontName h_guestName h_told h_fresh h_value h_now h_kept b_h) res 0 0 := by
  refine sx_start (SFx_ok sd) (by decide +kernel) (Nat.le_of_ble_eq_true rfl) (fun p e s m args below meth c A X hnm => ?_)
  have hf := ob_1 hf
  refine sx_aload_n X 0 rfl dX14_calm_0 rfl ?_
  refine sx_get X kX14 0 rfl 18 (Nat.le_of_ble_eq_true rfl) qm_1286 rfl dX14_calm_1 ?_
  refine sx_iconst X (v := 3) dX14_calm_4 rfl ?_
  refine sx_iconst X (v := 0) dX14_calm_5 rfl ?_
  refine sx_aload_n X 0 rfl dX14_calm_6 rfl ?_
  refine sx_get X kX14 0 rfl 18 (Nat.le_of_ble_eq_true rfl) qm_1286 rfl dX14_calm_7 ?_
  refine sx_iconst X (v := 3) dX14_calm_10 rfl ?_
  obtain ⟨g1, hf⟩ := ob_g hf
  refine sx_iald X 9 rfl g1 dX14_calm_11 ?_
  refine sx_iconst X (v := 5) dX14_calm_12 rfl ?_
  refine sx_isub X dX14_calm_13 ?_
  refine sx_max X qm_1454 qm_838 qm_93 qm_839 (Nat.le_of_ble_eq_true rfl) (Nat.le_of_ble_eq_true rfl) (Nat.zero_le _) (Nat.zero_le _) dX14_calm_14 ?_
  obtain ⟨g2, hf⟩ := ob_g hf
  refine sx_iast X (ws' := [zO h 10 [.int (X14_thrown b_h), .ref h_tape, .int (X14_bytes b_h), .int (X14_errorAt b_h), .ref h_kind, .ref h_number, .ref h_position, .ref h_length, .int (X14_token b_h), .int (X14_isWrong b_h), .int (X14_error b_h), .int (X14_errorToken b_h), .int (X14_deep b_h), .ref h_frontName, .ref h_guestName, .ref h_told, .ref h_fresh, .ref h_value, .ref h_now, .ref h_kept], zI T h_tape 2000 (X14_tape b_h), zI T h_kind 402 (X14_kind b_h), zI T h_number 402 (X14_number b_h), zI T h_position 402 (X14_position b_h), zI T h_length 402 (X14_length b_h), zI T h_frontName 10 (X14_frontName b_h), zI T h_guestName 10 (X14_guestName b_h), zI T h_value 800 (X14_value b_h), zI T h_now 58 (upd (X14_now b_h) (3 : Int32).toNatClampNeg (if 0 < (((X14_now b_h) (3 : Int32).toNatClampNeg) - 5) then (((X14_now b_h) (3 : Int32).toNatClampNeg) - 5) else 0)), zI T h_kept 58 (X14_kept b_h)]) 9 rfl g2 rfl dX14_calm_17 ?_
  refine sx_aload_n X 0 rfl dX14_calm_18 rfl ?_
  refine sx_get X kX14 0 rfl 18 (Nat.le_of_ble_eq_true rfl) qm_1286 rfl dX14_calm_19 ?_
  refine sx_iconst X (v := 5) dX14_calm_22 rfl ?_
  refine sx_dup2 X dX14_calm_23 rfl rfl ?_
  obtain ⟨g3, hf⟩ := ob_g hf
  refine sx_iald X 9 rfl g3 dX14_calm_24 ?_
  refine sx_iconst X (v := 1) dX14_calm_25 rfl ?_
  refine sx_isub X dX14_calm_26 ?_
  obtain ⟨g4, hf⟩ := ob_g hf
  refine sx_iast X (ws' := [zO h 10 [.int (X14_thrown b_h), .ref h_tape, .int (X14_bytes b_h), .int (X14_errorAt b_h), .ref h_kind, .ref h_number, .ref h_position, .ref h_length, .int (X14_token b_h), .int (X14_isWrong b_h), .int (X14_error b_h), .int (X14_errorToken b_h), .int (X14_deep b_h), .ref h_frontName, .ref h_guestName, .ref h_told, .ref h_fresh, .ref h_value, .ref h_now, .ref h_kept], zI T h_tape 2000 (X14_tape b_h), zI T h_kind 402 (X14_kind b_h), zI T h_number 402 (X14_number b_h), zI T h_position 402 (X14_position b_h), zI T h_length 402 (X14_length b_h), zI T h_frontName 10 (X14_frontName b_h), zI T h_guestName 10 (X14_guestName b_h), zI T h_value 800 (X14_value b_h), zI T h_now 58 (upd (upd (X14_now b_h) (3 : Int32).toNatClampNeg (if 0 < (((X14_now b_h) (3 : Int32).toNatClampNeg) - 5) then (((X14_now b_h) (3 : Int32).toNatClampNeg) - 5) else 0)) (5 : Int32).toNatClampNeg (((upd (X14_now b_h) (3 : Int32).toNatClampNeg (if 0 < (((X14_now b_h) (3 : Int32).toNatClampNeg) - 5) then (((X14_now b_h) (3 : Int32).toNatClampNeg) - 5) else 0)) (5 : Int32).toNatClampNeg) - 1)), zI T h_kept 58 (X14_kept b_h)]) 9 rfl g4 rfl dX14_calm_27 ?_
  exact sx_vret X dX14_calm_28 (ob_e hf) rfl rfl

abbrev vf_X14_joined (sd : SdT) (r : Int32) : Option Value := some (.int r)
abbrev wc_X14_joined (T : Nat → ClassId) (sd : SdT)  : va_W := []
abbrev wf_X14_joined (T : Nat → ClassId) (sd : SdT)  (r : Int32) : va_W := []
abbrev rm_X14_joined : Room := { frames := 1, cells := 0, slots := 0, locals := 21 }
theorem hd_X14_joined : yX14_joined.cls ≠ "java/lang/invoke/MethodHandle" ∧ yX14_joined.cls ≠ "java/lang/invoke/VarHandle" ∧ (parseMethodDescriptor yX14_joined.desc).map (fun d => d.parameters.length) = some 3 := ⟨by decide, by decide, by decide +kernel⟩
theorem tin_X14_joined_1_0 (x : Int32) (h : x = 27) : SxIn (27) (57) #[175, 179, 163, 169, 227, 227, 227, 227, 227, 227, 227, 227, 227, 227, 227, 227, 227, 227, 227, 227, 227, 227, 227, 139, 143, 147, 151, 183, 194, 205, 216] (175) x := by
  rcases h with rfl <;> exact ⟨by decide, by decide, by decide⟩
theorem tin_X14_joined_1_1 (x : Int32) (h : x = 28) : SxIn (27) (57) #[175, 179, 163, 169, 227, 227, 227, 227, 227, 227, 227, 227, 227, 227, 227, 227, 227, 227, 227, 227, 227, 227, 227, 139, 143, 147, 151, 183, 194, 205, 216] (179) x := by
  rcases h with rfl <;> exact ⟨by decide, by decide, by decide⟩
theorem tin_X14_joined_1_2 (x : Int32) (h : x = 29) : SxIn (27) (57) #[175, 179, 163, 169, 227, 227, 227, 227, 227, 227, 227, 227, 227, 227, 227, 227, 227, 227, 227, 227, 227, 227, 227, 139, 143, 147, 151, 183, 194, 205, 216] (163) x := by
  rcases h with rfl <;> exact ⟨by decide, by decide, by decide⟩
theorem tin_X14_joined_1_3 (x : Int32) (h : x = 30) : SxIn (27) (57) #[175, 179, 163, 169, 227, 227, 227, 227, 227, 227, 227, 227, 227, 227, 227, 227, 227, 227, 227, 227, 227, 227, 227, 139, 143, 147, 151, 183, 194, 205, 216] (169) x := by
  rcases h with rfl <;> exact ⟨by decide, by decide, by decide⟩
theorem tin_X14_joined_1_4 (x : Int32) (h : x = 50) : SxIn (27) (57) #[175, 179, 163, 169, 227, 227, 227, 227, 227, 227, 227, 227, 227, 227, 227, 227, 227, 227, 227, 227, 227, 227, 227, 139, 143, 147, 151, 183, 194, 205, 216] (139) x := by
  rcases h with rfl <;> exact ⟨by decide, by decide, by decide⟩
theorem tin_X14_joined_1_5 (x : Int32) (h : x = 51) : SxIn (27) (57) #[175, 179, 163, 169, 227, 227, 227, 227, 227, 227, 227, 227, 227, 227, 227, 227, 227, 227, 227, 227, 227, 227, 227, 139, 143, 147, 151, 183, 194, 205, 216] (143) x := by
  rcases h with rfl <;> exact ⟨by decide, by decide, by decide⟩
theorem tin_X14_joined_1_6 (x : Int32) (h : x = 52) : SxIn (27) (57) #[175, 179, 163, 169, 227, 227, 227, 227, 227, 227, 227, 227, 227, 227, 227, 227, 227, 227, 227, 227, 227, 227, 227, 139, 143, 147, 151, 183, 194, 205, 216] (147) x := by
  rcases h with rfl <;> exact ⟨by decide, by decide, by decide⟩
theorem tin_X14_joined_1_7 (x : Int32) (h : x = 53) : SxIn (27) (57) #[175, 179, 163, 169, 227, 227, 227, 227, 227, 227, 227, 227, 227, 227, 227, 227, 227, 227, 227, 227, 227, 227, 227, 139, 143, 147, 151, 183, 194, 205, 216] (151) x := by
  rcases h with rfl <;> exact ⟨by decide, by decide, by decide⟩
theorem tin_X14_joined_1_8 (x : Int32) (h : x = 54) : SxIn (27) (57) #[175, 179, 163, 169, 227, 227, 227, 227, 227, 227, 227, 227, 227, 227, 227, 227, 227, 227, 227, 227, 227, 227, 227, 139, 143, 147, 151, 183, 194, 205, 216] (183) x := by
  rcases h with rfl <;> exact ⟨by decide, by decide, by decide⟩
theorem tin_X14_joined_1_9 (x : Int32) (h : x = 55) : SxIn (27) (57) #[175, 179, 163, 169, 227, 227, 227, 227, 227, 227, 227, 227, 227, 227, 227, 227, 227, 227, 227, 227, 227, 227, 227, 139, 143, 147, 151, 183, 194, 205, 216] (194) x := by
  rcases h with rfl <;> exact ⟨by decide, by decide, by decide⟩
theorem tin_X14_joined_1_10 (x : Int32) (h : x = 56) : SxIn (27) (57) #[175, 179, 163, 169, 227, 227, 227, 227, 227, 227, 227, 227, 227, 227, 227, 227, 227, 227, 227, 227, 227, 227, 227, 139, 143, 147, 151, 183, 194, 205, 216] (205) x := by
  rcases h with rfl <;> exact ⟨by decide, by decide, by decide⟩
theorem tin_X14_joined_1_11 (x : Int32) (h : x = 57) : SxIn (27) (57) #[175, 179, 163, 169, 227, 227, 227, 227, 227, 227, 227, 227, 227, 227, 227, 227, 227, 227, 227, 227, 227, 227, 227, 139, 143, 147, 151, 183, 194, 205, 216] (216) x := by
  rcases h with rfl <;> exact ⟨by decide, by decide, by decide⟩
theorem tab_X14_joined_1 (x : Int32) (c0 : ¬ (x = 27)) (c1 : ¬ (x = 28)) (c2 : ¬ (x = 29)) (c3 : ¬ (x = 30)) (c4 : ¬ (x = 50)) (c5 : ¬ (x = 51)) (c6 : ¬ (x = 52)) (c7 : ¬ (x = 53)) (c8 : ¬ (x = 54)) (c9 : ¬ (x = 55)) (c10 : ¬ (x = 56)) (c11 : ¬ (x = 57)) : SxTab (27) (57) #[175, 179, 163, 169, 227, 227, 227, 227, 227, 227, 227, 227, 227, 227, 227, 227, 227, 227, 227, 227, 227, 227, 227, 139, 143, 147, 151, 183, 194, 205, 216] (227) x := by
  refine sx_tabd [27, 28, 29, 30, 50, 51, 52, 53, 54, 55, 56, 57] x (by decide +kernel) (fun v hv e => ?_)
  simp only [List.mem_cons, List.not_mem_nil, or_false] at hv
  rcases hv with h | h | h | h | h | h | h | h | h | h | h | h
  · exact c0 (e.trans h)
  · exact c1 (e.trans h)
  · exact c2 (e.trans h)
  · exact c3 (e.trans h)
  · exact c4 (e.trans h)
  · exact c5 (e.trans h)
  · exact c6 (e.trans h)
  · exact c7 (e.trans h)
  · exact c8 (e.trans h)
  · exact c9 (e.trans h)
  · exact c10 (e.trans h)
  · exact c11 (e.trans h)
set_option maxHeartbeats 4000000 in
set_option maxRecDepth 100000 in
theorem c_X14_joined {l : Launch} {D : va_G} {T : Nat → ClassId} {sd : SdT}  (x0 : Int32) (x1 : Int32) (x2 : Int32) {res : Int32} (hf : f_X14_joined x0 x1 x2 = some res) : SxK (SFx sd) l D T yX14_joined cX14_joined 3 (some .int) rm_X14_joined [.int x0, .int x1, .int x2] (wc_X14_joined T sd ) (vf_X14_joined sd) (wf_X14_joined T sd ) res 0 0 := by
  refine sx_start (SFx_ok sd) (by decide +kernel) (Nat.le_of_ble_eq_true rfl) (fun p e s m args below meth c A X hnm => ?_)
  have hf := ob_1 hf
  refine sx_iload_n X 0 rfl dX14_joined_0 rfl ?_
  by_cases c1 : x0 = 27
  · have hf := ob_t hf c1
    refine sx_tin X 176 dX14_joined_1 rfl (tin_X14_joined_1_0 x0 c1) ?_
    refine sx_iload_n X 1 rfl dX14_joined_176 rfl ?_
    refine sx_iload_n X 2 rfl dX14_joined_177 rfl ?_
    refine sx_iand X dX14_joined_178 ?_
    exact sx_iret X rfl dX14_joined_179 (ob_e hf) rfl rfl
  · have hf := ob_f hf c1
    by_cases c2 : x0 = 28
    · have hf := ob_t hf c2
      refine sx_tin X 180 dX14_joined_1 rfl (tin_X14_joined_1_1 x0 c2) ?_
      refine sx_iload_n X 1 rfl dX14_joined_180 rfl ?_
      refine sx_iload_n X 2 rfl dX14_joined_181 rfl ?_
      refine sx_ior X dX14_joined_182 ?_
      exact sx_iret X rfl dX14_joined_183 (ob_e hf) rfl rfl
    · have hf := ob_f hf c2
      by_cases c3 : x0 = 29
      · have hf := ob_t hf c3
        refine sx_tin X 164 dX14_joined_1 rfl (tin_X14_joined_1_2 x0 c3) ?_
        refine sx_iload_n X 1 rfl dX14_joined_164 rfl ?_
        refine sx_iload_n X 2 rfl dX14_joined_165 rfl ?_
        refine sx_min X qm_1409 qm_835 qm_93 qm_836 (Nat.le_of_ble_eq_true rfl) (Nat.le_of_ble_eq_true rfl) (Nat.zero_le _) (Nat.zero_le _) dX14_joined_166 ?_
        exact sx_iret X rfl dX14_joined_169 (ob_e hf) rfl rfl
      · have hf := ob_f hf c3
        by_cases c4 : x0 = 30
        · have hf := ob_t hf c4
          refine sx_tin X 170 dX14_joined_1 rfl (tin_X14_joined_1_3 x0 c4) ?_
          refine sx_iload_n X 1 rfl dX14_joined_170 rfl ?_
          refine sx_iload_n X 2 rfl dX14_joined_171 rfl ?_
          refine sx_max X qm_1454 qm_838 qm_93 qm_839 (Nat.le_of_ble_eq_true rfl) (Nat.le_of_ble_eq_true rfl) (Nat.zero_le _) (Nat.zero_le _) dX14_joined_172 ?_
          exact sx_iret X rfl dX14_joined_175 (ob_e hf) rfl rfl
        · have hf := ob_f hf c4
          by_cases c5 : x0 = 50
          · have hf := ob_t hf c5
            refine sx_tin X 140 dX14_joined_1 rfl (tin_X14_joined_1_4 x0 c5) ?_
            refine sx_iload_n X 1 rfl dX14_joined_140 rfl ?_
            refine sx_iload_n X 2 rfl dX14_joined_141 rfl ?_
            refine sx_iadd X dX14_joined_142 ?_
            exact sx_iret X rfl dX14_joined_143 (ob_e hf) rfl rfl
          · have hf := ob_f hf c5
            by_cases c6 : x0 = 51
            · have hf := ob_t hf c6
              refine sx_tin X 144 dX14_joined_1 rfl (tin_X14_joined_1_5 x0 c6) ?_
              refine sx_iload_n X 1 rfl dX14_joined_144 rfl ?_
              refine sx_iload_n X 2 rfl dX14_joined_145 rfl ?_
              refine sx_isub X dX14_joined_146 ?_
              exact sx_iret X rfl dX14_joined_147 (ob_e hf) rfl rfl
            · have hf := ob_f hf c6
              by_cases c7 : x0 = 52
              · have hf := ob_t hf c7
                refine sx_tin X 148 dX14_joined_1 rfl (tin_X14_joined_1_6 x0 c7) ?_
                refine sx_iload_n X 1 rfl dX14_joined_148 rfl ?_
                refine sx_iload_n X 2 rfl dX14_joined_149 rfl ?_
                refine sx_imul X dX14_joined_150 ?_
                exact sx_iret X rfl dX14_joined_151 (ob_e hf) rfl rfl
              · have hf := ob_f hf c7
                by_cases c8 : x0 = 53
                · have hf := ob_t hf c8
                  refine sx_tin X 152 dX14_joined_1 rfl (tin_X14_joined_1_7 x0 c8) ?_
                  refine sx_iload_n X 2 rfl dX14_joined_152 rfl ?_
                  refine sx_if_ne X 160 dX14_joined_153 rfl (fun c9 => ?_) (fun c9 => ?_)
                  · have hf := ob_f hf c9
                    refine sx_iload_n X 1 rfl dX14_joined_160 rfl ?_
                    refine sx_iload_n X 2 rfl dX14_joined_161 rfl ?_
                    obtain ⟨g10, hf⟩ := ob_g hf
                    refine sx_idiv X g10 dX14_joined_162 ?_
                    exact sx_iret X rfl dX14_joined_163 (ob_e hf) rfl rfl
                  · have hf := ob_t hf c9
                    refine sx_iconst X (v := 0) dX14_joined_156 rfl ?_
                    refine sx_goto X 163 dX14_joined_157 rfl ?_
                    exact sx_iret X rfl dX14_joined_163 (ob_e hf) rfl rfl
                · have hf := ob_f hf c8
                  by_cases c11 : x0 = 54
                  · have hf := ob_t hf c11
                    refine sx_tin X 184 dX14_joined_1 rfl (tin_X14_joined_1_8 x0 c11) ?_
                    refine sx_iload_n X 1 rfl dX14_joined_184 rfl ?_
                    refine sx_iload_n X 2 rfl dX14_joined_185 rfl ?_
                    refine sx_icmp_ge X 193 dX14_joined_186 rfl (fun c12 => ?_) (fun c12 => ?_)
                    · have hf := ob_t hf c12
                      refine sx_iconst X (v := 0) dX14_joined_193 rfl ?_
                      exact sx_iret X rfl dX14_joined_194 (ob_e hf) rfl rfl
                    · have hf := ob_f hf c12
                      refine sx_iconst X (v := 1) dX14_joined_189 rfl ?_
                      refine sx_goto X 194 dX14_joined_190 rfl ?_
                      exact sx_iret X rfl dX14_joined_194 (ob_e hf) rfl rfl
                  · have hf := ob_f hf c11
                    by_cases c13 : x0 = 55
                    · have hf := ob_t hf c13
                      refine sx_tin X 195 dX14_joined_1 rfl (tin_X14_joined_1_9 x0 c13) ?_
                      refine sx_iload_n X 1 rfl dX14_joined_195 rfl ?_
                      refine sx_iload_n X 2 rfl dX14_joined_196 rfl ?_
                      refine sx_icmp_le X 204 dX14_joined_197 rfl (fun c14 => ?_) (fun c14 => ?_)
                      · have hf := ob_t hf c14
                        refine sx_iconst X (v := 0) dX14_joined_204 rfl ?_
                        exact sx_iret X rfl dX14_joined_205 (ob_e hf) rfl rfl
                      · have hf := ob_f hf c14
                        refine sx_iconst X (v := 1) dX14_joined_200 rfl ?_
                        refine sx_goto X 205 dX14_joined_201 rfl ?_
                        exact sx_iret X rfl dX14_joined_205 (ob_e hf) rfl rfl
                    · have hf := ob_f hf c13
                      by_cases c15 : x0 = 56
                      · have hf := ob_t hf c15
                        refine sx_tin X 206 dX14_joined_1 rfl (tin_X14_joined_1_10 x0 c15) ?_
                        refine sx_iload_n X 1 rfl dX14_joined_206 rfl ?_
                        refine sx_iload_n X 2 rfl dX14_joined_207 rfl ?_
                        refine sx_icmp_ne X 215 dX14_joined_208 rfl (fun c16 => ?_) (fun c16 => ?_)
                        · have hf := ob_f hf c16
                          refine sx_iconst X (v := 0) dX14_joined_215 rfl ?_
                          exact sx_iret X rfl dX14_joined_216 (ob_e hf) rfl rfl
                        · have hf := ob_t hf c16
                          refine sx_iconst X (v := 1) dX14_joined_211 rfl ?_
                          refine sx_goto X 216 dX14_joined_212 rfl ?_
                          exact sx_iret X rfl dX14_joined_216 (ob_e hf) rfl rfl
                      · have hf := ob_f hf c15
                        by_cases c17 : x0 = 57
                        · have hf := ob_t hf c17
                          refine sx_tin X 217 dX14_joined_1 rfl (tin_X14_joined_1_11 x0 c17) ?_
                          refine sx_iload_n X 1 rfl dX14_joined_217 rfl ?_
                          refine sx_iload_n X 2 rfl dX14_joined_218 rfl ?_
                          refine sx_icmp_gt X 226 dX14_joined_219 rfl (fun c18 => ?_) (fun c18 => ?_)
                          · have hf := ob_t hf c18
                            refine sx_iconst X (v := 0) dX14_joined_226 rfl ?_
                            exact sx_iret X rfl dX14_joined_227 (ob_e hf) rfl rfl
                          · have hf := ob_f hf c18
                            refine sx_iconst X (v := 1) dX14_joined_222 rfl ?_
                            refine sx_goto X 227 dX14_joined_223 rfl ?_
                            exact sx_iret X rfl dX14_joined_227 (ob_e hf) rfl rfl
                        · have hf := ob_f hf c17
                          refine sx_tdef X 228 dX14_joined_1 rfl (tab_X14_joined_1 x0 c1 c2 c3 c4 c5 c6 c7 c8 c11 c13 c15 c17) ?_
                          refine sx_iload_n X 1 rfl dX14_joined_228 rfl ?_
                          refine sx_iload_n X 2 rfl dX14_joined_229 rfl ?_
                          refine sx_icmp_lt X 237 dX14_joined_230 rfl (fun c19 => ?_) (fun c19 => ?_)
                          · have hf := ob_t hf c19
                            refine sx_iconst X (v := 0) dX14_joined_237 rfl ?_
                            exact sx_iret X rfl dX14_joined_238 (ob_e hf) rfl rfl
                          · have hf := ob_f hf c19
                            refine sx_iconst X (v := 1) dX14_joined_233 rfl ?_
                            refine sx_goto X 238 dX14_joined_234 rfl ?_
                            exact sx_iret X rfl dX14_joined_238 (ob_e hf) rfl rfl

abbrev vf_X14_reckon (sd : SdT) (r : Int32) : Option Value := some (.int r)
abbrev wc_X14_reckon (T : Nat → ClassId) (sd : SdT) (h : Nat) (h_tape : Nat) (h_kind : Nat) (h_number : Nat) (h_position : Nat) (h_length : Nat) (h_frontName : Nat) (h_guestName : Nat) (h_told : Nat) (h_fresh : Nat) (h_value : Nat) (h_now : Nat) (h_kept : Nat) (h_told_warm : Nat) (h_told_force : Nat) (h_told_comes : Nat) (h_told_stays : Nat) (h_told_sits : Nat) (h_told_low : Nat) (h_told_high : Nat) (h_told_nerve : Nat) (h_told_does : Nat) (h_told_whom : Nat) (h_told_from : Nat) (h_told_to : Nat) (h_told_test : Nat) (h_told_sort : Nat) (h_told_left : Nat) (h_told_right : Nat) (b_h : bX14) (b_h_told : bX13) : va_W := [zO h 10 [.int (X14_thrown b_h), .ref h_tape, .int (X14_bytes b_h), .int (X14_errorAt b_h), .ref h_kind, .ref h_number, .ref h_position, .ref h_length, .int (X14_token b_h), .int (X14_isWrong b_h), .int (X14_error b_h), .int (X14_errorToken b_h), .int (X14_deep b_h), .ref h_frontName, .ref h_guestName, .ref h_told, .ref h_fresh, .ref h_value, .ref h_now, .ref h_kept], zI T h_tape 2000 (X14_tape b_h), zI T h_kind 402 (X14_kind b_h), zI T h_number 402 (X14_number b_h), zI T h_position 402 (X14_position b_h), zI T h_length 402 (X14_length b_h), zI T h_frontName 10 (X14_frontName b_h), zI T h_guestName 10 (X14_guestName b_h), zI T h_value 800 (X14_value b_h), zI T h_now 58 (X14_now b_h), zI T h_kept 58 (X14_kept b_h), zO h_told 9 [.int (X13_fronts b_h_told), .ref h_told_warm, .ref h_told_force, .ref h_told_comes, .ref h_told_stays, .int (X13_guests b_h_told), .ref h_told_sits, .ref h_told_low, .ref h_told_high, .ref h_told_nerve, .int (X13_orders b_h_told), .ref h_told_does, .ref h_told_whom, .ref h_told_from, .ref h_told_to, .ref h_told_test, .int (X13_nodes b_h_told), .ref h_told_sort, .ref h_told_left, .ref h_told_right], zI T h_told_warm 11 (X13_warm b_h_told), zI T h_told_force 11 (X13_force b_h_told), zI T h_told_comes 11 (X13_comes b_h_told), zI T h_told_stays 11 (X13_stays b_h_told), zI T h_told_sits 11 (X13_sits b_h_told), zI T h_told_low 11 (X13_low b_h_told), zI T h_told_high 11 (X13_high b_h_told), zI T h_told_nerve 11 (X13_nerve b_h_told), zI T h_told_does 17 (X13_does b_h_told), zI T h_told_whom 17 (X13_whom b_h_told), zI T h_told_from 17 (X13_from b_h_told), zI T h_told_to 17 (X13_to b_h_told), zI T h_told_test 17 (X13_test b_h_told), zI T h_told_sort 800 (X13_sort b_h_told), zI T h_told_left 800 (X13_left b_h_told), zI T h_told_right 800 (X13_right b_h_told)]
abbrev wf_X14_reckon (T : Nat → ClassId) (sd : SdT) (h : Nat) (h_tape : Nat) (h_kind : Nat) (h_number : Nat) (h_position : Nat) (h_length : Nat) (h_frontName : Nat) (h_guestName : Nat) (h_told : Nat) (h_fresh : Nat) (h_value : Nat) (h_now : Nat) (h_kept : Nat) (h_told_warm : Nat) (h_told_force : Nat) (h_told_comes : Nat) (h_told_stays : Nat) (h_told_sits : Nat) (h_told_low : Nat) (h_told_high : Nat) (h_told_nerve : Nat) (h_told_does : Nat) (h_told_whom : Nat) (h_told_from : Nat) (h_told_to : Nat) (h_told_test : Nat) (h_told_sort : Nat) (h_told_left : Nat) (h_told_right : Nat) (b_h : bX14) (b_h_told : bX13) (r : Int32) : va_W := [zO h 10 [.int (X14_thrown b_h), .ref h_tape, .int (X14_bytes b_h), .int (X14_errorAt b_h), .ref h_kind, .ref h_number, .ref h_position, .ref h_length, .int (X14_token b_h), .int (X14_isWrong b_h), .int (X14_error b_h), .int (X14_errorToken b_h), .int (X14_deep b_h), .ref h_frontName, .ref h_guestName, .ref h_told, .ref h_fresh, .ref h_value, .ref h_now, .ref h_kept], zI T h_tape 2000 (X14_tape b_h), zI T h_kind 402 (X14_kind b_h), zI T h_number 402 (X14_number b_h), zI T h_position 402 (X14_position b_h), zI T h_length 402 (X14_length b_h), zI T h_frontName 10 (X14_frontName b_h), zI T h_guestName 10 (X14_guestName b_h), zI T h_value 800 (X14_value b_h), zI T h_now 58 (X14_now b_h), zI T h_kept 58 (X14_kept b_h), zO h_told 9 [.int (X13_fronts b_h_told), .ref h_told_warm, .ref h_told_force, .ref h_told_comes, .ref h_told_stays, .int (X13_guests b_h_told), .ref h_told_sits, .ref h_told_low, .ref h_told_high, .ref h_told_nerve, .int (X13_orders b_h_told), .ref h_told_does, .ref h_told_whom, .ref h_told_from, .ref h_told_to, .ref h_told_test, .int (X13_nodes b_h_told), .ref h_told_sort, .ref h_told_left, .ref h_told_right], zI T h_told_warm 11 (X13_warm b_h_told), zI T h_told_force 11 (X13_force b_h_told), zI T h_told_comes 11 (X13_comes b_h_told), zI T h_told_stays 11 (X13_stays b_h_told), zI T h_told_sits 11 (X13_sits b_h_told), zI T h_told_low 11 (X13_low b_h_told), zI T h_told_high 11 (X13_high b_h_told), zI T h_told_nerve 11 (X13_nerve b_h_told), zI T h_told_does 17 (X13_does b_h_told), zI T h_told_whom 17 (X13_whom b_h_told), zI T h_told_from 17 (X13_from b_h_told), zI T h_told_to 17 (X13_to b_h_told), zI T h_told_test 17 (X13_test b_h_told), zI T h_told_sort 800 (X13_sort b_h_told), zI T h_told_left 800 (X13_left b_h_told), zI T h_told_right 800 (X13_right b_h_told)]
abbrev rm_X14_reckon : Room := { frames := 2, cells := 0, slots := 0, locals := 43 }
theorem hd_X14_reckon : yX14_reckon.cls ≠ "java/lang/invoke/MethodHandle" ∧ yX14_reckon.cls ≠ "java/lang/invoke/VarHandle" ∧ (parseMethodDescriptor yX14_reckon.desc).map (fun d => d.parameters.length) = some 3 := ⟨by decide, by decide, by decide +kernel⟩
theorem lin_X14_reckon_24_0 (x : Int32) (h : x = 6) : Op.lookupswitch.offset [(6, 86), (22, 106), (23, 96), (24, 78), (25, 116), (26, 138), (41, 76), (70, 130)] (147) x.toInt = 86 := by
  rcases h with rfl <;> decide
theorem lin_X14_reckon_24_1 (x : Int32) (h : x = 22) : Op.lookupswitch.offset [(6, 86), (22, 106), (23, 96), (24, 78), (25, 116), (26, 138), (41, 76), (70, 130)] (147) x.toInt = 106 := by
  rcases h with rfl <;> decide
theorem lin_X14_reckon_24_2 (x : Int32) (h : x = 23) : Op.lookupswitch.offset [(6, 86), (22, 106), (23, 96), (24, 78), (25, 116), (26, 138), (41, 76), (70, 130)] (147) x.toInt = 96 := by
  rcases h with rfl <;> decide
theorem lin_X14_reckon_24_3 (x : Int32) (h : x = 24) : Op.lookupswitch.offset [(6, 86), (22, 106), (23, 96), (24, 78), (25, 116), (26, 138), (41, 76), (70, 130)] (147) x.toInt = 78 := by
  rcases h with rfl <;> decide
theorem lin_X14_reckon_24_4 (x : Int32) (h : x = 25) : Op.lookupswitch.offset [(6, 86), (22, 106), (23, 96), (24, 78), (25, 116), (26, 138), (41, 76), (70, 130)] (147) x.toInt = 116 := by
  rcases h with rfl <;> decide
theorem lin_X14_reckon_24_5 (x : Int32) (h : x = 26) : Op.lookupswitch.offset [(6, 86), (22, 106), (23, 96), (24, 78), (25, 116), (26, 138), (41, 76), (70, 130)] (147) x.toInt = 138 := by
  rcases h with rfl <;> decide
theorem lin_X14_reckon_24_6 (x : Int32) (h : x = 41) : Op.lookupswitch.offset [(6, 86), (22, 106), (23, 96), (24, 78), (25, 116), (26, 138), (41, 76), (70, 130)] (147) x.toInt = 76 := by
  rcases h with rfl <;> decide
theorem lin_X14_reckon_24_7 (x : Int32) (h : x = 70) : Op.lookupswitch.offset [(6, 86), (22, 106), (23, 96), (24, 78), (25, 116), (26, 138), (41, 76), (70, 130)] (147) x.toInt = 130 := by
  rcases h with rfl <;> decide
theorem lk_X14_reckon_24 (x : Int32) (c0 : ¬ (x = 6)) (c1 : ¬ (x = 22)) (c2 : ¬ (x = 23)) (c3 : ¬ (x = 24)) (c4 : ¬ (x = 25)) (c5 : ¬ (x = 26)) (c6 : ¬ (x = 41)) (c7 : ¬ (x = 70)) : Op.lookupswitch.offset [(6, 86), (22, 106), (23, 96), (24, 78), (25, 116), (26, 138), (41, 76), (70, 130)] (147) x.toInt = 147 := by
  rw [lv_osw (k := 6) (fun q => c0 (by rw [q]; first | done | decide)) (by decide), lv_osw (k := 22) (fun q => c1 (by rw [q]; first | done | decide)) (by decide), lv_osw (k := 23) (fun q => c2 (by rw [q]; first | done | decide)) (by decide), lv_osw (k := 24) (fun q => c3 (by rw [q]; first | done | decide)) (by decide), lv_osw (k := 25) (fun q => c4 (by rw [q]; first | done | decide)) (by decide), lv_osw (k := 26) (fun q => c5 (by rw [q]; first | done | decide)) (by decide), lv_osw (k := 41) (fun q => c6 (by rw [q]; first | done | decide)) (by decide), lv_osw (k := 70) (fun q => c7 (by rw [q]; first | done | decide)) (by decide)]
  rfl
set_option maxHeartbeats 4000000 in
set_option maxRecDepth 100000 in
theorem c_X14_reckon {l : Launch} {D : va_G} {T : Nat → ClassId} {sd : SdT} (h : Nat) (h_tape : Nat) (h_kind : Nat) (h_number : Nat) (h_position : Nat) (h_length : Nat) (h_frontName : Nat) (h_guestName : Nat) (h_told : Nat) (h_fresh : Nat) (h_value : Nat) (h_now : Nat) (h_kept : Nat) (h_told_warm : Nat) (h_told_force : Nat) (h_told_comes : Nat) (h_told_stays : Nat) (h_told_sits : Nat) (h_told_low : Nat) (h_told_high : Nat) (h_told_nerve : Nat) (h_told_does : Nat) (h_told_whom : Nat) (h_told_from : Nat) (h_told_to : Nat) (h_told_test : Nat) (h_told_sort : Nat) (h_told_left : Nat) (h_told_right : Nat) (x0 : Int32) (x1 : Int32) (x2 : Int32) (b_h : bX14) (b_h_told : bX13) {res : Int32} (hf : f_X14_reckon x0 x1 x2 b_h b_h_told = some res) : SxK (SFx sd) l D T yX14_reckon cX14_reckon 4 (some .int) rm_X14_reckon [.ref h, .int x0, .int x1, .int x2] (wc_X14_reckon T sd h h_tape h_kind h_number h_position h_length h_frontName h_guestName h_told h_fresh h_value h_now h_kept h_told_warm h_told_force h_told_comes h_told_stays h_told_sits h_told_low h_told_high h_told_nerve h_told_does h_told_whom h_told_from h_told_to h_told_test h_told_sort h_told_left h_told_right b_h b_h_told) (vf_X14_reckon sd) (wf_X14_reckon T sd h h_tape h_kind h_number h_position h_length h_frontName h_guestName h_told h_fresh h_value h_now h_kept h_told_warm h_told_force h_told_comes h_told_stays h_told_sits h_told_low h_told_high h_told_nerve h_told_does h_told_whom h_told_from h_told_to h_told_test h_told_sort h_told_left h_told_right b_h b_h_told) res 0 0 := by
  refine sx_start (SFx_ok sd) (by decide +kernel) (Nat.le_of_ble_eq_true rfl) (fun p e s m args below meth c A X hnm => ?_)
  have hf := ob_1 hf
  refine sx_iload_n X 1 rfl dX14_reckon_0 rfl ?_
  refine sx_bipush X (v := 16) dX14_reckon_1 rfl ?_
  refine sx_bipush X (v := 21) dX14_reckon_3 rfl ?_
  obtain ⟨u1, hu1, hf⟩ := ob_c hf
  refine sx_cSr X (c_X14_isIn (l := l) (D := D) (T := T) (sd := sd) x0 16 21 hu1) (st' := [.int u1]) qm_1345 qm_1346 qm_79 qm_1347 hd_X14_isIn ⟨rfl, rfl⟩ ⟨Nat.le_of_ble_eq_true rfl, Nat.le_of_ble_eq_true rfl⟩ rfl rfl (Nat.le_of_ble_eq_true rfl) [] rfl rfl rfl ⟨Nat.le_of_ble_eq_true rfl, Nat.le_of_ble_eq_true rfl⟩ dX14_reckon_5 rfl ?_
  refine sx_if_eq X 23 dX14_reckon_8 rfl (fun c2 => ?_) (fun c2 => ?_)
  · have hf := ob_t hf c2
    refine sx_iload_n X 1 rfl dX14_reckon_23 rfl ?_
    by_cases c3 : x0 = 6
    · have hf := ob_t hf c3
      refine sx_lookup X 110 (off := 86) (lin_X14_reckon_24_0 x0 c3) dX14_reckon_24 (by decide) rfl ?_
      refine sx_aload_n X 0 rfl dX14_reckon_110 rfl ?_
      refine sx_get X kX14 0 rfl 15 (Nat.le_of_ble_eq_true rfl) qm_1283 rfl dX14_reckon_111 ?_
      refine sx_getN X kX13 11 rfl 2 (Nat.le_of_ble_eq_true rfl) (List.mem_of_getElem? (i := 3) rfl) rfl dX14_reckon_114 ?_
      refine sx_iload_n X 2 rfl dX14_reckon_117 rfl ?_
      obtain ⟨g4, hf⟩ := ob_g hf
      refine sx_iald X 13 rfl g4 dX14_reckon_118 ?_
      exact sx_iret X rfl dX14_reckon_119 (ob_e hf) rfl rfl
    · have hf := ob_f hf c3
      by_cases c5 : x0 = 22
      · have hf := ob_t hf c5
        refine sx_lookup X 130 (off := 106) (lin_X14_reckon_24_1 x0 c5) dX14_reckon_24 (by decide) rfl ?_
        refine sx_aload_n X 0 rfl dX14_reckon_130 rfl ?_
        refine sx_get X kX14 0 rfl 18 (Nat.le_of_ble_eq_true rfl) qm_1286 rfl dX14_reckon_131 ?_
        refine sx_bipush X (v := 28) dX14_reckon_134 rfl ?_
        refine sx_iload_n X 2 rfl dX14_reckon_136 rfl ?_
        refine sx_iadd X dX14_reckon_137 ?_
        obtain ⟨g6, hf⟩ := ob_g hf
        refine sx_iald X 9 rfl g6 dX14_reckon_138 ?_
        exact sx_iret X rfl dX14_reckon_139 (ob_e hf) rfl rfl
      · have hf := ob_f hf c5
        by_cases c7 : x0 = 23
        · have hf := ob_t hf c7
          refine sx_lookup X 120 (off := 96) (lin_X14_reckon_24_2 x0 c7) dX14_reckon_24 (by decide) rfl ?_
          refine sx_aload_n X 0 rfl dX14_reckon_120 rfl ?_
          refine sx_get X kX14 0 rfl 18 (Nat.le_of_ble_eq_true rfl) qm_1286 rfl dX14_reckon_121 ?_
          refine sx_bipush X (v := 8) dX14_reckon_124 rfl ?_
          refine sx_iload_n X 2 rfl dX14_reckon_126 rfl ?_
          refine sx_iadd X dX14_reckon_127 ?_
          obtain ⟨g8, hf⟩ := ob_g hf
          refine sx_iald X 9 rfl g8 dX14_reckon_128 ?_
          exact sx_iret X rfl dX14_reckon_129 (ob_e hf) rfl rfl
        · have hf := ob_f hf c7
          by_cases c9 : x0 = 24
          · have hf := ob_t hf c9
            refine sx_lookup X 102 (off := 78) (lin_X14_reckon_24_3 x0 c9) dX14_reckon_24 (by decide) rfl ?_
            refine sx_aload_n X 0 rfl dX14_reckon_102 rfl ?_
            refine sx_get X kX14 0 rfl 18 (Nat.le_of_ble_eq_true rfl) qm_1286 rfl dX14_reckon_103 ?_
            refine sx_bipush X (v := 6) dX14_reckon_106 rfl ?_
            obtain ⟨g10, hf⟩ := ob_g hf
            refine sx_iald X 9 rfl g10 dX14_reckon_108 ?_
            exact sx_iret X rfl dX14_reckon_109 (ob_e hf) rfl rfl
          · have hf := ob_f hf c9
            by_cases c11 : x0 = 25
            · have hf := ob_t hf c11
              refine sx_lookup X 140 (off := 116) (lin_X14_reckon_24_4 x0 c11) dX14_reckon_24 (by decide) rfl ?_
              refine sx_aload_n X 0 rfl dX14_reckon_140 rfl ?_
              refine sx_iload_n X 2 rfl dX14_reckon_141 rfl ?_
              obtain ⟨u12, hu12, hf⟩ := ob_c hf
              refine sx_cVr X (c_X14_likes (l := l) (D := D) (T := T) (sd := sd) h h_tape h_kind h_number h_position h_length h_frontName h_guestName h_told h_fresh h_value h_now h_kept h_told_warm h_told_force h_told_comes h_told_stays h_told_sits h_told_low h_told_high h_told_nerve h_told_does h_told_whom h_told_from h_told_to h_told_test h_told_sort h_told_left h_told_right x1 b_h b_h_told hu12) (st' := [.int u12]) (q0 := 0) qm_1609 qm_1611 qm_52 qm_79 qm_1612 hd_X14_likes ⟨rfl, rfl⟩ ⟨Nat.le_of_ble_eq_true rfl, Nat.le_of_ble_eq_true rfl⟩ rfl rfl (Nat.le_of_ble_eq_true rfl) rfl rfl rfl [0, 1, 2, 3, 4, 5, 6, 7, 8, 9, 10, 11, 12, 13, 14, 15, 16, 17, 18, 19, 20, 21, 22, 23, 24, 25, 26, 27] rfl rfl rfl ⟨Nat.le_of_ble_eq_true rfl, Nat.le_of_ble_eq_true rfl⟩ dX14_reckon_142 rfl ?_
              refine sx_if_eq X 152 dX14_reckon_145 rfl (fun c13 => ?_) (fun c13 => ?_)
              · have hf := ob_t hf c13
                refine sx_iconst X (v := 0) dX14_reckon_152 rfl ?_
                exact sx_iret X rfl dX14_reckon_153 (ob_e hf) rfl rfl
              · have hf := ob_f hf c13
                refine sx_iconst X (v := 1) dX14_reckon_148 rfl ?_
                refine sx_goto X 153 dX14_reckon_149 rfl ?_
                exact sx_iret X rfl dX14_reckon_153 (ob_e hf) rfl rfl
            · have hf := ob_f hf c11
              by_cases c14 : x0 = 26
              · have hf := ob_t hf c14
                refine sx_lookup X 162 (off := 138) (lin_X14_reckon_24_5 x0 c14) dX14_reckon_24 (by decide) rfl ?_
                refine sx_iconst X (v := 1) dX14_reckon_162 rfl ?_
                refine sx_aload_n X 0 rfl dX14_reckon_163 rfl ?_
                refine sx_get X kX14 0 rfl 17 (Nat.le_of_ble_eq_true rfl) qm_1285 rfl dX14_reckon_164 ?_
                refine sx_iload_n X 2 rfl dX14_reckon_167 rfl ?_
                obtain ⟨g15, hf⟩ := ob_g hf
                refine sx_iald X 8 rfl g15 dX14_reckon_168 ?_
                refine sx_isub X dX14_reckon_169 ?_
                exact sx_iret X rfl dX14_reckon_170 (ob_e hf) rfl rfl
              · have hf := ob_f hf c14
                by_cases c16 : x0 = 41
                · have hf := ob_t hf c16
                  refine sx_lookup X 100 (off := 76) (lin_X14_reckon_24_6 x0 c16) dX14_reckon_24 (by decide) rfl ?_
                  refine sx_iload_n X 2 rfl dX14_reckon_100 rfl ?_
                  exact sx_iret X rfl dX14_reckon_101 (ob_e hf) rfl rfl
                · have hf := ob_f hf c16
                  by_cases c17 : x0 = 70
                  · have hf := ob_t hf c17
                    refine sx_lookup X 154 (off := 130) (lin_X14_reckon_24_7 x0 c17) dX14_reckon_24 (by decide) rfl ?_
                    refine sx_aload_n X 0 rfl dX14_reckon_154 rfl ?_
                    refine sx_get X kX14 0 rfl 17 (Nat.le_of_ble_eq_true rfl) qm_1285 rfl dX14_reckon_155 ?_
                    refine sx_iload_n X 2 rfl dX14_reckon_158 rfl ?_
                    obtain ⟨g18, hf⟩ := ob_g hf
                    refine sx_iald X 8 rfl g18 dX14_reckon_159 ?_
                    refine sx_ineg X dX14_reckon_160 ?_
                    exact sx_iret X rfl dX14_reckon_161 (ob_e hf) rfl rfl
                  · have hf := ob_f hf c17
                    refine sx_lookup X 171 (off := 147) (lk_X14_reckon_24 x0 c3 c5 c7 c9 c11 c14 c16 c17) dX14_reckon_24 (by decide) rfl ?_
                    refine sx_iload_n X 1 rfl dX14_reckon_171 rfl ?_
                    refine sx_aload_n X 0 rfl dX14_reckon_172 rfl ?_
                    refine sx_get X kX14 0 rfl 17 (Nat.le_of_ble_eq_true rfl) qm_1285 rfl dX14_reckon_173 ?_
                    refine sx_iload_n X 2 rfl dX14_reckon_176 rfl ?_
                    obtain ⟨g19, hf⟩ := ob_g hf
                    refine sx_iald X 8 rfl g19 dX14_reckon_177 ?_
                    refine sx_aload_n X 0 rfl dX14_reckon_178 rfl ?_
                    refine sx_get X kX14 0 rfl 17 (Nat.le_of_ble_eq_true rfl) qm_1285 rfl dX14_reckon_179 ?_
                    refine sx_iload_n X 3 rfl dX14_reckon_182 rfl ?_
                    obtain ⟨g20, hf⟩ := ob_g hf
                    refine sx_iald X 8 rfl g20 dX14_reckon_183 ?_
                    obtain ⟨u21, hu21, hf⟩ := ob_c hf
                    refine sx_cSr X (c_X14_joined (l := l) (D := D) (T := T) (sd := sd) x0 ((X14_value b_h) x1.toNatClampNeg) ((X14_value b_h) x2.toNatClampNeg) hu21) (st' := [.int u21]) qm_1677 qm_1678 qm_79 qm_1679 hd_X14_joined ⟨rfl, rfl⟩ ⟨Nat.le_of_ble_eq_true rfl, Nat.le_of_ble_eq_true rfl⟩ rfl rfl (Nat.le_of_ble_eq_true rfl) [] rfl rfl rfl ⟨Nat.le_of_ble_eq_true rfl, Nat.le_of_ble_eq_true rfl⟩ dX14_reckon_184 rfl ?_
                    exact sx_iret X rfl dX14_reckon_187 (ob_e hf) rfl rfl
  · have hf := ob_f hf c2
    refine sx_aload_n X 0 rfl dX14_reckon_11 rfl ?_
    refine sx_get X kX14 0 rfl 18 (Nat.le_of_ble_eq_true rfl) qm_1286 rfl dX14_reckon_12 ?_
    refine sx_iconst X (v := 0) dX14_reckon_15 rfl ?_
    refine sx_iload_n X 1 rfl dX14_reckon_16 rfl ?_
    refine sx_iadd X dX14_reckon_17 ?_
    refine sx_bipush X (v := 16) dX14_reckon_18 rfl ?_
    refine sx_isub X dX14_reckon_20 ?_
    obtain ⟨g22, hf⟩ := ob_g hf
    refine sx_iald X 9 rfl g22 dX14_reckon_21 ?_
    exact sx_iret X rfl dX14_reckon_22 (ob_e hf) rfl rfl
