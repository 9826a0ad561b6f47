/-! contracts, part 8 -/
abbrev vf_X11_valueOf (sd : SdT) (r : Int64) : Option Value := some (.long r)
abbrev wc_X11_valueOf (T : Nat → ClassId) (sd : SdT) (a0 : Nat) (a0_bytes : Nat) (b_a0 : bX10) : va_W := [zO a0 6 [.ref a0_bytes, .int (X10_length b_a0)], zB T a0_bytes 2000 (X10_bytes b_a0)]
abbrev wf_X11_valueOf (T : Nat → ClassId) (sd : SdT) (a0 : Nat) (a0_bytes : Nat) (b_a0 : bX10) (r : Int64) : va_W := [zO a0 6 [.ref a0_bytes, .int (X10_length b_a0)], zB T a0_bytes 2000 (X10_bytes b_a0)]
abbrev rm_X11_valueOf : Room := { frames := 2, cells := 0, slots := 0, locals := 40 }
theorem hd_X11_valueOf : yX11_valueOf.cls ≠ "java/lang/invoke/MethodHandle" ∧ yX11_valueOf.cls ≠ "java/lang/invoke/VarHandle" ∧ (parseMethodDescriptor yX11_valueOf.desc).map (fun d => d.parameters.length) = some 3 := ⟨by decide, by decide, by decide +kernel⟩
set_option maxHeartbeats 4000000 in
set_option maxRecDepth 100000 in
theorem c_X11_valueOf {l : Launch} {D : va_G} {T : Nat → ClassId} {sd : SdT} (a0 : Nat) (a0_bytes : Nat) (n : Nat) (x1 : Int32) (x2 : Int32) (b_a0 : bX10) {res : Int64} (hf : f_X11_valueOf n x1 x2 b_a0 = some res) : SxK (SFx sd) l D T yX11_valueOf cX11_valueOf 8 (some .long) rm_X11_valueOf [.ref a0, .int x1, .int x2] (wc_X11_valueOf T sd a0 a0_bytes b_a0) (vf_X11_valueOf sd) (wf_X11_valueOf T sd a0 a0_bytes b_a0) res 0 0 := by
  refine sx_start (SFx_ok sd) (by decide +kernel) (Nat.le_of_ble_eq_true rfl) (fun p e s m args below meth c A X hnm => ?_)
  have hf := ob_1 hf
  have L15 : ∀ (v1 : Int32) (v2 : Int32) (v3 : Int32) (n0 : Nat) (v4 : Int64) (v6 : Int32), (iter (fun s : Int64 × Int32 => f_X11_valueOf_L15 n x1 x2 b_a0 v1 v2 v3 s.1 s.2) n0 (v4, v6)).bind some = some res → SxG p l e rm_X11_valueOf s m args below meth c D A 8 0 0 (SxE below args s D A (vf_X11_valueOf sd) (wf_X11_valueOf T sd a0 a0_bytes b_a0) res 0 0) [zO a0 6 [.ref a0_bytes, .int (X10_length b_a0)], zB T a0_bytes 2000 (X10_bytes b_a0)] [(0, .ref a0), (1, .int v1), (2, .int v2), (3, .int v3), (4, .long v4), (6, .int v6)] 15 [] := by
    intro v1 v2 v3 n0
    induction n0 with
    | zero =>
      intro v4 v6 hf
      exact (iter_z hf).elim
    | succ n0 ih15 =>
      intro v4 v6 hf
      obtain ⟨κ15, hκ15, hf⟩ := iter_k hf
      have hf : (f_X11_valueOf_L15 n x1 x2 b_a0 v1 v2 v3 v4 v6).bind κ15 = some res := hf
      refine sx_iload X 5 rfl dX11_valueOf_15 ?_
      refine sx_iload_n X 2 rfl dX11_valueOf_17 rfl ?_
      refine sx_icmp_ge X 72 dX11_valueOf_18 rfl (fun c3 => ?_) (fun c3 => ?_)
      · have hf := ob_t hf c3
        refine sx_lload X 4 rfl dX11_valueOf_72 ?_
        have hf := ob_kr hκ15 hf
        exact sx_lret X dX11_valueOf_74 (ob_e hf) rfl rfl
      · have hf := ob_f hf c3
        refine sx_aload_n X 0 rfl dX11_valueOf_21 rfl ?_
        refine sx_iload_n X 1 rfl dX11_valueOf_22 rfl ?_
        refine sx_iload X 5 rfl dX11_valueOf_23 ?_
        refine sx_iadd X dX11_valueOf_25 ?_
        obtain ⟨u4, hu4, hf⟩ := ob_c hf
        refine sx_cVr X (c_X10_byteAt (l := l) (D := D) (T := T) (sd := sd) a0 a0_bytes (v1 + v6) b_a0 hu4) (st' := [.int u4]) (q0 := 0) qm_398 qm_399 qm_400 qm_69 qm_401 hd_X10_byteAt ⟨rfl, rfl⟩ ⟨Nat.le_of_ble_eq_true rfl, Nat.le_of_ble_eq_true rfl⟩ rfl rfl (Nat.le_of_ble_eq_true rfl) rfl rfl rfl [0, 1] rfl rfl rfl ⟨Nat.le_of_ble_eq_true rfl, Nat.le_of_ble_eq_true rfl⟩ dX11_valueOf_26 rfl ?_
        refine sx_istore X (lv' := [(7, .int u4), (0, .ref a0), (1, .int v1), (2, .int v2), (3, .int v3), (4, .long v4), (6, .int v6)]) dX11_valueOf_29 (by decide) rfl ?_
        refine sx_iload_n X 4 rfl dX11_valueOf_31 rfl ?_
        refine sx_if_eq X 51 dX11_valueOf_32 rfl (fun c5 => ?_) (fun c5 => ?_)
        · have hf := ob_t hf c5
          refine sx_lload X 5 rfl dX11_valueOf_51 ?_
          refine sx_ldc2 X qm_479 dX11_valueOf_53 ?_
          refine sx_lmul X dX11_valueOf_56 ?_
          refine sx_iload X 0 rfl dX11_valueOf_57 ?_
          obtain ⟨u6, hu6, hf⟩ := ob_c hf
          refine sx_cSr X (c_X11_wordSign (l := l) (D := D) (T := T) (sd := sd) u4 hu6) (st' := [.int u6, .long (v4 * 37)]) qm_480 qm_481 qm_70 qm_482 hd_X11_wordSign ⟨rfl, rfl⟩ ⟨Nat.le_of_ble_eq_true rfl, Nat.le_of_ble_eq_true rfl⟩ rfl rfl (Nat.le_of_ble_eq_true rfl) [] rfl rfl rfl ⟨Nat.le_of_ble_eq_true rfl, Nat.le_of_ble_eq_true rfl⟩ dX11_valueOf_59 rfl ?_
          refine sx_i2l X dX11_valueOf_62 ?_
          refine sx_ladd X dX11_valueOf_63 ?_
          refine sx_lstore X (lv' := [(4, .long ((v4 * 37) + (Int32.toInt64 u6))), (7, .int u4), (0, .ref a0), (1, .int v1), (2, .int v2), (3, .int v3), (6, .int v6)]) dX11_valueOf_64 (by decide) rfl ?_
          refine sx_iinc X (v := (v6 + 1)) (lv' := [(6, .int (v6 + 1)), (4, .long ((v4 * 37) + (Int32.toInt64 u6))), (7, .int u4), (0, .ref a0), (1, .int v1), (2, .int v2), (3, .int v3)]) 6 rfl dX11_valueOf_66 rfl (by decide) rfl ?_
          refine sx_goto X 15 dX11_valueOf_69 rfl ?_
          have hf := ob_k hκ15 hf
          refine sx_lsub [3, 4, 5, 6, 1, 0] rfl ?_
          exact ih15 ((v4 * 37) + (Int32.toInt64 u6)) (v6 + 1) hf
        · have hf := ob_f hf c5
          refine sx_lload X 5 rfl dX11_valueOf_35 ?_
          refine sx_ldc2 X qm_478 dX11_valueOf_37 ?_
          refine sx_lmul X dX11_valueOf_40 ?_
          refine sx_iload X 0 rfl dX11_valueOf_41 ?_
          refine sx_bipush X (v := 48) dX11_valueOf_43 rfl ?_
          refine sx_isub X dX11_valueOf_45 ?_
          refine sx_i2l X dX11_valueOf_46 ?_
          refine sx_ladd X dX11_valueOf_47 ?_
          refine sx_goto X 64 dX11_valueOf_48 rfl ?_
          refine sx_lstore X (lv' := [(4, .long ((v4 * 10) + (Int32.toInt64 (u4 - 48)))), (7, .int u4), (0, .ref a0), (1, .int v1), (2, .int v2), (3, .int v3), (6, .int v6)]) dX11_valueOf_64 (by decide) rfl ?_
          refine sx_iinc X (v := (v6 + 1)) (lv' := [(6, .int (v6 + 1)), (4, .long ((v4 * 10) + (Int32.toInt64 (u4 - 48)))), (7, .int u4), (0, .ref a0), (1, .int v1), (2, .int v2), (3, .int v3)]) 6 rfl dX11_valueOf_66 rfl (by decide) rfl ?_
          refine sx_goto X 15 dX11_valueOf_69 rfl ?_
          have hf := ob_k hκ15 hf
          refine sx_lsub [3, 4, 5, 6, 1, 0] rfl ?_
          exact ih15 ((v4 * 10) + (Int32.toInt64 (u4 - 48))) (v6 + 1) hf
  refine sx_aload_n X 0 rfl dX11_valueOf_0 rfl ?_
  refine sx_iload_n X 1 rfl dX11_valueOf_1 rfl ?_
  obtain ⟨u1, hu1, hf⟩ := ob_c hf
  refine sx_cVr X (c_X10_byteAt (l := l) (D := D) (T := T) (sd := sd) a0 a0_bytes x1 b_a0 hu1) (st' := [.int u1]) (q0 := 0) qm_398 qm_399 qm_400 qm_69 qm_401 hd_X10_byteAt ⟨rfl, rfl⟩ ⟨Nat.le_of_ble_eq_true rfl, Nat.le_of_ble_eq_true rfl⟩ rfl rfl (Nat.le_of_ble_eq_true rfl) rfl rfl rfl [0, 1] rfl rfl rfl ⟨Nat.le_of_ble_eq_true rfl, Nat.le_of_ble_eq_true rfl⟩ dX11_valueOf_2 rfl ?_
  obtain ⟨u2, hu2, hf⟩ := ob_c hf
  refine sx_cSr X (c_X11_isDigit (l := l) (D := D) (T := T) (sd := sd) u1 hu2) (st' := [.int u2]) qm_408 qm_409 qm_70 qm_410 hd_X11_isDigit ⟨rfl, rfl⟩ ⟨Nat.le_of_ble_eq_true rfl, Nat.le_of_ble_eq_true rfl⟩ rfl rfl (Nat.le_of_ble_eq_true rfl) [] rfl rfl rfl ⟨Nat.le_of_ble_eq_true rfl, Nat.le_of_ble_eq_true rfl⟩ dX11_valueOf_5 rfl ?_
  refine sx_istore_n X (lv' := [(3, .int u2), (0, .ref a0), (1, .int x1), (2, .int x2)]) dX11_valueOf_8 rfl (by decide) rfl ?_
  refine sx_lconst X (v := 0) dX11_valueOf_9 rfl ?_
  refine sx_lstore X (lv' := [(4, .long 0), (3, .int u2), (0, .ref a0), (1, .int x1), (2, .int x2)]) dX11_valueOf_10 (by decide) rfl ?_
  refine sx_iconst X (v := 0) dX11_valueOf_12 rfl ?_
  refine sx_istore X (lv' := [(6, .int 0), (4, .long 0), (3, .int u2), (0, .ref a0), (1, .int x1), (2, .int x2)]) dX11_valueOf_13 (by decide) rfl ?_
  refine sx_lsub [3, 4, 5, 2, 1, 0] rfl ?_
  exact L15 x1 x2 u2 n 0 0 hf

abbrev vf_X11_readAll (sd : SdT) (_r : (Nat → Nat) × (Nat → Int32) × (Nat → Int64) × Int32 × Int32 × Int32 × Int32) : Option Value := none
abbrev wc_X11_readAll (T : Nat → ClassId) (sd : SdT) (h : Nat) (h_kinds : Nat) (h_starts : Nat) (h_values : Nat) (a0 : Nat) (a0_bytes : Nat) (b_h : bX11) (b_a0 : bX10) : va_W := [zO h 7 [.ref h_kinds, .ref h_starts, .ref h_values, .int (X11_count b_h), .int (X11_cursor b_h), .int (X11_error b_h), .int (X11_errorToken b_h)], zK T sd.1 h_kinds 401 (X11_kinds b_h), zI T h_starts 401 (X11_starts b_h), zJ T h_values 401 (X11_values b_h), zO a0 6 [.ref a0_bytes, .int (X10_length b_a0)], zB T a0_bytes 2000 (X10_bytes b_a0)]
abbrev wf_X11_readAll (T : Nat → ClassId) (sd : SdT) (h : Nat) (h_kinds : Nat) (h_starts : Nat) (h_values : Nat) (a0 : Nat) (a0_bytes : Nat) (b_h : bX11) (b_a0 : bX10) (r : (Nat → Nat) × (Nat → Int32) × (Nat → Int64) × Int32 × Int32 × Int32 × Int32) : va_W := [zO h 7 [.ref h_kinds, .ref h_starts, .ref h_values, .int r.2.2.2.1, .int r.2.2.2.2.1, .int r.2.2.2.2.2.1, .int r.2.2.2.2.2.2], zK T sd.1 h_kinds 401 r.1, zI T h_starts 401 r.2.1, zJ T h_values 401 r.2.2.1, zO a0 6 [.ref a0_bytes, .int (X10_length b_a0)], zB T a0_bytes 2000 (X10_bytes b_a0)]
abbrev rm_X11_readAll : Room := { frames := 6, cells := 0, slots := 0, locals := 148 }
theorem hd_X11_readAll : yX11_readAll.cls ≠ "java/lang/invoke/MethodHandle" ∧ yX11_readAll.cls ≠ "java/lang/invoke/VarHandle" ∧ (parseMethodDescriptor yX11_readAll.desc).map (fun d => d.parameters.length) = some 1 := ⟨by decide, by decide, by decide +kernel⟩
set_option maxHeartbeats 4000000 in
set_option maxRecDepth 100000 in
theorem c_X11_readAll {l : Launch} {D : va_G} {T : Nat → ClassId} {sd : SdT} (h : Nat) (h_kinds : Nat) (h_starts : Nat) (h_values : Nat) (a0 : Nat) (a0_bytes : Nat) (n : Nat) (b_h : bX11) (b_a0 : bX10) {res : (Nat → Nat) × (Nat → Int32) × (Nat → Int64) × Int32 × Int32 × Int32 × Int32} (hf : f_X11_readAll n b_h b_a0 = some res) : SxK (SFx sd) l D T yX11_readAll cX11_readAll 6 none rm_X11_readAll [.ref h, .ref a0] (wc_X11_readAll T sd h h_kinds h_starts h_values a0 a0_bytes b_h b_a0) (vf_X11_readAll sd) (wf_X11_readAll T sd h h_kinds h_starts h_values a0 a0_bytes b_h b_a0) res 0 0 := by
  refine sx_start (SFx_ok sd) (by decide +kernel) (Nat.le_of_ble_eq_true rfl) (fun p e s m args below meth c A X hnm => ?_)
  have hf := ob_1 hf
  have R117 : ∀ (v2 : Int32) (w_h_kinds : Nat → Nat) (w_h_starts : Nat → Int32) (w_h_values : Nat → Int64) (w_h_count : Int32) (w_h_cursor : Int32) (w_h_error : Int32) (w_h_errorToken : Int32) (t0 : Nat), (f_X11_readAll_R117 n b_h b_a0 v2 w_h_kinds w_h_starts w_h_values w_h_count w_h_cursor w_h_error w_h_errorToken t0).bind some = some res → SxG p l e rm_X11_readAll s m args below meth c D A 6 0 0 (SxE below args s D A (vf_X11_readAll sd) (wf_X11_readAll T sd h h_kinds h_starts h_values a0 a0_bytes b_h b_a0) res 0 0) [zO h 7 [.ref h_kinds, .ref h_starts, .ref h_values, .int w_h_count, .int w_h_cursor, .int w_h_error, .int w_h_errorToken], zK T sd.1 h_kinds 401 w_h_kinds, zI T h_starts 401 w_h_starts, zJ T h_values 401 w_h_values, zO a0 6 [.ref a0_bytes, .int (X10_length b_a0)], zB T a0_bytes 2000 (X10_bytes b_a0)] [(2, .int v2)] 117 [.ref (sd.1 t0), .ref h] := by
    intro v2 w_h_kinds w_h_starts w_h_values w_h_count w_h_cursor w_h_error w_h_errorToken t0 hf
    refine sx_iload_n X 0 rfl dX11_readAll_117 rfl ?_
    refine sx_lconst X (v := 0) dX11_readAll_118 rfl ?_
    obtain ⟨u4, hu4, hf⟩ := ob_c hf
    refine sx_cV X (c_X11_add (l := l) (D := D) (T := T) (sd := sd) h h_kinds h_starts h_values t0 v2 0 (w_h_kinds, w_h_starts, w_h_values, w_h_count, w_h_cursor, w_h_error, w_h_errorToken) hu4) (st' := []) (q0 := 0) qm_483 qm_485 qm_0 qm_70 qm_486 hd_X11_add ⟨rfl, rfl⟩ ⟨Nat.le_of_ble_eq_true rfl, Nat.le_of_ble_eq_true rfl⟩ rfl rfl (Nat.le_of_ble_eq_true rfl) rfl rfl rfl [0, 1, 2, 3] rfl rfl (ws' := [zO h 7 [.ref h_kinds, .ref h_starts, .ref h_values, .int u4.2.2.2, .int w_h_cursor, .int w_h_error, .int w_h_errorToken], zK T sd.1 h_kinds 401 u4.1, zI T h_starts 401 u4.2.1, zJ T h_values 401 u4.2.2.1, zO a0 6 [.ref a0_bytes, .int (X10_length b_a0)], zB T a0_bytes 2000 (X10_bytes b_a0)]) rfl rfl ⟨Nat.le_of_ble_eq_true rfl, Nat.le_of_ble_eq_true rfl⟩ dX11_readAll_119 rfl ?_
    exact sx_vret X dX11_readAll_122 (ob_e hf) rfl rfl
  have R99 : ∀ (v2 : Int32) (w_h_kinds : Nat → Nat) (w_h_starts : Nat → Int32) (w_h_values : Nat → Int64) (w_h_count : Int32) (w_h_cursor : Int32) (w_h_error : Int32) (w_h_errorToken : Int32), (f_X11_readAll_R99 n b_h b_a0 v2 w_h_kinds w_h_starts w_h_values w_h_count w_h_cursor w_h_error w_h_errorToken).bind some = some res → SxG p l e rm_X11_readAll s m args below meth c D A 6 0 0 (SxE below args s D A (vf_X11_readAll sd) (wf_X11_readAll T sd h h_kinds h_starts h_values a0 a0_bytes b_h b_a0) res 0 0) [zO h 7 [.ref h_kinds, .ref h_starts, .ref h_values, .int w_h_count, .int w_h_cursor, .int w_h_error, .int w_h_errorToken], zK T sd.1 h_kinds 401 w_h_kinds, zI T h_starts 401 w_h_starts, zJ T h_values 401 w_h_values, zO a0 6 [.ref a0_bytes, .int (X10_length b_a0)], zB T a0_bytes 2000 (X10_bytes b_a0)] [(0, .ref h), (1, .ref a0), (2, .int v2)] 99 [] := by
    intro v2 w_h_kinds w_h_starts w_h_values w_h_count w_h_cursor w_h_error w_h_errorToken hf
    refine sx_aload_n X 0 rfl dX11_readAll_99 rfl ?_
    refine sx_iload_n X 2 rfl dX11_readAll_100 rfl ?_
    refine sx_aload_n X 1 rfl dX11_readAll_101 rfl ?_
    refine sx_get X kX10 4 rfl 1 (Nat.le_of_ble_eq_true rfl) qm_114 rfl dX11_readAll_102 ?_
    refine sx_icmp_ge X 114 dX11_readAll_105 rfl (fun c3 => ?_) (fun c3 => ?_)
    · have hf := ob_t hf c3
      refine sx_kst X 49 (by decide) qm_129 dX11_readAll_114 ?_
      refine sx_lsub [2] rfl ?_
      exact R117 v2 w_h_kinds w_h_starts w_h_values w_h_count w_h_cursor w_h_error w_h_errorToken 49 hf
    · have hf := ob_f hf c3
      refine sx_kst X 50 (by decide) qm_414 dX11_readAll_108 ?_
      refine sx_goto X 117 dX11_readAll_111 rfl ?_
      refine sx_lsub [2] rfl ?_
      exact R117 v2 w_h_kinds w_h_starts w_h_values w_h_count w_h_cursor w_h_error w_h_errorToken 50 hf
  have L28 : ∀ (w_h_cursor : Int32) (w_h_error : Int32) (w_h_errorToken : Int32) (n0 : Nat) (v2 : Int32) (v3 : Int32) (w_h_kinds : Nat → Nat) (w_h_starts : Nat → Int32) (w_h_values : Nat → Int64) (w_h_count : Int32), (iter (fun s : Int32 × Int32 × (Nat → Nat) × (Nat → Int32) × (Nat → Int64) × Int32 => f_X11_readAll_L28 n b_h b_a0 s.1 s.2.1 s.2.2.1 s.2.2.2.1 s.2.2.2.2.1 s.2.2.2.2.2 w_h_cursor w_h_error w_h_errorToken) n0 (v2, v3, w_h_kinds, w_h_starts, w_h_values, w_h_count)).bind some = some res → SxG p l e rm_X11_readAll s m args below meth c D A 6 0 0 (SxE below args s D A (vf_X11_readAll sd) (wf_X11_readAll T sd h h_kinds h_starts h_values a0 a0_bytes b_h b_a0) res 0 0) [zO h 7 [.ref h_kinds, .ref h_starts, .ref h_values, .int w_h_count, .int w_h_cursor, .int w_h_error, .int w_h_errorToken], zK T sd.1 h_kinds 401 w_h_kinds, zI T h_starts 401 w_h_starts, zJ T h_values 401 w_h_values, zO a0 6 [.ref a0_bytes, .int (X10_length b_a0)], zB T a0_bytes 2000 (X10_bytes b_a0)] [(0, .ref h), (1, .ref a0), (2, .int v2), (3, .int v3)] 28 [] := by
    intro w_h_cursor w_h_error w_h_errorToken n0
    induction n0 with
    | zero =>
      intro v2 v3 w_h_kinds w_h_starts w_h_values w_h_count hf
      exact (iter_z hf).elim
    | succ n0 ih28 =>
      intro v2 v3 w_h_kinds w_h_starts w_h_values w_h_count hf
      obtain ⟨κ28, hκ28, hf⟩ := iter_k hf
      have hf : (f_X11_readAll_L28 n b_h b_a0 v2 v3 w_h_kinds w_h_starts w_h_values w_h_count w_h_cursor w_h_error w_h_errorToken).bind κ28 = some res := hf
      refine sx_iload_n X 3 rfl dX11_readAll_28 rfl ?_
      refine sx_sipush X (v := 400) dX11_readAll_29 rfl ?_
      refine sx_icmp_ge X 99 dX11_readAll_32 rfl (fun c2 => ?_) (fun c2 => ?_)
      · have hf := ob_t hf c2
        have hf := ob_kx hκ28 hf
        refine sx_lsub [0, 1, 2] rfl ?_
        exact R99 v2 w_h_kinds w_h_starts w_h_values w_h_count w_h_cursor w_h_error w_h_errorToken hf
      · have hf := ob_f hf c2
        refine sx_iload_n X 2 rfl dX11_readAll_35 rfl ?_
        refine sx_aload_n X 1 rfl dX11_readAll_36 rfl ?_
        refine sx_get X kX10 4 rfl 1 (Nat.le_of_ble_eq_true rfl) qm_114 rfl dX11_readAll_37 ?_
        refine sx_icmp_ge X 99 dX11_readAll_40 rfl (fun c5 => ?_) (fun c5 => ?_)
        · have hf := ob_t hf c5
          have hf := ob_kx hκ28 hf
          refine sx_lsub [0, 1, 2] rfl ?_
          exact R99 v2 w_h_kinds w_h_starts w_h_values w_h_count w_h_cursor w_h_error w_h_errorToken hf
        · have hf := ob_f hf c5
          refine sx_aload_n X 1 rfl dX11_readAll_43 rfl ?_
          refine sx_iload_n X 2 rfl dX11_readAll_44 rfl ?_
          obtain ⟨u6, hu6, hf⟩ := ob_c hf
          refine sx_cSr X (c_X11_sizeOf (l := l) (D := D) (T := T) (sd := sd) a0 a0_bytes n v2 b_a0 hu6) (st' := [.int u6]) qm_402 qm_403 qm_70 qm_404 hd_X11_sizeOf ⟨rfl, rfl⟩ ⟨Nat.le_of_ble_eq_true rfl, Nat.le_of_ble_eq_true rfl⟩ rfl rfl (Nat.le_of_ble_eq_true rfl) [4, 5] rfl rfl rfl ⟨Nat.le_of_ble_eq_true rfl, Nat.le_of_ble_eq_true rfl⟩ dX11_readAll_45 rfl ?_
          refine sx_istore X (lv' := [(4, .int u6), (0, .ref h), (1, .ref a0), (2, .int v2), (3, .int v3)]) dX11_readAll_48 (by decide) rfl ?_
          refine sx_aload_n X 2 rfl dX11_readAll_50 rfl ?_
          refine sx_iload_n X 3 rfl dX11_readAll_51 rfl ?_
          refine sx_iload X 0 rfl dX11_readAll_52 ?_
          obtain ⟨u7, hu7, hf⟩ := ob_c hf
          refine sx_cSr X (c_X11_kindOf (l := l) (D := D) (T := T) (sd := sd) a0 a0_bytes n v2 u6 b_a0 hu7) (st' := [.ref (sd.1 u7)]) qm_411 qm_412 qm_70 qm_413 hd_X11_kindOf ⟨rfl, rfl⟩ ⟨Nat.le_of_ble_eq_true rfl, Nat.le_of_ble_eq_true rfl⟩ rfl rfl (Nat.le_of_ble_eq_true rfl) [4, 5] rfl rfl rfl ⟨Nat.le_of_ble_eq_true rfl, Nat.le_of_ble_eq_true rfl⟩ dX11_readAll_54 rfl ?_
          refine sx_astore X (lv' := [(5, .ref (sd.1 u7)), (4, .int u6), (0, .ref h), (1, .ref a0), (2, .int v2), (3, .int v3)]) dX11_readAll_57 (by decide) rfl ?_
          refine sx_aload X 0 rfl dX11_readAll_59 ?_
          refine sx_kst X 50 (by decide) qm_414 dX11_readAll_61 ?_
          obtain ⟨g9, hf⟩ := ob_h hf
          refine sx_kne X 70 g9 (by decide) dX11_readAll_64 rfl (fun c8 => ?_) (fun c8 => ?_)
          · have hf := ob_f hf c8
            refine sx_aload_n X 2 rfl dX11_readAll_70 rfl ?_
            refine sx_aload X 0 rfl dX11_readAll_71 ?_
            refine sx_iload_n X 4 rfl dX11_readAll_73 rfl ?_
            refine sx_aload_n X 3 rfl dX11_readAll_74 rfl ?_
            refine sx_iload_n X 4 rfl dX11_readAll_75 rfl ?_
            refine sx_iload X 1 rfl dX11_readAll_76 ?_
            obtain ⟨u10, hu10, hf⟩ := ob_c hf
            refine sx_cSr X (c_X11_valueOf (l := l) (D := D) (T := T) (sd := sd) a0 a0_bytes n v2 u6 b_a0 hu10) (st' := [.long u10, .int v2, .ref (sd.1 u7), .ref h]) qm_475 qm_476 qm_70 qm_477 hd_X11_valueOf ⟨rfl, rfl⟩ ⟨Nat.le_of_ble_eq_true rfl, Nat.le_of_ble_eq_true rfl⟩ rfl rfl (Nat.le_of_ble_eq_true rfl) [4, 5] rfl rfl rfl ⟨Nat.le_of_ble_eq_true rfl, Nat.le_of_ble_eq_true rfl⟩ dX11_readAll_78 rfl ?_
            obtain ⟨u11, hu11, hf⟩ := ob_c hf
            refine sx_cV X (c_X11_add (l := l) (D := D) (T := T) (sd := sd) h h_kinds h_starts h_values u7 v2 u10 (w_h_kinds, w_h_starts, w_h_values, w_h_count, w_h_cursor, w_h_error, w_h_errorToken) hu11) (st' := []) (q0 := 0) qm_483 qm_485 qm_0 qm_70 qm_486 hd_X11_add ⟨rfl, rfl⟩ ⟨Nat.le_of_ble_eq_true rfl, Nat.le_of_ble_eq_true rfl⟩ rfl rfl (Nat.le_of_ble_eq_true rfl) rfl rfl rfl [0, 1, 2, 3] rfl rfl (ws' := [zO h 7 [.ref h_kinds, .ref h_starts, .ref h_values, .int u11.2.2.2, .int w_h_cursor, .int w_h_error, .int w_h_errorToken], zK T sd.1 h_kinds 401 u11.1, zI T h_starts 401 u11.2.1, zJ T h_values 401 u11.2.2.1, zO a0 6 [.ref a0_bytes, .int (X10_length b_a0)], zB T a0_bytes 2000 (X10_bytes b_a0)]) rfl rfl ⟨Nat.le_of_ble_eq_true rfl, Nat.le_of_ble_eq_true rfl⟩ dX11_readAll_81 rfl ?_
            refine sx_aload_n X 3 rfl dX11_readAll_84 rfl ?_
            refine sx_iload_n X 4 rfl dX11_readAll_85 rfl ?_
            refine sx_iload X 1 rfl dX11_readAll_86 ?_
            refine sx_iadd X dX11_readAll_88 ?_
            obtain ⟨u12, hu12, hf⟩ := ob_c hf
            refine sx_cSr X (c_X11_behindBlanks (l := l) (D := D) (T := T) (sd := sd) a0 a0_bytes n (v2 + u6) b_a0 hu12) (st' := [.int u12]) qm_395 qm_396 qm_70 qm_397 hd_X11_behindBlanks ⟨rfl, rfl⟩ ⟨Nat.le_of_ble_eq_true rfl, Nat.le_of_ble_eq_true rfl⟩ rfl rfl (Nat.le_of_ble_eq_true rfl) [4, 5] rfl rfl rfl ⟨Nat.le_of_ble_eq_true rfl, Nat.le_of_ble_eq_true rfl⟩ dX11_readAll_89 rfl ?_
            refine sx_istore_n X (lv' := [(2, .int u12), (5, .ref (sd.1 u7)), (4, .int u6), (0, .ref h), (1, .ref a0), (3, .int v3)]) dX11_readAll_92 rfl (by decide) rfl ?_
            refine sx_iinc X (v := (v3 + 1)) (lv' := [(3, .int (v3 + 1)), (2, .int u12), (5, .ref (sd.1 u7)), (4, .int u6), (0, .ref h), (1, .ref a0)]) 5 rfl dX11_readAll_93 rfl (by decide) rfl ?_
            refine sx_goto X 28 dX11_readAll_96 rfl ?_
            have hf := ob_k hκ28 hf
            refine sx_lsub [4, 5, 1, 0] rfl ?_
            exact ih28 u12 (v3 + 1) u11.1 u11.2.1 u11.2.2.1 u11.2.2.2 hf
          · have hf := ob_t hf c8
            refine sx_goto X 99 dX11_readAll_67 rfl ?_
            have hf := ob_kx hκ28 hf
            refine sx_lsub [2, 3, 4] rfl ?_
            exact R99 v2 w_h_kinds w_h_starts w_h_values w_h_count w_h_cursor w_h_error w_h_errorToken hf
  refine sx_aload_n X 0 rfl dX11_readAll_0 rfl ?_
  refine sx_iconst X (v := 0) dX11_readAll_1 rfl ?_
  refine sx_put X (ws' := [zO h 7 [.ref h_kinds, .ref h_starts, .ref h_values, .int 0, .int (X11_cursor b_h), .int (X11_error b_h), .int (X11_errorToken b_h)], zK T sd.1 h_kinds 401 (X11_kinds b_h), zI T h_starts 401 (X11_starts b_h), zJ T h_values 401 (X11_values b_h), zO a0 6 [.ref a0_bytes, .int (X10_length b_a0)], zB T a0_bytes 2000 (X10_bytes b_a0)]) kX11 0 rfl 3 (Nat.le_of_ble_eq_true rfl) qm_134 rfl rfl rfl (Nat.le_of_ble_eq_true rfl) rfl dX11_readAll_2 ?_
  refine sx_aload_n X 0 rfl dX11_readAll_5 rfl ?_
  refine sx_iconst X (v := 0) dX11_readAll_6 rfl ?_
  refine sx_put X (ws' := [zO h 7 [.ref h_kinds, .ref h_starts, .ref h_values, .int 0, .int 0, .int (X11_error b_h), .int (X11_errorToken b_h)], zK T sd.1 h_kinds 401 (X11_kinds b_h), zI T h_starts 401 (X11_starts b_h), zJ T h_values 401 (X11_values b_h), zO a0 6 [.ref a0_bytes, .int (X10_length b_a0)], zB T a0_bytes 2000 (X10_bytes b_a0)]) kX11 0 rfl 4 (Nat.le_of_ble_eq_true rfl) qm_136 rfl rfl rfl (Nat.le_of_ble_eq_true rfl) rfl dX11_readAll_7 ?_
  refine sx_aload_n X 0 rfl dX11_readAll_10 rfl ?_
  refine sx_iconst X (v := 0) dX11_readAll_11 rfl ?_
  refine sx_put X (ws' := [zO h 7 [.ref h_kinds, .ref h_starts, .ref h_values, .int 0, .int 0, .int 0, .int (X11_errorToken b_h)], zK T sd.1 h_kinds 401 (X11_kinds b_h), zI T h_starts 401 (X11_starts b_h), zJ T h_values 401 (X11_values b_h), zO a0 6 [.ref a0_bytes, .int (X10_length b_a0)], zB T a0_bytes 2000 (X10_bytes b_a0)]) kX11 0 rfl 5 (Nat.le_of_ble_eq_true rfl) qm_138 rfl rfl rfl (Nat.le_of_ble_eq_true rfl) rfl dX11_readAll_12 ?_
  refine sx_aload_n X 0 rfl dX11_readAll_15 rfl ?_
  refine sx_iconst X (v := 0) dX11_readAll_16 rfl ?_
  refine sx_put X (ws' := [zO h 7 [.ref h_kinds, .ref h_starts, .ref h_values, .int 0, .int 0, .int 0, .int 0], zK T sd.1 h_kinds 401 (X11_kinds b_h), zI T h_starts 401 (X11_starts b_h), zJ T h_values 401 (X11_values b_h), zO a0 6 [.ref a0_bytes, .int (X10_length b_a0)], zB T a0_bytes 2000 (X10_bytes b_a0)]) kX11 0 rfl 6 (Nat.le_of_ble_eq_true rfl) qm_141 rfl rfl rfl (Nat.le_of_ble_eq_true rfl) rfl dX11_readAll_17 ?_
  refine sx_aload_n X 1 rfl dX11_readAll_20 rfl ?_
  refine sx_iconst X (v := 0) dX11_readAll_21 rfl ?_
  obtain ⟨u1, hu1, hf⟩ := ob_c hf
  refine sx_cSr X (c_X11_behindBlanks (l := l) (D := D) (T := T) (sd := sd) a0 a0_bytes n 0 b_a0 hu1) (st' := [.int u1]) qm_395 qm_396 qm_70 qm_397 hd_X11_behindBlanks ⟨rfl, rfl⟩ ⟨Nat.le_of_ble_eq_true rfl, Nat.le_of_ble_eq_true rfl⟩ rfl rfl (Nat.le_of_ble_eq_true rfl) [4, 5] rfl rfl rfl ⟨Nat.le_of_ble_eq_true rfl, Nat.le_of_ble_eq_true rfl⟩ dX11_readAll_22 rfl ?_
  refine sx_istore_n X (lv' := [(2, .int u1), (0, .ref h), (1, .ref a0)]) dX11_readAll_25 rfl (by decide) rfl ?_
  refine sx_iconst X (v := 0) dX11_readAll_26 rfl ?_
  refine sx_istore_n X (lv' := [(3, .int 0), (2, .int u1), (0, .ref h), (1, .ref a0)]) dX11_readAll_27 rfl (by decide) rfl ?_
  refine sx_lsub [2, 3, 1, 0] rfl ?_
  exact L28 0 0 0 n u1 0 (X11_kinds b_h) (X11_starts b_h) (X11_values b_h) 0 hf

abbrev vf_X11_startAt (sd : SdT) (r : Int32) : Option Value := some (.int r)
abbrev wc_X11_startAt (T : Nat → ClassId) (sd : SdT) (h : Nat) (h_kinds : Nat) (h_starts : Nat) (h_values : Nat) (b_h : bX11) : va_W := [zO h 7 [.ref h_kinds, .ref h_starts, .ref h_values, .int (X11_count b_h), .int (X11_cursor b_h), .int (X11_error b_h), .int (X11_errorToken b_h)], zK T sd.1 h_kinds 401 (X11_kinds b_h), zI T h_starts 401 (X11_starts b_h), zJ T h_values 401 (X11_values b_h)]
abbrev wf_X11_startAt (T : Nat → ClassId) (sd : SdT) (h : Nat) (h_kinds : Nat) (h_starts : Nat) (h_values : Nat) (b_h : bX11) (r : Int32) : va_W := [zO h 7 [.ref h_kinds, .ref h_starts, .ref h_values, .int (X11_count b_h), .int (X11_cursor b_h), .int (X11_error b_h), .int (X11_errorToken b_h)], zK T sd.1 h_kinds 401 (X11_kinds b_h), zI T h_starts 401 (X11_starts b_h), zJ T h_values 401 (X11_values b_h)]
abbrev rm_X11_startAt : Room := { frames := 1, cells := 0, slots := 0, locals := 21 }
theorem hd_X11_startAt : yX11_startAt.cls ≠ "java/lang/invoke/MethodHandle" ∧ yX11_startAt.cls ≠ "java/lang/invoke/VarHandle" ∧ (parseMethodDescriptor yX11_startAt.desc).map (fun d => d.parameters.length) = some 1 := ⟨by decide, by decide, by decide +kernel⟩
set_option maxHeartbeats 4000000 in
set_option maxRecDepth 100000 in
theorem c_X11_startAt {l : Launch} {D : va_G} {T : Nat → ClassId} {sd : SdT} (h : Nat) (h_kinds : Nat) (h_starts : Nat) (h_values : Nat) (x0 : Int32) (b_h : bX11) {res : Int32} (hf : f_X11_startAt x0 b_h = some res) : SxK (SFx sd) l D T yX11_startAt cX11_startAt 2 (some .int) rm_X11_startAt [.ref h, .int x0] (wc_X11_startAt T sd h h_kinds h_starts h_values b_h) (vf_X11_startAt sd) (wf_X11_startAt T sd h h_kinds h_starts h_values b_h) res 0 0 := by
  refine sx_start (SFx_ok sd) (by decide +kernel) (Nat.le_of_ble_eq_true rfl) (fun p e s m args below meth c A X hnm => ?_)
  have hf := ob_1 hf
  refine sx_aload_n X 0 rfl dX11_startAt_0 rfl ?_
  refine sx_iload_n X 1 rfl dX11_startAt_1 rfl ?_
  obtain ⟨u1, hu1, hf⟩ := ob_c hf
  refine sx_cVr X (c_X11_has (l := l) (D := D) (T := T) (sd := sd) h h_kinds h_starts h_values x0 b_h hu1) (st' := [.int u1]) (q0 := 0) qm_639 qm_640 qm_641 qm_70 qm_642 hd_X11_has ⟨rfl, rfl⟩ ⟨Nat.le_of_ble_eq_true rfl, Nat.le_of_ble_eq_true rfl⟩ rfl rfl (Nat.le_of_ble_eq_true rfl) rfl rfl rfl [0, 1, 2, 3] rfl rfl rfl ⟨Nat.le_of_ble_eq_true rfl, Nat.le_of_ble_eq_true rfl⟩ dX11_startAt_2 rfl ?_
  refine sx_if_eq X 17 dX11_startAt_5 rfl (fun c2 => ?_) (fun c2 => ?_)
  · have hf := ob_t hf c2
    refine sx_iconst X (v := 0) dX11_startAt_17 rfl ?_
    exact sx_iret X rfl dX11_startAt_18 (ob_e hf) rfl rfl
  · have hf := ob_f hf c2
    refine sx_aload_n X 0 rfl dX11_startAt_8 rfl ?_
    refine sx_get X kX11 0 rfl 1 (Nat.le_of_ble_eq_true rfl) qm_132 rfl dX11_startAt_9 ?_
    refine sx_iload_n X 1 rfl dX11_startAt_12 rfl ?_
    obtain ⟨g3, hf⟩ := ob_g hf
    refine sx_iald X 2 rfl g3 dX11_startAt_13 ?_
    refine sx_goto X 18 dX11_startAt_14 rfl ?_
    exact sx_iret X rfl dX11_startAt_18 (ob_e hf) rfl rfl
