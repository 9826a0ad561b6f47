/-! contracts, part 6 -/
abbrev vf_X10_byteAt (sd : SdT) (r : Int32) : Option Value := some (.int r)
abbrev wc_X10_byteAt (T : Nat → ClassId) (sd : SdT) (h : Nat) (h_bytes : Nat) (b_h : bX10) : va_W := [zO h 6 [.ref h_bytes, .int (X10_length b_h)], zB T h_bytes 2000 (X10_bytes b_h)]
abbrev wf_X10_byteAt (T : Nat → ClassId) (sd : SdT) (h : Nat) (h_bytes : Nat) (b_h : bX10) (r : Int32) : va_W := [zO h 6 [.ref h_bytes, .int (X10_length b_h)], zB T h_bytes 2000 (X10_bytes b_h)]
abbrev rm_X10_byteAt : Room := { frames := 0, cells := 0, slots := 0, locals := 0 }
theorem hd_X10_byteAt : yX10_byteAt.cls ≠ "java/lang/invoke/MethodHandle" ∧ yX10_byteAt.cls ≠ "java/lang/invoke/VarHandle" ∧ (parseMethodDescriptor yX10_byteAt.desc).map (fun d => d.parameters.length) = some 1 := ⟨by decide, by decide, by decide +kernel⟩
set_option maxHeartbeats 4000000 in
set_option maxRecDepth 100000 in
theorem c_X10_byteAt {l : Launch} {D : va_G} {T : Nat → ClassId} {sd : SdT} (h : Nat) (h_bytes : Nat) (x0 : Int32) (b_h : bX10) {res : Int32} (hf : f_X10_byteAt x0 b_h = some res) : SxK (SFx sd) l D T yX10_byteAt cX10_byteAt 2 (some .int) rm_X10_byteAt [.ref h, .int x0] (wc_X10_byteAt T sd h h_bytes b_h) (vf_X10_byteAt sd) (wf_X10_byteAt T sd h h_bytes b_h) res 0 0 := by
  refine sx_start (SFx_ok sd) (by decide +kernel) (Nat.le_of_ble_eq_true rfl) (fun p e s m args below meth c A X hnm => ?_)
  have hf := ob_1 hf
  refine sx_iload_n X 1 rfl dX10_byteAt_0 rfl ?_
  refine sx_if_lt X 30 dX10_byteAt_1 rfl (fun c1 => ?_) (fun c1 => ?_)
  · have hf := ob_t hf c1
    refine sx_iconst X (v := 0) dX10_byteAt_30 rfl ?_
    exact sx_iret X rfl dX10_byteAt_31 (ob_e hf) rfl rfl
  · have hf := ob_f hf c1
    refine sx_iload_n X 1 rfl dX10_byteAt_4 rfl ?_
    refine sx_aload_n X 0 rfl dX10_byteAt_5 rfl ?_
    refine sx_get X kX10 0 rfl 1 (Nat.le_of_ble_eq_true rfl) qm_113 rfl dX10_byteAt_6 ?_
    refine sx_icmp_ge X 30 dX10_byteAt_9 rfl (fun c2 => ?_) (fun c2 => ?_)
    · have hf := ob_t hf c2
      refine sx_iconst X (v := 0) dX10_byteAt_30 rfl ?_
      exact sx_iret X rfl dX10_byteAt_31 (ob_e hf) rfl rfl
    · have hf := ob_f hf c2
      refine sx_iload_n X 1 rfl dX10_byteAt_12 rfl ?_
      refine sx_aload_n X 0 rfl dX10_byteAt_13 rfl ?_
      refine sx_get X kX10 0 rfl 0 (Nat.le_of_ble_eq_true rfl) qm_111 rfl dX10_byteAt_14 ?_
      refine sx_alen X (t0 := 2) (v := 2000) 1 rfl rfl rfl dX10_byteAt_17 ?_
      refine sx_icmp_ge X 30 dX10_byteAt_18 rfl (fun c3 => ?_) (fun c3 => ?_)
      · have hf := ob_t hf c3
        refine sx_iconst X (v := 0) dX10_byteAt_30 rfl ?_
        exact sx_iret X rfl dX10_byteAt_31 (ob_e hf) rfl rfl
      · have hf := ob_f hf c3
        refine sx_aload_n X 0 rfl dX10_byteAt_21 rfl ?_
        refine sx_get X kX10 0 rfl 0 (Nat.le_of_ble_eq_true rfl) qm_111 rfl dX10_byteAt_22 ?_
        refine sx_iload_n X 1 rfl dX10_byteAt_25 rfl ?_
        obtain ⟨g4, hf⟩ := ob_g hf
        refine sx_bald X 1 rfl g4 dX10_byteAt_26 ?_
        refine sx_goto X 31 dX10_byteAt_27 rfl ?_
        exact sx_iret X rfl dX10_byteAt_31 (ob_e hf) rfl rfl

abbrev vf_X10_hasText (sd : SdT) (r : Int32) : Option Value := some (.int r)
abbrev wc_X10_hasText (T : Nat → ClassId) (sd : SdT) (h : Nat) (h_bytes : Nat) (b_h : bX10) : va_W := [zO h 6 [.ref h_bytes, .int (X10_length b_h)], zB T h_bytes 2000 (X10_bytes b_h)]
abbrev wf_X10_hasText (T : Nat → ClassId) (sd : SdT) (h : Nat) (h_bytes : Nat) (b_h : bX10) (r : Int32) : va_W := [zO h 6 [.ref h_bytes, .int (X10_length b_h)], zB T h_bytes 2000 (X10_bytes b_h)]
abbrev rm_X10_hasText : Room := { frames := 4, cells := 0, slots := 0, locals := 100 }
theorem hd_X10_hasText : yX10_hasText.cls ≠ "java/lang/invoke/MethodHandle" ∧ yX10_hasText.cls ≠ "java/lang/invoke/VarHandle" ∧ (parseMethodDescriptor yX10_hasText.desc).map (fun d => d.parameters.length) = some 3 := ⟨by decide, by decide, by decide +kernel⟩
set_option maxHeartbeats 4000000 in
set_option maxRecDepth 100000 in
theorem c_X10_hasText {l : Launch} {D : va_G} {T : Nat → ClassId} {sd : SdT} (h : Nat) (h_bytes : Nat) (n : Nat) (x0 : Int32) (x1 : Int32) (x2 : Nat) (b_h : bX10) {res : Int32} (hf : f_X10_hasText n x0 x1 x2 b_h = some res) : SxK (SFx sd) l D T yX10_hasText cX10_hasText 5 (some .boolean) rm_X10_hasText [.ref h, .int x0, .int x1, .ref (sd.2.1 x2)] (wc_X10_hasText T sd h h_bytes b_h) (vf_X10_hasText sd) (wf_X10_hasText T sd h h_bytes b_h) res 0 0 := by
  refine sx_start (SFx_ok sd) (by decide +kernel) (Nat.le_of_ble_eq_true rfl) (fun p e s m args below meth c A X hnm => ?_)
  have hf := ob_1 hf
  have L13 : ∀ (v1 : Int32) (v2 : Int32) (v3 : Nat) (n0 : Nat) (v4 : Int32), (iter (fun s : Int32 => f_X10_hasText_L13 n x0 x1 x2 b_h v1 v2 v3 s) n0 v4).bind some = some res → SxG p l e rm_X10_hasText s m args below meth c D A 5 0 0 (SxE below args s D A (vf_X10_hasText sd) (wf_X10_hasText T sd h h_bytes b_h) res 0 0) [zO h 6 [.ref h_bytes, .int (X10_length b_h)], zB T h_bytes 2000 (X10_bytes b_h)] [(0, .ref h), (1, .int v1), (2, .int v2), (3, .ref (sd.2.1 v3)), (4, .int v4)] 13 [] := by
    intro v1 v2 v3 n0
    induction n0 with
    | zero =>
      intro v4 hf
      exact (iter_z hf).elim
    | succ n0 ih13 =>
      intro v4 hf
      obtain ⟨κ13, hκ13, hf⟩ := iter_k hf
      have hf : (f_X10_hasText_L13 n x0 x1 x2 b_h v1 v2 v3 v4).bind κ13 = some res := hf
      refine sx_iload X 4 rfl dX10_hasText_13 ?_
      refine sx_iload_n X 2 rfl dX10_hasText_15 rfl ?_
      refine sx_icmp_ge X 44 dX10_hasText_16 rfl (fun c3 => ?_) (fun c3 => ?_)
      · have hf := ob_t hf c3
        refine sx_iconst X (v := 1) dX10_hasText_44 rfl ?_
        have hf := ob_kr hκ13 hf
        exact sx_iret X rfl dX10_hasText_45 (ob_e hf) rfl rfl
      · have hf := ob_f hf c3
        refine sx_aload_n X 0 rfl dX10_hasText_19 rfl ?_
        refine sx_iload_n X 1 rfl dX10_hasText_20 rfl ?_
        refine sx_iload X 4 rfl dX10_hasText_21 ?_
        refine sx_iadd X dX10_hasText_23 ?_
        obtain ⟨u4, hu4, hf⟩ := ob_c hf
        refine sx_cVr X (c_X10_byteAt (l := l) (D := D) (T := T) (sd := sd) h h_bytes (v1 + v4) b_h hu4) (st' := [.int u4]) (q0 := 0) qm_434 qm_399 qm_400 qm_69 qm_401 hd_X10_byteAt ⟨rfl, rfl⟩ ⟨Nat.le_of_ble_eq_true rfl, Nat.le_of_ble_eq_true rfl⟩ rfl rfl (Nat.le_of_ble_eq_true rfl) rfl rfl rfl [0, 1] rfl rfl rfl ⟨Nat.le_of_ble_eq_true rfl, Nat.le_of_ble_eq_true rfl⟩ dX10_hasText_24 rfl ?_
        refine sx_aload_n X 3 rfl dX10_hasText_27 rfl ?_
        refine sx_iload X 4 rfl dX10_hasText_28 ?_
        obtain ⟨g5, hf⟩ := ob_h hf
        obtain ⟨g6, hf⟩ := ob_g hf
        refine sx_schar X v3 g5 g6 qm_435 (Nat.le_of_ble_eq_true rfl) (Nat.le_of_ble_eq_true rfl) (Nat.le_of_ble_eq_true rfl) (Nat.zero_le _) (Nat.zero_le _) dX10_hasText_30 ?_
        refine sx_icmp_eq X 38 dX10_hasText_33 rfl (fun c7 => ?_) (fun c7 => ?_)
        · have hf := ob_t hf c7
          refine sx_iinc X (v := (v4 + 1)) (lv' := [(4, .int (v4 + 1)), (0, .ref h), (1, .int v1), (2, .int v2), (3, .ref (sd.2.1 v3))]) 4 rfl dX10_hasText_38 rfl (by decide) rfl ?_
          refine sx_goto X 13 dX10_hasText_41 rfl ?_
          have hf := ob_k hκ13 hf
          refine sx_lsub [1, 2, 3, 4, 0] rfl ?_
          exact ih13 (v4 + 1) hf
        · have hf := ob_f hf c7
          refine sx_iconst X (v := 0) dX10_hasText_36 rfl ?_
          have hf := ob_kr hκ13 hf
          exact sx_iret X rfl dX10_hasText_37 (ob_e hf) rfl rfl
  refine sx_aload_n X 3 rfl dX10_hasText_0 rfl ?_
  obtain ⟨g1, hf⟩ := ob_h hf
  refine sx_slen X x2 g1 qm_424 (Nat.le_of_ble_eq_true rfl) (Nat.le_of_ble_eq_true rfl) (Nat.le_of_ble_eq_true rfl) (Nat.zero_le _) (Nat.zero_le _) dX10_hasText_1 ?_
  refine sx_iload_n X 2 rfl dX10_hasText_4 rfl ?_
  refine sx_icmp_eq X 10 dX10_hasText_5 rfl (fun c2 => ?_) (fun c2 => ?_)
  · have hf := ob_t hf c2
    refine sx_iconst X (v := 0) dX10_hasText_10 rfl ?_
    refine sx_istore X (lv' := [(4, .int 0), (0, .ref h), (1, .int x0), (2, .int x1), (3, .ref (sd.2.1 x2))]) dX10_hasText_11 (by decide) rfl ?_
    refine sx_lsub [1, 2, 3, 4, 0] rfl ?_
    exact L13 x0 x1 x2 n 0 hf
  · have hf := ob_f hf c2
    refine sx_iconst X (v := 0) dX10_hasText_8 rfl ?_
    exact sx_iret X rfl dX10_hasText_9 (ob_e hf) rfl rfl

abbrev vf_X11_add (sd : SdT) (_r : (Nat → Nat) × (Nat → Int32) × (Nat → Int64) × Int32) : Option Value := none
abbrev wc_X11_add (T : Nat → ClassId) (sd : SdT) (h : Nat) (h_kinds : Nat) (h_starts : Nat) (h_values : Nat) (b_h : bX11) : va_W := [zO h 7 [.ref h_kinds, .ref h_starts, .ref h_values, .int (X11_count b_h), .int (X11_cursor b_h), .int (X11_error b_h), .int (X11_errorToken b_h)], zK T sd.1 h_kinds 401 (X11_kinds b_h), zI T h_starts 401 (X11_starts b_h), zJ T h_values 401 (X11_values b_h)]
abbrev wf_X11_add (T : Nat → ClassId) (sd : SdT) (h : Nat) (h_kinds : Nat) (h_starts : Nat) (h_values : Nat) (b_h : bX11) (r : (Nat → Nat) × (Nat → Int32) × (Nat → Int64) × Int32) : va_W := [zO h 7 [.ref h_kinds, .ref h_starts, .ref h_values, .int r.2.2.2, .int (X11_cursor b_h), .int (X11_error b_h), .int (X11_errorToken b_h)], zK T sd.1 h_kinds 401 r.1, zI T h_starts 401 r.2.1, zJ T h_values 401 r.2.2.1]
abbrev rm_X11_add : Room := { frames := 0, cells := 0, slots := 0, locals := 0 }
theorem hd_X11_add : yX11_add.cls ≠ "java/lang/invoke/MethodHandle" ∧ yX11_add.cls ≠ "java/lang/invoke/VarHandle" ∧ (parseMethodDescriptor yX11_add.desc).map (fun d => d.parameters.length) = some 3 := ⟨by decide, by decide, by decide +kernel⟩
set_option maxHeartbeats 4000000 in
set_option maxRecDepth 100000 in
theorem c_X11_add {l : Launch} {D : va_G} {T : Nat → ClassId} {sd : SdT} (h : Nat) (h_kinds : Nat) (h_starts : Nat) (h_values : Nat) (x0 : Nat) (x1 : Int32) (x2 : Int64) (b_h : bX11) {res : (Nat → Nat) × (Nat → Int32) × (Nat → Int64) × Int32} (hf : f_X11_add x0 x1 x2 b_h = some res) : SxK (SFx sd) l D T yX11_add cX11_add 5 none rm_X11_add [.ref h, .ref (sd.1 x0), .int x1, .long x2] (wc_X11_add T sd h h_kinds h_starts h_values b_h) (vf_X11_add sd) (wf_X11_add T sd h h_kinds h_starts h_values b_h) res 0 0 := by
  refine sx_start (SFx_ok sd) (by decide +kernel) (Nat.le_of_ble_eq_true rfl) (fun p e s m args below meth c A X hnm => ?_)
  have hf := ob_1 hf
  refine sx_aload_n X 0 rfl dX11_add_0 rfl ?_
  refine sx_get X kX11 0 rfl 3 (Nat.le_of_ble_eq_true rfl) qm_134 rfl dX11_add_1 ?_
  refine sx_sipush X (v := 400) dX11_add_4 rfl ?_
  refine sx_icmp_gt X 50 dX11_add_7 rfl (fun c1 => ?_) (fun c1 => ?_)
  · have hf := ob_t hf c1
    exact sx_vret X dX11_add_50 (ob_e hf) rfl rfl
  · have hf := ob_f hf c1
    refine sx_aload_n X 0 rfl dX11_add_10 rfl ?_
    refine sx_get X kX11 0 rfl 0 (Nat.le_of_ble_eq_true rfl) qm_131 rfl dX11_add_11 ?_
    refine sx_aload_n X 0 rfl dX11_add_14 rfl ?_
    refine sx_get X kX11 0 rfl 3 (Nat.le_of_ble_eq_true rfl) qm_134 rfl dX11_add_15 ?_
    refine sx_aload_n X 1 rfl dX11_add_18 rfl ?_
    obtain ⟨g2, hf⟩ := ob_g hf
    obtain ⟨g3, hf⟩ := ob_h hf
    refine sx_kast X (ws' := [zO h 7 [.ref h_kinds, .ref h_starts, .ref h_values, .int (X11_count b_h), .int (X11_cursor b_h), .int (X11_error b_h), .int (X11_errorToken b_h)], zK T sd.1 h_kinds 401 (va_up (X11_kinds b_h) (X11_count b_h).toNatClampNeg x0), zI T h_starts 401 (X11_starts b_h), zJ T h_values 401 (X11_values b_h)]) 1 rfl g3 g2 rfl dX11_add_19 ?_
    refine sx_aload_n X 0 rfl dX11_add_20 rfl ?_
    refine sx_get X kX11 0 rfl 1 (Nat.le_of_ble_eq_true rfl) qm_132 rfl dX11_add_21 ?_
    refine sx_aload_n X 0 rfl dX11_add_24 rfl ?_
    refine sx_get X kX11 0 rfl 3 (Nat.le_of_ble_eq_true rfl) qm_134 rfl dX11_add_25 ?_
    refine sx_iload_n X 2 rfl dX11_add_28 rfl ?_
    obtain ⟨g4, hf⟩ := ob_g hf
    refine sx_iast X (ws' := [zO h 7 [.ref h_kinds, .ref h_starts, .ref h_values, .int (X11_count b_h), .int (X11_cursor b_h), .int (X11_error b_h), .int (X11_errorToken b_h)], zK T sd.1 h_kinds 401 (va_up (X11_kinds b_h) (X11_count b_h).toNatClampNeg x0), zI T h_starts 401 (upd (X11_starts b_h) (X11_count b_h).toNatClampNeg x1), zJ T h_values 401 (X11_values b_h)]) 2 rfl g4 rfl dX11_add_29 ?_
    refine sx_aload_n X 0 rfl dX11_add_30 rfl ?_
    refine sx_get X kX11 0 rfl 2 (Nat.le_of_ble_eq_true rfl) qm_133 rfl dX11_add_31 ?_
    refine sx_aload_n X 0 rfl dX11_add_34 rfl ?_
    refine sx_get X kX11 0 rfl 3 (Nat.le_of_ble_eq_true rfl) qm_134 rfl dX11_add_35 ?_
    refine sx_lload_n X 3 rfl dX11_add_38 rfl ?_
    obtain ⟨g5, hf⟩ := ob_g hf
    refine sx_last X (ws' := [zO h 7 [.ref h_kinds, .ref h_starts, .ref h_values, .int (X11_count b_h), .int (X11_cursor b_h), .int (X11_error b_h), .int (X11_errorToken b_h)], zK T sd.1 h_kinds 401 (va_up (X11_kinds b_h) (X11_count b_h).toNatClampNeg x0), zI T h_starts 401 (upd (X11_starts b_h) (X11_count b_h).toNatClampNeg x1), zJ T h_values 401 (vp_updL (X11_values b_h) (X11_count b_h).toNatClampNeg x2)]) 3 rfl g5 rfl dX11_add_39 ?_
    refine sx_aload_n X 0 rfl dX11_add_40 rfl ?_
    refine sx_dup X dX11_add_41 rfl ?_
    refine sx_get X kX11 0 rfl 3 (Nat.le_of_ble_eq_true rfl) qm_134 rfl dX11_add_42 ?_
    refine sx_iconst X (v := 1) dX11_add_45 rfl ?_
    refine sx_iadd X dX11_add_46 ?_
    refine sx_put X (ws' := [zO h 7 [.ref h_kinds, .ref h_starts, .ref h_values, .int ((X11_count b_h) + 1), .int (X11_cursor b_h), .int (X11_error b_h), .int (X11_errorToken b_h)], zK T sd.1 h_kinds 401 (va_up (X11_kinds b_h) (X11_count b_h).toNatClampNeg x0), zI T h_starts 401 (upd (X11_starts b_h) (X11_count b_h).toNatClampNeg x1), zJ T h_values 401 (vp_updL (X11_values b_h) (X11_count b_h).toNatClampNeg x2)]) kX11 0 rfl 3 (Nat.le_of_ble_eq_true rfl) qm_134 rfl rfl rfl (Nat.le_of_ble_eq_true rfl) rfl dX11_add_47 ?_
    exact sx_vret X dX11_add_50 (ob_e hf) rfl rfl

abbrev vf_X11_behindBlanks (sd : SdT) (r : Int32) : Option Value := some (.int r)
abbrev wc_X11_behindBlanks (T : Nat → ClassId) (sd : SdT) (a0 : Nat) (a0_bytes : Nat) (b_a0 : bX10) : va_W := [zO a0 6 [.ref a0_bytes, .int (X10_length b_a0)], zB T a0_bytes 2000 (X10_bytes b_a0)]
abbrev wf_X11_behindBlanks (T : Nat → ClassId) (sd : SdT) (a0 : Nat) (a0_bytes : Nat) (b_a0 : bX10) (r : Int32) : va_W := [zO a0 6 [.ref a0_bytes, .int (X10_length b_a0)], zB T a0_bytes 2000 (X10_bytes b_a0)]
abbrev rm_X11_behindBlanks : Room := { frames := 1, cells := 0, slots := 0, locals := 21 }
theorem hd_X11_behindBlanks : yX11_behindBlanks.cls ≠ "java/lang/invoke/MethodHandle" ∧ yX11_behindBlanks.cls ≠ "java/lang/invoke/VarHandle" ∧ (parseMethodDescriptor yX11_behindBlanks.desc).map (fun d => d.parameters.length) = some 2 := ⟨by decide, by decide, by decide +kernel⟩
set_option maxHeartbeats 4000000 in
set_option maxRecDepth 100000 in
theorem c_X11_behindBlanks {l : Launch} {D : va_G} {T : Nat → ClassId} {sd : SdT} (a0 : Nat) (a0_bytes : Nat) (n : Nat) (x1 : Int32) (b_a0 : bX10) {res : Int32} (hf : f_X11_behindBlanks n x1 b_a0 = some res) : SxK (SFx sd) l D T yX11_behindBlanks cX11_behindBlanks 3 (some .int) rm_X11_behindBlanks [.ref a0, .int x1] (wc_X11_behindBlanks T sd a0 a0_bytes b_a0) (vf_X11_behindBlanks sd) (wf_X11_behindBlanks T sd a0 a0_bytes b_a0) res 0 0 := by
  refine sx_start (SFx_ok sd) (by decide +kernel) (Nat.le_of_ble_eq_true rfl) (fun p e s m args below meth c A X hnm => ?_)
  have hf := ob_1 hf
  have L2 : ∀ (n0 : Nat) (v2 : Int32), (iter (fun s : Int32 => f_X11_behindBlanks_L2 n x1 b_a0 s) n0 v2).bind some = some res → SxG p l e rm_X11_behindBlanks s m args below meth c D A 3 0 0 (SxE below args s D A (vf_X11_behindBlanks sd) (wf_X11_behindBlanks T sd a0 a0_bytes b_a0) res 0 0) [zO a0 6 [.ref a0_bytes, .int (X10_length b_a0)], zB T a0_bytes 2000 (X10_bytes b_a0)] [(0, .ref a0), (2, .int v2)] 2 [] := by
    intro n0
    induction n0 with
    | zero =>
      intro v2 hf
      exact (iter_z hf).elim
    | succ n0 ih2 =>
      intro v2 hf
      obtain ⟨κ2, hκ2, hf⟩ := iter_k hf
      have hf : (f_X11_behindBlanks_L2 n x1 b_a0 v2).bind κ2 = some res := hf
      refine sx_iload_n X 1 rfl dX11_behindBlanks_2 rfl ?_
      refine sx_aload_n X 0 rfl dX11_behindBlanks_3 rfl ?_
      refine sx_get X kX10 0 rfl 1 (Nat.le_of_ble_eq_true rfl) qm_114 rfl dX11_behindBlanks_4 ?_
      refine sx_icmp_ge X 36 dX11_behindBlanks_7 rfl (fun c1 => ?_) (fun c1 => ?_)
      · have hf := ob_t hf c1
        refine sx_iload_n X 1 rfl dX11_behindBlanks_36 rfl ?_
        have hf := ob_kr hκ2 hf
        exact sx_iret X rfl dX11_behindBlanks_37 (ob_e hf) rfl rfl
      · have hf := ob_f hf c1
        refine sx_aload_n X 0 rfl dX11_behindBlanks_10 rfl ?_
        refine sx_iload_n X 1 rfl dX11_behindBlanks_11 rfl ?_
        obtain ⟨u2, hu2, hf⟩ := ob_c hf
        refine sx_cVr X (c_X10_byteAt (l := l) (D := D) (T := T) (sd := sd) a0 a0_bytes v2 b_a0 hu2) (st' := [.int u2]) (q0 := 0) qm_398 qm_399 qm_400 qm_69 qm_401 hd_X10_byteAt ⟨rfl, rfl⟩ ⟨Nat.le_of_ble_eq_true rfl, Nat.le_of_ble_eq_true rfl⟩ rfl rfl (Nat.le_of_ble_eq_true rfl) rfl rfl rfl [0, 1] rfl rfl rfl ⟨Nat.le_of_ble_eq_true rfl, Nat.le_of_ble_eq_true rfl⟩ dX11_behindBlanks_12 rfl ?_
        refine sx_bipush X (v := 32) dX11_behindBlanks_15 rfl ?_
        refine sx_icmp_eq X 30 dX11_behindBlanks_17 rfl (fun c3 => ?_) (fun c3 => ?_)
        · have hf := ob_t hf c3
          refine sx_iinc X (v := (v2 + 1)) (lv' := [(2, .int (v2 + 1)), (0, .ref a0)]) 1 rfl dX11_behindBlanks_30 rfl (by decide) rfl ?_
          refine sx_goto X 2 dX11_behindBlanks_33 rfl ?_
          have hf := ob_k hκ2 hf
          refine sx_lsub [1, 0] rfl ?_
          exact ih2 (v2 + 1) hf
        · have hf := ob_f hf c3
          refine sx_aload_n X 0 rfl dX11_behindBlanks_20 rfl ?_
          refine sx_iload_n X 1 rfl dX11_behindBlanks_21 rfl ?_
          obtain ⟨u4, hu4, hf⟩ := ob_c hf
          refine sx_cVr X (c_X10_byteAt (l := l) (D := D) (T := T) (sd := sd) a0 a0_bytes v2 b_a0 hu4) (st' := [.int u4]) (q0 := 0) qm_398 qm_399 qm_400 qm_69 qm_401 hd_X10_byteAt ⟨rfl, rfl⟩ ⟨Nat.le_of_ble_eq_true rfl, Nat.le_of_ble_eq_true rfl⟩ rfl rfl (Nat.le_of_ble_eq_true rfl) rfl rfl rfl [0, 1] rfl rfl rfl ⟨Nat.le_of_ble_eq_true rfl, Nat.le_of_ble_eq_true rfl⟩ dX11_behindBlanks_22 rfl ?_
          refine sx_bipush X (v := 10) dX11_behindBlanks_25 rfl ?_
          refine sx_icmp_ne X 36 dX11_behindBlanks_27 rfl (fun c5 => ?_) (fun c5 => ?_)
          · have hf := ob_f hf c5
            refine sx_iload_n X 1 rfl dX11_behindBlanks_36 rfl ?_
            have hf := ob_kr hκ2 hf
            exact sx_iret X rfl dX11_behindBlanks_37 (ob_e hf) rfl rfl
          · have hf := ob_t hf c5
            refine sx_iinc X (v := (v2 + 1)) (lv' := [(2, .int (v2 + 1)), (0, .ref a0)]) 1 rfl dX11_behindBlanks_30 rfl (by decide) rfl ?_
            refine sx_goto X 2 dX11_behindBlanks_33 rfl ?_
            have hf := ob_k hκ2 hf
            refine sx_lsub [1, 0] rfl ?_
            exact ih2 (v2 + 1) hf
  refine sx_iload_n X 1 rfl dX11_behindBlanks_0 rfl ?_
  refine sx_istore_n X (lv' := [(2, .int x1), (0, .ref a0), (1, .int x1)]) dX11_behindBlanks_1 rfl (by decide) rfl ?_
  refine sx_lsub [1, 0] rfl ?_
  exact L2 n x1 hf

abbrev vf_X11_isDigit (sd : SdT) (r : Int32) : Option Value := some (.int r)
abbrev wc_X11_isDigit (T : Nat → ClassId) (sd : SdT)  : va_W := []
abbrev wf_X11_isDigit (T : Nat → ClassId) (sd : SdT)  (r : Int32) : va_W := []
abbrev rm_X11_isDigit : Room := { frames := 0, cells := 0, slots := 0, locals := 0 }
theorem hd_X11_isDigit : yX11_isDigit.cls ≠ "java/lang/invoke/MethodHandle" ∧ yX11_isDigit.cls ≠ "java/lang/invoke/VarHandle" ∧ (parseMethodDescriptor yX11_isDigit.desc).map (fun d => d.parameters.length) = some 1 := ⟨by decide, by decide, by decide +kernel⟩
set_option maxHeartbeats 4000000 in
set_option maxRecDepth 100000 in
theorem c_X11_isDigit {l : Launch} {D : va_G} {T : Nat → ClassId} {sd : SdT}  (x0 : Int32) {res : Int32} (hf : f_X11_isDigit x0 = some res) : SxK (SFx sd) l D T yX11_isDigit cX11_isDigit 1 (some .boolean) rm_X11_isDigit [.int x0] (wc_X11_isDigit T sd ) (vf_X11_isDigit sd) (wf_X11_isDigit T sd ) res 0 0 := by
  refine sx_start (SFx_ok sd) (by decide +kernel) (Nat.le_of_ble_eq_true rfl) (fun p e s m args below meth c A X hnm => ?_)
  have hf := ob_1 hf
  refine sx_iload_n X 0 rfl dX11_isDigit_0 rfl ?_
  refine sx_bipush X (v := 48) dX11_isDigit_1 rfl ?_
  refine sx_icmp_lt X 16 dX11_isDigit_3 rfl (fun c1 => ?_) (fun c1 => ?_)
  · have hf := ob_t hf c1
    refine sx_iconst X (v := 0) dX11_isDigit_16 rfl ?_
    exact sx_iret X rfl dX11_isDigit_17 (ob_e hf) rfl rfl
  · have hf := ob_f hf c1
    refine sx_iload_n X 0 rfl dX11_isDigit_6 rfl ?_
    refine sx_bipush X (v := 57) dX11_isDigit_7 rfl ?_
    refine sx_icmp_gt X 16 dX11_isDigit_9 rfl (fun c2 => ?_) (fun c2 => ?_)
    · have hf := ob_t hf c2
      refine sx_iconst X (v := 0) dX11_isDigit_16 rfl ?_
      exact sx_iret X rfl dX11_isDigit_17 (ob_e hf) rfl rfl
    · have hf := ob_f hf c2
      refine sx_iconst X (v := 1) dX11_isDigit_12 rfl ?_
      refine sx_goto X 17 dX11_isDigit_13 rfl ?_
      exact sx_iret X rfl dX11_isDigit_17 (ob_e hf) rfl rfl

abbrev vf_X11_isLetter (sd : SdT) (r : Int32) : Option Value := some (.int r)
abbrev wc_X11_isLetter (T : Nat → ClassId) (sd : SdT)  : va_W := []
abbrev wf_X11_isLetter (T : Nat → ClassId) (sd : SdT)  (r : Int32) : va_W := []
abbrev rm_X11_isLetter : Room := { frames := 0, cells := 0, slots := 0, locals := 0 }
theorem hd_X11_isLetter : yX11_isLetter.cls ≠ "java/lang/invoke/MethodHandle" ∧ yX11_isLetter.cls ≠ "java/lang/invoke/VarHandle" ∧ (parseMethodDescriptor yX11_isLetter.desc).map (fun d => d.parameters.length) = some 1 := ⟨by decide, by decide, by decide +kernel⟩
set_option maxHeartbeats 4000000 in
set_option maxRecDepth 100000 in
theorem c_X11_isLetter {l : Launch} {D : va_G} {T : Nat → ClassId} {sd : SdT}  (x0 : Int32) {res : Int32} (hf : f_X11_isLetter x0 = some res) : SxK (SFx sd) l D T yX11_isLetter cX11_isLetter 1 (some .boolean) rm_X11_isLetter [.int x0] (wc_X11_isLetter T sd ) (vf_X11_isLetter sd) (wf_X11_isLetter T sd ) res 0 0 := by
  refine sx_start (SFx_ok sd) (by decide +kernel) (Nat.le_of_ble_eq_true rfl) (fun p e s m args below meth c A X hnm => ?_)
  have hf := ob_1 hf
  refine sx_iload_n X 0 rfl dX11_isLetter_0 rfl ?_
  refine sx_bipush X (v := 97) dX11_isLetter_1 rfl ?_
  refine sx_icmp_lt X 16 dX11_isLetter_3 rfl (fun c1 => ?_) (fun c1 => ?_)
  · have hf := ob_t hf c1
    refine sx_iconst X (v := 0) dX11_isLetter_16 rfl ?_
    exact sx_iret X rfl dX11_isLetter_17 (ob_e hf) rfl rfl
  · have hf := ob_f hf c1
    refine sx_iload_n X 0 rfl dX11_isLetter_6 rfl ?_
    refine sx_bipush X (v := 122) dX11_isLetter_7 rfl ?_
    refine sx_icmp_gt X 16 dX11_isLetter_9 rfl (fun c2 => ?_) (fun c2 => ?_)
    · have hf := ob_t hf c2
      refine sx_iconst X (v := 0) dX11_isLetter_16 rfl ?_
      exact sx_iret X rfl dX11_isLetter_17 (ob_e hf) rfl rfl
    · have hf := ob_f hf c2
      refine sx_iconst X (v := 1) dX11_isLetter_12 rfl ?_
      refine sx_goto X 17 dX11_isLetter_13 rfl ?_
      exact sx_iret X rfl dX11_isLetter_17 (ob_e hf) rfl rfl
