/-! contracts, part 3 -/
abbrev vf_X11_kindOf (sd : SdT) (r : Nat) : Option Value := some (.ref (sd.1 r))
abbrev wc_X11_kindOf (T : Nat → ClassId) (sd : SdT) (a0 : Nat) (a0_bytes : Nat) (b_a0 : bX10) : va_W := [zO a0 8 [.ref a0_bytes, .int (X10_length b_a0)], zB T a0_bytes 2000 (X10_bytes b_a0)]
abbrev wf_X11_kindOf (T : Nat → ClassId) (sd : SdT) (a0 : Nat) (a0_bytes : Nat) (b_a0 : bX10) (r : Nat) : va_W := [zO a0 8 [.ref a0_bytes, .int (X10_length b_a0)], zB T a0_bytes 2000 (X10_bytes b_a0)]
abbrev rm_X11_kindOf : Room := { frames := 5, cells := 0, slots := 0, locals := 124 }
theorem hd_X11_kindOf : yX11_kindOf.cls ≠ "java/lang/invoke/MethodHandle" ∧ yX11_kindOf.cls ≠ "java/lang/invoke/VarHandle" ∧ (parseMethodDescriptor yX11_kindOf.desc).map (fun d => d.parameters.length) = some 3 := ⟨by decide, by decide, by decide +kernel⟩
set_option maxHeartbeats 4000000 in
set_option maxRecDepth 100000 in
theorem c_X11_kindOf {l : Launch} {D : va_G} {T : Nat → ClassId} {sd : SdT} (a0 : Nat) (a0_bytes : Nat) (n : Nat) (x1 : Int32) (x2 : Int32) (b_a0 : bX10) {res : Nat} (hf : f_X11_kindOf n x1 x2 b_a0 = some res) : SxK (SFx sd) l D T yX11_kindOf cX11_kindOf 5 (some (.object "WeatherTea$Kind")) rm_X11_kindOf [.ref a0, .int x1, .int x2] (wc_X11_kindOf T sd a0 a0_bytes b_a0) (vf_X11_kindOf sd) (wf_X11_kindOf T sd a0 a0_bytes b_a0) res 0 0 := by
  refine sx_start (SFx_ok sd) (by decide +kernel) (Nat.le_of_ble_eq_true rfl) (fun p e s m args below meth c A X hnm => ?_)
  have hf := ob_1 hf
  have L49 : ∀ (v1 : Int32) (v2 : Int32) (v3 : Int32) (n0 : Nat) (v4 : Int32), (iter (fun s : Int32 => f_X11_kindOf_L49 n x1 x2 b_a0 v1 v2 v3 s) n0 v4).bind some = some res → SxG p l e rm_X11_kindOf s m args below meth c D A 5 0 0 (SxE below args s D A (vf_X11_kindOf sd) (wf_X11_kindOf T sd a0 a0_bytes b_a0) res 0 0) [zO a0 8 [.ref a0_bytes, .int (X10_length b_a0)], zB T a0_bytes 2000 (X10_bytes b_a0)] [(0, .ref a0), (1, .int v1), (2, .int v2), (3, .int v3), (4, .int v4)] 49 [] := by
    intro v1 v2 v3 n0
    induction n0 with
    | zero =>
      intro v4 hf
      exact (iter_z hf).elim
    | succ n0 ih49 =>
      intro v4 hf
      obtain ⟨κ49, hκ49, hf⟩ := iter_k hf
      have hf : (f_X11_kindOf_L49 n x1 x2 b_a0 v1 v2 v3 v4).bind κ49 = some res := hf
      refine sx_iload X 4 rfl dX11_kindOf_49 ?_
      refine sx_Kst X (List.mem_of_getElem? (i := 0) rfl) dX11_kindOf_51 ?_
      refine sx_Klen X dX11_kindOf_54 ?_
      refine sx_icmp_ge X 89 dX11_kindOf_55 rfl (fun c6 => ?_) (fun c6 => ?_)
      · have hf := ob_t hf c6
        refine sx_iload_n X 3 rfl dX11_kindOf_89 rfl ?_
        obtain ⟨u7, hu7, hf⟩ := ob_c hf
        refine sx_cSr X (c_X11_isLetter (l := l) (D := D) (T := T) (sd := sd) v3 hu7) (st' := [.int u7]) qm_879 qm_880 qm_15 qm_881 hd_X11_isLetter ⟨rfl, rfl⟩ ⟨Nat.le_of_ble_eq_true rfl, Nat.le_of_ble_eq_true rfl⟩ rfl rfl (Nat.le_of_ble_eq_true rfl) [] rfl rfl rfl ⟨Nat.le_of_ble_eq_true rfl, Nat.le_of_ble_eq_true rfl⟩ dX11_kindOf_90 rfl ?_
        refine sx_if_eq X 102 dX11_kindOf_93 rfl (fun c8 => ?_) (fun c8 => ?_)
        · have hf := ob_t hf c8
          refine sx_kst X 50 (by decide) qm_888 dX11_kindOf_102 ?_
          have hf := ob_kr hκ49 hf
          exact sx_aret X dX11_kindOf_105 (ob_e hf) rfl rfl
        · have hf := ob_f hf c8
          refine sx_kst X 47 (by decide) qm_901 dX11_kindOf_96 ?_
          refine sx_goto X 105 dX11_kindOf_99 rfl ?_
          have hf := ob_kr hκ49 hf
          exact sx_aret X dX11_kindOf_105 (ob_e hf) rfl rfl
      · have hf := ob_f hf c6
        refine sx_aload_n X 0 rfl dX11_kindOf_58 rfl ?_
        refine sx_iload_n X 1 rfl dX11_kindOf_59 rfl ?_
        refine sx_iload_n X 2 rfl dX11_kindOf_60 rfl ?_
        refine sx_Kst X (List.mem_of_getElem? (i := 0) rfl) dX11_kindOf_61 ?_
        refine sx_iload X 4 rfl dX11_kindOf_64 ?_
        obtain ⟨g9, hf⟩ := ob_g hf
        refine sx_Kld X g9 dX11_kindOf_66 ?_
        obtain ⟨g10, hf⟩ := ob_h hf
        refine sx_ktx X v4.toNatClampNeg g10 qm_1612 dX11_kindOf_67 ?_
        obtain ⟨u11, hu11, hf⟩ := ob_c hf
        refine sx_cVr X (c_X10_hasText (l := l) (D := D) (T := T) (sd := sd) a0 a0_bytes n v1 v2 v4.toNatClampNeg b_a0 hu11) (st' := [.int u11]) (q0 := 0) qm_894 qm_895 qm_896 qm_14 qm_897 hd_X10_hasText ⟨rfl, rfl⟩ ⟨Nat.le_of_ble_eq_true rfl, Nat.le_of_ble_eq_true rfl⟩ rfl rfl (Nat.le_of_ble_eq_true rfl) rfl rfl rfl [0, 1] rfl rfl rfl ⟨Nat.le_of_ble_eq_true rfl, Nat.le_of_ble_eq_true rfl⟩ dX11_kindOf_70 rfl ?_
        refine sx_if_eq X 83 dX11_kindOf_73 rfl (fun c12 => ?_) (fun c12 => ?_)
        · have hf := ob_t hf c12
          refine sx_iinc X (v := (v4 + 1)) (lv' := [(4, .int (v4 + 1)), (0, .ref a0), (1, .int v1), (2, .int v2), (3, .int v3)]) 4 rfl dX11_kindOf_83 rfl (by decide) rfl ?_
          refine sx_goto X 49 dX11_kindOf_86 rfl ?_
          have hf := ob_k hκ49 hf
          refine sx_lsub [1, 2, 3, 4, 0] rfl ?_
          exact ih49 (v4 + 1) hf
        · have hf := ob_f hf c12
          refine sx_Kst X (List.mem_of_getElem? (i := 0) rfl) dX11_kindOf_76 ?_
          refine sx_iload X 4 rfl dX11_kindOf_79 ?_
          obtain ⟨g13, hf⟩ := ob_g hf
          refine sx_Kld X g13 dX11_kindOf_81 ?_
          have hf := ob_kr hκ49 hf
          exact sx_aret X dX11_kindOf_82 (ob_e hf) rfl rfl
  refine sx_aload_n X 0 rfl dX11_kindOf_0 rfl ?_
  refine sx_iload_n X 1 rfl dX11_kindOf_1 rfl ?_
  obtain ⟨u1, hu1, hf⟩ := ob_c hf
  refine sx_cVr X (c_X10_byteAt (l := l) (D := D) (T := T) (sd := sd) a0 a0_bytes x1 b_a0 hu1) (st' := [.int u1]) (q0 := 0) qm_872 qm_873 qm_874 qm_14 qm_875 hd_X10_byteAt ⟨rfl, rfl⟩ ⟨Nat.le_of_ble_eq_true rfl, Nat.le_of_ble_eq_true rfl⟩ rfl rfl (Nat.le_of_ble_eq_true rfl) rfl rfl rfl [0, 1] rfl rfl rfl ⟨Nat.le_of_ble_eq_true rfl, Nat.le_of_ble_eq_true rfl⟩ dX11_kindOf_2 rfl ?_
  refine sx_istore_n X (lv' := [(3, .int u1), (0, .ref a0), (1, .int x1), (2, .int x2)]) dX11_kindOf_5 rfl (by decide) rfl ?_
  refine sx_iload_n X 0 rfl dX11_kindOf_6 rfl ?_
  obtain ⟨u2, hu2, hf⟩ := ob_c hf
  refine sx_cSr X (c_X11_isDigit (l := l) (D := D) (T := T) (sd := sd) u1 hu2) (st' := [.int u2]) qm_882 qm_883 qm_15 qm_884 hd_X11_isDigit ⟨rfl, rfl⟩ ⟨Nat.le_of_ble_eq_true rfl, Nat.le_of_ble_eq_true rfl⟩ rfl rfl (Nat.le_of_ble_eq_true rfl) [] rfl rfl rfl ⟨Nat.le_of_ble_eq_true rfl, Nat.le_of_ble_eq_true rfl⟩ dX11_kindOf_7 rfl ?_
  refine sx_if_eq X 29 dX11_kindOf_10 rfl (fun c3 => ?_) (fun c3 => ?_)
  · have hf := ob_t hf c3
    refine sx_iload_n X 0 rfl dX11_kindOf_29 rfl ?_
    obtain ⟨u4, hu4, hf⟩ := ob_c hf
    refine sx_cSr X (c_X11_isLetter (l := l) (D := D) (T := T) (sd := sd) u1 hu4) (st' := [.int u4]) qm_879 qm_880 qm_15 qm_881 hd_X11_isLetter ⟨rfl, rfl⟩ ⟨Nat.le_of_ble_eq_true rfl, Nat.le_of_ble_eq_true rfl⟩ rfl rfl (Nat.le_of_ble_eq_true rfl) [] rfl rfl rfl ⟨Nat.le_of_ble_eq_true rfl, Nat.le_of_ble_eq_true rfl⟩ dX11_kindOf_30 rfl ?_
    refine sx_if_eq X 46 dX11_kindOf_33 rfl (fun c5 => ?_) (fun c5 => ?_)
    · have hf := ob_t hf c5
      refine sx_iconst X (v := 0) dX11_kindOf_46 rfl ?_
      refine sx_istore X (lv' := [(4, .int 0), (3, .int u1), (0, .ref a0), (1, .int x1), (2, .int x2)]) dX11_kindOf_47 (by decide) rfl ?_
      refine sx_lsub [2, 3, 4, 1, 0] rfl ?_
      exact L49 x1 x2 u1 n 0 hf
    · have hf := ob_f hf c5
      refine sx_iload_n X 3 rfl dX11_kindOf_36 rfl ?_
      refine sx_bipush X (v := 10) dX11_kindOf_37 rfl ?_
      refine sx_icmp_le X 46 dX11_kindOf_39 rfl (fun c14 => ?_) (fun c14 => ?_)
      · have hf := ob_t hf c14
        refine sx_iconst X (v := 0) dX11_kindOf_46 rfl ?_
        refine sx_istore X (lv' := [(4, .int 0), (3, .int u1), (0, .ref a0), (1, .int x1), (2, .int x2)]) dX11_kindOf_47 (by decide) rfl ?_
        refine sx_lsub [2, 3, 4, 1, 0] rfl ?_
        exact L49 x1 x2 u1 n 0 hf
      · have hf := ob_f hf c14
        refine sx_kst X 50 (by decide) qm_888 dX11_kindOf_42 ?_
        exact sx_aret X dX11_kindOf_45 (ob_e hf) rfl rfl
  · have hf := ob_f hf c3
    refine sx_iload_n X 3 rfl dX11_kindOf_13 rfl ?_
    refine sx_bipush X (v := 6) dX11_kindOf_14 rfl ?_
    refine sx_icmp_le X 25 dX11_kindOf_16 rfl (fun c15 => ?_) (fun c15 => ?_)
    · have hf := ob_t hf c15
      refine sx_kst X 48 (by decide) qm_890 dX11_kindOf_25 ?_
      exact sx_aret X dX11_kindOf_28 (ob_e hf) rfl rfl
    · have hf := ob_f hf c15
      refine sx_kst X 50 (by decide) qm_888 dX11_kindOf_19 ?_
      refine sx_goto X 28 dX11_kindOf_22 rfl ?_
      exact sx_aret X dX11_kindOf_28 (ob_e hf) rfl rfl

abbrev vf_X11_next (sd : SdT) (r : Nat) : Option Value := some (.ref (sd.1 r))
abbrev wc_X11_next (T : Nat → ClassId) (sd : SdT) (h : Nat) (h_kinds : Nat) (h_starts : Nat) (h_values : Nat) (b_h : bX11) : va_W := [zO h 9 [.ref h_kinds, .ref h_starts, .ref h_values, .int (X11_count b_h), .int (X11_cursor b_h), .int (X11_error b_h), .int (X11_errorToken b_h)], zK T sd.1 h_kinds 401 (X11_kinds b_h), zI T h_starts 401 (X11_starts b_h), zJ T h_values 401 (X11_values b_h)]
abbrev wf_X11_next (T : Nat → ClassId) (sd : SdT) (h : Nat) (h_kinds : Nat) (h_starts : Nat) (h_values : Nat) (b_h : bX11) (r : Nat) : va_W := [zO h 9 [.ref h_kinds, .ref h_starts, .ref h_values, .int (X11_count b_h), .int (X11_cursor b_h), .int (X11_error b_h), .int (X11_errorToken b_h)], zK T sd.1 h_kinds 401 (X11_kinds b_h), zI T h_starts 401 (X11_starts b_h), zJ T h_values 401 (X11_values b_h)]
abbrev rm_X11_next : Room := { frames := 0, cells := 0, slots := 0, locals := 0 }
theorem hd_X11_next : yX11_next.cls ≠ "java/lang/invoke/MethodHandle" ∧ yX11_next.cls ≠ "java/lang/invoke/VarHandle" ∧ (parseMethodDescriptor yX11_next.desc).map (fun d => d.parameters.length) = some 0 := ⟨by decide, by decide, by decide +kernel⟩
set_option maxHeartbeats 4000000 in
set_option maxRecDepth 100000 in
theorem c_X11_next {l : Launch} {D : va_G} {T : Nat → ClassId} {sd : SdT} (h : Nat) (h_kinds : Nat) (h_starts : Nat) (h_values : Nat) (b_h : bX11) {res : Nat} (hf : f_X11_next b_h = some res) : SxK (SFx sd) l D T yX11_next cX11_next 1 (some (.object "WeatherTea$Kind")) rm_X11_next [.ref h] (wc_X11_next T sd h h_kinds h_starts h_values b_h) (vf_X11_next sd) (wf_X11_next T sd h h_kinds h_starts h_values b_h) res 0 0 := by
  refine sx_start (SFx_ok sd) (by decide +kernel) (Nat.le_of_ble_eq_true rfl) (fun p e s m args below meth c A X hnm => ?_)
  have hf := ob_1 hf
  refine sx_aload_n X 0 rfl dX11_next_0 rfl ?_
  refine sx_get X kX11 0 rfl 4 (Nat.le_of_ble_eq_true rfl) qm_89 rfl dX11_next_1 ?_
  refine sx_aload_n X 0 rfl dX11_next_4 rfl ?_
  refine sx_get X kX11 0 rfl 3 (Nat.le_of_ble_eq_true rfl) qm_87 rfl dX11_next_5 ?_
  refine sx_icmp_ge X 23 dX11_next_8 rfl (fun c1 => ?_) (fun c1 => ?_)
  · have hf := ob_t hf c1
    refine sx_kst X 49 (by decide) qm_82 dX11_next_23 ?_
    exact sx_aret X dX11_next_26 (ob_e hf) rfl rfl
  · have hf := ob_f hf c1
    refine sx_aload_n X 0 rfl dX11_next_11 rfl ?_
    refine sx_get X kX11 0 rfl 0 (Nat.le_of_ble_eq_true rfl) qm_84 rfl dX11_next_12 ?_
    refine sx_aload_n X 0 rfl dX11_next_15 rfl ?_
    refine sx_get X kX11 0 rfl 4 (Nat.le_of_ble_eq_true rfl) qm_89 rfl dX11_next_16 ?_
    obtain ⟨g2, hf⟩ := ob_g hf
    refine sx_kald X 1 rfl g2 dX11_next_19 ?_
    refine sx_goto X 26 dX11_next_20 rfl ?_
    exact sx_aret X dX11_next_26 (ob_e hf) rfl rfl

abbrev vf_X11_sizeOf (sd : SdT) (r : Int32) : Option Value := some (.int r)
abbrev wc_X11_sizeOf (T : Nat → ClassId) (sd : SdT) (a0 : Nat) (a0_bytes : Nat) (b_a0 : bX10) : va_W := [zO a0 8 [.ref a0_bytes, .int (X10_length b_a0)], zB T a0_bytes 2000 (X10_bytes b_a0)]
abbrev wf_X11_sizeOf (T : Nat → ClassId) (sd : SdT) (a0 : Nat) (a0_bytes : Nat) (b_a0 : bX10) (r : Int32) : va_W := [zO a0 8 [.ref a0_bytes, .int (X10_length b_a0)], zB T a0_bytes 2000 (X10_bytes b_a0)]
abbrev rm_X11_sizeOf : Room := { frames := 1, cells := 0, slots := 0, locals := 21 }
theorem hd_X11_sizeOf : yX11_sizeOf.cls ≠ "java/lang/invoke/MethodHandle" ∧ yX11_sizeOf.cls ≠ "java/lang/invoke/VarHandle" ∧ (parseMethodDescriptor yX11_sizeOf.desc).map (fun d => d.parameters.length) = some 2 := ⟨by decide, by decide, by decide +kernel⟩
set_option maxHeartbeats 4000000 in
set_option maxRecDepth 100000 in
theorem c_X11_sizeOf {l : Launch} {D : va_G} {T : Nat → ClassId} {sd : SdT} (a0 : Nat) (a0_bytes : Nat) (n : Nat) (x1 : Int32) (b_a0 : bX10) {res : Int32} (hf : f_X11_sizeOf n x1 b_a0 = some res) : SxK (SFx sd) l D T yX11_sizeOf cX11_sizeOf 4 (some .int) rm_X11_sizeOf [.ref a0, .int x1] (wc_X11_sizeOf T sd a0 a0_bytes b_a0) (vf_X11_sizeOf sd) (wf_X11_sizeOf T sd a0 a0_bytes b_a0) res 0 0 := by
  refine sx_start (SFx_ok sd) (by decide +kernel) (Nat.le_of_ble_eq_true rfl) (fun p e s m args below meth c A X hnm => ?_)
  have hf := ob_1 hf
  have L54 : ∀ (v1 : Int32) (v2 : Int32) (n0 : Nat) (v3 : Int32), (iter (fun s : Int32 => f_X11_sizeOf_L54 n x1 b_a0 v1 v2 s) n0 v3).bind some = some res → SxG p l e rm_X11_sizeOf s m args below meth c D A 4 0 0 (SxE below args s D A (vf_X11_sizeOf sd) (wf_X11_sizeOf T sd a0 a0_bytes b_a0) res 0 0) [zO a0 8 [.ref a0_bytes, .int (X10_length b_a0)], zB T a0_bytes 2000 (X10_bytes b_a0)] [(0, .ref a0), (1, .int v1), (2, .int v2), (3, .int v3)] 54 [] := by
    intro v1 v2 n0
    induction n0 with
    | zero =>
      intro v3 hf
      exact (iter_z hf).elim
    | succ n0 ih54 =>
      intro v3 hf
      obtain ⟨κ54, hκ54, hf⟩ := iter_k hf
      have hf : (f_X11_sizeOf_L54 n x1 b_a0 v1 v2 v3).bind κ54 = some res := hf
      refine sx_iload_n X 3 rfl dX11_sizeOf_54 rfl ?_
      refine sx_aload_n X 0 rfl dX11_sizeOf_55 rfl ?_
      refine sx_get X kX10 0 rfl 1 (Nat.le_of_ble_eq_true rfl) qm_67 rfl dX11_sizeOf_56 ?_
      refine sx_icmp_ge X 97 dX11_sizeOf_59 rfl (fun c4 => ?_) (fun c4 => ?_)
      · have hf := ob_t hf c4
        refine sx_iload_n X 3 rfl dX11_sizeOf_97 rfl ?_
        refine sx_iload_n X 1 rfl dX11_sizeOf_98 rfl ?_
        refine sx_isub X dX11_sizeOf_99 ?_
        have hf := ob_kr hκ54 hf
        exact sx_iret X rfl dX11_sizeOf_100 (ob_e hf) rfl rfl
      · have hf := ob_f hf c4
        refine sx_aload_n X 0 rfl dX11_sizeOf_62 rfl ?_
        refine sx_iload_n X 3 rfl dX11_sizeOf_63 rfl ?_
        obtain ⟨u5, hu5, hf⟩ := ob_c hf
        refine sx_cVr X (c_X10_byteAt (l := l) (D := D) (T := T) (sd := sd) a0 a0_bytes v3 b_a0 hu5) (st' := [.int u5]) (q0 := 0) qm_872 qm_873 qm_874 qm_14 qm_875 hd_X10_byteAt ⟨rfl, rfl⟩ ⟨Nat.le_of_ble_eq_true rfl, Nat.le_of_ble_eq_true rfl⟩ rfl rfl (Nat.le_of_ble_eq_true rfl) rfl rfl rfl [0, 1] rfl rfl rfl ⟨Nat.le_of_ble_eq_true rfl, Nat.le_of_ble_eq_true rfl⟩ dX11_sizeOf_64 rfl ?_
        obtain ⟨u6, hu6, hf⟩ := ob_c hf
        refine sx_cSr X (c_X11_isDigit (l := l) (D := D) (T := T) (sd := sd) u5 hu6) (st' := [.int u6]) qm_882 qm_883 qm_15 qm_884 hd_X11_isDigit ⟨rfl, rfl⟩ ⟨Nat.le_of_ble_eq_true rfl, Nat.le_of_ble_eq_true rfl⟩ rfl rfl (Nat.le_of_ble_eq_true rfl) [] rfl rfl rfl ⟨Nat.le_of_ble_eq_true rfl, Nat.le_of_ble_eq_true rfl⟩ dX11_sizeOf_67 rfl ?_
        refine sx_if_ne X 91 dX11_sizeOf_70 rfl (fun c7 => ?_) (fun c7 => ?_)
        · have hf := ob_f hf c7
          refine sx_iinc X (v := (v3 + 1)) (lv' := [(3, .int (v3 + 1)), (0, .ref a0), (1, .int v1), (2, .int v2)]) 3 rfl dX11_sizeOf_91 rfl (by decide) rfl ?_
          refine sx_goto X 54 dX11_sizeOf_94 rfl ?_
          have hf := ob_k hκ54 hf
          refine sx_lsub [1, 2, 3, 0] rfl ?_
          exact ih54 (v3 + 1) hf
        · have hf := ob_t hf c7
          refine sx_iload_n X 2 rfl dX11_sizeOf_73 rfl ?_
          obtain ⟨u8, hu8, hf⟩ := ob_c hf
          refine sx_cSr X (c_X11_isLetter (l := l) (D := D) (T := T) (sd := sd) v2 hu8) (st' := [.int u8]) qm_879 qm_880 qm_15 qm_881 hd_X11_isLetter ⟨rfl, rfl⟩ ⟨Nat.le_of_ble_eq_true rfl, Nat.le_of_ble_eq_true rfl⟩ rfl rfl (Nat.le_of_ble_eq_true rfl) [] rfl rfl rfl ⟨Nat.le_of_ble_eq_true rfl, Nat.le_of_ble_eq_true rfl⟩ dX11_sizeOf_74 rfl ?_
          refine sx_if_eq X 97 dX11_sizeOf_77 rfl (fun c9 => ?_) (fun c9 => ?_)
          · have hf := ob_t hf c9
            refine sx_iload_n X 3 rfl dX11_sizeOf_97 rfl ?_
            refine sx_iload_n X 1 rfl dX11_sizeOf_98 rfl ?_
            refine sx_isub X dX11_sizeOf_99 ?_
            have hf := ob_kr hκ54 hf
            exact sx_iret X rfl dX11_sizeOf_100 (ob_e hf) rfl rfl
          · have hf := ob_f hf c9
            refine sx_aload_n X 0 rfl dX11_sizeOf_80 rfl ?_
            refine sx_iload_n X 3 rfl dX11_sizeOf_81 rfl ?_
            obtain ⟨u10, hu10, hf⟩ := ob_c hf
            refine sx_cVr X (c_X10_byteAt (l := l) (D := D) (T := T) (sd := sd) a0 a0_bytes v3 b_a0 hu10) (st' := [.int u10]) (q0 := 0) qm_872 qm_873 qm_874 qm_14 qm_875 hd_X10_byteAt ⟨rfl, rfl⟩ ⟨Nat.le_of_ble_eq_true rfl, Nat.le_of_ble_eq_true rfl⟩ rfl rfl (Nat.le_of_ble_eq_true rfl) rfl rfl rfl [0, 1] rfl rfl rfl ⟨Nat.le_of_ble_eq_true rfl, Nat.le_of_ble_eq_true rfl⟩ dX11_sizeOf_82 rfl ?_
            obtain ⟨u11, hu11, hf⟩ := ob_c hf
            refine sx_cSr X (c_X11_isLetter (l := l) (D := D) (T := T) (sd := sd) u10 hu11) (st' := [.int u11]) qm_879 qm_880 qm_15 qm_881 hd_X11_isLetter ⟨rfl, rfl⟩ ⟨Nat.le_of_ble_eq_true rfl, Nat.le_of_ble_eq_true rfl⟩ rfl rfl (Nat.le_of_ble_eq_true rfl) [] rfl rfl rfl ⟨Nat.le_of_ble_eq_true rfl, Nat.le_of_ble_eq_true rfl⟩ dX11_sizeOf_85 rfl ?_
            refine sx_if_eq X 97 dX11_sizeOf_88 rfl (fun c12 => ?_) (fun c12 => ?_)
            · have hf := ob_t hf c12
              refine sx_iload_n X 3 rfl dX11_sizeOf_97 rfl ?_
              refine sx_iload_n X 1 rfl dX11_sizeOf_98 rfl ?_
              refine sx_isub X dX11_sizeOf_99 ?_
              have hf := ob_kr hκ54 hf
              exact sx_iret X rfl dX11_sizeOf_100 (ob_e hf) rfl rfl
            · have hf := ob_f hf c12
              refine sx_iinc X (v := (v3 + 1)) (lv' := [(3, .int (v3 + 1)), (0, .ref a0), (1, .int v1), (2, .int v2)]) 3 rfl dX11_sizeOf_91 rfl (by decide) rfl ?_
              refine sx_goto X 54 dX11_sizeOf_94 rfl ?_
              have hf := ob_k hκ54 hf
              refine sx_lsub [1, 2, 3, 0] rfl ?_
              exact ih54 (v3 + 1) hf
  have R32 : ∀ (v1 : Int32), (f_X11_sizeOf_R32 n x1 b_a0 v1).bind some = some res → SxG p l e rm_X11_sizeOf s m args below meth c D A 4 0 0 (SxE below args s D A (vf_X11_sizeOf sd) (wf_X11_sizeOf T sd a0 a0_bytes b_a0) res 0 0) [zO a0 8 [.ref a0_bytes, .int (X10_length b_a0)], zB T a0_bytes 2000 (X10_bytes b_a0)] [(0, .ref a0), (1, .int v1)] 32 [] := by
    intro v1 hf
    refine sx_aload_n X 0 rfl dX11_sizeOf_32 rfl ?_
    refine sx_iload_n X 1 rfl dX11_sizeOf_33 rfl ?_
    refine sx_iconst X (v := 1) dX11_sizeOf_34 rfl ?_
    refine sx_iadd X dX11_sizeOf_35 ?_
    obtain ⟨u16, hu16, hf⟩ := ob_c hf
    refine sx_cVr X (c_X10_byteAt (l := l) (D := D) (T := T) (sd := sd) a0 a0_bytes (v1 + 1) b_a0 hu16) (st' := [.int u16]) (q0 := 0) qm_872 qm_873 qm_874 qm_14 qm_875 hd_X10_byteAt ⟨rfl, rfl⟩ ⟨Nat.le_of_ble_eq_true rfl, Nat.le_of_ble_eq_true rfl⟩ rfl rfl (Nat.le_of_ble_eq_true rfl) rfl rfl rfl [0, 1] rfl rfl rfl ⟨Nat.le_of_ble_eq_true rfl, Nat.le_of_ble_eq_true rfl⟩ dX11_sizeOf_36 rfl ?_
    refine sx_bipush X (v := 61) dX11_sizeOf_39 rfl ?_
    refine sx_icmp_ne X 48 dX11_sizeOf_41 rfl (fun c17 => ?_) (fun c17 => ?_)
    · have hf := ob_f hf c17
      refine sx_iconst X (v := 1) dX11_sizeOf_48 rfl ?_
      exact sx_iret X rfl dX11_sizeOf_49 (ob_e hf) rfl rfl
    · have hf := ob_t hf c17
      refine sx_iconst X (v := 2) dX11_sizeOf_44 rfl ?_
      refine sx_goto X 49 dX11_sizeOf_45 rfl ?_
      exact sx_iret X rfl dX11_sizeOf_49 (ob_e hf) rfl rfl
  refine sx_aload_n X 0 rfl dX11_sizeOf_0 rfl ?_
  refine sx_iload_n X 1 rfl dX11_sizeOf_1 rfl ?_
  obtain ⟨u1, hu1, hf⟩ := ob_c hf
  refine sx_cVr X (c_X10_byteAt (l := l) (D := D) (T := T) (sd := sd) a0 a0_bytes x1 b_a0 hu1) (st' := [.int u1]) (q0 := 0) qm_872 qm_873 qm_874 qm_14 qm_875 hd_X10_byteAt ⟨rfl, rfl⟩ ⟨Nat.le_of_ble_eq_true rfl, Nat.le_of_ble_eq_true rfl⟩ rfl rfl (Nat.le_of_ble_eq_true rfl) rfl rfl rfl [0, 1] rfl rfl rfl ⟨Nat.le_of_ble_eq_true rfl, Nat.le_of_ble_eq_true rfl⟩ dX11_sizeOf_2 rfl ?_
  refine sx_istore_n X (lv' := [(2, .int u1), (0, .ref a0), (1, .int x1)]) dX11_sizeOf_5 rfl (by decide) rfl ?_
  refine sx_iload_n X 0 rfl dX11_sizeOf_6 rfl ?_
  obtain ⟨u2, hu2, hf⟩ := ob_c hf
  refine sx_cSr X (c_X11_isLetter (l := l) (D := D) (T := T) (sd := sd) u1 hu2) (st' := [.int u2]) qm_879 qm_880 qm_15 qm_881 hd_X11_isLetter ⟨rfl, rfl⟩ ⟨Nat.le_of_ble_eq_true rfl, Nat.le_of_ble_eq_true rfl⟩ rfl rfl (Nat.le_of_ble_eq_true rfl) [] rfl rfl rfl ⟨Nat.le_of_ble_eq_true rfl, Nat.le_of_ble_eq_true rfl⟩ dX11_sizeOf_7 rfl ?_
  refine sx_if_ne X 50 dX11_sizeOf_10 rfl (fun c3 => ?_) (fun c3 => ?_)
  · have hf := ob_f hf c3
    refine sx_iload_n X 2 rfl dX11_sizeOf_50 rfl ?_
    refine sx_iconst X (v := 1) dX11_sizeOf_51 rfl ?_
    refine sx_iadd X dX11_sizeOf_52 ?_
    refine sx_istore_n X (lv' := [(3, .int (x1 + 1)), (2, .int u1), (0, .ref a0), (1, .int x1)]) dX11_sizeOf_53 rfl (by decide) rfl ?_
    refine sx_lsub [2, 3, 1, 0] rfl ?_
    exact L54 x1 u1 n (x1 + 1) hf
  · have hf := ob_t hf c3
    refine sx_iload_n X 0 rfl dX11_sizeOf_13 rfl ?_
    obtain ⟨u13, hu13, hf⟩ := ob_c hf
    refine sx_cSr X (c_X11_isDigit (l := l) (D := D) (T := T) (sd := sd) u1 hu13) (st' := [.int u13]) qm_882 qm_883 qm_15 qm_884 hd_X11_isDigit ⟨rfl, rfl⟩ ⟨Nat.le_of_ble_eq_true rfl, Nat.le_of_ble_eq_true rfl⟩ rfl rfl (Nat.le_of_ble_eq_true rfl) [] rfl rfl rfl ⟨Nat.le_of_ble_eq_true rfl, Nat.le_of_ble_eq_true rfl⟩ dX11_sizeOf_14 rfl ?_
    refine sx_if_ne X 50 dX11_sizeOf_17 rfl (fun c14 => ?_) (fun c14 => ?_)
    · have hf := ob_f hf c14
      refine sx_iload_n X 2 rfl dX11_sizeOf_50 rfl ?_
      refine sx_iconst X (v := 1) dX11_sizeOf_51 rfl ?_
      refine sx_iadd X dX11_sizeOf_52 ?_
      refine sx_istore_n X (lv' := [(3, .int (x1 + 1)), (2, .int u1), (0, .ref a0), (1, .int x1)]) dX11_sizeOf_53 rfl (by decide) rfl ?_
      refine sx_lsub [2, 3, 1, 0] rfl ?_
      exact L54 x1 u1 n (x1 + 1) hf
    · have hf := ob_t hf c14
      refine sx_iload_n X 0 rfl dX11_sizeOf_20 rfl ?_
      refine sx_bipush X (v := 60) dX11_sizeOf_21 rfl ?_
      refine sx_icmp_eq X 32 dX11_sizeOf_23 rfl (fun c15 => ?_) (fun c15 => ?_)
      · have hf := ob_t hf c15
        refine sx_lsub [1, 2] rfl ?_
        exact R32 x1 hf
      · have hf := ob_f hf c15
        refine sx_iload_n X 0 rfl dX11_sizeOf_26 rfl ?_
        refine sx_bipush X (v := 62) dX11_sizeOf_27 rfl ?_
        refine sx_icmp_ne X 48 dX11_sizeOf_29 rfl (fun c18 => ?_) (fun c18 => ?_)
        · have hf := ob_f hf c18
          refine sx_iconst X (v := 1) dX11_sizeOf_48 rfl ?_
          exact sx_iret X rfl dX11_sizeOf_49 (ob_e hf) rfl rfl
        · have hf := ob_t hf c18
          refine sx_lsub [1, 2] rfl ?_
          exact R32 x1 hf

abbrev vf_X11_wordSign (sd : SdT) (r : Int32) : Option Value := some (.int r)
abbrev wc_X11_wordSign (T : Nat → ClassId) (sd : SdT)  : va_W := []
abbrev wf_X11_wordSign (T : Nat → ClassId) (sd : SdT)  (r : Int32) : va_W := []
abbrev rm_X11_wordSign : Room := { frames := 1, cells := 0, slots := 0, locals := 20 }
theorem hd_X11_wordSign : yX11_wordSign.cls ≠ "java/lang/invoke/MethodHandle" ∧ yX11_wordSign.cls ≠ "java/lang/invoke/VarHandle" ∧ (parseMethodDescriptor yX11_wordSign.desc).map (fun d => d.parameters.length) = some 1 := ⟨by decide, by decide, by decide +kernel⟩
set_option maxHeartbeats 4000000 in
set_option maxRecDepth 100000 in
theorem c_X11_wordSign {l : Launch} {D : va_G} {T : Nat → ClassId} {sd : SdT}  (x0 : Int32) {res : Int32} (hf : f_X11_wordSign x0 = some res) : SxK (SFx sd) l D T yX11_wordSign cX11_wordSign 1 (some .int) rm_X11_wordSign [.int x0] (wc_X11_wordSign T sd ) (vf_X11_wordSign sd) (wf_X11_wordSign T sd ) res 0 0 := by
  refine sx_start (SFx_ok sd) (by decide +kernel) (Nat.le_of_ble_eq_true rfl) (fun p e s m args below meth c A X hnm => ?_)
  have hf := ob_1 hf
  refine sx_iload_n X 0 rfl dX11_wordSign_0 rfl ?_
  obtain ⟨u1, hu1, hf⟩ := ob_c hf
  refine sx_cSr X (c_X11_isDigit (l := l) (D := D) (T := T) (sd := sd) x0 hu1) (st' := [.int u1]) qm_882 qm_883 qm_15 qm_884 hd_X11_isDigit ⟨rfl, rfl⟩ ⟨Nat.le_of_ble_eq_true rfl, Nat.le_of_ble_eq_true rfl⟩ rfl rfl (Nat.le_of_ble_eq_true rfl) [] rfl rfl rfl ⟨Nat.le_of_ble_eq_true rfl, Nat.le_of_ble_eq_true rfl⟩ dX11_wordSign_1 rfl ?_
  refine sx_if_eq X 16 dX11_wordSign_4 rfl (fun c2 => ?_) (fun c2 => ?_)
  · have hf := ob_t hf c2
    refine sx_iload_n X 0 rfl dX11_wordSign_16 rfl ?_
    refine sx_bipush X (v := 97) dX11_wordSign_17 rfl ?_
    refine sx_isub X dX11_wordSign_19 ?_
    refine sx_bipush X (v := 11) dX11_wordSign_20 rfl ?_
    refine sx_iadd X dX11_wordSign_22 ?_
    exact sx_iret X rfl dX11_wordSign_23 (ob_e hf) rfl rfl
  · have hf := ob_f hf c2
    refine sx_iload_n X 0 rfl dX11_wordSign_7 rfl ?_
    refine sx_bipush X (v := 48) dX11_wordSign_8 rfl ?_
    refine sx_isub X dX11_wordSign_10 ?_
    refine sx_iconst X (v := 1) dX11_wordSign_11 rfl ?_
    refine sx_iadd X dX11_wordSign_12 ?_
    refine sx_goto X 23 dX11_wordSign_13 rfl ?_
    exact sx_iret X rfl dX11_wordSign_23 (ob_e hf) rfl rfl

abbrev vf_X11_valueOf (sd : SdT) (r : Int64) : Option Value := some (.long r)
abbrev wc_X11_valueOf (T : Nat → ClassId) (sd : SdT) (a0 : Nat) (a0_bytes : Nat) (b_a0 : bX10) : va_W := [zO a0 8 [.ref a0_bytes, .int (X10_length b_a0)], zB T a0_bytes 2000 (X10_bytes b_a0)]
abbrev wf_X11_valueOf (T : Nat → ClassId) (sd : SdT) (a0 : Nat) (a0_bytes : Nat) (b_a0 : bX10) (r : Int64) : va_W := [zO a0 8 [.ref a0_bytes, .int (X10_length b_a0)], zB T a0_bytes 2000 (X10_bytes b_a0)]
abbrev rm_X11_valueOf : Room := { frames := 2, cells := 0, slots := 0, locals := 40 }
theorem hd_X11_valueOf : yX11_valueOf.cls ≠ "java/lang/invoke/MethodHandle" ∧ yX11_valueOf.cls ≠ "java/lang/invoke/VarHandle" ∧ (parseMethodDescriptor yX11_valueOf.desc).map (fun d => d.parameters.length) = some 3 := ⟨by decide, by decide, by decide +kernel⟩
set_option maxHeartbeats 4000000 in
set_option maxRecDepth 100000 in
theorem c_X11_valueOf {l : Launch} {D : va_G} {T : Nat → ClassId} {sd : SdT} (a0 : Nat) (a0_bytes : Nat) (n : Nat) (x1 : Int32) (x2 : Int32) (b_a0 : bX10) {res : Int64} (hf : f_X11_valueOf n x1 x2 b_a0 = some res) : SxK (SFx sd) l D T yX11_valueOf cX11_valueOf 8 (some .long) rm_X11_valueOf [.ref a0, .int x1, .int x2] (wc_X11_valueOf T sd a0 a0_bytes b_a0) (vf_X11_valueOf sd) (wf_X11_valueOf T sd a0 a0_bytes b_a0) res 0 0 := by
  refine sx_start (SFx_ok sd) (by decide +kernel) (Nat.le_of_ble_eq_true rfl) (fun p e s m args below meth c A X hnm => ?_)
  have hf := ob_1 hf
  have L15 : ∀ (v1 : Int32) (v2 : Int32) (v3 : Int32) (n0 : Nat) (v4 : Int64) (v6 : Int32), (iter (fun s : Int64 × Int32 => f_X11_valueOf_L15 n x1 x2 b_a0 v1 v2 v3 s.1 s.2) n0 (v4, v6)).bind some = some res → SxG p l e rm_X11_valueOf s m args below meth c D A 8 0 0 (SxE below args s D A (vf_X11_valueOf sd) (wf_X11_valueOf T sd a0 a0_bytes b_a0) res 0 0) [zO a0 8 [.ref a0_bytes, .int (X10_length b_a0)], zB T a0_bytes 2000 (X10_bytes b_a0)] [(0, .ref a0), (1, .int v1), (2, .int v2), (3, .int v3), (4, .long v4), (6, .int v6)] 15 [] := by
    intro v1 v2 v3 n0
    induction n0 with
    | zero =>
      intro v4 v6 hf
      exact (iter_z hf).elim
    | succ n0 ih15 =>
      intro v4 v6 hf
      obtain ⟨κ15, hκ15, hf⟩ := iter_k hf
      have hf : (f_X11_valueOf_L15 n x1 x2 b_a0 v1 v2 v3 v4 v6).bind κ15 = some res := hf
      refine sx_iload X 5 rfl dX11_valueOf_15 ?_
      refine sx_iload_n X 2 rfl dX11_valueOf_17 rfl ?_
      refine sx_icmp_ge X 72 dX11_valueOf_18 rfl (fun c3 => ?_) (fun c3 => ?_)
      · have hf := ob_t hf c3
        refine sx_lload X 4 rfl dX11_valueOf_72 ?_
        have hf := ob_kr hκ15 hf
        exact sx_lret X dX11_valueOf_74 (ob_e hf) rfl rfl
      · have hf := ob_f hf c3
        refine sx_aload_n X 0 rfl dX11_valueOf_21 rfl ?_
        refine sx_iload_n X 1 rfl dX11_valueOf_22 rfl ?_
        refine sx_iload X 5 rfl dX11_valueOf_23 ?_
        refine sx_iadd X dX11_valueOf_25 ?_
        obtain ⟨u4, hu4, hf⟩ := ob_c hf
        refine sx_cVr X (c_X10_byteAt (l := l) (D := D) (T := T) (sd := sd) a0 a0_bytes (v1 + v6) b_a0 hu4) (st' := [.int u4]) (q0 := 0) qm_872 qm_873 qm_874 qm_14 qm_875 hd_X10_byteAt ⟨rfl, rfl⟩ ⟨Nat.le_of_ble_eq_true rfl, Nat.le_of_ble_eq_true rfl⟩ rfl rfl (Nat.le_of_ble_eq_true rfl) rfl rfl rfl [0, 1] rfl rfl rfl ⟨Nat.le_of_ble_eq_true rfl, Nat.le_of_ble_eq_true rfl⟩ dX11_valueOf_26 rfl ?_
        refine sx_istore X (lv' := [(7, .int u4), (0, .ref a0), (1, .int v1), (2, .int v2), (3, .int v3), (4, .long v4), (6, .int v6)]) dX11_valueOf_29 (by decide) rfl ?_
        refine sx_iload_n X 4 rfl dX11_valueOf_31 rfl ?_
        refine sx_if_eq X 51 dX11_valueOf_32 rfl (fun c5 => ?_) (fun c5 => ?_)
        · have hf := ob_t hf c5
          refine sx_lload X 5 rfl dX11_valueOf_51 ?_
          refine sx_ldc2 X qm_907 dX11_valueOf_53 ?_
          refine sx_lmul X dX11_valueOf_56 ?_
          refine sx_iload X 0 rfl dX11_valueOf_57 ?_
          obtain ⟨u6, hu6, hf⟩ := ob_c hf
          refine sx_cSr X (c_X11_wordSign (l := l) (D := D) (T := T) (sd := sd) u4 hu6) (st' := [.int u6, .long (v4 * 37)]) qm_908 qm_909 qm_15 qm_910 hd_X11_wordSign ⟨rfl, rfl⟩ ⟨Nat.le_of_ble_eq_true rfl, Nat.le_of_ble_eq_true rfl⟩ rfl rfl (Nat.le_of_ble_eq_true rfl) [] rfl rfl rfl ⟨Nat.le_of_ble_eq_true rfl, Nat.le_of_ble_eq_true rfl⟩ dX11_valueOf_59 rfl ?_
          refine sx_i2l X dX11_valueOf_62 ?_
          refine sx_ladd X dX11_valueOf_63 ?_
          refine sx_lstore X (lv' := [(4, .long ((v4 * 37) + (Int32.toInt64 u6))), (7, .int u4), (0, .ref a0), (1, .int v1), (2, .int v2), (3, .int v3), (6, .int v6)]) dX11_valueOf_64 (by decide) rfl ?_
          refine sx_iinc X (v := (v6 + 1)) (lv' := [(6, .int (v6 + 1)), (4, .long ((v4 * 37) + (Int32.toInt64 u6))), (7, .int u4), (0, .ref a0), (1, .int v1), (2, .int v2), (3, .int v3)]) 6 rfl dX11_valueOf_66 rfl (by decide) rfl ?_
          refine sx_goto X 15 dX11_valueOf_69 rfl ?_
          have hf := ob_k hκ15 hf
          refine sx_lsub [3, 4, 5, 6, 1, 0] rfl ?_
          exact ih15 ((v4 * 37) + (Int32.toInt64 u6)) (v6 + 1) hf
        · have hf := ob_f hf c5
          refine sx_lload X 5 rfl dX11_valueOf_35 ?_
          refine sx_ldc2 X qm_906 dX11_valueOf_37 ?_
          refine sx_lmul X dX11_valueOf_40 ?_
          refine sx_iload X 0 rfl dX11_valueOf_41 ?_
          refine sx_bipush X (v := 48) dX11_valueOf_43 rfl ?_
          refine sx_isub X dX11_valueOf_45 ?_
          refine sx_i2l X dX11_valueOf_46 ?_
          refine sx_ladd X dX11_valueOf_47 ?_
          refine sx_goto X 64 dX11_valueOf_48 rfl ?_
          refine sx_lstore X (lv' := [(4, .long ((v4 * 10) + (Int32.toInt64 (u4 - 48)))), (7, .int u4), (0, .ref a0), (1, .int v1), (2, .int v2), (3, .int v3), (6, .int v6)]) dX11_valueOf_64 (by decide) rfl ?_
          refine sx_iinc X (v := (v6 + 1)) (lv' := [(6, .int (v6 + 1)), (4, .long ((v4 * 10) + (Int32.toInt64 (u4 - 48)))), (7, .int u4), (0, .ref a0), (1, .int v1), (2, .int v2), (3, .int v3)]) 6 rfl dX11_valueOf_66 rfl (by decide) rfl ?_
          refine sx_goto X 15 dX11_valueOf_69 rfl ?_
          have hf := ob_k hκ15 hf
          refine sx_lsub [3, 4, 5, 6, 1, 0] rfl ?_
          exact ih15 ((v4 * 10) + (Int32.toInt64 (u4 - 48))) (v6 + 1) hf
  refine sx_aload_n X 0 rfl dX11_valueOf_0 rfl ?_
  refine sx_iload_n X 1 rfl dX11_valueOf_1 rfl ?_
  obtain ⟨u1, hu1, hf⟩ := ob_c hf
  refine sx_cVr X (c_X10_byteAt (l := l) (D := D) (T := T) (sd := sd) a0 a0_bytes x1 b_a0 hu1) (st' := [.int u1]) (q0 := 0) qm_872 qm_873 qm_874 qm_14 qm_875 hd_X10_byteAt ⟨rfl, rfl⟩ ⟨Nat.le_of_ble_eq_true rfl, Nat.le_of_ble_eq_true rfl⟩ rfl rfl (Nat.le_of_ble_eq_true rfl) rfl rfl rfl [0, 1] rfl rfl rfl ⟨Nat.le_of_ble_eq_true rfl, Nat.le_of_ble_eq_true rfl⟩ dX11_valueOf_2 rfl ?_
  obtain ⟨u2, hu2, hf⟩ := ob_c hf
  refine sx_cSr X (c_X11_isDigit (l := l) (D := D) (T := T) (sd := sd) u1 hu2) (st' := [.int u2]) qm_882 qm_883 qm_15 qm_884 hd_X11_isDigit ⟨rfl, rfl⟩ ⟨Nat.le_of_ble_eq_true rfl, Nat.le_of_ble_eq_true rfl⟩ rfl rfl (Nat.le_of_ble_eq_true rfl) [] rfl rfl rfl ⟨Nat.le_of_ble_eq_true rfl, Nat.le_of_ble_eq_true rfl⟩ dX11_valueOf_5 rfl ?_
  refine sx_istore_n X (lv' := [(3, .int u2), (0, .ref a0), (1, .int x1), (2, .int x2)]) dX11_valueOf_8 rfl (by decide) rfl ?_
  refine sx_lconst X (v := 0) dX11_valueOf_9 rfl ?_
  refine sx_lstore X (lv' := [(4, .long 0), (3, .int u2), (0, .ref a0), (1, .int x1), (2, .int x2)]) dX11_valueOf_10 (by decide) rfl ?_
  refine sx_iconst X (v := 0) dX11_valueOf_12 rfl ?_
  refine sx_istore X (lv' := [(6, .int 0), (4, .long 0), (3, .int u2), (0, .ref a0), (1, .int x1), (2, .int x2)]) dX11_valueOf_13 (by decide) rfl ?_
  refine sx_lsub [3, 4, 5, 2, 1, 0] rfl ?_
  exact L15 x1 x2 u2 n 0 0 hf

abbrev vf_X11_readAll (sd : SdT) (_r : (Nat → Nat) × (Nat → Int32) × (Nat → Int64) × Int32 × Int32 × Int32 × Int32) : Option Value := none
abbrev wc_X11_readAll (T : Nat → ClassId) (sd : SdT) (h : Nat) (h_kinds : Nat) (h_starts : Nat) (h_values : Nat) (a0 : Nat) (a0_bytes : Nat) (b_h : bX11) (b_a0 : bX10) : va_W := [zO h 9 [.ref h_kinds, .ref h_starts, .ref h_values, .int (X11_count b_h), .int (X11_cursor b_h), .int (X11_error b_h), .int (X11_errorToken b_h)], zK T sd.1 h_kinds 401 (X11_kinds b_h), zI T h_starts 401 (X11_starts b_h), zJ T h_values 401 (X11_values b_h), zO a0 8 [.ref a0_bytes, .int (X10_length b_a0)], zB T a0_bytes 2000 (X10_bytes b_a0)]
abbrev wf_X11_readAll (T : Nat → ClassId) (sd : SdT) (h : Nat) (h_kinds : Nat) (h_starts : Nat) (h_values : Nat) (a0 : Nat) (a0_bytes : Nat) (b_h : bX11) (b_a0 : bX10) (r : (Nat → Nat) × (Nat → Int32) × (Nat → Int64) × Int32 × Int32 × Int32 × Int32) : va_W := [zO h 9 [.ref h_kinds, .ref h_starts, .ref h_values, .int r.2.2.2.1, .int r.2.2.2.2.1, .int r.2.2.2.2.2.1, .int r.2.2.2.2.2.2], zK T sd.1 h_kinds 401 r.1, zI T h_starts 401 r.2.1, zJ T h_values 401 r.2.2.1, zO a0 8 [.ref a0_bytes, .int (X10_length b_a0)], zB T a0_bytes 2000 (X10_bytes b_a0)]
abbrev rm_X11_readAll : Room := { frames := 6, cells := 0, slots := 0, locals := 148 }
theorem hd_X11_readAll : yX11_readAll.cls ≠ "java/lang/invoke/MethodHandle" ∧ yX11_readAll.cls ≠ "java/lang/invoke/VarHandle" ∧ (parseMethodDescriptor yX11_readAll.desc).map (fun d => d.parameters.length) = some 1 := ⟨by decide, by decide, by decide +kernel⟩
set_option maxHeartbeats 4000000 in
set_option maxRecDepth 100000 in
theorem c_X11_readAll {l : Launch} {D : va_G} {T : Nat → ClassId} {sd : SdT} (h : Nat) (h_kinds : Nat) (h_starts : Nat) (h_values : Nat) (a0 : Nat) (a0_bytes : Nat) (n : Nat) (b_h : bX11) (b_a0 : bX10) {res : (Nat → Nat) × (Nat → Int32) × (Nat → Int64) × Int32 × Int32 × Int32 × Int32} (hf : f_X11_readAll n b_h b_a0 = some res) : SxK (SFx sd) l D T yX11_readAll cX11_readAll 6 none rm_X11_readAll [.ref h, .ref a0] (wc_X11_readAll T sd h h_kinds h_starts h_values a0 a0_bytes b_h b_a0) (vf_X11_readAll sd) (wf_X11_readAll T sd h h_kinds h_starts h_values a0 a0_bytes b_h b_a0) res 0 0 := by
  refine sx_start (SFx_ok sd) (by decide +kernel) (Nat.le_of_ble_eq_true rfl) (fun p e s m args below meth c A X hnm => ?_)
  have hf := ob_1 hf
  have R117 : ∀ (v2 : Int32) (w_h_kinds : Nat → Nat) (w_h_starts : Nat → Int32) (w_h_values : Nat → Int64) (w_h_count : Int32) (w_h_cursor : Int32) (w_h_error : Int32) (w_h_errorToken : Int32) (t0 : Nat), (f_X11_readAll_R117 n b_h b_a0 v2 w_h_kinds w_h_starts w_h_values w_h_count w_h_cursor w_h_error w_h_errorToken t0).bind some = some res → SxG p l e rm_X11_readAll s m args below meth c D A 6 0 0 (SxE below args s D A (vf_X11_readAll sd) (wf_X11_readAll T sd h h_kinds h_starts h_values a0 a0_bytes b_h b_a0) res 0 0) [zO h 9 [.ref h_kinds, .ref h_starts, .ref h_values, .int w_h_count, .int w_h_cursor, .int w_h_error, .int w_h_errorToken], zK T sd.1 h_kinds 401 w_h_kinds, zI T h_starts 401 w_h_starts, zJ T h_values 401 w_h_values, zO a0 8 [.ref a0_bytes, .int (X10_length b_a0)], zB T a0_bytes 2000 (X10_bytes b_a0)] [(2, .int v2)] 117 [.ref (sd.1 t0), .ref h] := by
    intro v2 w_h_kinds w_h_starts w_h_values w_h_count w_h_cursor w_h_error w_h_errorToken t0 hf
    refine sx_iload_n X 0 rfl dX11_readAll_117 rfl ?_
    refine sx_lconst X (v := 0) dX11_readAll_118 rfl ?_
    obtain ⟨u4, hu4, hf⟩ := ob_c hf
    refine sx_cV X (c_X11_add (l := l) (D := D) (T := T) (sd := sd) h h_kinds h_starts h_values t0 v2 0 (w_h_kinds, w_h_starts, w_h_values, w_h_count, w_h_cursor, w_h_error, w_h_errorToken) hu4) (st' := []) (q0 := 0) qm_911 qm_913 qm_11 qm_15 qm_914 hd_X11_add ⟨rfl, rfl⟩ ⟨Nat.le_of_ble_eq_true rfl, Nat.le_of_ble_eq_true rfl⟩ rfl rfl (Nat.le_of_ble_eq_true rfl) rfl rfl rfl [0, 1, 2, 3] rfl rfl (ws' := [zO h 9 [.ref h_kinds, .ref h_starts, .ref h_values, .int u4.2.2.2, .int w_h_cursor, .int w_h_error, .int w_h_errorToken], zK T sd.1 h_kinds 401 u4.1, zI T h_starts 401 u4.2.1, zJ T h_values 401 u4.2.2.1, zO a0 8 [.ref a0_bytes, .int (X10_length b_a0)], zB T a0_bytes 2000 (X10_bytes b_a0)]) (sxPatch_pk [(true, 0), (true, 1), (true, 2), (true, 3), (false, 4), (false, 5)] (by decide +kernel) rfl rfl rfl) rfl ⟨Nat.le_of_ble_eq_true rfl, Nat.le_of_ble_eq_true rfl⟩ dX11_readAll_119 rfl ?_
    exact sx_vret X dX11_readAll_122 (ob_e hf) rfl rfl
  have R99 : ∀ (v2 : Int32) (w_h_kinds : Nat → Nat) (w_h_starts : Nat → Int32) (w_h_values : Nat → Int64) (w_h_count : Int32) (w_h_cursor : Int32) (w_h_error : Int32) (w_h_errorToken : Int32), (f_X11_readAll_R99 n b_h b_a0 v2 w_h_kinds w_h_starts w_h_values w_h_count w_h_cursor w_h_error w_h_errorToken).bind some = some res → SxG p l e rm_X11_readAll s m args below meth c D A 6 0 0 (SxE below args s D A (vf_X11_readAll sd) (wf_X11_readAll T sd h h_kinds h_starts h_values a0 a0_bytes b_h b_a0) res 0 0) [zO h 9 [.ref h_kinds, .ref h_starts, .ref h_values, .int w_h_count, .int w_h_cursor, .int w_h_error, .int w_h_errorToken], zK T sd.1 h_kinds 401 w_h_kinds, zI T h_starts 401 w_h_starts, zJ T h_values 401 w_h_values, zO a0 8 [.ref a0_bytes, .int (X10_length b_a0)], zB T a0_bytes 2000 (X10_bytes b_a0)] [(0, .ref h), (1, .ref a0), (2, .int v2)] 99 [] := by
    intro v2 w_h_kinds w_h_starts w_h_values w_h_count w_h_cursor w_h_error w_h_errorToken hf
    refine sx_aload_n X 0 rfl dX11_readAll_99 rfl ?_
    refine sx_iload_n X 2 rfl dX11_readAll_100 rfl ?_
    refine sx_aload_n X 1 rfl dX11_readAll_101 rfl ?_
    refine sx_get X kX10 4 rfl 1 (Nat.le_of_ble_eq_true rfl) qm_67 rfl dX11_readAll_102 ?_
    refine sx_icmp_ge X 114 dX11_readAll_105 rfl (fun c3 => ?_) (fun c3 => ?_)
    · have hf := ob_t hf c3
      refine sx_kst X 49 (by decide) qm_82 dX11_readAll_114 ?_
      refine sx_lsub [2] rfl ?_
      exact R117 v2 w_h_kinds w_h_starts w_h_values w_h_count w_h_cursor w_h_error w_h_errorToken 49 hf
    · have hf := ob_f hf c3
      refine sx_kst X 50 (by decide) qm_888 dX11_readAll_108 ?_
      refine sx_goto X 117 dX11_readAll_111 rfl ?_
      refine sx_lsub [2] rfl ?_
      exact R117 v2 w_h_kinds w_h_starts w_h_values w_h_count w_h_cursor w_h_error w_h_errorToken 50 hf
  have L28 : ∀ (w_h_cursor : Int32) (w_h_error : Int32) (w_h_errorToken : Int32) (n0 : Nat) (v2 : Int32) (v3 : Int32) (w_h_kinds : Nat → Nat) (w_h_starts : Nat → Int32) (w_h_values : Nat → Int64) (w_h_count : Int32), (iter (fun s : Int32 × Int32 × (Nat → Nat) × (Nat → Int32) × (Nat → Int64) × Int32 => f_X11_readAll_L28 n b_h b_a0 s.1 s.2.1 s.2.2.1 s.2.2.2.1 s.2.2.2.2.1 s.2.2.2.2.2 w_h_cursor w_h_error w_h_errorToken) n0 (v2, v3, w_h_kinds, w_h_starts, w_h_values, w_h_count)).bind some = some res → SxG p l e rm_X11_readAll s m args below meth c D A 6 0 0 (SxE below args s D A (vf_X11_readAll sd) (wf_X11_readAll T sd h h_kinds h_starts h_values a0 a0_bytes b_h b_a0) res 0 0) [zO h 9 [.ref h_kinds, .ref h_starts, .ref h_values, .int w_h_count, .int w_h_cursor, .int w_h_error, .int w_h_errorToken], zK T sd.1 h_kinds 401 w_h_kinds, zI T h_starts 401 w_h_starts, zJ T h_values 401 w_h_values, zO a0 8 [.ref a0_bytes, .int (X10_length b_a0)], zB T a0_bytes 2000 (X10_bytes b_a0)] [(0, .ref h), (1, .ref a0), (2, .int v2), (3, .int v3)] 28 [] := by
    intro w_h_cursor w_h_error w_h_errorToken n0
    induction n0 with
    | zero =>
      intro v2 v3 w_h_kinds w_h_starts w_h_values w_h_count hf
      exact (iter_z hf).elim
    | succ n0 ih28 =>
      intro v2 v3 w_h_kinds w_h_starts w_h_values w_h_count hf
      obtain ⟨κ28, hκ28, hf⟩ := iter_k hf
      have hf : (f_X11_readAll_L28 n b_h b_a0 v2 v3 w_h_kinds w_h_starts w_h_values w_h_count w_h_cursor w_h_error w_h_errorToken).bind κ28 = some res := hf
      refine sx_iload_n X 3 rfl dX11_readAll_28 rfl ?_
      refine sx_sipush X (v := 400) dX11_readAll_29 rfl ?_
      refine sx_icmp_ge X 99 dX11_readAll_32 rfl (fun c2 => ?_) (fun c2 => ?_)
      · have hf := ob_t hf c2
        have hf := ob_kx hκ28 hf
        refine sx_lsub [0, 1, 2] rfl ?_
        exact R99 v2 w_h_kinds w_h_starts w_h_values w_h_count w_h_cursor w_h_error w_h_errorToken hf
      · have hf := ob_f hf c2
        refine sx_iload_n X 2 rfl dX11_readAll_35 rfl ?_
        refine sx_aload_n X 1 rfl dX11_readAll_36 rfl ?_
        refine sx_get X kX10 4 rfl 1 (Nat.le_of_ble_eq_true rfl) qm_67 rfl dX11_readAll_37 ?_
        refine sx_icmp_ge X 99 dX11_readAll_40 rfl (fun c5 => ?_) (fun c5 => ?_)
        · have hf := ob_t hf c5
          have hf := ob_kx hκ28 hf
          refine sx_lsub [0, 1, 2] rfl ?_
          exact R99 v2 w_h_kinds w_h_starts w_h_values w_h_count w_h_cursor w_h_error w_h_errorToken hf
        · have hf := ob_f hf c5
          refine sx_aload_n X 1 rfl dX11_readAll_43 rfl ?_
          refine sx_iload_n X 2 rfl dX11_readAll_44 rfl ?_
          obtain ⟨u6, hu6, hf⟩ := ob_c hf
          refine sx_cSr X (c_X11_sizeOf (l := l) (D := D) (T := T) (sd := sd) a0 a0_bytes n v2 b_a0 hu6) (st' := [.int u6]) qm_876 qm_877 qm_15 qm_878 hd_X11_sizeOf ⟨rfl, rfl⟩ ⟨Nat.le_of_ble_eq_true rfl, Nat.le_of_ble_eq_true rfl⟩ rfl rfl (Nat.le_of_ble_eq_true rfl) [4, 5] rfl rfl rfl ⟨Nat.le_of_ble_eq_true rfl, Nat.le_of_ble_eq_true rfl⟩ dX11_readAll_45 rfl ?_
          refine sx_istore X (lv' := [(4, .int u6), (0, .ref h), (1, .ref a0), (2, .int v2), (3, .int v3)]) dX11_readAll_48 (by decide) rfl ?_
          refine sx_aload_n X 2 rfl dX11_readAll_50 rfl ?_
          refine sx_iload_n X 3 rfl dX11_readAll_51 rfl ?_
          refine sx_iload X 0 rfl dX11_readAll_52 ?_
          obtain ⟨u7, hu7, hf⟩ := ob_c hf
          refine sx_cSr X (c_X11_kindOf (l := l) (D := D) (T := T) (sd := sd) a0 a0_bytes n v2 u6 b_a0 hu7) (st' := [.ref (sd.1 u7)]) qm_885 qm_886 qm_15 qm_887 hd_X11_kindOf ⟨rfl, rfl⟩ ⟨Nat.le_of_ble_eq_true rfl, Nat.le_of_ble_eq_true rfl⟩ rfl rfl (Nat.le_of_ble_eq_true rfl) [4, 5] rfl rfl rfl ⟨Nat.le_of_ble_eq_true rfl, Nat.le_of_ble_eq_true rfl⟩ dX11_readAll_54 rfl ?_
          refine sx_astore X (lv' := [(5, .ref (sd.1 u7)), (4, .int u6), (0, .ref h), (1, .ref a0), (2, .int v2), (3, .int v3)]) dX11_readAll_57 (by decide) rfl ?_
          refine sx_aload X 0 rfl dX11_readAll_59 ?_
          refine sx_kst X 50 (by decide) qm_888 dX11_readAll_61 ?_
          obtain ⟨g9, hf⟩ := ob_h hf
          refine sx_kne X 70 g9 (by decide) dX11_readAll_64 rfl (fun c8 => ?_) (fun c8 => ?_)
          · have hf := ob_f hf c8
            refine sx_aload_n X 2 rfl dX11_readAll_70 rfl ?_
            refine sx_aload X 0 rfl dX11_readAll_71 ?_
            refine sx_iload_n X 4 rfl dX11_readAll_73 rfl ?_
            refine sx_aload_n X 3 rfl dX11_readAll_74 rfl ?_
            refine sx_iload_n X 4 rfl dX11_readAll_75 rfl ?_
            refine sx_iload X 1 rfl dX11_readAll_76 ?_
            obtain ⟨u10, hu10, hf⟩ := ob_c hf
            refine sx_cSr X (c_X11_valueOf (l := l) (D := D) (T := T) (sd := sd) a0 a0_bytes n v2 u6 b_a0 hu10) (st' := [.long u10, .int v2, .ref (sd.1 u7), .ref h]) qm_903 qm_904 qm_15 qm_905 hd_X11_valueOf ⟨rfl, rfl⟩ ⟨Nat.le_of_ble_eq_true rfl, Nat.le_of_ble_eq_true rfl⟩ rfl rfl (Nat.le_of_ble_eq_true rfl) [4, 5] rfl rfl rfl ⟨Nat.le_of_ble_eq_true rfl, Nat.le_of_ble_eq_true rfl⟩ dX11_readAll_78 rfl ?_
            obtain ⟨u11, hu11, hf⟩ := ob_c hf
            refine sx_cV X (c_X11_add (l := l) (D := D) (T := T) (sd := sd) h h_kinds h_starts h_values u7 v2 u10 (w_h_kinds, w_h_starts, w_h_values, w_h_count, w_h_cursor, w_h_error, w_h_errorToken) hu11) (st' := []) (q0 := 0) qm_911 qm_913 qm_11 qm_15 qm_914 hd_X11_add ⟨rfl, rfl⟩ ⟨Nat.le_of_ble_eq_true rfl, Nat.le_of_ble_eq_true rfl⟩ rfl rfl (Nat.le_of_ble_eq_true rfl) rfl rfl rfl [0, 1, 2, 3] rfl rfl (ws' := [zO h 9 [.ref h_kinds, .ref h_starts, .ref h_values, .int u11.2.2.2, .int w_h_cursor, .int w_h_error, .int w_h_errorToken], zK T sd.1 h_kinds 401 u11.1, zI T h_starts 401 u11.2.1, zJ T h_values 401 u11.2.2.1, zO a0 8 [.ref a0_bytes, .int (X10_length b_a0)], zB T a0_bytes 2000 (X10_bytes b_a0)]) (sxPatch_pk [(true, 0), (true, 1), (true, 2), (true, 3), (false, 4), (false, 5)] (by decide +kernel) rfl rfl rfl) rfl ⟨Nat.le_of_ble_eq_true rfl, Nat.le_of_ble_eq_true rfl⟩ dX11_readAll_81 rfl ?_
            refine sx_aload_n X 3 rfl dX11_readAll_84 rfl ?_
            refine sx_iload_n X 4 rfl dX11_readAll_85 rfl ?_
            refine sx_iload X 1 rfl dX11_readAll_86 ?_
            refine sx_iadd X dX11_readAll_88 ?_
            obtain ⟨u12, hu12, hf⟩ := ob_c hf
            refine sx_cSr X (c_X11_behindBlanks (l := l) (D := D) (T := T) (sd := sd) a0 a0_bytes n (v2 + u6) b_a0 hu12) (st' := [.int u12]) qm_869 qm_870 qm_15 qm_871 hd_X11_behindBlanks ⟨rfl, rfl⟩ ⟨Nat.le_of_ble_eq_true rfl, Nat.le_of_ble_eq_true rfl⟩ rfl rfl (Nat.le_of_ble_eq_true rfl) [4, 5] rfl rfl rfl ⟨Nat.le_of_ble_eq_true rfl, Nat.le_of_ble_eq_true rfl⟩ dX11_readAll_89 rfl ?_
            refine sx_istore_n X (lv' := [(2, .int u12), (5, .ref (sd.1 u7)), (4, .int u6), (0, .ref h), (1, .ref a0), (3, .int v3)]) dX11_readAll_92 rfl (by decide) rfl ?_
            refine sx_iinc X (v := (v3 + 1)) (lv' := [(3, .int (v3 + 1)), (2, .int u12), (5, .ref (sd.1 u7)), (4, .int u6), (0, .ref h), (1, .ref a0)]) 5 rfl dX11_readAll_93 rfl (by decide) rfl ?_
            refine sx_goto X 28 dX11_readAll_96 rfl ?_
            have hf := ob_k hκ28 hf
            refine sx_lsub [4, 5, 1, 0] rfl ?_
            exact ih28 u12 (v3 + 1) u11.1 u11.2.1 u11.2.2.1 u11.2.2.2 hf
          · have hf := ob_t hf c8
            refine sx_goto X 99 dX11_readAll_67 rfl ?_
            have hf := ob_kx hκ28 hf
            refine sx_lsub [2, 3, 4] rfl ?_
            exact R99 v2 w_h_kinds w_h_starts w_h_values w_h_count w_h_cursor w_h_error w_h_errorToken hf
  refine sx_aload_n X 0 rfl dX11_readAll_0 rfl ?_
  refine sx_iconst X (v := 0) dX11_readAll_1 rfl ?_
  refine sx_put X (ws' := [zO h 9 [.ref h_kinds, .ref h_starts, .ref h_values, .int 0, .int (X11_cursor b_h), .int (X11_error b_h), .int (X11_errorToken b_h)], zK T sd.1 h_kinds 401 (X11_kinds b_h), zI T h_starts 401 (X11_starts b_h), zJ T h_values 401 (X11_values b_h), zO a0 8 [.ref a0_bytes, .int (X10_length b_a0)], zB T a0_bytes 2000 (X10_bytes b_a0)]) kX11 0 rfl 3 (Nat.le_of_ble_eq_true rfl) qm_87 rfl rfl rfl (Nat.le_of_ble_eq_true rfl) rfl dX11_readAll_2 ?_
  refine sx_aload_n X 0 rfl dX11_readAll_5 rfl ?_
  refine sx_iconst X (v := 0) dX11_readAll_6 rfl ?_
  refine sx_put X (ws' := [zO h 9 [.ref h_kinds, .ref h_starts, .ref h_values, .int 0, .int 0, .int (X11_error b_h), .int (X11_errorToken b_h)], zK T sd.1 h_kinds 401 (X11_kinds b_h), zI T h_starts 401 (X11_starts b_h), zJ T h_values 401 (X11_values b_h), zO a0 8 [.ref a0_bytes, .int (X10_length b_a0)], zB T a0_bytes 2000 (X10_bytes b_a0)]) kX11 0 rfl 4 (Nat.le_of_ble_eq_true rfl) qm_89 rfl rfl rfl (Nat.le_of_ble_eq_true rfl) rfl dX11_readAll_7 ?_
  refine sx_aload_n X 0 rfl dX11_readAll_10 rfl ?_
  refine sx_iconst X (v := 0) dX11_readAll_11 rfl ?_
  refine sx_put X (ws' := [zO h 9 [.ref h_kinds, .ref h_starts, .ref h_values, .int 0, .int 0, .int 0, .int (X11_errorToken b_h)], zK T sd.1 h_kinds 401 (X11_kinds b_h), zI T h_starts 401 (X11_starts b_h), zJ T h_values 401 (X11_values b_h), zO a0 8 [.ref a0_bytes, .int (X10_length b_a0)], zB T a0_bytes 2000 (X10_bytes b_a0)]) kX11 0 rfl 5 (Nat.le_of_ble_eq_true rfl) qm_91 rfl rfl rfl (Nat.le_of_ble_eq_true rfl) rfl dX11_readAll_12 ?_
  refine sx_aload_n X 0 rfl dX11_readAll_15 rfl ?_
  refine sx_iconst X (v := 0) dX11_readAll_16 rfl ?_
  refine sx_put X (ws' := [zO h 9 [.ref h_kinds, .ref h_starts, .ref h_values, .int 0, .int 0, .int 0, .int 0], zK T sd.1 h_kinds 401 (X11_kinds b_h), zI T h_starts 401 (X11_starts b_h), zJ T h_values 401 (X11_values b_h), zO a0 8 [.ref a0_bytes, .int (X10_length b_a0)], zB T a0_bytes 2000 (X10_bytes b_a0)]) kX11 0 rfl 6 (Nat.le_of_ble_eq_true rfl) qm_94 rfl rfl rfl (Nat.le_of_ble_eq_true rfl) rfl dX11_readAll_17 ?_
  refine sx_aload_n X 1 rfl dX11_readAll_20 rfl ?_
  refine sx_iconst X (v := 0) dX11_readAll_21 rfl ?_
  obtain ⟨u1, hu1, hf⟩ := ob_c hf
  refine sx_cSr X (c_X11_behindBlanks (l := l) (D := D) (T := T) (sd := sd) a0 a0_bytes n 0 b_a0 hu1) (st' := [.int u1]) qm_869 qm_870 qm_15 qm_871 hd_X11_behindBlanks ⟨rfl, rfl⟩ ⟨Nat.le_of_ble_eq_true rfl, Nat.le_of_ble_eq_true rfl⟩ rfl rfl (Nat.le_of_ble_eq_true rfl) [4, 5] rfl rfl rfl ⟨Nat.le_of_ble_eq_true rfl, Nat.le_of_ble_eq_true rfl⟩ dX11_readAll_22 rfl ?_
  refine sx_istore_n X (lv' := [(2, .int u1), (0, .ref h), (1, .ref a0)]) dX11_readAll_25 rfl (by decide) rfl ?_
  refine sx_iconst X (v := 0) dX11_readAll_26 rfl ?_
  refine sx_istore_n X (lv' := [(3, .int 0), (2, .int u1), (0, .ref h), (1, .ref a0)]) dX11_readAll_27 rfl (by decide) rfl ?_
  refine sx_lsub [2, 3, 1, 0] rfl ?_
  exact L28 0 0 0 n u1 0 (X11_kinds b_h) (X11_starts b_h) (X11_values b_h) 0 hf

abbrev vf_X11_startAt (sd : SdT) (r : Int32) : Option Value := some (.int r)
abbrev wc_X11_startAt (T : Nat → ClassId) (sd : SdT) (h : Nat) (h_kinds : Nat) (h_starts : Nat) (h_values : Nat) (b_h : bX11) : va_W := [zO h 9 [.ref h_kinds, .ref h_starts, .ref h_values, .int (X11_count b_h), .int (X11_cursor b_h), .int (X11_error b_h), .int (X11_errorToken b_h)], zK T sd.1 h_kinds 401 (X11_kinds b_h), zI T h_starts 401 (X11_starts b_h), zJ T h_values 401 (X11_values b_h)]
abbrev wf_X11_startAt (T : Nat → ClassId) (sd : SdT) (h : Nat) (h_kinds : Nat) (h_starts : Nat) (h_values : Nat) (b_h : bX11) (r : Int32) : va_W := [zO h 9 [.ref h_kinds, .ref h_starts, .ref h_values, .int (X11_count b_h), .int (X11_cursor b_h), .int (X11_error b_h), .int (X11_errorToken b_h)], zK T sd.1 h_kinds 401 (X11_kinds b_h), zI T h_starts 401 (X11_starts b_h), zJ T h_values 401 (X11_values b_h)]
abbrev rm_X11_startAt : Room := { frames := 1, cells := 0, slots := 0, locals := 21 }
theorem hd_X11_startAt : yX11_startAt.cls ≠ "java/lang/invoke/MethodHandle" ∧ yX11_startAt.cls ≠ "java/lang/invoke/VarHandle" ∧ (parseMethodDescriptor yX11_startAt.desc).map (fun d => d.parameters.length) = some 1 := ⟨by decide, by decide, by decide +kernel⟩
set_option maxHeartbeats 4000000 in
set_option maxRecDepth 100000 in
theorem c_X11_startAt {l : Launch} {D : va_G} {T : Nat → ClassId} {sd : SdT} (h : Nat) (h_kinds : Nat) (h_starts : Nat) (h_values : Nat) (x0 : Int32) (b_h : bX11) {res : Int32} (hf : f_X11_startAt x0 b_h = some res) : SxK (SFx sd) l D T yX11_startAt cX11_startAt 2 (some .int) rm_X11_startAt [.ref h, .int x0] (wc_X11_startAt T sd h h_kinds h_starts h_values b_h) (vf_X11_startAt sd) (wf_X11_startAt T sd h h_kinds h_starts h_values b_h) res 0 0 := by
  refine sx_start (SFx_ok sd) (by decide +kernel) (Nat.le_of_ble_eq_true rfl) (fun p e s m args below meth c A X hnm => ?_)
  have hf := ob_1 hf
  refine sx_aload_n X 0 rfl dX11_startAt_0 rfl ?_
  refine sx_iload_n X 1 rfl dX11_startAt_1 rfl ?_
  obtain ⟨u1, hu1, hf⟩ := ob_c hf
  refine sx_cVr X (c_X11_has (l := l) (D := D) (T := T) (sd := sd) h h_kinds h_starts h_values x0 b_h hu1) (st' := [.int u1]) (q0 := 0) qm_1061 qm_1062 qm_1063 qm_15 qm_1064 hd_X11_has ⟨rfl, rfl⟩ ⟨Nat.le_of_ble_eq_true rfl, Nat.le_of_ble_eq_true rfl⟩ rfl rfl (Nat.le_of_ble_eq_true rfl) rfl rfl rfl [0, 1, 2, 3] rfl rfl rfl ⟨Nat.le_of_ble_eq_true rfl, Nat.le_of_ble_eq_true rfl⟩ dX11_startAt_2 rfl ?_
  refine sx_if_eq X 17 dX11_startAt_5 rfl (fun c2 => ?_) (fun c2 => ?_)
  · have hf := ob_t hf c2
    refine sx_iconst X (v := 0) dX11_startAt_17 rfl ?_
    exact sx_iret X rfl dX11_startAt_18 (ob_e hf) rfl rfl
  · have hf := ob_f hf c2
    refine sx_aload_n X 0 rfl dX11_startAt_8 rfl ?_
    refine sx_get X kX11 0 rfl 1 (Nat.le_of_ble_eq_true rfl) qm_85 rfl dX11_startAt_9 ?_
    refine sx_iload_n X 1 rfl dX11_startAt_12 rfl ?_
    obtain ⟨g3, hf⟩ := ob_g hf
    refine sx_iald X 2 rfl g3 dX11_startAt_13 ?_
    refine sx_goto X 18 dX11_startAt_14 rfl ?_
    exact sx_iret X rfl dX11_startAt_18 (ob_e hf) rfl rfl

abbrev vf_X11_take (sd : SdT) (r : Int32 × Int32) : Option Value := some (.int r.1)
abbrev wc_X11_take (T : Nat → ClassId) (sd : SdT) (h : Nat) (h_kinds : Nat) (h_starts : Nat) (h_values : Nat) (b_h : bX11) : va_W := [zO h 9 [.ref h_kinds, .ref h_starts, .ref h_values, .int (X11_count b_h), .int (X11_cursor b_h), .int (X11_error b_h), .int (X11_errorToken b_h)], zK T sd.1 h_kinds 401 (X11_kinds b_h), zI T h_starts 401 (X11_starts b_h), zJ T h_values 401 (X11_values b_h)]
abbrev wf_X11_take (T : Nat → ClassId) (sd : SdT) (h : Nat) (h_kinds : Nat) (h_starts : Nat) (h_values : Nat) (b_h : bX11) (r : Int32 × Int32) : va_W := [zO h 9 [.ref h_kinds, .ref h_starts, .ref h_values, .int (X11_count b_h), .int r.2, .int (X11_error b_h), .int (X11_errorToken b_h)], zK T sd.1 h_kinds 401 (X11_kinds b_h), zI T h_starts 401 (X11_starts b_h), zJ T h_values 401 (X11_values b_h)]
abbrev rm_X11_take : Room := { frames := 0, cells := 0, slots := 0, locals := 0 }
theorem hd_X11_take : yX11_take.cls ≠ "java/lang/invoke/MethodHandle" ∧ yX11_take.cls ≠ "java/lang/invoke/VarHandle" ∧ (parseMethodDescriptor yX11_take.desc).map (fun d => d.parameters.length) = some 1 := ⟨by decide, by decide, by decide +kernel⟩
set_option maxHeartbeats 4000000 in
set_option maxRecDepth 100000 in
theorem c_X11_take {l : Launch} {D : va_G} {T : Nat → ClassId} {sd : SdT} (h : Nat) (h_kinds : Nat) (h_starts : Nat) (h_values : Nat) (x0 : Nat) (b_h : bX11) {res : Int32 × Int32} (hf : f_X11_take x0 b_h = some res) : SxK (SFx sd) l D T yX11_take cX11_take 2 (some .boolean) rm_X11_take [.ref h, .ref (sd.1 x0)] (wc_X11_take T sd h h_kinds h_starts h_values b_h) (vf_X11_take sd) (wf_X11_take T sd h h_kinds h_starts h_values b_h) res 0 0 := by
  refine sx_start (SFx_ok sd) (by decide +kernel) (Nat.le_of_ble_eq_true rfl) (fun p e s m args below meth c A X hnm => ?_)
  have hf := ob_1 hf
  refine sx_aload_n X 0 rfl dX11_take_0 rfl ?_
  refine sx_get X kX11 0 rfl 4 (Nat.le_of_ble_eq_true rfl) qm_89 rfl dX11_take_1 ?_
  refine sx_aload_n X 0 rfl dX11_take_4 rfl ?_
  refine sx_get X kX11 0 rfl 3 (Nat.le_of_ble_eq_true rfl) qm_87 rfl dX11_take_5 ?_
  refine sx_icmp_ge X 24 dX11_take_8 rfl (fun c1 => ?_) (fun c1 => ?_)
  · have hf := ob_t hf c1
    refine sx_iconst X (v := 0) dX11_take_24 rfl ?_
    exact sx_iret X rfl dX11_take_25 (ob_e hf) rfl rfl
  · have hf := ob_f hf c1
    refine sx_aload_n X 0 rfl dX11_take_11 rfl ?_
    refine sx_get X kX11 0 rfl 0 (Nat.le_of_ble_eq_true rfl) qm_84 rfl dX11_take_12 ?_
    refine sx_aload_n X 0 rfl dX11_take_15 rfl ?_
    refine sx_get X kX11 0 rfl 4 (Nat.le_of_ble_eq_true rfl) qm_89 rfl dX11_take_16 ?_
    obtain ⟨g2, hf⟩ := ob_g hf
    refine sx_kald X 1 rfl g2 dX11_take_19 ?_
    refine sx_aload_n X 1 rfl dX11_take_20 rfl ?_
    obtain ⟨g4, hf⟩ := ob_h hf
    obtain ⟨g5, hf⟩ := ob_h hf
    refine sx_keq X 26 g4 g5 dX11_take_21 rfl (fun c3 => ?_) (fun c3 => ?_)
    · have hf := ob_t hf c3
      refine sx_aload_n X 0 rfl dX11_take_26 rfl ?_
      refine sx_dup X dX11_take_27 rfl ?_
      refine sx_get X kX11 0 rfl 4 (Nat.le_of_ble_eq_true rfl) qm_89 rfl dX11_take_28 ?_
      refine sx_iconst X (v := 1) dX11_take_31 rfl ?_
      refine sx_iadd X dX11_take_32 ?_
      refine sx_put X (ws' := [zO h 9 [.ref h_kinds, .ref h_starts, .ref h_values, .int (X11_count b_h), .int ((X11_cursor b_h) + 1), .int (X11_error b_h), .int (X11_errorToken b_h)], zK T sd.1 h_kinds 401 (X11_kinds b_h), zI T h_starts 401 (X11_starts b_h), zJ T h_values 401 (X11_values b_h)]) kX11 0 rfl 4 (Nat.le_of_ble_eq_true rfl) qm_89 rfl rfl rfl (Nat.le_of_ble_eq_true rfl) rfl dX11_take_33 ?_
      refine sx_iconst X (v := 1) dX11_take_36 rfl ?_
      exact sx_iret X rfl dX11_take_37 (ob_e hf) rfl rfl
    · have hf := ob_f hf c3
      refine sx_iconst X (v := 0) dX11_take_24 rfl ?_
      exact sx_iret X rfl dX11_take_25 (ob_e hf) rfl rfl
