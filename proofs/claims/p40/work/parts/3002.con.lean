/-! contracts, part 2 -/
abbrev vf_X1_check (sd : SdT) (_r : (Nat → Int64) × Int32 × Int32 × (Nat → Int64) × (Nat → Int32) × (Nat → Int32) × (Nat → Int32) × (Nat → Int32) × Int32 × (Nat → Int64) × (Nat → Int32) × (Nat → Int32) × (Nat → Int32) × (Nat → Int32) × Int32) : Option Value := none
abbrev wc_X1_check (T : Nat → ClassId) (sd : SdT) (a0 : Nat) (a0_kinds : Nat) (a0_starts : Nat) (a0_values : Nat) (a1 : Nat) (a1_fronts : Nat) (a1_guests : Nat) (a1_orders : Nat) (a1_fronts_names : Nat) (a1_fronts_warm : Nat) (a1_fronts_force : Nat) (a1_fronts_from : Nat) (a1_fronts_hours : Nat) (a1_guests_names : Nat) (a1_guests_from : Nat) (a1_guests_weakest : Nat) (a1_guests_strongest : Nat) (a1_guests_nerve : Nat) (b_a0 : bX11) (b_a1_fronts : bX2) (b_a1_guests : bX4) : va_W := [zO a0 9 [.ref a0_kinds, .ref a0_starts, .ref a0_values, .int (X11_count b_a0), .int (X11_cursor b_a0), .int (X11_error b_a0), .int (X11_errorToken b_a0)], zK T sd.1 a0_kinds 401 (X11_kinds b_a0), zI T a0_starts 401 (X11_starts b_a0), zJ T a0_values 401 (X11_values b_a0), zO a1 5 [.ref a1_fronts, .ref a1_guests, .ref a1_orders], zO a1_fronts 2 [.ref a1_fronts_names, .ref a1_fronts_warm, .ref a1_fronts_force, .ref a1_fronts_from, .ref a1_fronts_hours, .int (X2_count b_a1_fronts)], zJ T a1_fronts_names 10 (X2_names b_a1_fronts), zZ T a1_fronts_warm 10 (X2_warm b_a1_fronts), zI T a1_fronts_force 10 (X2_force b_a1_fronts), zI T a1_fronts_from 10 (X2_from b_a1_fronts), zI T a1_fronts_hours 10 (X2_hours b_a1_fronts), zO a1_guests 3 [.ref a1_guests_names, .ref a1_guests_from, .ref a1_guests_weakest, .ref a1_guests_strongest, .ref a1_guests_nerve, .int (X4_count b_a1_guests)], zJ T a1_guests_names 10 (X4_names b_a1_guests), zI T a1_guests_from 10 (X4_from b_a1_guests), zI T a1_guests_weakest 10 (X4_weakest b_a1_guests), zI T a1_guests_strongest 10 (X4_strongest b_a1_guests), zI T a1_guests_nerve 10 (X4_nerve b_a1_guests)]
abbrev wf_X1_check (T : Nat → ClassId) (sd : SdT) (a0 : Nat) (a0_kinds : Nat) (a0_starts : Nat) (a0_values : Nat) (a1 : Nat) (a1_fronts : Nat) (a1_guests : Nat) (a1_orders : Nat) (a1_fronts_names : Nat) (a1_fronts_warm : Nat) (a1_fronts_force : Nat) (a1_fronts_from : Nat) (a1_fronts_hours : Nat) (a1_guests_names : Nat) (a1_guests_from : Nat) (a1_guests_weakest : Nat) (a1_guests_strongest : Nat) (a1_guests_nerve : Nat) (b_a0 : bX11) (b_a1_fronts : bX2) (b_a1_guests : bX4) (r : (Nat → Int64) × Int32 × Int32 × (Nat → Int64) × (Nat → Int32) × (Nat → Int32) × (Nat → Int32) × (Nat → Int32) × Int32 × (Nat → Int64) × (Nat → Int32) × (Nat → Int32) × (Nat → Int32) × (Nat → Int32) × Int32) : va_W := [zO a0 9 [.ref a0_kinds, .ref a0_starts, .ref a0_values, .int (X11_count b_a0), .int (X11_cursor b_a0), .int r.2.1, .int r.2.2.1], zK T sd.1 a0_kinds 401 (X11_kinds b_a0), zI T a0_starts 401 (X11_starts b_a0), zJ T a0_values 401 r.1, zO a1 5 [.ref a1_fronts, .ref a1_guests, .ref a1_orders], zO a1_fronts 2 [.ref a1_fronts_names, .ref a1_fronts_warm, .ref a1_fronts_force, .ref a1_fronts_from, .ref a1_fronts_hours, .int r.2.2.2.2.2.2.2.2.1], zJ T a1_fronts_names 10 r.2.2.2.1, zZ T a1_fronts_warm 10 r.2.2.2.2.1, zI T a1_fronts_force 10 r.2.2.2.2.2.1, zI T a1_fronts_from 10 r.2.2.2.2.2.2.1, zI T a1_fronts_hours 10 r.2.2.2.2.2.2.2.1, zO a1_guests 3 [.ref a1_guests_names, .ref a1_guests_from, .ref a1_guests_weakest, .ref a1_guests_strongest, .ref a1_guests_nerve, .int r.2.2.2.2.2.2.2.2.2.2.2.2.2.2], zJ T a1_guests_names 10 r.2.2.2.2.2.2.2.2.2.1, zI T a1_guests_from 10 r.2.2.2.2.2.2.2.2.2.2.1, zI T a1_guests_weakest 10 r.2.2.2.2.2.2.2.2.2.2.2.1, zI T a1_guests_strongest 10 r.2.2.2.2.2.2.2.2.2.2.2.2.1, zI T a1_guests_nerve 10 r.2.2.2.2.2.2.2.2.2.2.2.2.2.1]
abbrev rm_X1_check : Room := { frames := 5, cells := 0, slots := 0, locals := 116 }
theorem hd_X1_check : yX1_check.cls ≠ "java/lang/invoke/MethodHandle" ∧ yX1_check.cls ≠ "java/lang/invoke/VarHandle" ∧ (parseMethodDescriptor yX1_check.desc).map (fun d => d.parameters.length) = some 2 := ⟨by decide, by decide, by decide +kernel⟩
set_option maxHeartbeats 4000000 in
set_option maxRecDepth 100000 in
theorem c_X1_check {l : Launch} {D : va_G} {T : Nat → ClassId} {sd : SdT} (a0 : Nat) (a0_kinds : Nat) (a0_starts : Nat) (a0_values : Nat) (a1 : Nat) (a1_fronts : Nat) (a1_guests : Nat) (a1_orders : Nat) (a1_fronts_names : Nat) (a1_fronts_warm : Nat) (a1_fronts_force : Nat) (a1_fronts_from : Nat) (a1_fronts_hours : Nat) (a1_guests_names : Nat) (a1_guests_from : Nat) (a1_guests_weakest : Nat) (a1_guests_strongest : Nat) (a1_guests_nerve : Nat) (n : Nat) (b_a0 : bX11) (b_a1_fronts : bX2) (b_a1_guests : bX4) {res : (Nat → Int64) × Int32 × Int32 × (Nat → Int64) × (Nat → Int32) × (Nat → Int32) × (Nat → Int32) × (Nat → Int32) × Int32 × (Nat → Int64) × (Nat → Int32) × (Nat → Int32) × (Nat → Int32) × (Nat → Int32) × Int32} (hf : f_X1_check n b_a0 b_a1_fronts b_a1_guests = some res) : SxK (SFx sd) l D T yX1_check cX1_check 4 none rm_X1_check [.ref a0, .ref a1] (wc_X1_check T sd a0 a0_kinds a0_starts a0_values a1 a1_fronts a1_guests a1_orders a1_fronts_names a1_fronts_warm a1_fronts_force a1_fronts_from a1_fronts_hours a1_guests_names a1_guests_from a1_guests_weakest a1_guests_strongest a1_guests_nerve b_a0 b_a1_fronts b_a1_guests) (vf_X1_check sd) (wf_X1_check T sd a0 a0_kinds a0_starts a0_values a1 a1_fronts a1_guests a1_orders a1_fronts_names a1_fronts_warm a1_fronts_force a1_fronts_from a1_fronts_hours a1_guests_names a1_guests_from a1_guests_weakest a1_guests_strongest a1_guests_nerve b_a0 b_a1_fronts b_a1_guests) res 0 0 := by
  refine sx_start (SFx_ok sd) (by decide +kernel) (Nat.le_of_ble_eq_true rfl) (fun p e s m args below meth c A X hnm => ?_)
  have hf := ob_1 hf
  have L4 : ∀ (n0 : Nat) (v2 : Int32) (v3 : Int32) (w_a0_values : Nat → Int64) (w_a0_error : Int32) (w_a0_errorToken : Int32) (w_a1_fronts_names : Nat → Int64) (w_a1_fronts_warm : Nat → Int32) (w_a1_fronts_force : Nat → Int32) (w_a1_fronts_from : Nat → Int32) (w_a1_fronts_hours : Nat → Int32) (w_a1_fronts_count : Int32) (w_a1_guests_names : Nat → Int64) (w_a1_guests_from : Nat → Int32) (w_a1_guests_weakest : Nat → Int32) (w_a1_guests_strongest : Nat → Int32) (w_a1_guests_nerve : Nat → Int32) (w_a1_guests_count : Int32), (iter (fun s : Int32 × Int32 × (Nat → Int64) × Int32 × Int32 × (Nat → Int64) × (Nat → Int32) × (Nat → Int32) × (Nat → Int32) × (Nat → Int32) × Int32 × (Nat → Int64) × (Nat → Int32) × (Nat → Int32) × (Nat → Int32) × (Nat → Int32) × Int32 => f_X1_check_L4 n b_a0 b_a1_fronts b_a1_guests s.1 s.2.1 s.2.2.1 s.2.2.2.1 s.2.2.2.2.1 s.2.2.2.2.2.1 s.2.2.2.2.2.2.1 s.2.2.2.2.2.2.2.1 s.2.2.2.2.2.2.2.2.1 s.2.2.2.2.2.2.2.2.2.1 s.2.2.2.2.2.2.2.2.2.2.1 s.2.2.2.2.2.2.2.2.2.2.2.1 s.2.2.2.2.2.2.2.2.2.2.2.2.1 s.2.2.2.2.2.2.2.2.2.2.2.2.2.1 s.2.2.2.2.2.2.2.2.2.2.2.2.2.2.1 s.2.2.2.2.2.2.2.2.2.2.2.2.2.2.2.1 s.2.2.2.2.2.2.2.2.2.2.2.2.2.2.2.2) n0 (v2, v3, w_a0_values, w_a0_error, w_a0_errorToken, w_a1_fronts_names, w_a1_fronts_warm, w_a1_fronts_force, w_a1_fronts_from, w_a1_fronts_hours, w_a1_fronts_count, w_a1_guests_names, w_a1_guests_from, w_a1_guests_weakest, w_a1_guests_strongest, w_a1_guests_nerve, w_a1_guests_count)).bind some = some res → SxG p l e rm_X1_check s m args below meth c D A 4 0 0 (SxE below args s D A (vf_X1_check sd) (wf_X1_check T sd a0 a0_kinds a0_starts a0_values a1 a1_fronts a1_guests a1_orders a1_fronts_names a1_fronts_warm a1_fronts_force a1_fronts_from a1_fronts_hours a1_guests_names a1_guests_from a1_guests_weakest a1_guests_strongest a1_guests_nerve b_a0 b_a1_fronts b_a1_guests) res 0 0) [zO a0 9 [.ref a0_kinds, .ref a0_starts, .ref a0_values, .int (X11_count b_a0), .int (X11_cursor b_a0), .int w_a0_error, .int w_a0_errorToken], zK T sd.1 a0_kinds 401 (X11_kinds b_a0), zI T a0_starts 401 (X11_starts b_a0), zJ T a0_values 401 w_a0_values, zO a1 5 [.ref a1_fronts, .ref a1_guests, .ref a1_orders], zO a1_fronts 2 [.ref a1_fronts_names, .ref a1_fronts_warm, .ref a1_fronts_force, .ref a1_fronts_from, .ref a1_fronts_hours, .int w_a1_fronts_count], zJ T a1_fronts_names 10 w_a1_fronts_names, zZ T a1_fronts_warm 10 w_a1_fronts_warm, zI T a1_fronts_force 10 w_a1_fronts_force, zI T a1_fronts_from 10 w_a1_fronts_from, zI T a1_fronts_hours 10 w_a1_fronts_hours, zO a1_guests 3 [.ref a1_guests_names, .ref a1_guests_from, .ref a1_guests_weakest, .ref a1_guests_strongest, .ref a1_guests_nerve, .int w_a1_guests_count], zJ T a1_guests_names 10 w_a1_guests_names, zI T a1_guests_from 10 w_a1_guests_from, zI T a1_guests_weakest 10 w_a1_guests_weakest, zI T a1_guests_strongest 10 w_a1_guests_strongest, zI T a1_guests_nerve 10 w_a1_guests_nerve] [(0, .ref a0), (1, .ref a1), (2, .int v2), (3, .int v3)] 4 [] := by
    intro n0
    induction n0 with
    | zero =>
      intro v2 v3 w_a0_values w_a0_error w_a0_errorToken w_a1_fronts_names w_a1_fronts_warm w_a1_fronts_force w_a1_fronts_from w_a1_fronts_hours w_a1_fronts_count w_a1_guests_names w_a1_guests_from w_a1_guests_weakest w_a1_guests_strongest w_a1_guests_nerve w_a1_guests_count hf
      exact (iter_z hf).elim
    | succ n0 ih4 =>
      intro v2 v3 w_a0_values w_a0_error w_a0_errorToken w_a1_fronts_names w_a1_fronts_warm w_a1_fronts_force w_a1_fronts_from w_a1_fronts_hours w_a1_fronts_count w_a1_guests_names w_a1_guests_from w_a1_guests_weakest w_a1_guests_strongest w_a1_guests_nerve w_a1_guests_count hf
      obtain ⟨κ4, hκ4, hf⟩ := iter_k hf
      have hf : (f_X1_check_L4 n b_a0 b_a1_fronts b_a1_guests v2 v3 w_a0_values w_a0_error w_a0_errorToken w_a1_fronts_names w_a1_fronts_warm w_a1_fronts_force w_a1_fronts_from w_a1_fronts_hours w_a1_fronts_count w_a1_guests_names w_a1_guests_from w_a1_guests_weakest w_a1_guests_strongest w_a1_guests_nerve w_a1_guests_count).bind κ4 = some res := hf
      have R50 : ∀ (v2 : Int32) (v3 : Int32) (w_a0_values : Nat → Int64) (w_a0_error : Int32) (w_a0_errorToken : Int32) (w_a1_fronts_names : Nat → Int64) (w_a1_fronts_warm : Nat → Int32) (w_a1_fronts_force : Nat → Int32) (w_a1_fronts_from : Nat → Int32) (w_a1_fronts_hours : Nat → Int32) (w_a1_fronts_count : Int32) (w_a1_guests_names : Nat → Int64) (w_a1_guests_from : Nat → Int32) (w_a1_guests_weakest : Nat → Int32) (w_a1_guests_strongest : Nat → Int32) (w_a1_guests_nerve : Nat → Int32) (w_a1_guests_count : Int32), (f_X1_check_R50 n b_a0 b_a1_fronts b_a1_guests v2 v3 w_a0_values w_a0_error w_a0_errorToken w_a1_fronts_names w_a1_fronts_warm w_a1_fronts_force w_a1_fronts_from w_a1_fronts_hours w_a1_fronts_count w_a1_guests_names w_a1_guests_from w_a1_guests_weakest w_a1_guests_strongest w_a1_guests_nerve w_a1_guests_count).bind κ4 = some res → SxG p l e rm_X1_check s m args below meth c D A 4 0 0 (SxE below args s D A (vf_X1_check sd) (wf_X1_check T sd a0 a0_kinds a0_starts a0_values a1 a1_fronts a1_guests a1_orders a1_fronts_names a1_fronts_warm a1_fronts_force a1_fronts_from a1_fronts_hours a1_guests_names a1_guests_from a1_guests_weakest a1_guests_strongest a1_guests_nerve b_a0 b_a1_fronts b_a1_guests) res 0 0) [zO a0 9 [.ref a0_kinds, .ref a0_starts, .ref a0_values, .int (X11_count b_a0), .int (X11_cursor b_a0), .int w_a0_error, .int w_a0_errorToken], zK T sd.1 a0_kinds 401 (X11_kinds b_a0), zI T a0_starts 401 (X11_starts b_a0), zJ T a0_values 401 w_a0_values, zO a1 5 [.ref a1_fronts, .ref a1_guests, .ref a1_orders], zO a1_fronts 2 [.ref a1_fronts_names, .ref a1_fronts_warm, .ref a1_fronts_force, .ref a1_fronts_from, .ref a1_fronts_hours, .int w_a1_fronts_count], zJ T a1_fronts_names 10 w_a1_fronts_names, zZ T a1_fronts_warm 10 w_a1_fronts_warm, zI T a1_fronts_force 10 w_a1_fronts_force, zI T a1_fronts_from 10 w_a1_fronts_from, zI T a1_fronts_hours 10 w_a1_fronts_hours, zO a1_guests 3 [.ref a1_guests_names, .ref a1_guests_from, .ref a1_guests_weakest, .ref a1_guests_strongest, .ref a1_guests_nerve, .int w_a1_guests_count], zJ T a1_guests_names 10 w_a1_guests_names, zI T a1_guests_from 10 w_a1_guests_from, zI T a1_guests_weakest 10 w_a1_guests_weakest, zI T a1_guests_strongest 10 w_a1_guests_strongest, zI T a1_guests_nerve 10 w_a1_guests_nerve] [(0, .ref a0), (1, .ref a1), (2, .int v2), (3, .int v3)] 50 [] := by
        intro v2 v3 w_a0_values w_a0_error w_a0_errorToken w_a1_fronts_names w_a1_fronts_warm w_a1_fronts_force w_a1_fronts_from w_a1_fronts_hours w_a1_fronts_count w_a1_guests_names w_a1_guests_from w_a1_guests_weakest w_a1_guests_strongest w_a1_guests_nerve w_a1_guests_count hf
        refine sx_aload_n X 0 rfl dX1_check_50 rfl ?_
        refine sx_iload_n X 3 rfl dX1_check_51 rfl ?_
        refine sx_aload_n X 1 rfl dX1_check_52 rfl ?_
        obtain ⟨u6, hu6, hf⟩ := ob_c hf
        refine sx_cS X (c_X1_checkBehind (l := l) (D := D) (T := T) (sd := sd) a0 a0_kinds a0_starts a0_values a1 a1_fronts a1_guests a1_orders a1_fronts_names a1_fronts_warm a1_fronts_force a1_fronts_from a1_fronts_hours a1_guests_names a1_guests_from a1_guests_weakest a1_guests_strongest a1_guests_nerve n v3 ((X11_kinds b_a0), (X11_starts b_a0), w_a0_values, (X11_count b_a0), (X11_cursor b_a0), w_a0_error, w_a0_errorToken) (w_a1_fronts_names, w_a1_fronts_warm, w_a1_fronts_force, w_a1_fronts_from, w_a1_fronts_hours, w_a1_fronts_count) (w_a1_guests_names, w_a1_guests_from, w_a1_guests_weakest, w_a1_guests_strongest, w_a1_guests_nerve, w_a1_guests_count) hu6) (st' := []) qm_1073 qm_1074 qm_48 qm_1075 hd_X1_checkBehind ⟨rfl, rfl⟩ ⟨Nat.le_of_ble_eq_true rfl, Nat.le_of_ble_eq_true rfl⟩ rfl rfl (Nat.le_of_ble_eq_true rfl) [0, 1, 2, 3, 4, 5, 6, 7, 8, 9, 10, 11, 12, 13, 14, 15, 16] rfl rfl (ws' := [zO a0 9 [.ref a0_kinds, .ref a0_starts, .ref a0_values, .int (X11_count b_a0), .int (X11_cursor b_a0), .int u6.2.1, .int u6.2.2.1], zK T sd.1 a0_kinds 401 (X11_kinds b_a0), zI T a0_starts 401 (X11_starts b_a0), zJ T a0_values 401 u6.1, zO a1 5 [.ref a1_fronts, .ref a1_guests, .ref a1_orders], zO a1_fronts 2 [.ref a1_fronts_names, .ref a1_fronts_warm, .ref a1_fronts_force, .ref a1_fronts_from, .ref a1_fronts_hours, .int u6.2.2.2.2.2.2.2.2.1], zJ T a1_fronts_names 10 u6.2.2.2.1, zZ T a1_fronts_warm 10 u6.2.2.2.2.1, zI T a1_fronts_force 10 u6.2.2.2.2.2.1, zI T a1_fronts_from 10 u6.2.2.2.2.2.2.1, zI T a1_fronts_hours 10 u6.2.2.2.2.2.2.2.1, zO a1_guests 3 [.ref a1_guests_names, .ref a1_guests_from, .ref a1_guests_weakest, .ref a1_guests_strongest, .ref a1_guests_nerve, .int u6.2.2.2.2.2.2.2.2.2.2.2.2.2.2], zJ T a1_guests_names 10 u6.2.2.2.2.2.2.2.2.2.1, zI T a1_guests_from 10 u6.2.2.2.2.2.2.2.2.2.2.1, zI T a1_guests_weakest 10 u6.2.2.2.2.2.2.2.2.2.2.2.1, zI T a1_guests_strongest 10 u6.2.2.2.2.2.2.2.2.2.2.2.2.1, zI T a1_guests_nerve 10 u6.2.2.2.2.2.2.2.2.2.2.2.2.2.1]) (sxPatch_pk [(true, 0), (true, 1), (true, 2), (true, 3), (true, 4), (true, 5), (true, 6), (true, 7), (true, 8), (true, 9), (true, 10), (true, 11), (true, 12), (true, 13), (true, 14), (true, 15), (true, 16)] (by decide +kernel) rfl rfl rfl) rfl ⟨Nat.le_of_ble_eq_true rfl, Nat.le_of_ble_eq_true rfl⟩ dX1_check_53 rfl ?_
        refine sx_iinc X (v := (v3 + 1)) (lv' := [(3, .int (v3 + 1)), (0, .ref a0), (1, .ref a1), (2, .int v2)]) 3 rfl dX1_check_56 rfl (by decide) rfl ?_
        refine sx_goto X 4 dX1_check_59 rfl ?_
        have hf := ob_k hκ4 hf
        refine sx_lsub [1, 2, 3, 0] rfl ?_
        exact ih4 v2 (v3 + 1) u6.1 u6.2.1 u6.2.2.1 u6.2.2.2.1 u6.2.2.2.2.1 u6.2.2.2.2.2.1 u6.2.2.2.2.2.2.1 u6.2.2.2.2.2.2.2.1 u6.2.2.2.2.2.2.2.2.1 u6.2.2.2.2.2.2.2.2.2.1 u6.2.2.2.2.2.2.2.2.2.2.1 u6.2.2.2.2.2.2.2.2.2.2.2.1 u6.2.2.2.2.2.2.2.2.2.2.2.2.1 u6.2.2.2.2.2.2.2.2.2.2.2.2.2.1 u6.2.2.2.2.2.2.2.2.2.2.2.2.2.2 hf
      have R45 : ∀ (v2 : Int32) (v3 : Int32) (w_a0_values : Nat → Int64) (w_a0_error : Int32) (w_a0_errorToken : Int32) (w_a1_fronts_names : Nat → Int64) (w_a1_fronts_warm : Nat → Int32) (w_a1_fronts_force : Nat → Int32) (w_a1_fronts_from : Nat → Int32) (w_a1_fronts_hours : Nat → Int32) (w_a1_fronts_count : Int32) (w_a1_guests_names : Nat → Int64) (w_a1_guests_from : Nat → Int32) (w_a1_guests_weakest : Nat → Int32) (w_a1_guests_strongest : Nat → Int32) (w_a1_guests_nerve : Nat → Int32) (w_a1_guests_count : Int32) (t0 : Int32), (f_X1_check_R45 n b_a0 b_a1_fronts b_a1_guests v2 v3 w_a0_values w_a0_error w_a0_errorToken w_a1_fronts_names w_a1_fronts_warm w_a1_fronts_force w_a1_fronts_from w_a1_fronts_hours w_a1_fronts_count w_a1_guests_names w_a1_guests_from w_a1_guests_weakest w_a1_guests_strongest w_a1_guests_nerve w_a1_guests_count t0).bind κ4 = some res → SxG p l e rm_X1_check s m args below meth c D A 4 0 0 (SxE below args s D A (vf_X1_check sd) (wf_X1_check T sd a0 a0_kinds a0_starts a0_values a1 a1_fronts a1_guests a1_orders a1_fronts_names a1_fronts_warm a1_fronts_force a1_fronts_from a1_fronts_hours a1_guests_names a1_guests_from a1_guests_weakest a1_guests_strongest a1_guests_nerve b_a0 b_a1_fronts b_a1_guests) res 0 0) [zO a0 9 [.ref a0_kinds, .ref a0_starts, .ref a0_values, .int (X11_count b_a0), .int (X11_cursor b_a0), .int w_a0_error, .int w_a0_errorToken], zK T sd.1 a0_kinds 401 (X11_kinds b_a0), zI T a0_starts 401 (X11_starts b_a0), zJ T a0_values 401 w_a0_values, zO a1 5 [.ref a1_fronts, .ref a1_guests, .ref a1_orders], zO a1_fronts 2 [.ref a1_fronts_names, .ref a1_fronts_warm, .ref a1_fronts_force, .ref a1_fronts_from, .ref a1_fronts_hours, .int w_a1_fronts_count], zJ T a1_fronts_names 10 w_a1_fronts_names, zZ T a1_fronts_warm 10 w_a1_fronts_warm, zI T a1_fronts_force 10 w_a1_fronts_force, zI T a1_fronts_from 10 w_a1_fronts_from, zI T a1_fronts_hours 10 w_a1_fronts_hours, zO a1_guests 3 [.ref a1_guests_names, .ref a1_guests_from, .ref a1_guests_weakest, .ref a1_guests_strongest, .ref a1_guests_nerve, .int w_a1_guests_count], zJ T a1_guests_names 10 w_a1_guests_names, zI T a1_guests_from 10 w_a1_guests_from, zI T a1_guests_weakest 10 w_a1_guests_weakest, zI T a1_guests_strongest 10 w_a1_guests_strongest, zI T a1_guests_nerve 10 w_a1_guests_nerve] [(0, .ref a0), (1, .ref a1), (2, .int v2), (3, .int v3)] 45 [.int t0, .ref a0] := by
        intro v2 v3 w_a0_values w_a0_error w_a0_errorToken w_a1_fronts_names w_a1_fronts_warm w_a1_fronts_force w_a1_fronts_from w_a1_fronts_hours w_a1_fronts_count w_a1_guests_names w_a1_guests_from w_a1_guests_weakest w_a1_guests_strongest w_a1_guests_nerve w_a1_guests_count t0 hf
        refine sx_iconst X (v := 4) dX1_check_45 rfl ?_
        refine sx_iload_n X 3 rfl dX1_check_46 rfl ?_
        obtain ⟨u8, hu8, hf⟩ := ob_c hf
        refine sx_cV X (c_X11_failUnless (l := l) (D := D) (T := T) (sd := sd) a0 a0_kinds a0_starts a0_values t0 4 v3 ((X11_kinds b_a0), (X11_starts b_a0), w_a0_values, (X11_count b_a0), (X11_cursor b_a0), w_a0_error, w_a0_errorToken) hu8) (st' := []) (q0 := 0) qm_1072 qm_1051 qm_1052 qm_15 qm_1053 hd_X11_failUnless ⟨rfl, rfl⟩ ⟨Nat.le_of_ble_eq_true rfl, Nat.le_of_ble_eq_true rfl⟩ rfl rfl (Nat.le_of_ble_eq_true rfl) rfl rfl rfl [0, 1, 2, 3] rfl rfl (ws' := [zO a0 9 [.ref a0_kinds, .ref a0_starts, .ref a0_values, .int (X11_count b_a0), .int (X11_cursor b_a0), .int u8.1, .int u8.2], zK T sd.1 a0_kinds 401 (X11_kinds b_a0), zI T a0_starts 401 (X11_starts b_a0), zJ T a0_values 401 w_a0_values, zO a1 5 [.ref a1_fronts, .ref a1_guests, .ref a1_orders], zO a1_fronts 2 [.ref a1_fronts_names, .ref a1_fronts_warm, .ref a1_fronts_force, .ref a1_fronts_from, .ref a1_fronts_hours, .int w_a1_fronts_count], zJ T a1_fronts_names 10 w_a1_fronts_names, zZ T a1_fronts_warm 10 w_a1_fronts_warm, zI T a1_fronts_force 10 w_a1_fronts_force, zI T a1_fronts_from 10 w_a1_fronts_from, zI T a1_fronts_hours 10 w_a1_fronts_hours, zO a1_guests 3 [.ref a1_guests_names, .ref a1_guests_from, .ref a1_guests_weakest, .ref a1_guests_strongest, .ref a1_guests_nerve, .int w_a1_guests_count], zJ T a1_guests_names 10 w_a1_guests_names, zI T a1_guests_from 10 w_a1_guests_from, zI T a1_guests_weakest 10 w_a1_guests_weakest, zI T a1_guests_strongest 10 w_a1_guests_strongest, zI T a1_guests_nerve 10 w_a1_guests_nerve]) (sxPatch_pk [(true, 0), (true, 1), (true, 2), (true, 3), (false, 4), (false, 5), (false, 6), (false, 7), (false, 8), (false, 9), (false, 10), (false, 11), (false, 12), (false, 13), (false, 14), (false, 15), (false, 16)] (by decide +kernel) rfl rfl rfl) rfl ⟨Nat.le_of_ble_eq_true rfl, Nat.le_of_ble_eq_true rfl⟩ dX1_check_47 rfl ?_
        exact R50 v2 v3 w_a0_values u8.1 u8.2 w_a1_fronts_names w_a1_fronts_warm w_a1_fronts_force w_a1_fronts_from w_a1_fronts_hours w_a1_fronts_count w_a1_guests_names w_a1_guests_from w_a1_guests_weakest w_a1_guests_strongest w_a1_guests_nerve w_a1_guests_count hf
      refine sx_iload_n X 3 rfl dX1_check_4 rfl ?_
      refine sx_aload_n X 0 rfl dX1_check_5 rfl ?_
      refine sx_get X kX11 0 rfl 3 (Nat.le_of_ble_eq_true rfl) qm_88 rfl dX1_check_6 ?_
      refine sx_icmp_ge X 62 dX1_check_9 rfl (fun c1 => ?_) (fun c1 => ?_)
      · have hf := ob_t hf c1
        have hf := ob_kr hκ4 hf
        exact sx_vret X dX1_check_62 (ob_e hf) rfl rfl
      · have hf := ob_f hf c1
        refine sx_aload_n X 0 rfl dX1_check_12 rfl ?_
        refine sx_get X kX11 0 rfl 5 (Nat.le_of_ble_eq_true rfl) qm_92 rfl dX1_check_13 ?_
        refine sx_if_ne X 62 dX1_check_16 rfl (fun c2 => ?_) (fun c2 => ?_)
        · have hf := ob_f hf c2
          have hf := ob_kr hκ4 hf
          exact sx_vret X dX1_check_62 (ob_e hf) rfl rfl
        · have hf := ob_t hf c2
          refine sx_aload_n X 0 rfl dX1_check_19 rfl ?_
          refine sx_iload_n X 3 rfl dX1_check_20 rfl ?_
          obtain ⟨u3, hu3, hf⟩ := ob_c hf
          refine sx_cVr X (c_X11_kindAt (l := l) (D := D) (T := T) (sd := sd) a0 a0_kinds a0_starts a0_values v3 ((X11_kinds b_a0), (X11_starts b_a0), w_a0_values, (X11_count b_a0), (X11_cursor b_a0), w_a0_error, w_a0_errorToken) hu3) (st' := [.ref (sd.1 u3)]) (q0 := 0) qm_1057 qm_1058 qm_1059 qm_15 qm_1060 hd_X11_kindAt ⟨rfl, rfl⟩ ⟨Nat.le_of_ble_eq_true rfl, Nat.le_of_ble_eq_true rfl⟩ rfl rfl (Nat.le_of_ble_eq_true rfl) rfl rfl rfl [0, 1, 2, 3] rfl rfl rfl ⟨Nat.le_of_ble_eq_true rfl, Nat.le_of_ble_eq_true rfl⟩ dX1_check_21 rfl ?_
          obtain ⟨u4, hu4, hf⟩ := ob_c hf
          refine sx_cSr X (c_X1_beginsOrder (l := l) (D := D) (T := T) (sd := sd) u3 hu4) (st' := [.int u4]) qm_1065 qm_1066 qm_48 qm_1067 hd_X1_beginsOrder ⟨rfl, rfl⟩ ⟨Nat.le_of_ble_eq_true rfl, Nat.le_of_ble_eq_true rfl⟩ rfl rfl (Nat.le_of_ble_eq_true rfl) [] rfl rfl rfl ⟨Nat.le_of_ble_eq_true rfl, Nat.le_of_ble_eq_true rfl⟩ dX1_check_24 rfl ?_
          refine sx_if_eq X 50 dX1_check_27 rfl (fun c5 => ?_) (fun c5 => ?_)
          · have hf := ob_t hf c5
            exact R50 v2 v3 w_a0_values w_a0_error w_a0_errorToken w_a1_fronts_names w_a1_fronts_warm w_a1_fronts_force w_a1_fronts_from w_a1_fronts_hours w_a1_fronts_count w_a1_guests_names w_a1_guests_from w_a1_guests_weakest w_a1_guests_strongest w_a1_guests_nerve w_a1_guests_count hf
          · have hf := ob_f hf c5
            refine sx_iinc X (v := (v2 + 1)) (lv' := [(2, .int (v2 + 1)), (0, .ref a0), (1, .ref a1), (3, .int v3)]) 2 rfl dX1_check_30 rfl (by decide) rfl ?_
            refine sx_aload_n X 1 rfl dX1_check_33 rfl ?_
            refine sx_iload_n X 0 rfl dX1_check_34 rfl ?_
            refine sx_bipush X (v := 16) dX1_check_35 rfl ?_
            refine sx_icmp_gt X 44 dX1_check_37 rfl (fun c7 => ?_) (fun c7 => ?_)
            · have hf := ob_t hf c7
              refine sx_iconst X (v := 0) dX1_check_44 rfl ?_
              refine sx_lsub [1, 2, 0, 3] rfl ?_
              exact R45 (v2 + 1) v3 w_a0_values w_a0_error w_a0_errorToken w_a1_fronts_names w_a1_fronts_warm w_a1_fronts_force w_a1_fronts_from w_a1_fronts_hours w_a1_fronts_count w_a1_guests_names w_a1_guests_from w_a1_guests_weakest w_a1_guests_strongest w_a1_guests_nerve w_a1_guests_count 0 hf
            · have hf := ob_f hf c7
              refine sx_iconst X (v := 1) dX1_check_40 rfl ?_
              refine sx_goto X 45 dX1_check_41 rfl ?_
              refine sx_lsub [1, 2, 0, 3] rfl ?_
              exact R45 (v2 + 1) v3 w_a0_values w_a0_error w_a0_errorToken w_a1_fronts_names w_a1_fronts_warm w_a1_fronts_force w_a1_fronts_from w_a1_fronts_hours w_a1_fronts_count w_a1_guests_names w_a1_guests_from w_a1_guests_weakest w_a1_guests_strongest w_a1_guests_nerve w_a1_guests_count 1 hf
  refine sx_iconst X (v := 0) dX1_check_0 rfl ?_
  refine sx_istore_n X (lv' := [(2, .int 0), (0, .ref a0), (1, .ref a1)]) dX1_check_1 rfl (by decide) rfl ?_
  refine sx_iconst X (v := 0) dX1_check_2 rfl ?_
  refine sx_istore_n X (lv' := [(3, .int 0), (2, .int 0), (0, .ref a0), (1, .ref a1)]) dX1_check_3 rfl (by decide) rfl ?_
  refine sx_lsub [2, 3, 1, 0] rfl ?_
  exact L4 n 0 0 (X11_values b_a0) (X11_error b_a0) (X11_errorToken b_a0) (X2_names b_a1_fronts) (X2_warm b_a1_fronts) (X2_force b_a1_fronts) (X2_from b_a1_fronts) (X2_hours b_a1_fronts) (X2_count b_a1_fronts) (X4_names b_a1_guests) (X4_from b_a1_guests) (X4_weakest b_a1_guests) (X4_strongest b_a1_guests) (X4_nerve b_a1_guests) (X4_count b_a1_guests) hf

abbrev vf_X10_append (sd : SdT) (_r : (Nat → Int32) × Int32) : Option Value := none
abbrev wc_X10_append (T : Nat → ClassId) (sd : SdT) (h : Nat) (h_bytes : Nat) (b_h : bX10) : va_W := [zO h 8 [.ref h_bytes, .int (X10_length b_h)], zB T h_bytes 2000 (X10_bytes b_h)]
abbrev wf_X10_append (T : Nat → ClassId) (sd : SdT) (h : Nat) (h_bytes : Nat) (b_h : bX10) (r : (Nat → Int32) × Int32) : va_W := [zO h 8 [.ref h_bytes, .int r.2], zB T h_bytes 2000 r.1]
abbrev rm_X10_append : Room := { frames := 0, cells := 0, slots := 0, locals := 0 }
theorem hd_X10_append : yX10_append.cls ≠ "java/lang/invoke/MethodHandle" ∧ yX10_append.cls ≠ "java/lang/invoke/VarHandle" ∧ (parseMethodDescriptor yX10_append.desc).map (fun d => d.parameters.length) = some 1 := ⟨by decide, by decide, by decide +kernel⟩
set_option maxHeartbeats 4000000 in
set_option maxRecDepth 100000 in
theorem c_X10_append {l : Launch} {D : va_G} {T : Nat → ClassId} {sd : SdT} (h : Nat) (h_bytes : Nat) (n : Nat) (x0 : Int32) (b_h : bX10) {res : (Nat → Int32) × Int32} (hf : f_X10_append n x0 b_h = some res) : SxK (SFx sd) l D T yX10_append cX10_append 3 none rm_X10_append [.ref h, .int x0] (wc_X10_append T sd h h_bytes b_h) (vf_X10_append sd) (wf_X10_append T sd h h_bytes b_h) res 0 0 := by
  refine sx_start (SFx_ok sd) (by decide +kernel) (Nat.le_of_ble_eq_true rfl) (fun p e s m args below meth c A X hnm => ?_)
  have hf := ob_1 hf
  have L3 : ∀ (v1 : Int32) (n0 : Nat) (v2 : Int32) (w_h_bytes : Nat → Int32) (w_h_length : Int32), (iter (fun s : Int32 × (Nat → Int32) × Int32 => f_X10_append_L3 n x0 b_h v1 s.1 s.2.1 s.2.2) n0 (v2, w_h_bytes, w_h_length)).bind some = some res → SxG p l e rm_X10_append s m args below meth c D A 3 0 0 (SxE below args s D A (vf_X10_append sd) (wf_X10_append T sd h h_bytes b_h) res 0 0) [zO h 8 [.ref h_bytes, .int w_h_length], zB T h_bytes 2000 w_h_bytes] [(0, .ref h), (1, .int v1), (2, .int v2)] 3 [] := by
    intro v1 n0
    induction n0 with
    | zero =>
      intro v2 w_h_bytes w_h_length hf
      exact (iter_z hf).elim
    | succ n0 ih3 =>
      intro v2 w_h_bytes w_h_length hf
      obtain ⟨κ3, hκ3, hf⟩ := iter_k hf
      have hf : (f_X10_append_L3 n x0 b_h v1 v2 w_h_bytes w_h_length).bind κ3 = some res := hf
      refine sx_iload_n X 2 rfl dX10_append_3 rfl ?_
      refine sx_if_lt X 46 dX10_append_4 rfl (fun c1 => ?_) (fun c1 => ?_)
      · have hf := ob_t hf c1
        have hf := ob_kr hκ3 hf
        exact sx_vret X dX10_append_46 (ob_e hf) rfl rfl
      · have hf := ob_f hf c1
        refine sx_aload_n X 0 rfl dX10_append_7 rfl ?_
        refine sx_get X kX10 0 rfl 1 (Nat.le_of_ble_eq_true rfl) qm_66 rfl dX10_append_8 ?_
        refine sx_sipush X (v := 2000) dX10_append_11 rfl ?_
        refine sx_icmp_ge X 46 dX10_append_14 rfl (fun c2 => ?_) (fun c2 => ?_)
        · have hf := ob_t hf c2
          have hf := ob_kr hκ3 hf
          exact sx_vret X dX10_append_46 (ob_e hf) rfl rfl
        · have hf := ob_f hf c2
          refine sx_aload_n X 0 rfl dX10_append_17 rfl ?_
          refine sx_get X kX10 0 rfl 0 (Nat.le_of_ble_eq_true rfl) qm_64 rfl dX10_append_18 ?_
          refine sx_aload_n X 0 rfl dX10_append_21 rfl ?_
          refine sx_get X kX10 0 rfl 1 (Nat.le_of_ble_eq_true rfl) qm_66 rfl dX10_append_22 ?_
          refine sx_iload_n X 1 rfl dX10_append_25 rfl ?_
          refine sx_iload_n X 2 rfl dX10_append_26 rfl ?_
          refine sx_ishr X dX10_append_27 ?_
          refine sx_i2b X dX10_append_28 ?_
          obtain ⟨g3, hf⟩ := ob_g hf
          refine sx_bast X (ws' := [zO h 8 [.ref h_bytes, .int w_h_length], zB T h_bytes 2000 (upd w_h_bytes w_h_length.toNatClampNeg (vp_nar .byte (Int8.toInt32 (Int32.toInt8 (v1 >>> (v2 &&& 31))))))]) 1 rfl g3 rfl dX10_append_29 ?_
          refine sx_aload_n X 0 rfl dX10_append_30 rfl ?_
          refine sx_dup X dX10_append_31 rfl ?_
          refine sx_get X kX10 0 rfl 1 (Nat.le_of_ble_eq_true rfl) qm_66 rfl dX10_append_32 ?_
          refine sx_iconst X (v := 1) dX10_append_35 rfl ?_
          refine sx_iadd X dX10_append_36 ?_
          refine sx_put X (ws' := [zO h 8 [.ref h_bytes, .int (w_h_length + 1)], zB T h_bytes 2000 (upd w_h_bytes w_h_length.toNatClampNeg (vp_nar .byte (Int8.toInt32 (Int32.toInt8 (v1 >>> (v2 &&& 31))))))]) kX10 0 rfl 1 (Nat.le_of_ble_eq_true rfl) qm_66 rfl rfl rfl (Nat.le_of_ble_eq_true rfl) rfl dX10_append_37 ?_
          refine sx_iinc X (v := (v2 + (-8))) (lv' := [(2, .int (v2 + (-8))), (0, .ref h), (1, .int v1)]) 2 rfl dX10_append_40 rfl (by decide) rfl ?_
          refine sx_goto X 3 dX10_append_43 rfl ?_
          have hf := ob_k hκ3 hf
          refine sx_lsub [1, 2, 0] rfl ?_
          exact ih3 (v2 + (-8)) (upd w_h_bytes w_h_length.toNatClampNeg (vp_nar .byte (Int8.toInt32 (Int32.toInt8 (v1 >>> (v2 &&& 31)))))) (w_h_length + 1) hf
  refine sx_bipush X (v := 24) dX10_append_0 rfl ?_
  refine sx_istore_n X (lv' := [(2, .int 24), (0, .ref h), (1, .int x0)]) dX10_append_2 rfl (by decide) rfl ?_
  refine sx_lsub [1, 2, 0] rfl ?_
  exact L3 x0 n 24 (X10_bytes b_h) (X10_length b_h) hf

abbrev vf_X10_byteAt (sd : SdT) (r : Int32) : Option Value := some (.int r)
abbrev wc_X10_byteAt (T : Nat → ClassId) (sd : SdT) (h : Nat) (h_bytes : Nat) (b_h : bX10) : va_W := [zO h 8 [.ref h_bytes, .int (X10_length b_h)], zB T h_bytes 2000 (X10_bytes b_h)]
abbrev wf_X10_byteAt (T : Nat → ClassId) (sd : SdT) (h : Nat) (h_bytes : Nat) (b_h : bX10) (r : Int32) : va_W := [zO h 8 [.ref h_bytes, .int (X10_length b_h)], zB T h_bytes 2000 (X10_bytes b_h)]
abbrev rm_X10_byteAt : Room := { frames := 0, cells := 0, slots := 0, locals := 0 }
theorem hd_X10_byteAt : yX10_byteAt.cls ≠ "java/lang/invoke/MethodHandle" ∧ yX10_byteAt.cls ≠ "java/lang/invoke/VarHandle" ∧ (parseMethodDescriptor yX10_byteAt.desc).map (fun d => d.parameters.length) = some 1 := ⟨by decide, by decide, by decide +kernel⟩
set_option maxHeartbeats 4000000 in
set_option maxRecDepth 100000 in
theorem c_X10_byteAt {l : Launch} {D : va_G} {T : Nat → ClassId} {sd : SdT} (h : Nat) (h_bytes : Nat) (x0 : Int32) (b_h : bX10) {res : Int32} (hf : f_X10_byteAt x0 b_h = some res) : SxK (SFx sd) l D T yX10_byteAt cX10_byteAt 2 (some .int) rm_X10_byteAt [.ref h, .int x0] (wc_X10_byteAt T sd h h_bytes b_h) (vf_X10_byteAt sd) (wf_X10_byteAt T sd h h_bytes b_h) res 0 0 := by
  refine sx_start (SFx_ok sd) (by decide +kernel) (Nat.le_of_ble_eq_true rfl) (fun p e s m args below meth c A X hnm => ?_)
  have hf := ob_1 hf
  refine sx_iload_n X 1 rfl dX10_byteAt_0 rfl ?_
  refine sx_if_lt X 30 dX10_byteAt_1 rfl (fun c1 => ?_) (fun c1 => ?_)
  · have hf := ob_t hf c1
    refine sx_iconst X (v := 0) dX10_byteAt_30 rfl ?_
    exact sx_iret X rfl dX10_byteAt_31 (ob_e hf) rfl rfl
  · have hf := ob_f hf c1
    refine sx_iload_n X 1 rfl dX10_byteAt_4 rfl ?_
    refine sx_aload_n X 0 rfl dX10_byteAt_5 rfl ?_
    refine sx_get X kX10 0 rfl 1 (Nat.le_of_ble_eq_true rfl) qm_66 rfl dX10_byteAt_6 ?_
    refine sx_icmp_ge X 30 dX10_byteAt_9 rfl (fun c2 => ?_) (fun c2 => ?_)
    · have hf := ob_t hf c2
      refine sx_iconst X (v := 0) dX10_byteAt_30 rfl ?_
      exact sx_iret X rfl dX10_byteAt_31 (ob_e hf) rfl rfl
    · have hf := ob_f hf c2
      refine sx_iload_n X 1 rfl dX10_byteAt_12 rfl ?_
      refine sx_aload_n X 0 rfl dX10_byteAt_13 rfl ?_
      refine sx_get X kX10 0 rfl 0 (Nat.le_of_ble_eq_true rfl) qm_64 rfl dX10_byteAt_14 ?_
      refine sx_alen X (t0 := 2) (v := 2000) 1 rfl rfl rfl dX10_byteAt_17 ?_
      refine sx_icmp_ge X 30 dX10_byteAt_18 rfl (fun c3 => ?_) (fun c3 => ?_)
      · have hf := ob_t hf c3
        refine sx_iconst X (v := 0) dX10_byteAt_30 rfl ?_
        exact sx_iret X rfl dX10_byteAt_31 (ob_e hf) rfl rfl
      · have hf := ob_f hf c3
        refine sx_aload_n X 0 rfl dX10_byteAt_21 rfl ?_
        refine sx_get X kX10 0 rfl 0 (Nat.le_of_ble_eq_true rfl) qm_64 rfl dX10_byteAt_22 ?_
        refine sx_iload_n X 1 rfl dX10_byteAt_25 rfl ?_
        obtain ⟨g4, hf⟩ := ob_g hf
        refine sx_bald X 1 rfl g4 dX10_byteAt_26 ?_
        refine sx_goto X 31 dX10_byteAt_27 rfl ?_
        exact sx_iret X rfl dX10_byteAt_31 (ob_e hf) rfl rfl

abbrev vf_X10_hasText (sd : SdT) (r : Int32) : Option Value := some (.int r)
abbrev wc_X10_hasText (T : Nat → ClassId) (sd : SdT) (h : Nat) (h_bytes : Nat) (b_h : bX10) : va_W := [zO h 8 [.ref h_bytes, .int (X10_length b_h)], zB T h_bytes 2000 (X10_bytes b_h)]
abbrev wf_X10_hasText (T : Nat → ClassId) (sd : SdT) (h : Nat) (h_bytes : Nat) (b_h : bX10) (r : Int32) : va_W := [zO h 8 [.ref h_bytes, .int (X10_length b_h)], zB T h_bytes 2000 (X10_bytes b_h)]
abbrev rm_X10_hasText : Room := { frames := 4, cells := 0, slots := 0, locals := 100 }
theorem hd_X10_hasText : yX10_hasText.cls ≠ "java/lang/invoke/MethodHandle" ∧ yX10_hasText.cls ≠ "java/lang/invoke/VarHandle" ∧ (parseMethodDescriptor yX10_hasText.desc).map (fun d => d.parameters.length) = some 3 := ⟨by decide, by decide, by decide +kernel⟩
set_option maxHeartbeats 4000000 in
set_option maxRecDepth 100000 in
theorem c_X10_hasText {l : Launch} {D : va_G} {T : Nat → ClassId} {sd : SdT} (h : Nat) (h_bytes : Nat) (n : Nat) (x0 : Int32) (x1 : Int32) (x2 : Nat) (b_h : bX10) {res : Int32} (hf : f_X10_hasText n x0 x1 x2 b_h = some res) : SxK (SFx sd) l D T yX10_hasText cX10_hasText 5 (some .boolean) rm_X10_hasText [.ref h, .int x0, .int x1, .ref (sd.2.1 x2)] (wc_X10_hasText T sd h h_bytes b_h) (vf_X10_hasText sd) (wf_X10_hasText T sd h h_bytes b_h) res 0 0 := by
  refine sx_start (SFx_ok sd) (by decide +kernel) (Nat.le_of_ble_eq_true rfl) (fun p e s m args below meth c A X hnm => ?_)
  have hf := ob_1 hf
  have L13 : ∀ (v1 : Int32) (v2 : Int32) (v3 : Nat) (n0 : Nat) (v4 : Int32), (iter (fun s : Int32 => f_X10_hasText_L13 n x0 x1 x2 b_h v1 v2 v3 s) n0 v4).bind some = some res → SxG p l e rm_X10_hasText s m args below meth c D A 5 0 0 (SxE below args s D A (vf_X10_hasText sd) (wf_X10_hasText T sd h h_bytes b_h) res 0 0) [zO h 8 [.ref h_bytes, .int (X10_length b_h)], zB T h_bytes 2000 (X10_bytes b_h)] [(0, .ref h), (1, .int v1), (2, .int v2), (3, .ref (sd.2.1 v3)), (4, .int v4)] 13 [] := by
    intro v1 v2 v3 n0
    induction n0 with
    | zero =>
      intro v4 hf
      exact (iter_z hf).elim
    | succ n0 ih13 =>
      intro v4 hf
      obtain ⟨κ13, hκ13, hf⟩ := iter_k hf
      have hf : (f_X10_hasText_L13 n x0 x1 x2 b_h v1 v2 v3 v4).bind κ13 = some res := hf
      refine sx_iload X 4 rfl dX10_hasText_13 ?_
      refine sx_iload_n X 2 rfl dX10_hasText_15 rfl ?_
      refine sx_icmp_ge X 44 dX10_hasText_16 rfl (fun c3 => ?_) (fun c3 => ?_)
      · have hf := ob_t hf c3
        refine sx_iconst X (v := 1) dX10_hasText_44 rfl ?_
        have hf := ob_kr hκ13 hf
        exact sx_iret X rfl dX10_hasText_45 (ob_e hf) rfl rfl
      · have hf := ob_f hf c3
        refine sx_aload_n X 0 rfl dX10_hasText_19 rfl ?_
        refine sx_iload_n X 1 rfl dX10_hasText_20 rfl ?_
        refine sx_iload X 4 rfl dX10_hasText_21 ?_
        refine sx_iadd X dX10_hasText_23 ?_
        obtain ⟨u4, hu4, hf⟩ := ob_c hf
        refine sx_cVr X (c_X10_byteAt (l := l) (D := D) (T := T) (sd := sd) h h_bytes (v1 + v4) b_h hu4) (st' := [.int u4]) (q0 := 0) qm_899 qm_873 qm_874 qm_14 qm_875 hd_X10_byteAt ⟨rfl, rfl⟩ ⟨Nat.le_of_ble_eq_true rfl, Nat.le_of_ble_eq_true rfl⟩ rfl rfl (Nat.le_of_ble_eq_true rfl) rfl rfl rfl [0, 1] rfl rfl rfl ⟨Nat.le_of_ble_eq_true rfl, Nat.le_of_ble_eq_true rfl⟩ dX10_hasText_24 rfl ?_
        refine sx_aload_n X 3 rfl dX10_hasText_27 rfl ?_
        refine sx_iload X 4 rfl dX10_hasText_28 ?_
        obtain ⟨g5, hf⟩ := ob_h hf
        obtain ⟨g6, hf⟩ := ob_g hf
        refine sx_schar X v3 g5 g6 qm_900 (Nat.le_of_ble_eq_true rfl) (Nat.le_of_ble_eq_true rfl) (Nat.le_of_ble_eq_true rfl) (Nat.zero_le _) (Nat.zero_le _) dX10_hasText_30 ?_
        refine sx_icmp_eq X 38 dX10_hasText_33 rfl (fun c7 => ?_) (fun c7 => ?_)
        · have hf := ob_t hf c7
          refine sx_iinc X (v := (v4 + 1)) (lv' := [(4, .int (v4 + 1)), (0, .ref h), (1, .int v1), (2, .int v2), (3, .ref (sd.2.1 v3))]) 4 rfl dX10_hasText_38 rfl (by decide) rfl ?_
          refine sx_goto X 13 dX10_hasText_41 rfl ?_
          have hf := ob_k hκ13 hf
          refine sx_lsub [1, 2, 3, 4, 0] rfl ?_
          exact ih13 (v4 + 1) hf
        · have hf := ob_f hf c7
          refine sx_iconst X (v := 0) dX10_hasText_36 rfl ?_
          have hf := ob_kr hκ13 hf
          exact sx_iret X rfl dX10_hasText_37 (ob_e hf) rfl rfl
  refine sx_aload_n X 3 rfl dX10_hasText_0 rfl ?_
  obtain ⟨g1, hf⟩ := ob_h hf
  refine sx_slen X x2 g1 qm_898 (Nat.le_of_ble_eq_true rfl) (Nat.le_of_ble_eq_true rfl) (Nat.le_of_ble_eq_true rfl) (Nat.zero_le _) (Nat.zero_le _) dX10_hasText_1 ?_
  refine sx_iload_n X 2 rfl dX10_hasText_4 rfl ?_
  refine sx_icmp_eq X 10 dX10_hasText_5 rfl (fun c2 => ?_) (fun c2 => ?_)
  · have hf := ob_t hf c2
    refine sx_iconst X (v := 0) dX10_hasText_10 rfl ?_
    refine sx_istore X (lv' := [(4, .int 0), (0, .ref h), (1, .int x0), (2, .int x1), (3, .ref (sd.2.1 x2))]) dX10_hasText_11 (by decide) rfl ?_
    refine sx_lsub [1, 2, 3, 4, 0] rfl ?_
    exact L13 x0 x1 x2 n 0 hf
  · have hf := ob_f hf c2
    refine sx_iconst X (v := 0) dX10_hasText_8 rfl ?_
    exact sx_iret X rfl dX10_hasText_9 (ob_e hf) rfl rfl

abbrev vf_X11_add (sd : SdT) (_r : (Nat → Nat) × (Nat → Int32) × (Nat → Int64) × Int32) : Option Value := none
abbrev wc_X11_add (T : Nat → ClassId) (sd : SdT) (h : Nat) (h_kinds : Nat) (h_starts : Nat) (h_values : Nat) (b_h : bX11) : va_W := [zO h 9 [.ref h_kinds, .ref h_starts, .ref h_values, .int (X11_count b_h), .int (X11_cursor b_h), .int (X11_error b_h), .int (X11_errorToken b_h)], zK T sd.1 h_kinds 401 (X11_kinds b_h), zI T h_starts 401 (X11_starts b_h), zJ T h_values 401 (X11_values b_h)]
abbrev wf_X11_add (T : Nat → ClassId) (sd : SdT) (h : Nat) (h_kinds : Nat) (h_starts : Nat) (h_values : Nat) (b_h : bX11) (r : (Nat → Nat) × (Nat → Int32) × (Nat → Int64) × Int32) : va_W := [zO h 9 [.ref h_kinds, .ref h_starts, .ref h_values, .int r.2.2.2, .int (X11_cursor b_h), .int (X11_error b_h), .int (X11_errorToken b_h)], zK T sd.1 h_kinds 401 r.1, zI T h_starts 401 r.2.1, zJ T h_values 401 r.2.2.1]
abbrev rm_X11_add : Room := { frames := 0, cells := 0, slots := 0, locals := 0 }
theorem hd_X11_add : yX11_add.cls ≠ "java/lang/invoke/MethodHandle" ∧ yX11_add.cls ≠ "java/lang/invoke/VarHandle" ∧ (parseMethodDescriptor yX11_add.desc).map (fun d => d.parameters.length) = some 3 := ⟨by decide, by decide, by decide +kernel⟩
set_option maxHeartbeats 4000000 in
set_option maxRecDepth 100000 in
theorem c_X11_add {l : Launch} {D : va_G} {T : Nat → ClassId} {sd : SdT} (h : Nat) (h_kinds : Nat) (h_starts : Nat) (h_values : Nat) (x0 : Nat) (x1 : Int32) (x2 : Int64) (b_h : bX11) {res : (Nat → Nat) × (Nat → Int32) × (Nat → Int64) × Int32} (hf : f_X11_add x0 x1 x2 b_h = some res) : SxK (SFx sd) l D T yX11_add cX11_add 5 none rm_X11_add [.ref h, .ref (sd.1 x0), .int x1, .long x2] (wc_X11_add T sd h h_kinds h_starts h_values b_h) (vf_X11_add sd) (wf_X11_add T sd h h_kinds h_starts h_values b_h) res 0 0 := by
  refine sx_start (SFx_ok sd) (by decide +kernel) (Nat.le_of_ble_eq_true rfl) (fun p e s m args below meth c A X hnm => ?_)
  have hf := ob_1 hf
  refine sx_aload_n X 0 rfl dX11_add_0 rfl ?_
  refine sx_get X kX11 0 rfl 3 (Nat.le_of_ble_eq_true rfl) qm_87 rfl dX11_add_1 ?_
  refine sx_sipush X (v := 400) dX11_add_4 rfl ?_
  refine sx_icmp_gt X 50 dX11_add_7 rfl (fun c1 => ?_) (fun c1 => ?_)
  · have hf := ob_t hf c1
    exact sx_vret X dX11_add_50 (ob_e hf) rfl rfl
  · have hf := ob_f hf c1
    refine sx_aload_n X 0 rfl dX11_add_10 rfl ?_
    refine sx_get X kX11 0 rfl 0 (Nat.le_of_ble_eq_true rfl) qm_84 rfl dX11_add_11 ?_
    refine sx_aload_n X 0 rfl dX11_add_14 rfl ?_
    refine sx_get X kX11 0 rfl 3 (Nat.le_of_ble_eq_true rfl) qm_87 rfl dX11_add_15 ?_
    refine sx_aload_n X 1 rfl dX11_add_18 rfl ?_
    obtain ⟨g2, hf⟩ := ob_g hf
    obtain ⟨g3, hf⟩ := ob_h hf
    refine sx_kast X (ws' := [zO h 9 [.ref h_kinds, .ref h_starts, .ref h_values, .int (X11_count b_h), .int (X11_cursor b_h), .int (X11_error b_h), .int (X11_errorToken b_h)], zK T sd.1 h_kinds 401 (va_up (X11_kinds b_h) (X11_count b_h).toNatClampNeg x0), zI T h_starts 401 (X11_starts b_h), zJ T h_values 401 (X11_values b_h)]) 1 rfl g3 g2 rfl dX11_add_19 ?_
    refine sx_aload_n X 0 rfl dX11_add_20 rfl ?_
    refine sx_get X kX11 0 rfl 1 (Nat.le_of_ble_eq_true rfl) qm_85 rfl dX11_add_21 ?_
    refine sx_aload_n X 0 rfl dX11_add_24 rfl ?_
    refine sx_get X kX11 0 rfl 3 (Nat.le_of_ble_eq_true rfl) qm_87 rfl dX11_add_25 ?_
    refine sx_iload_n X 2 rfl dX11_add_28 rfl ?_
    obtain ⟨g4, hf⟩ := ob_g hf
    refine sx_iast X (ws' := [zO h 9 [.ref h_kinds, .ref h_starts, .ref h_values, .int (X11_count b_h), .int (X11_cursor b_h), .int (X11_error b_h), .int (X11_errorToken b_h)], zK T sd.1 h_kinds 401 (va_up (X11_kinds b_h) (X11_count b_h).toNatClampNeg x0), zI T h_starts 401 (upd (X11_starts b_h) (X11_count b_h).toNatClampNeg x1), zJ T h_values 401 (X11_values b_h)]) 2 rfl g4 rfl dX11_add_29 ?_
    refine sx_aload_n X 0 rfl dX11_add_30 rfl ?_
    refine sx_get X kX11 0 rfl 2 (Nat.le_of_ble_eq_true rfl) qm_86 rfl dX11_add_31 ?_
    refine sx_aload_n X 0 rfl dX11_add_34 rfl ?_
    refine sx_get X kX11 0 rfl 3 (Nat.le_of_ble_eq_true rfl) qm_87 rfl dX11_add_35 ?_
    refine sx_lload_n X 3 rfl dX11_add_38 rfl ?_
    obtain ⟨g5, hf⟩ := ob_g hf
    refine sx_last X (ws' := [zO h 9 [.ref h_kinds, .ref h_starts, .ref h_values, .int (X11_count b_h), .int (X11_cursor b_h), .int (X11_error b_h), .int (X11_errorToken b_h)], zK T sd.1 h_kinds 401 (va_up (X11_kinds b_h) (X11_count b_h).toNatClampNeg x0), zI T h_starts 401 (upd (X11_starts b_h) (X11_count b_h).toNatClampNeg x1), zJ T h_values 401 (vp_updL (X11_values b_h) (X11_count b_h).toNatClampNeg x2)]) 3 rfl g5 rfl dX11_add_39 ?_
    refine sx_aload_n X 0 rfl dX11_add_40 rfl ?_
    refine sx_dup X dX11_add_41 rfl ?_
    refine sx_get X kX11 0 rfl 3 (Nat.le_of_ble_eq_true rfl) qm_87 rfl dX11_add_42 ?_
    refine sx_iconst X (v := 1) dX11_add_45 rfl ?_
    refine sx_iadd X dX11_add_46 ?_
    refine sx_put X (ws' := [zO h 9 [.ref h_kinds, .ref h_starts, .ref h_values, .int ((X11_count b_h) + 1), .int (X11_cursor b_h), .int (X11_error b_h), .int (X11_errorToken b_h)], zK T sd.1 h_kinds 401 (va_up (X11_kinds b_h) (X11_count b_h).toNatClampNeg x0), zI T h_starts 401 (upd (X11_starts b_h) (X11_count b_h).toNatClampNeg x1), zJ T h_values 401 (vp_updL (X11_values b_h) (X11_count b_h).toNatClampNeg x2)]) kX11 0 rfl 3 (Nat.le_of_ble_eq_true rfl) qm_87 rfl rfl rfl (Nat.le_of_ble_eq_true rfl) rfl dX11_add_47 ?_
    exact sx_vret X dX11_add_50 (ob_e hf) rfl rfl

abbrev vf_X11_behindBlanks (sd : SdT) (r : Int32) : Option Value := some (.int r)
abbrev wc_X11_behindBlanks (T : Nat → ClassId) (sd : SdT) (a0 : Nat) (a0_bytes : Nat) (b_a0 : bX10) : va_W := [zO a0 8 [.ref a0_bytes, .int (X10_length b_a0)], zB T a0_bytes 2000 (X10_bytes b_a0)]
abbrev wf_X11_behindBlanks (T : Nat → ClassId) (sd : SdT) (a0 : Nat) (a0_bytes : Nat) (b_a0 : bX10) (r : Int32) : va_W := [zO a0 8 [.ref a0_bytes, .int (X10_length b_a0)], zB T a0_bytes 2000 (X10_bytes b_a0)]
abbrev rm_X11_behindBlanks : Room := { frames := 1, cells := 0, slots := 0, locals := 21 }
theorem hd_X11_behindBlanks : yX11_behindBlanks.cls ≠ "java/lang/invoke/MethodHandle" ∧ yX11_behindBlanks.cls ≠ "java/lang/invoke/VarHandle" ∧ (parseMethodDescriptor yX11_behindBlanks.desc).map (fun d => d.parameters.length) = some 2 := ⟨by decide, by decide, by decide +kernel⟩
set_option maxHeartbeats 4000000 in
set_option maxRecDepth 100000 in
theorem c_X11_behindBlanks {l : Launch} {D : va_G} {T : Nat → ClassId} {sd : SdT} (a0 : Nat) (a0_bytes : Nat) (n : Nat) (x1 : Int32) (b_a0 : bX10) {res : Int32} (hf : f_X11_behindBlanks n x1 b_a0 = some res) : SxK (SFx sd) l D T yX11_behindBlanks cX11_behindBlanks 3 (some .int) rm_X11_behindBlanks [.ref a0, .int x1] (wc_X11_behindBlanks T sd a0 a0_bytes b_a0) (vf_X11_behindBlanks sd) (wf_X11_behindBlanks T sd a0 a0_bytes b_a0) res 0 0 := by
  refine sx_start (SFx_ok sd) (by decide +kernel) (Nat.le_of_ble_eq_true rfl) (fun p e s m args below meth c A X hnm => ?_)
  have hf := ob_1 hf
  have L2 : ∀ (n0 : Nat) (v2 : Int32), (iter (fun s : Int32 => f_X11_behindBlanks_L2 n x1 b_a0 s) n0 v2).bind some = some res → SxG p l e rm_X11_behindBlanks s m args below meth c D A 3 0 0 (SxE below args s D A (vf_X11_behindBlanks sd) (wf_X11_behindBlanks T sd a0 a0_bytes b_a0) res 0 0) [zO a0 8 [.ref a0_bytes, .int (X10_length b_a0)], zB T a0_bytes 2000 (X10_bytes b_a0)] [(0, .ref a0), (2, .int v2)] 2 [] := by
    intro n0
    induction n0 with
    | zero =>
      intro v2 hf
      exact (iter_z hf).elim
    | succ n0 ih2 =>
      intro v2 hf
      obtain ⟨κ2, hκ2, hf⟩ := iter_k hf
      have hf : (f_X11_behindBlanks_L2 n x1 b_a0 v2).bind κ2 = some res := hf
      refine sx_iload_n X 1 rfl dX11_behindBlanks_2 rfl ?_
      refine sx_aload_n X 0 rfl dX11_behindBlanks_3 rfl ?_
      refine sx_get X kX10 0 rfl 1 (Nat.le_of_ble_eq_true rfl) qm_67 rfl dX11_behindBlanks_4 ?_
      refine sx_icmp_ge X 36 dX11_behindBlanks_7 rfl (fun c1 => ?_) (fun c1 => ?_)
      · have hf := ob_t hf c1
        refine sx_iload_n X 1 rfl dX11_behindBlanks_36 rfl ?_
        have hf := ob_kr hκ2 hf
        exact sx_iret X rfl dX11_behindBlanks_37 (ob_e hf) rfl rfl
      · have hf := ob_f hf c1
        refine sx_aload_n X 0 rfl dX11_behindBlanks_10 rfl ?_
        refine sx_iload_n X 1 rfl dX11_behindBlanks_11 rfl ?_
        obtain ⟨u2, hu2, hf⟩ := ob_c hf
        refine sx_cVr X (c_X10_byteAt (l := l) (D := D) (T := T) (sd := sd) a0 a0_bytes v2 b_a0 hu2) (st' := [.int u2]) (q0 := 0) qm_872 qm_873 qm_874 qm_14 qm_875 hd_X10_byteAt ⟨rfl, rfl⟩ ⟨Nat.le_of_ble_eq_true rfl, Nat.le_of_ble_eq_true rfl⟩ rfl rfl (Nat.le_of_ble_eq_true rfl) rfl rfl rfl [0, 1] rfl rfl rfl ⟨Nat.le_of_ble_eq_true rfl, Nat.le_of_ble_eq_true rfl⟩ dX11_behindBlanks_12 rfl ?_
        refine sx_bipush X (v := 32) dX11_behindBlanks_15 rfl ?_
        refine sx_icmp_eq X 30 dX11_behindBlanks_17 rfl (fun c3 => ?_) (fun c3 => ?_)
        · have hf := ob_t hf c3
          refine sx_iinc X (v := (v2 + 1)) (lv' := [(2, .int (v2 + 1)), (0, .ref a0)]) 1 rfl dX11_behindBlanks_30 rfl (by decide) rfl ?_
          refine sx_goto X 2 dX11_behindBlanks_33 rfl ?_
          have hf := ob_k hκ2 hf
          refine sx_lsub [1, 0] rfl ?_
          exact ih2 (v2 + 1) hf
        · have hf := ob_f hf c3
          refine sx_aload_n X 0 rfl dX11_behindBlanks_20 rfl ?_
          refine sx_iload_n X 1 rfl dX11_behindBlanks_21 rfl ?_
          obtain ⟨u4, hu4, hf⟩ := ob_c hf
          refine sx_cVr X (c_X10_byteAt (l := l) (D := D) (T := T) (sd := sd) a0 a0_bytes v2 b_a0 hu4) (st' := [.int u4]) (q0 := 0) qm_872 qm_873 qm_874 qm_14 qm_875 hd_X10_byteAt ⟨rfl, rfl⟩ ⟨Nat.le_of_ble_eq_true rfl, Nat.le_of_ble_eq_true rfl⟩ rfl rfl (Nat.le_of_ble_eq_true rfl) rfl rfl rfl [0, 1] rfl rfl rfl ⟨Nat.le_of_ble_eq_true rfl, Nat.le_of_ble_eq_true rfl⟩ dX11_behindBlanks_22 rfl ?_
          refine sx_bipush X (v := 10) dX11_behindBlanks_25 rfl ?_
          refine sx_icmp_ne X 36 dX11_behindBlanks_27 rfl (fun c5 => ?_) (fun c5 => ?_)
          · have hf := ob_f hf c5
            refine sx_iload_n X 1 rfl dX11_behindBlanks_36 rfl ?_
            have hf := ob_kr hκ2 hf
            exact sx_iret X rfl dX11_behindBlanks_37 (ob_e hf) rfl rfl
          · have hf := ob_t hf c5
            refine sx_iinc X (v := (v2 + 1)) (lv' := [(2, .int (v2 + 1)), (0, .ref a0)]) 1 rfl dX11_behindBlanks_30 rfl (by decide) rfl ?_
            refine sx_goto X 2 dX11_behindBlanks_33 rfl ?_
            have hf := ob_k hκ2 hf
            refine sx_lsub [1, 0] rfl ?_
            exact ih2 (v2 + 1) hf
  refine sx_iload_n X 1 rfl dX11_behindBlanks_0 rfl ?_
  refine sx_istore_n X (lv' := [(2, .int x1), (0, .ref a0), (1, .int x1)]) dX11_behindBlanks_1 rfl (by decide) rfl ?_
  refine sx_lsub [1, 0] rfl ?_
  exact L2 n x1 hf

abbrev vf_X11_isDigit (sd : SdT) (r : Int32) : Option Value := some (.int r)
abbrev wc_X11_isDigit (T : Nat → ClassId) (sd : SdT)  : va_W := []
abbrev wf_X11_isDigit (T : Nat → ClassId) (sd : SdT)  (r : Int32) : va_W := []
abbrev rm_X11_isDigit : Room := { frames := 0, cells := 0, slots := 0, locals := 0 }
theorem hd_X11_isDigit : yX11_isDigit.cls ≠ "java/lang/invoke/MethodHandle" ∧ yX11_isDigit.cls ≠ "java/lang/invoke/VarHandle" ∧ (parseMethodDescriptor yX11_isDigit.desc).map (fun d => d.parameters.length) = some 1 := ⟨by decide, by decide, by decide +kernel⟩
set_option maxHeartbeats 4000000 in
set_option maxRecDepth 100000 in
theorem c_X11_isDigit {l : Launch} {D : va_G} {T : Nat → ClassId} {sd : SdT}  (x0 : Int32) {res : Int32} (hf : f_X11_isDigit x0 = some res) : SxK (SFx sd) l D T yX11_isDigit cX11_isDigit 1 (some .boolean) rm_X11_isDigit [.int x0] (wc_X11_isDigit T sd ) (vf_X11_isDigit sd) (wf_X11_isDigit T sd ) res 0 0 := by
  refine sx_start (SFx_ok sd) (by decide +kernel) (Nat.le_of_ble_eq_true rfl) (fun p e s m args below meth c A X hnm => ?_)
  have hf := ob_1 hf
  refine sx_iload_n X 0 rfl dX11_isDigit_0 rfl ?_
  refine sx_bipush X (v := 48) dX11_isDigit_1 rfl ?_
  refine sx_icmp_lt X 16 dX11_isDigit_3 rfl (fun c1 => ?_) (fun c1 => ?_)
  · have hf := ob_t hf c1
    refine sx_iconst X (v := 0) dX11_isDigit_16 rfl ?_
    exact sx_iret X rfl dX11_isDigit_17 (ob_e hf) rfl rfl
  · have hf := ob_f hf c1
    refine sx_iload_n X 0 rfl dX11_isDigit_6 rfl ?_
    refine sx_bipush X (v := 57) dX11_isDigit_7 rfl ?_
    refine sx_icmp_gt X 16 dX11_isDigit_9 rfl (fun c2 => ?_) (fun c2 => ?_)
    · have hf := ob_t hf c2
      refine sx_iconst X (v := 0) dX11_isDigit_16 rfl ?_
      exact sx_iret X rfl dX11_isDigit_17 (ob_e hf) rfl rfl
    · have hf := ob_f hf c2
      refine sx_iconst X (v := 1) dX11_isDigit_12 rfl ?_
      refine sx_goto X 17 dX11_isDigit_13 rfl ?_
      exact sx_iret X rfl dX11_isDigit_17 (ob_e hf) rfl rfl

abbrev vf_X11_isLetter (sd : SdT) (r : Int32) : Option Value := some (.int r)
abbrev wc_X11_isLetter (T : Nat → ClassId) (sd : SdT)  : va_W := []
abbrev wf_X11_isLetter (T : Nat → ClassId) (sd : SdT)  (r : Int32) : va_W := []
abbrev rm_X11_isLetter : Room := { frames := 0, cells := 0, slots := 0, locals := 0 }
theorem hd_X11_isLetter : yX11_isLetter.cls ≠ "java/lang/invoke/MethodHandle" ∧ yX11_isLetter.cls ≠ "java/lang/invoke/VarHandle" ∧ (parseMethodDescriptor yX11_isLetter.desc).map (fun d => d.parameters.length) = some 1 := ⟨by decide, by decide, by decide +kernel⟩
set_option maxHeartbeats 4000000 in
set_option maxRecDepth 100000 in
theorem c_X11_isLetter {l : Launch} {D : va_G} {T : Nat → ClassId} {sd : SdT}  (x0 : Int32) {res : Int32} (hf : f_X11_isLetter x0 = some res) : SxK (SFx sd) l D T yX11_isLetter cX11_isLetter 1 (some .boolean) rm_X11_isLetter [.int x0] (wc_X11_isLetter T sd ) (vf_X11_isLetter sd) (wf_X11_isLetter T sd ) res 0 0 := by
  refine sx_start (SFx_ok sd) (by decide +kernel) (Nat.le_of_ble_eq_true rfl) (fun p e s m args below meth c A X hnm => ?_)
  have hf := ob_1 hf
  refine sx_iload_n X 0 rfl dX11_isLetter_0 rfl ?_
  refine sx_bipush X (v := 97) dX11_isLetter_1 rfl ?_
  refine sx_icmp_lt X 16 dX11_isLetter_3 rfl (fun c1 => ?_) (fun c1 => ?_)
  · have hf := ob_t hf c1
    refine sx_iconst X (v := 0) dX11_isLetter_16 rfl ?_
    exact sx_iret X rfl dX11_isLetter_17 (ob_e hf) rfl rfl
  · have hf := ob_f hf c1
    refine sx_iload_n X 0 rfl dX11_isLetter_6 rfl ?_
    refine sx_bipush X (v := 122) dX11_isLetter_7 rfl ?_
    refine sx_icmp_gt X 16 dX11_isLetter_9 rfl (fun c2 => ?_) (fun c2 => ?_)
    · have hf := ob_t hf c2
      refine sx_iconst X (v := 0) dX11_isLetter_16 rfl ?_
      exact sx_iret X rfl dX11_isLetter_17 (ob_e hf) rfl rfl
    · have hf := ob_f hf c2
      refine sx_iconst X (v := 1) dX11_isLetter_12 rfl ?_
      refine sx_goto X 17 dX11_isLetter_13 rfl ?_
      exact sx_iret X rfl dX11_isLetter_17 (ob_e hf) rfl rfl
