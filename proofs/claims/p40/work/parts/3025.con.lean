/-! contracts, part 25 -/
abbrev vf_X6_resolve (sd : SdT) (_r : (Nat → Int32) × (Nat → Int32)) : Option Value := none
abbrev wc_X6_resolve (T : Nat → ClassId) (sd : SdT) (h : Nat) (h_deeds : Nat) (h_targets : Nat) (h_firstSteps : Nat) (h_endSteps : Nat) (h_stepKinds : Nat) (h_stepValues : Nat) (a0 : Nat) (a0_kinds : Nat) (a0_starts : Nat) (a0_values : Nat) (b_h : bX6) (b_a0 : bX11) : va_W := [zO h 4 [.ref h_deeds, .ref h_targets, .ref h_firstSteps, .ref h_endSteps, .ref h_stepKinds, .ref h_stepValues, .int (X6_count b_h), .int (X6_steps b_h)], zK T sd.1 h_deeds 16 (X6_deeds b_h), zI T h_targets 16 (X6_targets b_h), zI T h_firstSteps 16 (X6_firstSteps b_h), zI T h_endSteps 16 (X6_endSteps b_h), zK T sd.1 h_stepKinds 400 (X6_stepKinds b_h), zI T h_stepValues 400 (X6_stepValues b_h), zO a0 9 [.ref a0_kinds, .ref a0_starts, .ref a0_values, .int (X11_count b_a0), .int (X11_cursor b_a0), .int (X11_error b_a0), .int (X11_errorToken b_a0)], zK T sd.1 a0_kinds 401 (X11_kinds b_a0), zI T a0_starts 401 (X11_starts b_a0), zJ T a0_values 401 (X11_values b_a0)]
abbrev wf_X6_resolve (T : Nat → ClassId) (sd : SdT) (h : Nat) (h_deeds : Nat) (h_targets : Nat) (h_firstSteps : Nat) (h_endSteps : Nat) (h_stepKinds : Nat) (h_stepValues : Nat) (a0 : Nat) (a0_kinds : Nat) (a0_starts : Nat) (a0_values : Nat) (b_h : bX6) (b_a0 : bX11) (r : (Nat → Int32) × (Nat → Int32)) : va_W := [zO h 4 [.ref h_deeds, .ref h_targets, .ref h_firstSteps, .ref h_endSteps, .ref h_stepKinds, .ref h_stepValues, .int (X6_count b_h), .int (X6_steps b_h)], zK T sd.1 h_deeds 16 (X6_deeds b_h), zI T h_targets 16 r.1, zI T h_firstSteps 16 (X6_firstSteps b_h), zI T h_endSteps 16 (X6_endSteps b_h), zK T sd.1 h_stepKinds 400 (X6_stepKinds b_h), zI T h_stepValues 400 r.2, zO a0 9 [.ref a0_kinds, .ref a0_starts, .ref a0_values, .int (X11_count b_a0), .int (X11_cursor b_a0), .int (X11_error b_a0), .int (X11_errorToken b_a0)], zK T sd.1 a0_kinds 401 (X11_kinds b_a0), zI T a0_starts 401 (X11_starts b_a0), zJ T a0_values 401 (X11_values b_a0)]
abbrev rm_X6_resolve : Room := { frames := 2, cells := 0, slots := 0, locals := 42 }
theorem hd_X6_resolve : yX6_resolve.cls ≠ "java/lang/invoke/MethodHandle" ∧ yX6_resolve.cls ≠ "java/lang/invoke/VarHandle" ∧ (parseMethodDescriptor yX6_resolve.desc).map (fun d => d.parameters.length) = some 1 := ⟨by decide, by decide, by decide +kernel⟩
set_option maxHeartbeats 4000000 in
set_option maxRecDepth 100000 in
theorem c_X6_resolve {l : Launch} {D : va_G} {T : Nat → ClassId} {sd : SdT} (h : Nat) (h_deeds : Nat) (h_targets : Nat) (h_firstSteps : Nat) (h_endSteps : Nat) (h_stepKinds : Nat) (h_stepValues : Nat) (a0 : Nat) (a0_kinds : Nat) (a0_starts : Nat) (a0_values : Nat) (n : Nat) (b_h : bX6) (b_a0 : bX11) {res : (Nat → Int32) × (Nat → Int32)} (hf : f_X6_resolve n b_h b_a0 = some res) : SxK (SFx sd) l D T yX6_resolve cX6_resolve 3 none rm_X6_resolve [.ref h, .ref a0] (wc_X6_resolve T sd h h_deeds h_targets h_firstSteps h_endSteps h_stepKinds h_stepValues a0 a0_kinds a0_starts a0_values b_h b_a0) (vf_X6_resolve sd) (wf_X6_resolve T sd h h_deeds h_targets h_firstSteps h_endSteps h_stepKinds h_stepValues a0 a0_kinds a0_starts a0_values b_h b_a0) res 0 0 := by
  refine sx_start (SFx_ok sd) (by decide +kernel) (Nat.le_of_ble_eq_true rfl) (fun p e s m args below meth c A X hnm => ?_)
  have hf := ob_1 hf
  have L35 : ∀ (w_h_targets : Nat → Int32) (n0 : Nat) (v2 : Int32) (w_h_stepValues : Nat → Int32), (iter (fun s : Int32 × (Nat → Int32) => f_X6_resolve_L35 n b_h b_a0 s.1 w_h_targets s.2) n0 (v2, w_h_stepValues)).bind some = some res → SxG p l e rm_X6_resolve s m args below meth c D A 3 0 0 (SxE below args s D A (vf_X6_resolve sd) (wf_X6_resolve T sd h h_deeds h_targets h_firstSteps h_endSteps h_stepKinds h_stepValues a0 a0_kinds a0_starts a0_values b_h b_a0) res 0 0) [zO h 4 [.ref h_deeds, .ref h_targets, .ref h_firstSteps, .ref h_endSteps, .ref h_stepKinds, .ref h_stepValues, .int (X6_count b_h), .int (X6_steps b_h)], zK T sd.1 h_deeds 16 (X6_deeds b_h), zI T h_targets 16 w_h_targets, zI T h_firstSteps 16 (X6_firstSteps b_h), zI T h_endSteps 16 (X6_endSteps b_h), zK T sd.1 h_stepKinds 400 (X6_stepKinds b_h), zI T h_stepValues 400 w_h_stepValues, zO a0 9 [.ref a0_kinds, .ref a0_starts, .ref a0_values, .int (X11_count b_a0), .int (X11_cursor b_a0), .int (X11_error b_a0), .int (X11_errorToken b_a0)], zK T sd.1 a0_kinds 401 (X11_kinds b_a0), zI T a0_starts 401 (X11_starts b_a0), zJ T a0_values 401 (X11_values b_a0)] [(0, .ref h), (1, .ref a0), (2, .int v2)] 35 [] := by
    intro w_h_targets n0
    induction n0 with
    | zero =>
      intro v2 w_h_stepValues hf
      exact (iter_z hf).elim
    | succ n0 ih35 =>
      intro v2 w_h_stepValues hf
      obtain ⟨κ35, hκ35, hf⟩ := iter_k hf
      have hf : (f_X6_resolve_L35 n b_h b_a0 v2 w_h_targets w_h_stepValues).bind κ35 = some res := hf
      refine sx_iload_n X 2 rfl dX6_resolve_35 rfl ?_
      refine sx_aload_n X 0 rfl dX6_resolve_36 rfl ?_
      refine sx_get X kX6 0 rfl 7 (Nat.le_of_ble_eq_true rfl) qm_231 rfl dX6_resolve_37 ?_
      refine sx_icmp_ge X 66 dX6_resolve_40 rfl (fun c2 => ?_) (fun c2 => ?_)
      · have hf := ob_t hf c2
        have hf := ob_kr hκ35 hf
        exact sx_vret X dX6_resolve_66 (ob_e hf) rfl rfl
      · have hf := ob_f hf c2
        refine sx_aload_n X 0 rfl dX6_resolve_43 rfl ?_
        refine sx_get X kX6 0 rfl 5 (Nat.le_of_ble_eq_true rfl) qm_225 rfl dX6_resolve_44 ?_
        refine sx_iload_n X 2 rfl dX6_resolve_47 rfl ?_
        refine sx_aload_n X 1 rfl dX6_resolve_48 rfl ?_
        refine sx_aload_n X 0 rfl dX6_resolve_49 rfl ?_
        refine sx_get X kX6 0 rfl 5 (Nat.le_of_ble_eq_true rfl) qm_225 rfl dX6_resolve_50 ?_
        refine sx_iload_n X 2 rfl dX6_resolve_53 rfl ?_
        obtain ⟨g3, hf⟩ := ob_g hf
        refine sx_iald X 6 rfl g3 dX6_resolve_54 ?_
        obtain ⟨u4, hu4, hf⟩ := ob_c hf
        refine sx_cVr X (c_X11_valueAt (l := l) (D := D) (T := T) (sd := sd) a0 a0_kinds a0_starts a0_values (w_h_stepValues v2.toNatClampNeg) b_a0 hu4) (st' := [.long u4, .int v2, .ref h_stepValues]) (q0 := 7) qm_1123 qm_1082 qm_1083 qm_15 qm_1084 hd_X11_valueAt ⟨rfl, rfl⟩ ⟨Nat.le_of_ble_eq_true rfl, Nat.le_of_ble_eq_true rfl⟩ rfl rfl (Nat.le_of_ble_eq_true rfl) rfl rfl rfl [7, 8, 9, 10] rfl rfl rfl ⟨Nat.le_of_ble_eq_true rfl, Nat.le_of_ble_eq_true rfl⟩ dX6_resolve_55 rfl ?_
        refine sx_l2i X dX6_resolve_58 ?_
        obtain ⟨g5, hf⟩ := ob_g hf
        refine sx_iast X (ws' := [zO h 4 [.ref h_deeds, .ref h_targets, .ref h_firstSteps, .ref h_endSteps, .ref h_stepKinds, .ref h_stepValues, .int (X6_count b_h), .int (X6_steps b_h)], zK T sd.1 h_deeds 16 (X6_deeds b_h), zI T h_targets 16 w_h_targets, zI T h_firstSteps 16 (X6_firstSteps b_h), zI T h_endSteps 16 (X6_endSteps b_h), zK T sd.1 h_stepKinds 400 (X6_stepKinds b_h), zI T h_stepValues 400 (upd w_h_stepValues v2.toNatClampNeg (Int64.toInt32 u4)), zO a0 9 [.ref a0_kinds, .ref a0_starts, .ref a0_values, .int (X11_count b_a0), .int (X11_cursor b_a0), .int (X11_error b_a0), .int (X11_errorToken b_a0)], zK T sd.1 a0_kinds 401 (X11_kinds b_a0), zI T a0_starts 401 (X11_starts b_a0), zJ T a0_values 401 (X11_values b_a0)]) 6 rfl g5 rfl dX6_resolve_59 ?_
        refine sx_iinc X (v := (v2 + 1)) (lv' := [(2, .int (v2 + 1)), (0, .ref h), (1, .ref a0)]) 2 rfl dX6_resolve_60 rfl (by decide) rfl ?_
        refine sx_goto X 35 dX6_resolve_63 rfl ?_
        have hf := ob_k hκ35 hf
        refine sx_lsub [1, 2, 0] rfl ?_
        exact ih35 (v2 + 1) (upd w_h_stepValues v2.toNatClampNeg (Int64.toInt32 u4)) hf
  have L2 : ∀ (w_h_stepValues : Nat → Int32) (n0 : Nat) (v2 : Int32) (w_h_targets : Nat → Int32), (iter (fun s : Int32 × (Nat → Int32) => f_X6_resolve_L2 n b_h b_a0 s.1 s.2 w_h_stepValues) n0 (v2, w_h_targets)).bind some = some res → SxG p l e rm_X6_resolve s m args below meth c D A 3 0 0 (SxE below args s D A (vf_X6_resolve sd) (wf_X6_resolve T sd h h_deeds h_targets h_firstSteps h_endSteps h_stepKinds h_stepValues a0 a0_kinds a0_starts a0_values b_h b_a0) res 0 0) [zO h 4 [.ref h_deeds, .ref h_targets, .ref h_firstSteps, .ref h_endSteps, .ref h_stepKinds, .ref h_stepValues, .int (X6_count b_h), .int (X6_steps b_h)], zK T sd.1 h_deeds 16 (X6_deeds b_h), zI T h_targets 16 w_h_targets, zI T h_firstSteps 16 (X6_firstSteps b_h), zI T h_endSteps 16 (X6_endSteps b_h), zK T sd.1 h_stepKinds 400 (X6_stepKinds b_h), zI T h_stepValues 400 w_h_stepValues, zO a0 9 [.ref a0_kinds, .ref a0_starts, .ref a0_values, .int (X11_count b_a0), .int (X11_cursor b_a0), .int (X11_error b_a0), .int (X11_errorToken b_a0)], zK T sd.1 a0_kinds 401 (X11_kinds b_a0), zI T a0_starts 401 (X11_starts b_a0), zJ T a0_values 401 (X11_values b_a0)] [(0, .ref h), (1, .ref a0), (2, .int v2)] 2 [] := by
    intro w_h_stepValues n0
    induction n0 with
    | zero =>
      intro v2 w_h_targets hf
      exact (iter_z hf).elim
    | succ n0 ih2 =>
      intro v2 w_h_targets hf
      obtain ⟨κ2, hκ2, hf⟩ := iter_k hf
      have hf : (f_X6_resolve_L2 n b_h b_a0 v2 w_h_targets w_h_stepValues).bind κ2 = some res := hf
      refine sx_iload_n X 2 rfl dX6_resolve_2 rfl ?_
      refine sx_aload_n X 0 rfl dX6_resolve_3 rfl ?_
      refine sx_get X kX6 0 rfl 6 (Nat.le_of_ble_eq_true rfl) qm_227 rfl dX6_resolve_4 ?_
      refine sx_icmp_ge X 33 dX6_resolve_7 rfl (fun c1 => ?_) (fun c1 => ?_)
      · have hf := ob_t hf c1
        refine sx_iconst X (v := 0) dX6_resolve_33 rfl ?_
        refine sx_istore_n X (lv' := [(2, .int 0), (0, .ref h), (1, .ref a0)]) dX6_resolve_34 rfl (by decide) rfl ?_
        have hf := ob_kx hκ2 hf
        refine sx_lsub [1, 2, 0] rfl ?_
        exact L35 w_h_targets n 0 w_h_stepValues hf
      · have hf := ob_f hf c1
        refine sx_aload_n X 0 rfl dX6_resolve_10 rfl ?_
        refine sx_get X kX6 0 rfl 1 (Nat.le_of_ble_eq_true rfl) qm_217 rfl dX6_resolve_11 ?_
        refine sx_iload_n X 2 rfl dX6_resolve_14 rfl ?_
        refine sx_aload_n X 1 rfl dX6_resolve_15 rfl ?_
        refine sx_aload_n X 0 rfl dX6_resolve_16 rfl ?_
        refine sx_get X kX6 0 rfl 1 (Nat.le_of_ble_eq_true rfl) qm_217 rfl dX6_resolve_17 ?_
        refine sx_iload_n X 2 rfl dX6_resolve_20 rfl ?_
        obtain ⟨g6, hf⟩ := ob_g hf
        refine sx_iald X 2 rfl g6 dX6_resolve_21 ?_
        obtain ⟨u7, hu7, hf⟩ := ob_c hf
        refine sx_cVr X (c_X11_valueAt (l := l) (D := D) (T := T) (sd := sd) a0 a0_kinds a0_starts a0_values (w_h_targets v2.toNatClampNeg) b_a0 hu7) (st' := [.long u7, .int v2, .ref h_targets]) (q0 := 7) qm_1123 qm_1082 qm_1083 qm_15 qm_1084 hd_X11_valueAt ⟨rfl, rfl⟩ ⟨Nat.le_of_ble_eq_true rfl, Nat.le_of_ble_eq_true rfl⟩ rfl rfl (Nat.le_of_ble_eq_true rfl) rfl rfl rfl [7, 8, 9, 10] rfl rfl rfl ⟨Nat.le_of_ble_eq_true rfl, Nat.le_of_ble_eq_true rfl⟩ dX6_resolve_22 rfl ?_
        refine sx_l2i X dX6_resolve_25 ?_
        obtain ⟨g8, hf⟩ := ob_g hf
        refine sx_iast X (ws' := [zO h 4 [.ref h_deeds, .ref h_targets, .ref h_firstSteps, .ref h_endSteps, .ref h_stepKinds, .ref h_stepValues, .int (X6_count b_h), .int (X6_steps b_h)], zK T sd.1 h_deeds 16 (X6_deeds b_h), zI T h_targets 16 (upd w_h_targets v2.toNatClampNeg (Int64.toInt32 u7)), zI T h_firstSteps 16 (X6_firstSteps b_h), zI T h_endSteps 16 (X6_endSteps b_h), zK T sd.1 h_stepKinds 400 (X6_stepKinds b_h), zI T h_stepValues 400 w_h_stepValues, zO a0 9 [.ref a0_kinds, .ref a0_starts, .ref a0_values, .int (X11_count b_a0), .int (X11_cursor b_a0), .int (X11_error b_a0), .int (X11_errorToken b_a0)], zK T sd.1 a0_kinds 401 (X11_kinds b_a0), zI T a0_starts 401 (X11_starts b_a0), zJ T a0_values 401 (X11_values b_a0)]) 2 rfl g8 rfl dX6_resolve_26 ?_
        refine sx_iinc X (v := (v2 + 1)) (lv' := [(2, .int (v2 + 1)), (0, .ref h), (1, .ref a0)]) 2 rfl dX6_resolve_27 rfl (by decide) rfl ?_
        refine sx_goto X 2 dX6_resolve_30 rfl ?_
        have hf := ob_k hκ2 hf
        refine sx_lsub [1, 2, 0] rfl ?_
        exact ih2 (v2 + 1) (upd w_h_targets v2.toNatClampNeg (Int64.toInt32 u7)) hf
  refine sx_iconst X (v := 0) dX6_resolve_0 rfl ?_
  refine sx_istore_n X (lv' := [(2, .int 0), (0, .ref h), (1, .ref a0)]) dX6_resolve_1 rfl (by decide) rfl ?_
  refine sx_lsub [1, 2, 0] rfl ?_
  exact L2 (X6_stepValues b_h) n 0 (X6_targets b_h) hf

abbrev vf_X7_clear (sd : SdT) (_r : Int32 × Int32 × Int32 × Int32) : Option Value := none
abbrev wc_X7_clear (T : Nat → ClassId) (sd : SdT) (h : Nat) (h_fronts : Nat) (h_guests : Nat) (h_orders : Nat) (h_fronts_names : Nat) (h_fronts_warm : Nat) (h_fronts_force : Nat) (h_fronts_from : Nat) (h_fronts_hours : Nat) (h_guests_names : Nat) (h_guests_from : Nat) (h_guests_weakest : Nat) (h_guests_strongest : Nat) (h_guests_nerve : Nat) (h_orders_deeds : Nat) (h_orders_targets : Nat) (h_orders_firstSteps : Nat) (h_orders_endSteps : Nat) (h_orders_stepKinds : Nat) (h_orders_stepValues : Nat) (b_h_fronts : bX2) (b_h_guests : bX4) (b_h_orders : bX6) : va_W := [zO h 5 [.ref h_fronts, .ref h_guests, .ref h_orders], zO h_fronts 2 [.ref h_fronts_names, .ref h_fronts_warm, .ref h_fronts_force, .ref h_fronts_from, .ref h_fronts_hours, .int (X2_count b_h_fronts)], zJ T h_fronts_names 10 (X2_names b_h_fronts), zZ T h_fronts_warm 10 (X2_warm b_h_fronts), zI T h_fronts_force 10 (X2_force b_h_fronts), zI T h_fronts_from 10 (X2_from b_h_fronts), zI T h_fronts_hours 10 (X2_hours b_h_fronts), zO h_guests 3 [.ref h_guests_names, .ref h_guests_from, .ref h_guests_weakest, .ref h_guests_strongest, .ref h_guests_nerve, .int (X4_count b_h_guests)], zJ T h_guests_names 10 (X4_names b_h_guests), zI T h_guests_from 10 (X4_from b_h_guests), zI T h_guests_weakest 10 (X4_weakest b_h_guests), zI T h_guests_strongest 10 (X4_strongest b_h_guests), zI T h_guests_nerve 10 (X4_nerve b_h_guests), zO h_orders 4 [.ref h_orders_deeds, .ref h_orders_targets, .ref h_orders_firstSteps, .ref h_orders_endSteps, .ref h_orders_stepKinds, .ref h_orders_stepValues, .int (X6_count b_h_orders), .int (X6_steps b_h_orders)], zK T sd.1 h_orders_deeds 16 (X6_deeds b_h_orders), zI T h_orders_targets 16 (X6_targets b_h_orders), zI T h_orders_firstSteps 16 (X6_firstSteps b_h_orders), zI T h_orders_endSteps 16 (X6_endSteps b_h_orders), zK T sd.1 h_orders_stepKinds 400 (X6_stepKinds b_h_orders), zI T h_orders_stepValues 400 (X6_stepValues b_h_orders)]
abbrev wf_X7_clear (T : Nat → ClassId) (sd : SdT) (h : Nat) (h_fronts : Nat) (h_guests : Nat) (h_orders : Nat) (h_fronts_names : Nat) (h_fronts_warm : Nat) (h_fronts_force : Nat) (h_fronts_from : Nat) (h_fronts_hours : Nat) (h_guests_names : Nat) (h_guests_from : Nat) (h_guests_weakest : Nat) (h_guests_strongest : Nat) (h_guests_nerve : Nat) (h_orders_deeds : Nat) (h_orders_targets : Nat) (h_orders_firstSteps : Nat) (h_orders_endSteps : Nat) (h_orders_stepKinds : Nat) (h_orders_stepValues : Nat) (b_h_fronts : bX2) (b_h_guests : bX4) (b_h_orders : bX6) (r : Int32 × Int32 × Int32 × Int32) : va_W := [zO h 5 [.ref h_fronts, .ref h_guests, .ref h_orders], zO h_fronts 2 [.ref h_fronts_names, .ref h_fronts_warm, .ref h_fronts_force, .ref h_fronts_from, .ref h_fronts_hours, .int r.1], zJ T h_fronts_names 10 (X2_names b_h_fronts), zZ T h_fronts_warm 10 (X2_warm b_h_fronts), zI T h_fronts_force 10 (X2_force b_h_fronts), zI T h_fronts_from 10 (X2_from b_h_fronts), zI T h_fronts_hours 10 (X2_hours b_h_fronts), zO h_guests 3 [.ref h_guests_names, .ref h_guests_from, .ref h_guests_weakest, .ref h_guests_strongest, .ref h_guests_nerve, .int r.2.1], zJ T h_guests_names 10 (X4_names b_h_guests), zI T h_guests_from 10 (X4_from b_h_guests), zI T h_guests_weakest 10 (X4_weakest b_h_guests), zI T h_guests_strongest 10 (X4_strongest b_h_guests), zI T h_guests_nerve 10 (X4_nerve b_h_guests), zO h_orders 4 [.ref h_orders_deeds, .ref h_orders_targets, .ref h_orders_firstSteps, .ref h_orders_endSteps, .ref h_orders_stepKinds, .ref h_orders_stepValues, .int r.2.2.1, .int r.2.2.2], zK T sd.1 h_orders_deeds 16 (X6_deeds b_h_orders), zI T h_orders_targets 16 (X6_targets b_h_orders), zI T h_orders_firstSteps 16 (X6_firstSteps b_h_orders), zI T h_orders_endSteps 16 (X6_endSteps b_h_orders), zK T sd.1 h_orders_stepKinds 400 (X6_stepKinds b_h_orders), zI T h_orders_stepValues 400 (X6_stepValues b_h_orders)]
abbrev rm_X7_clear : Room := { frames := 0, cells := 0, slots := 0, locals := 0 }
theorem hd_X7_clear : yX7_clear.cls ≠ "java/lang/invoke/MethodHandle" ∧ yX7_clear.cls ≠ "java/lang/invoke/VarHandle" ∧ (parseMethodDescriptor yX7_clear.desc).map (fun d => d.parameters.length) = some 0 := ⟨by decide, by decide, by decide +kernel⟩
set_option maxHeartbeats 4000000 in
set_option maxRecDepth 100000 in
theorem c_X7_clear {l : Launch} {D : va_G} {T : Nat → ClassId} {sd : SdT} (h : Nat) (h_fronts : Nat) (h_guests : Nat) (h_orders : Nat) (h_fronts_names : Nat) (h_fronts_warm : Nat) (h_fronts_force : Nat) (h_fronts_from : Nat) (h_fronts_hours : Nat) (h_guests_names : Nat) (h_guests_from : Nat) (h_guests_weakest : Nat) (h_guests_strongest : Nat) (h_guests_nerve : Nat) (h_orders_deeds : Nat) (h_orders_targets : Nat) (h_orders_firstSteps : Nat) (h_orders_endSteps : Nat) (h_orders_stepKinds : Nat) (h_orders_stepValues : Nat) (b_h_fronts : bX2) (b_h_guests : bX4) (b_h_orders : bX6) {res : Int32 × Int32 × Int32 × Int32} (hf : f_X7_clear b_h_fronts b_h_guests b_h_orders = some res) : SxK (SFx sd) l D T yX7_clear cX7_clear 1 none rm_X7_clear [.ref h] (wc_X7_clear T sd h h_fronts h_guests h_orders h_fronts_names h_fronts_warm h_fronts_force h_fronts_from h_fronts_hours h_guests_names h_guests_from h_guests_weakest h_guests_strongest h_guests_nerve h_orders_deeds h_orders_targets h_orders_firstSteps h_orders_endSteps h_orders_stepKinds h_orders_stepValues b_h_fronts b_h_guests b_h_orders) (vf_X7_clear sd) (wf_X7_clear T sd h h_fronts h_guests h_orders h_fronts_names h_fronts_warm h_fronts_force h_fronts_from h_fronts_hours h_guests_names h_guests_from h_guests_weakest h_guests_strongest h_guests_nerve h_orders_deeds h_orders_targets h_orders_firstSteps h_orders_endSteps h_orders_stepKinds h_orders_stepValues b_h_fronts b_h_guests b_h_orders) res 0 0 := by
  refine sx_start (SFx_ok sd) (by decide +kernel) (Nat.le_of_ble_eq_true rfl) (fun p e s m args below meth c A X hnm => ?_)
  have hf := ob_1 hf
  refine sx_aload_n X 0 rfl dX7_clear_0 rfl ?_
  refine sx_get X kX7 0 rfl 0 (Nat.le_of_ble_eq_true rfl) qm_249 rfl dX7_clear_1 ?_
  refine sx_iconst X (v := 0) dX7_clear_4 rfl ?_
  refine sx_put X (ws' := [zO h 5 [.ref h_fronts, .ref h_guests, .ref h_orders], zO h_fronts 2 [.ref h_fronts_names, .ref h_fronts_warm, .ref h_fronts_force, .ref h_fronts_from, .ref h_fronts_hours, .int 0], zJ T h_fronts_names 10 (X2_names b_h_fronts), zZ T h_fronts_warm 10 (X2_warm b_h_fronts), zI T h_fronts_force 10 (X2_force b_h_fronts), zI T h_fronts_from 10 (X2_from b_h_fronts), zI T h_fronts_hours 10 (X2_hours b_h_fronts), zO h_guests 3 [.ref h_guests_names, .ref h_guests_from, .ref h_guests_weakest, .ref h_guests_strongest, .ref h_guests_nerve, .int (X4_count b_h_guests)], zJ T h_guests_names 10 (X4_names b_h_guests), zI T h_guests_from 10 (X4_from b_h_guests), zI T h_guests_weakest 10 (X4_weakest b_h_guests), zI T h_guests_strongest 10 (X4_strongest b_h_guests), zI T h_guests_nerve 10 (X4_nerve b_h_guests), zO h_orders 4 [.ref h_orders_deeds, .ref h_orders_targets, .ref h_orders_firstSteps, .ref h_orders_endSteps, .ref h_orders_stepKinds, .ref h_orders_stepValues, .int (X6_count b_h_orders), .int (X6_steps b_h_orders)], zK T sd.1 h_orders_deeds 16 (X6_deeds b_h_orders), zI T h_orders_targets 16 (X6_targets b_h_orders), zI T h_orders_firstSteps 16 (X6_firstSteps b_h_orders), zI T h_orders_endSteps 16 (X6_endSteps b_h_orders), zK T sd.1 h_orders_stepKinds 400 (X6_stepKinds b_h_orders), zI T h_orders_stepValues 400 (X6_stepValues b_h_orders)]) kX2 1 rfl 5 (Nat.le_of_ble_eq_true rfl) qm_155 rfl rfl rfl (Nat.le_of_ble_eq_true rfl) rfl dX7_clear_5 ?_
  refine sx_aload_n X 0 rfl dX7_clear_8 rfl ?_
  refine sx_get X kX7 0 rfl 1 (Nat.le_of_ble_eq_true rfl) qm_253 rfl dX7_clear_9 ?_
  refine sx_iconst X (v := 0) dX7_clear_12 rfl ?_
  refine sx_put X (ws' := [zO h 5 [.ref h_fronts, .ref h_guests, .ref h_orders], zO h_fronts 2 [.ref h_fronts_names, .ref h_fronts_warm, .ref h_fronts_force, .ref h_fronts_from, .ref h_fronts_hours, .int 0], zJ T h_fronts_names 10 (X2_names b_h_fronts), zZ T h_fronts_warm 10 (X2_warm b_h_fronts), zI T h_fronts_force 10 (X2_force b_h_fronts), zI T h_fronts_from 10 (X2_from b_h_fronts), zI T h_fronts_hours 10 (X2_hours b_h_fronts), zO h_guests 3 [.ref h_guests_names, .ref h_guests_from, .ref h_guests_weakest, .ref h_guests_strongest, .ref h_guests_nerve, .int 0], zJ T h_guests_names 10 (X4_names b_h_guests), zI T h_guests_from 10 (X4_from b_h_guests), zI T h_guests_weakest 10 (X4_weakest b_h_guests), zI T h_guests_strongest 10 (X4_strongest b_h_guests), zI T h_guests_nerve 10 (X4_nerve b_h_guests), zO h_orders 4 [.ref h_orders_deeds, .ref h_orders_targets, .ref h_orders_firstSteps, .ref h_orders_endSteps, .ref h_orders_stepKinds, .ref h_orders_stepValues, .int (X6_count b_h_orders), .int (X6_steps b_h_orders)], zK T sd.1 h_orders_deeds 16 (X6_deeds b_h_orders), zI T h_orders_targets 16 (X6_targets b_h_orders), zI T h_orders_firstSteps 16 (X6_firstSteps b_h_orders), zI T h_orders_endSteps 16 (X6_endSteps b_h_orders), zK T sd.1 h_orders_stepKinds 400 (X6_stepKinds b_h_orders), zI T h_orders_stepValues 400 (X6_stepValues b_h_orders)]) kX4 7 rfl 5 (Nat.le_of_ble_eq_true rfl) qm_190 rfl rfl rfl (Nat.le_of_ble_eq_true rfl) rfl dX7_clear_13 ?_
  refine sx_aload_n X 0 rfl dX7_clear_16 rfl ?_
  refine sx_get X kX7 0 rfl 2 (Nat.le_of_ble_eq_true rfl) qm_257 rfl dX7_clear_17 ?_
  refine sx_iconst X (v := 0) dX7_clear_20 rfl ?_
  refine sx_put X (ws' := [zO h 5 [.ref h_fronts, .ref h_guests, .ref h_orders], zO h_fronts 2 [.ref h_fronts_names, .ref h_fronts_warm, .ref h_fronts_force, .ref h_fronts_from, .ref h_fronts_hours, .int 0], zJ T h_fronts_names 10 (X2_names b_h_fronts), zZ T h_fronts_warm 10 (X2_warm b_h_fronts), zI T h_fronts_force 10 (X2_force b_h_fronts), zI T h_fronts_from 10 (X2_from b_h_fronts), zI T h_fronts_hours 10 (X2_hours b_h_fronts), zO h_guests 3 [.ref h_guests_names, .ref h_guests_from, .ref h_guests_weakest, .ref h_guests_strongest, .ref h_guests_nerve, .int 0], zJ T h_guests_names 10 (X4_names b_h_guests), zI T h_guests_from 10 (X4_from b_h_guests), zI T h_guests_weakest 10 (X4_weakest b_h_guests), zI T h_guests_strongest 10 (X4_strongest b_h_guests), zI T h_guests_nerve 10 (X4_nerve b_h_guests), zO h_orders 4 [.ref h_orders_deeds, .ref h_orders_targets, .ref h_orders_firstSteps, .ref h_orders_endSteps, .ref h_orders_stepKinds, .ref h_orders_stepValues, .int 0, .int (X6_steps b_h_orders)], zK T sd.1 h_orders_deeds 16 (X6_deeds b_h_orders), zI T h_orders_targets 16 (X6_targets b_h_orders), zI T h_orders_firstSteps 16 (X6_firstSteps b_h_orders), zI T h_orders_endSteps 16 (X6_endSteps b_h_orders), zK T sd.1 h_orders_stepKinds 400 (X6_stepKinds b_h_orders), zI T h_orders_stepValues 400 (X6_stepValues b_h_orders)]) kX6 13 rfl 6 (Nat.le_of_ble_eq_true rfl) qm_228 rfl rfl rfl (Nat.le_of_ble_eq_true rfl) rfl dX7_clear_21 ?_
  refine sx_aload_n X 0 rfl dX7_clear_24 rfl ?_
  refine sx_get X kX7 0 rfl 2 (Nat.le_of_ble_eq_true rfl) qm_257 rfl dX7_clear_25 ?_
  refine sx_iconst X (v := 0) dX7_clear_28 rfl ?_
  refine sx_put X (ws' := [zO h 5 [.ref h_fronts, .ref h_guests, .ref h_orders], zO h_fronts 2 [.ref h_fronts_names, .ref h_fronts_warm, .ref h_fronts_force, .ref h_fronts_from, .ref h_fronts_hours, .int 0], zJ T h_fronts_names 10 (X2_names b_h_fronts), zZ T h_fronts_warm 10 (X2_warm b_h_fronts), zI T h_fronts_force 10 (X2_force b_h_fronts), zI T h_fronts_from 10 (X2_from b_h_fronts), zI T h_fronts_hours 10 (X2_hours b_h_fronts), zO h_guests 3 [.ref h_guests_names, .ref h_guests_from, .ref h_guests_weakest, .ref h_guests_strongest, .ref h_guests_nerve, .int 0], zJ T h_guests_names 10 (X4_names b_h_guests), zI T h_guests_from 10 (X4_from b_h_guests), zI T h_guests_weakest 10 (X4_weakest b_h_guests), zI T h_guests_strongest 10 (X4_strongest b_h_guests), zI T h_guests_nerve 10 (X4_nerve b_h_guests), zO h_orders 4 [.ref h_orders_deeds, .ref h_orders_targets, .ref h_orders_firstSteps, .ref h_orders_endSteps, .ref h_orders_stepKinds, .ref h_orders_stepValues, .int 0, .int 0], zK T sd.1 h_orders_deeds 16 (X6_deeds b_h_orders), zI T h_orders_targets 16 (X6_targets b_h_orders), zI T h_orders_firstSteps 16 (X6_firstSteps b_h_orders), zI T h_orders_endSteps 16 (X6_endSteps b_h_orders), zK T sd.1 h_orders_stepKinds 400 (X6_stepKinds b_h_orders), zI T h_orders_stepValues 400 (X6_stepValues b_h_orders)]) kX6 13 rfl 7 (Nat.le_of_ble_eq_true rfl) qm_230 rfl rfl rfl (Nat.le_of_ble_eq_true rfl) rfl dX7_clear_29 ?_
  exact sx_vret X dX7_clear_32 (ob_e hf) rfl rfl

abbrev vf_X8_begin (sd : SdT) (_r : Int32 × Int32 × Int32 × Int32 × Int32 × Int32 × Int32 × Int32 × (Nat → Int32) × (Nat → Int32) × (Nat → Int32)) : Option Value := none
abbrev wc_X8_begin (T : Nat → ClassId) (sd : SdT) (h : Nat) (h_reckoner : Nat) (h_plan : Nat) (h_frontSteeped : Nat) (h_guestServed : Nat) (h_guestStormed : Nat) (a0 : Nat) (b_h : bX8) : va_W := [zO h 6 [.ref h_reckoner, .ref h_plan, .int (X8_hour b_h), .int (X8_warmth b_h), .int (X8_strength b_h), .int (X8_charge b_h), .int (X8_lemons b_h), .int (X8_saucers b_h), .int (X8_coins b_h), .int (X8_storms b_h), .ref h_frontSteeped, .ref h_guestServed, .ref h_guestStormed], zZ T h_frontSteeped 10 (X8_frontSteeped b_h), zZ T h_guestServed 10 (X8_guestServed b_h), zZ T h_guestStormed 10 (X8_guestStormed b_h)]
abbrev wf_X8_begin (T : Nat → ClassId) (sd : SdT) (h : Nat) (h_reckoner : Nat) (h_plan : Nat) (h_frontSteeped : Nat) (h_guestServed : Nat) (h_guestStormed : Nat) (a0 : Nat) (b_h : bX8) (r : Int32 × Int32 × Int32 × Int32 × Int32 × Int32 × Int32 × Int32 × (Nat → Int32) × (Nat → Int32) × (Nat → Int32)) : va_W := [zO h 6 [.ref h_reckoner, .ref a0, .int r.1, .int r.2.1, .int r.2.2.1, .int r.2.2.2.1, .int r.2.2.2.2.1, .int r.2.2.2.2.2.1, .int r.2.2.2.2.2.2.1, .int r.2.2.2.2.2.2.2.1, .ref h_frontSteeped, .ref h_guestServed, .ref h_guestStormed], zZ T h_frontSteeped 10 r.2.2.2.2.2.2.2.2.1, zZ T h_guestServed 10 r.2.2.2.2.2.2.2.2.2.1, zZ T h_guestStormed 10 r.2.2.2.2.2.2.2.2.2.2]
abbrev rm_X8_begin : Room := { frames := 0, cells := 0, slots := 0, locals := 0 }
theorem hd_X8_begin : yX8_begin.cls ≠ "java/lang/invoke/MethodHandle" ∧ yX8_begin.cls ≠ "java/lang/invoke/VarHandle" ∧ (parseMethodDescriptor yX8_begin.desc).map (fun d => d.parameters.length) = some 1 := ⟨by decide, by decide, by decide +kernel⟩
set_option maxHeartbeats 4000000 in
set_option maxRecDepth 100000 in
theorem c_X8_begin {l : Launch} {D : va_G} {T : Nat → ClassId} {sd : SdT} (h : Nat) (h_reckoner : Nat) (h_plan : Nat) (h_frontSteeped : Nat) (h_guestServed : Nat) (h_guestStormed : Nat) (a0 : Nat) (n : Nat) (b_h : bX8) {res : Int32 × Int32 × Int32 × Int32 × Int32 × Int32 × Int32 × Int32 × (Nat → Int32) × (Nat → Int32) × (Nat → Int32)} (hf : f_X8_begin n b_h = some res) : SxK (SFx sd) l D T yX8_begin cX8_begin 3 none rm_X8_begin [.ref h, .ref a0] (wc_X8_begin T sd h h_reckoner h_plan h_frontSteeped h_guestServed h_guestStormed a0 b_h) (vf_X8_begin sd) (wf_X8_begin T sd h h_reckoner h_plan h_frontSteeped h_guestServed h_guestStormed a0 b_h) res 0 0 := by
  refine sx_start (SFx_ok sd) (by decide +kernel) (Nat.le_of_ble_eq_true rfl) (fun p e s m args below meth c A X hnm => ?_)
  have hf := ob_1 hf
  have L69 : ∀ (w_h_hour : Int32) (w_h_warmth : Int32) (w_h_strength : Int32) (w_h_charge : Int32) (w_h_lemons : Int32) (w_h_saucers : Int32) (w_h_coins : Int32) (w_h_storms : Int32) (w_h_frontSteeped : Nat → Int32) (n0 : Nat) (v2 : Int32) (w_h_guestServed : Nat → Int32) (w_h_guestStormed : Nat → Int32), (iter (fun s : Int32 × (Nat → Int32) × (Nat → Int32) => f_X8_begin_L69 n b_h s.1 w_h_hour w_h_warmth w_h_strength w_h_charge w_h_lemons w_h_saucers w_h_coins w_h_storms w_h_frontSteeped s.2.1 s.2.2) n0 (v2, w_h_guestServed, w_h_guestStormed)).bind some = some res → SxG p l e rm_X8_begin s m args below meth c D A 3 0 0 (SxE below args s D A (vf_X8_begin sd) (wf_X8_begin T sd h h_reckoner h_plan h_frontSteeped h_guestServed h_guestStormed a0 b_h) res 0 0) [zO h 6 [.ref h_reckoner, .ref a0, .int w_h_hour, .int w_h_warmth, .int w_h_strength, .int w_h_charge, .int w_h_lemons, .int w_h_saucers, .int w_h_coins, .int w_h_storms, .ref h_frontSteeped, .ref h_guestServed, .ref h_guestStormed], zZ T h_frontSteeped 10 w_h_frontSteeped, zZ T h_guestServed 10 w_h_guestServed, zZ T h_guestStormed 10 w_h_guestStormed] [(0, .ref h), (2, .int v2)] 69 [] := by
    intro w_h_hour w_h_warmth w_h_strength w_h_charge w_h_lemons w_h_saucers w_h_coins w_h_storms w_h_frontSteeped n0
    induction n0 with
    | zero =>
      intro v2 w_h_guestServed w_h_guestStormed hf
      exact (iter_z hf).elim
    | succ n0 ih69 =>
      intro v2 w_h_guestServed w_h_guestStormed hf
      obtain ⟨κ69, hκ69, hf⟩ := iter_k hf
      have hf : (f_X8_begin_L69 n b_h v2 w_h_hour w_h_warmth w_h_strength w_h_charge w_h_lemons w_h_saucers w_h_coins w_h_storms w_h_frontSteeped w_h_guestServed w_h_guestStormed).bind κ69 = some res := hf
      refine sx_iload_n X 1 rfl dX8_begin_69 rfl ?_
      refine sx_bipush X (v := 10) dX8_begin_70 rfl ?_
      refine sx_icmp_ge X 95 dX8_begin_72 rfl (fun c2 => ?_) (fun c2 => ?_)
      · have hf := ob_t hf c2
        have hf := ob_kr hκ69 hf
        exact sx_vret X dX8_begin_95 (ob_e hf) rfl rfl
      · have hf := ob_f hf c2
        refine sx_aload_n X 0 rfl dX8_begin_75 rfl ?_
        refine sx_get X kX8 0 rfl 11 (Nat.le_of_ble_eq_true rfl) qm_288 rfl dX8_begin_76 ?_
        refine sx_iload_n X 1 rfl dX8_begin_79 rfl ?_
        refine sx_iconst X (v := 0) dX8_begin_80 rfl ?_
        obtain ⟨g3, hf⟩ := ob_g hf
        refine sx_zast X (ws' := [zO h 6 [.ref h_reckoner, .ref a0, .int w_h_hour, .int w_h_warmth, .int w_h_strength, .int w_h_charge, .int w_h_lemons, .int w_h_saucers, .int w_h_coins, .int w_h_storms, .ref h_frontSteeped, .ref h_guestServed, .ref h_guestStormed], zZ T h_frontSteeped 10 w_h_frontSteeped, zZ T h_guestServed 10 (upd w_h_guestServed v2.toNatClampNeg 0), zZ T h_guestStormed 10 w_h_guestStormed]) 2 rfl g3 rfl dX8_begin_81 ?_
        refine sx_aload_n X 0 rfl dX8_begin_82 rfl ?_
        refine sx_get X kX8 0 rfl 12 (Nat.le_of_ble_eq_true rfl) qm_290 rfl dX8_begin_83 ?_
        refine sx_iload_n X 1 rfl dX8_begin_86 rfl ?_
        refine sx_iconst X (v := 0) dX8_begin_87 rfl ?_
        obtain ⟨g4, hf⟩ := ob_g hf
        refine sx_zast X (ws' := [zO h 6 [.ref h_reckoner, .ref a0, .int w_h_hour, .int w_h_warmth, .int w_h_strength, .int w_h_charge, .int w_h_lemons, .int w_h_saucers, .int w_h_coins, .int w_h_storms, .ref h_frontSteeped, .ref h_guestServed, .ref h_guestStormed], zZ T h_frontSteeped 10 w_h_frontSteeped, zZ T h_guestServed 10 (upd w_h_guestServed v2.toNatClampNeg 0), zZ T h_guestStormed 10 (upd w_h_guestStormed v2.toNatClampNeg 0)]) 3 rfl g4 rfl dX8_begin_88 ?_
        refine sx_iinc X (v := (v2 + 1)) (lv' := [(2, .int (v2 + 1)), (0, .ref h)]) 1 rfl dX8_begin_89 rfl (by decide) rfl ?_
        refine sx_goto X 69 dX8_begin_92 rfl ?_
        have hf := ob_k hκ69 hf
        refine sx_lsub [1, 0] rfl ?_
        exact ih69 (v2 + 1) (upd w_h_guestServed v2.toNatClampNeg 0) (upd w_h_guestStormed v2.toNatClampNeg 0) hf
  have L48 : ∀ (w_h_hour : Int32) (w_h_warmth : Int32) (w_h_strength : Int32) (w_h_charge : Int32) (w_h_lemons : Int32) (w_h_saucers : Int32) (w_h_coins : Int32) (w_h_storms : Int32) (w_h_guestServed : Nat → Int32) (w_h_guestStormed : Nat → Int32) (n0 : Nat) (v2 : Int32) (w_h_frontSteeped : Nat → Int32), (iter (fun s : Int32 × (Nat → Int32) => f_X8_begin_L48 n b_h s.1 w_h_hour w_h_warmth w_h_strength w_h_charge w_h_lemons w_h_saucers w_h_coins w_h_storms s.2 w_h_guestServed w_h_guestStormed) n0 (v2, w_h_frontSteeped)).bind some = some res → SxG p l e rm_X8_begin s m args below meth c D A 3 0 0 (SxE below args s D A (vf_X8_begin sd) (wf_X8_begin T sd h h_reckoner h_plan h_frontSteeped h_guestServed h_guestStormed a0 b_h) res 0 0) [zO h 6 [.ref h_reckoner, .ref a0, .int w_h_hour, .int w_h_warmth, .int w_h_strength, .int w_h_charge, .int w_h_lemons, .int w_h_saucers, .int w_h_coins, .int w_h_storms, .ref h_frontSteeped, .ref h_guestServed, .ref h_guestStormed], zZ T h_frontSteeped 10 w_h_frontSteeped, zZ T h_guestServed 10 w_h_guestServed, zZ T h_guestStormed 10 w_h_guestStormed] [(0, .ref h), (2, .int v2)] 48 [] := by
    intro w_h_hour w_h_warmth w_h_strength w_h_charge w_h_lemons w_h_saucers w_h_coins w_h_storms w_h_guestServed w_h_guestStormed n0
    induction n0 with
    | zero =>
      intro v2 w_h_frontSteeped hf
      exact (iter_z hf).elim
    | succ n0 ih48 =>
      intro v2 w_h_frontSteeped hf
      obtain ⟨κ48, hκ48, hf⟩ := iter_k hf
      have hf : (f_X8_begin_L48 n b_h v2 w_h_hour w_h_warmth w_h_strength w_h_charge w_h_lemons w_h_saucers w_h_coins w_h_storms w_h_frontSteeped w_h_guestServed w_h_guestStormed).bind κ48 = some res := hf
      refine sx_iload_n X 1 rfl dX8_begin_48 rfl ?_
      refine sx_bipush X (v := 10) dX8_begin_49 rfl ?_
      refine sx_icmp_ge X 67 dX8_begin_51 rfl (fun c1 => ?_) (fun c1 => ?_)
      · have hf := ob_t hf c1
        refine sx_iconst X (v := 0) dX8_begin_67 rfl ?_
        refine sx_istore_n X (lv' := [(2, .int 0), (0, .ref h)]) dX8_begin_68 rfl (by decide) rfl ?_
        have hf := ob_kx hκ48 hf
        refine sx_lsub [1, 0] rfl ?_
        exact L69 w_h_hour w_h_warmth w_h_strength w_h_charge w_h_lemons w_h_saucers w_h_coins w_h_storms w_h_frontSteeped n 0 w_h_guestServed w_h_guestStormed hf
      · have hf := ob_f hf c1
        refine sx_aload_n X 0 rfl dX8_begin_54 rfl ?_
        refine sx_get X kX8 0 rfl 10 (Nat.le_of_ble_eq_true rfl) qm_286 rfl dX8_begin_55 ?_
        refine sx_iload_n X 1 rfl dX8_begin_58 rfl ?_
        refine sx_iconst X (v := 0) dX8_begin_59 rfl ?_
        obtain ⟨g5, hf⟩ := ob_g hf
        refine sx_zast X (ws' := [zO h 6 [.ref h_reckoner, .ref a0, .int w_h_hour, .int w_h_warmth, .int w_h_strength, .int w_h_charge, .int w_h_lemons, .int w_h_saucers, .int w_h_coins, .int w_h_storms, .ref h_frontSteeped, .ref h_guestServed, .ref h_guestStormed], zZ T h_frontSteeped 10 (upd w_h_frontSteeped v2.toNatClampNeg 0), zZ T h_guestServed 10 w_h_guestServed, zZ T h_guestStormed 10 w_h_guestStormed]) 1 rfl g5 rfl dX8_begin_60 ?_
        refine sx_iinc X (v := (v2 + 1)) (lv' := [(2, .int (v2 + 1)), (0, .ref h)]) 1 rfl dX8_begin_61 rfl (by decide) rfl ?_
        refine sx_goto X 48 dX8_begin_64 rfl ?_
        have hf := ob_k hκ48 hf
        refine sx_lsub [1, 0] rfl ?_
        exact ih48 (v2 + 1) (upd w_h_frontSteeped v2.toNatClampNeg 0) hf
  refine sx_aload_n X 0 rfl dX8_begin_0 rfl ?_
  refine sx_aload_n X 1 rfl dX8_begin_1 rfl ?_
  refine sx_put X (ws' := [zO h 6 [.ref h_reckoner, .ref a0, .int (X8_hour b_h), .int (X8_warmth b_h), .int (X8_strength b_h), .int (X8_charge b_h), .int (X8_lemons b_h), .int (X8_saucers b_h), .int (X8_coins b_h), .int (X8_storms b_h), .ref h_frontSteeped, .ref h_guestServed, .ref h_guestStormed], zZ T h_frontSteeped 10 (X8_frontSteeped b_h), zZ T h_guestServed 10 (X8_guestServed b_h), zZ T h_guestStormed 10 (X8_guestStormed b_h)]) kX8 0 rfl 1 (Nat.le_of_ble_eq_true rfl) qm_268 rfl rfl rfl (Nat.le_of_ble_eq_true rfl) rfl dX8_begin_2 ?_
  refine sx_aload_n X 0 rfl dX8_begin_5 rfl ?_
  refine sx_iconst X (v := 0) dX8_begin_6 rfl ?_
  refine sx_put X (ws' := [zO h 6 [.ref h_reckoner, .ref a0, .int 0, .int (X8_warmth b_h), .int (X8_strength b_h), .int (X8_charge b_h), .int (X8_lemons b_h), .int (X8_saucers b_h), .int (X8_coins b_h), .int (X8_storms b_h), .ref h_frontSteeped, .ref h_guestServed, .ref h_guestStormed], zZ T h_frontSteeped 10 (X8_frontSteeped b_h), zZ T h_guestServed 10 (X8_guestServed b_h), zZ T h_guestStormed 10 (X8_guestStormed b_h)]) kX8 0 rfl 2 (Nat.le_of_ble_eq_true rfl) qm_270 rfl rfl rfl (Nat.le_of_ble_eq_true rfl) rfl dX8_begin_7 ?_
  refine sx_aload_n X 0 rfl dX8_begin_10 rfl ?_
  refine sx_bipush X (v := 20) dX8_begin_11 rfl ?_
  refine sx_put X (ws' := [zO h 6 [.ref h_reckoner, .ref a0, .int 0, .int 20, .int (X8_strength b_h), .int (X8_charge b_h), .int (X8_lemons b_h), .int (X8_saucers b_h), .int (X8_coins b_h), .int (X8_storms b_h), .ref h_frontSteeped, .ref h_guestServed, .ref h_guestStormed], zZ T h_frontSteeped 10 (X8_frontSteeped b_h), zZ T h_guestServed 10 (X8_guestServed b_h), zZ T h_guestStormed 10 (X8_guestStormed b_h)]) kX8 0 rfl 3 (Nat.le_of_ble_eq_true rfl) qm_272 rfl rfl rfl (Nat.le_of_ble_eq_true rfl) rfl dX8_begin_13 ?_
  refine sx_aload_n X 0 rfl dX8_begin_16 rfl ?_
  refine sx_iconst X (v := 0) dX8_begin_17 rfl ?_
  refine sx_put X (ws' := [zO h 6 [.ref h_reckoner, .ref a0, .int 0, .int 20, .int 0, .int (X8_charge b_h), .int (X8_lemons b_h), .int (X8_saucers b_h), .int (X8_coins b_h), .int (X8_storms b_h), .ref h_frontSteeped, .ref h_guestServed, .ref h_guestStormed], zZ T h_frontSteeped 10 (X8_frontSteeped b_h), zZ T h_guestServed 10 (X8_guestServed b_h), zZ T h_guestStormed 10 (X8_guestStormed b_h)]) kX8 0 rfl 4 (Nat.le_of_ble_eq_true rfl) qm_274 rfl rfl rfl (Nat.le_of_ble_eq_true rfl) rfl dX8_begin_18 ?_
  refine sx_aload_n X 0 rfl dX8_begin_21 rfl ?_
  refine sx_iconst X (v := 0) dX8_begin_22 rfl ?_
  refine sx_put X (ws' := [zO h 6 [.ref h_reckoner, .ref a0, .int 0, .int 20, .int 0, .int 0, .int (X8_lemons b_h), .int (X8_saucers b_h), .int (X8_coins b_h), .int (X8_storms b_h), .ref h_frontSteeped, .ref h_guestServed, .ref h_guestStormed], zZ T h_frontSteeped 10 (X8_frontSteeped b_h), zZ T h_guestServed 10 (X8_guestServed b_h), zZ T h_guestStormed 10 (X8_guestStormed b_h)]) kX8 0 rfl 5 (Nat.le_of_ble_eq_true rfl) qm_276 rfl rfl rfl (Nat.le_of_ble_eq_true rfl) rfl dX8_begin_23 ?_
  refine sx_aload_n X 0 rfl dX8_begin_26 rfl ?_
  refine sx_iconst X (v := 3) dX8_begin_27 rfl ?_
  refine sx_put X (ws' := [zO h 6 [.ref h_reckoner, .ref a0, .int 0, .int 20, .int 0, .int 0, .int 3, .int (X8_saucers b_h), .int (X8_coins b_h), .int (X8_storms b_h), .ref h_frontSteeped, .ref h_guestServed, .ref h_guestStormed], zZ T h_frontSteeped 10 (X8_frontSteeped b_h), zZ T h_guestServed 10 (X8_guestServed b_h), zZ T h_guestStormed 10 (X8_guestStormed b_h)]) kX8 0 rfl 6 (Nat.le_of_ble_eq_true rfl) qm_278 rfl rfl rfl (Nat.le_of_ble_eq_true rfl) rfl dX8_begin_28 ?_
  refine sx_aload_n X 0 rfl dX8_begin_31 rfl ?_
  refine sx_iconst X (v := 3) dX8_begin_32 rfl ?_
  refine sx_put X (ws' := [zO h 6 [.ref h_reckoner, .ref a0, .int 0, .int 20, .int 0, .int 0, .int 3, .int 3, .int (X8_coins b_h), .int (X8_storms b_h), .ref h_frontSteeped, .ref h_guestServed, .ref h_guestStormed], zZ T h_frontSteeped 10 (X8_frontSteeped b_h), zZ T h_guestServed 10 (X8_guestServed b_h), zZ T h_guestStormed 10 (X8_guestStormed b_h)]) kX8 0 rfl 7 (Nat.le_of_ble_eq_true rfl) qm_280 rfl rfl rfl (Nat.le_of_ble_eq_true rfl) rfl dX8_begin_33 ?_
  refine sx_aload_n X 0 rfl dX8_begin_36 rfl ?_
  refine sx_iconst X (v := 0) dX8_begin_37 rfl ?_
  refine sx_put X (ws' := [zO h 6 [.ref h_reckoner, .ref a0, .int 0, .int 20, .int 0, .int 0, .int 3, .int 3, .int 0, .int (X8_storms b_h), .ref h_frontSteeped, .ref h_guestServed, .ref h_guestStormed], zZ T h_frontSteeped 10 (X8_frontSteeped b_h), zZ T h_guestServed 10 (X8_guestServed b_h), zZ T h_guestStormed 10 (X8_guestStormed b_h)]) kX8 0 rfl 8 (Nat.le_of_ble_eq_true rfl) qm_282 rfl rfl rfl (Nat.le_of_ble_eq_true rfl) rfl dX8_begin_38 ?_
  refine sx_aload_n X 0 rfl dX8_begin_41 rfl ?_
  refine sx_iconst X (v := 0) dX8_begin_42 rfl ?_
  refine sx_put X (ws' := [zO h 6 [.ref h_reckoner, .ref a0, .int 0, .int 20, .int 0, .int 0, .int 3, .int 3, .int 0, .int 0, .ref h_frontSteeped, .ref h_guestServed, .ref h_guestStormed], zZ T h_frontSteeped 10 (X8_frontSteeped b_h), zZ T h_guestServed 10 (X8_guestServed b_h), zZ T h_guestStormed 10 (X8_guestStormed b_h)]) kX8 0 rfl 9 (Nat.le_of_ble_eq_true rfl) qm_284 rfl rfl rfl (Nat.le_of_ble_eq_true rfl) rfl dX8_begin_43 ?_
  refine sx_iconst X (v := 0) dX8_begin_46 rfl ?_
  refine sx_istore_n X (lv' := [(2, .int 0), (0, .ref h), (1, .ref a0)]) dX8_begin_47 rfl (by decide) rfl ?_
  refine sx_lsub [1, 0] rfl ?_
  exact L48 0 20 0 0 3 3 0 0 (X8_guestServed b_h) (X8_guestStormed b_h) n 0 (X8_frontSteeped b_h) hf
