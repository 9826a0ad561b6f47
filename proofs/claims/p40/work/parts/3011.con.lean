/-! contracts, part 11 -/
abbrev vf_X8_follow (sd : SdT) (_r : Int32 × Int32 × Int32 × Int32 × Int32 × (Nat → Int32) × (Nat → Int32)) : Option Value := none
abbrev wc_X8_follow (T : Nat → ClassId) (sd : SdT) (h : Nat) (h_reckoner : Nat) (h_plan : Nat) (h_frontSteeped : Nat) (h_guestServed : Nat) (h_guestStormed : Nat) (h_plan_fronts : Nat) (h_plan_guests : Nat) (h_plan_orders : Nat) (h_plan_fronts_names : Nat) (h_plan_fronts_warm : Nat) (h_plan_fronts_force : Nat) (h_plan_fronts_from : Nat) (h_plan_fronts_hours : Nat) (h_plan_guests_names : Nat) (h_plan_guests_from : Nat) (h_plan_guests_weakest : Nat) (h_plan_guests_strongest : Nat) (h_plan_guests_nerve : Nat) (b_h : bX8) (b_h_plan_fronts : bX2) (b_h_plan_guests : bX4) : va_W := [zO h 6 [.ref h_reckoner, .ref h_plan, .int (X8_hour b_h), .int (X8_warmth b_h), .int (X8_strength b_h), .int (X8_charge b_h), .int (X8_lemons b_h), .int (X8_saucers b_h), .int (X8_coins b_h), .int (X8_storms b_h), .ref h_frontSteeped, .ref h_guestServed, .ref h_guestStormed], zZ T h_frontSteeped 10 (X8_frontSteeped b_h), zZ T h_guestServed 10 (X8_guestServed b_h), zZ T h_guestStormed 10 (X8_guestStormed b_h), zO h_plan 5 [.ref h_plan_fronts, .ref h_plan_guests, .ref h_plan_orders], zO h_plan_fronts 2 [.ref h_plan_fronts_names, .ref h_plan_fronts_warm, .ref h_plan_fronts_force, .ref h_plan_fronts_from, .ref h_plan_fronts_hours, .int (X2_count b_h_plan_fronts)], zJ T h_plan_fronts_names 10 (X2_names b_h_plan_fronts), zZ T h_plan_fronts_warm 10 (X2_warm b_h_plan_fronts), zI T h_plan_fronts_force 10 (X2_force b_h_plan_fronts), zI T h_plan_fronts_from 10 (X2_from b_h_plan_fronts), zI T h_plan_fronts_hours 10 (X2_hours b_h_plan_fronts), zO h_plan_guests 3 [.ref h_plan_guests_names, .ref h_plan_guests_from, .ref h_plan_guests_weakest, .ref h_plan_guests_strongest, .ref h_plan_guests_nerve, .int (X4_count b_h_plan_guests)], zJ T h_plan_guests_names 10 (X4_names b_h_plan_guests), zI T h_plan_guests_from 10 (X4_from b_h_plan_guests), zI T h_plan_guests_weakest 10 (X4_weakest b_h_plan_guests), zI T h_plan_guests_strongest 10 (X4_strongest b_h_plan_guests), zI T h_plan_guests_nerve 10 (X4_nerve b_h_plan_guests)]
abbrev wf_X8_follow (T : Nat → ClassId) (sd : SdT) (h : Nat) (h_reckoner : Nat) (h_plan : Nat) (h_frontSteeped : Nat) (h_guestServed : Nat) (h_guestStormed : Nat) (h_plan_fronts : Nat) (h_plan_guests : Nat) (h_plan_orders : Nat) (h_plan_fronts_names : Nat) (h_plan_fronts_warm : Nat) (h_plan_fronts_force : Nat) (h_plan_fronts_from : Nat) (h_plan_fronts_hours : Nat) (h_plan_guests_names : Nat) (h_plan_guests_from : Nat) (h_plan_guests_weakest : Nat) (h_plan_guests_strongest : Nat) (h_plan_guests_nerve : Nat) (b_h : bX8) (b_h_plan_fronts : bX2) (b_h_plan_guests : bX4) (r : Int32 × Int32 × Int32 × Int32 × Int32 × (Nat → Int32) × (Nat → Int32)) : va_W := [zO h 6 [.ref h_reckoner, .ref h_plan, .int (X8_hour b_h), .int (X8_warmth b_h), .int r.1, .int r.2.1, .int r.2.2.1, .int r.2.2.2.1, .int r.2.2.2.2.1, .int (X8_storms b_h), .ref h_frontSteeped, .ref h_guestServed, .ref h_guestStormed], zZ T h_frontSteeped 10 r.2.2.2.2.2.1, zZ T h_guestServed 10 r.2.2.2.2.2.2, zZ T h_guestStormed 10 (X8_guestStormed b_h), zO h_plan 5 [.ref h_plan_fronts, .ref h_plan_guests, .ref h_plan_orders], zO h_plan_fronts 2 [.ref h_plan_fronts_names, .ref h_plan_fronts_warm, .ref h_plan_fronts_force, .ref h_plan_fronts_from, .ref h_plan_fronts_hours, .int (X2_count b_h_plan_fronts)], zJ T h_plan_fronts_names 10 (X2_names b_h_plan_fronts), zZ T h_plan_fronts_warm 10 (X2_warm b_h_plan_fronts), zI T h_plan_fronts_force 10 (X2_force b_h_plan_fronts), zI T h_plan_fronts_from 10 (X2_from b_h_plan_fronts), zI T h_plan_fronts_hours 10 (X2_hours b_h_plan_fronts), zO h_plan_guests 3 [.ref h_plan_guests_names, .ref h_plan_guests_from, .ref h_plan_guests_weakest, .ref h_plan_guests_strongest, .ref h_plan_guests_nerve, .int (X4_count b_h_plan_guests)], zJ T h_plan_guests_names 10 (X4_names b_h_plan_guests), zI T h_plan_guests_from 10 (X4_from b_h_plan_guests), zI T h_plan_guests_weakest 10 (X4_weakest b_h_plan_guests), zI T h_plan_guests_strongest 10 (X4_strongest b_h_plan_guests), zI T h_plan_guests_nerve 10 (X4_nerve b_h_plan_guests)]
abbrev rm_X8_follow : Room := { frames := 4, cells := 0, slots := 0, locals := 86 }
theorem hd_X8_follow : yX8_follow.cls ≠ "java/lang/invoke/MethodHandle" ∧ yX8_follow.cls ≠ "java/lang/invoke/VarHandle" ∧ (parseMethodDescriptor yX8_follow.desc).map (fun d => d.parameters.length) = some 2 := ⟨by decide, by decide, by decide +kernel⟩
theorem lin_X8_follow_8_0 (x : Int32) (h : x = 21) : Op.lookupswitch.offset [(21, 44), (23, 69), (35, 53), (36, 61)] (78) x.toInt = 44 := by
  rcases h with rfl <;> decide
theorem lin_X8_follow_8_1 (x : Int32) (h : x = 23) : Op.lookupswitch.offset [(21, 44), (23, 69), (35, 53), (36, 61)] (78) x.toInt = 69 := by
  rcases h with rfl <;> decide
theorem lin_X8_follow_8_2 (x : Int32) (h : x = 35) : Op.lookupswitch.offset [(21, 44), (23, 69), (35, 53), (36, 61)] (78) x.toInt = 53 := by
  rcases h with rfl <;> decide
theorem lin_X8_follow_8_3 (x : Int32) (h : x = 36) : Op.lookupswitch.offset [(21, 44), (23, 69), (35, 53), (36, 61)] (78) x.toInt = 61 := by
  rcases h with rfl <;> decide
theorem lk_X8_follow_8 (x : Int32) (c0 : ¬ (x = 21)) (c1 : ¬ (x = 23)) (c2 : ¬ (x = 35)) (c3 : ¬ (x = 36)) : Op.lookupswitch.offset [(21, 44), (23, 69), (35, 53), (36, 61)] (78) x.toInt = 78 := by
  rw [lv_osw (k := 21) (fun q => c0 (by rw [q]; first | done | decide)) (by decide), lv_osw (k := 23) (fun q => c1 (by rw [q]; first | done | decide)) (by decide), lv_osw (k := 35) (fun q => c2 (by rw [q]; first | done | decide)) (by decide), lv_osw (k := 36) (fun q => c3 (by rw [q]; first | done | decide)) (by decide)]
  rfl
set_option maxHeartbeats 4000000 in
set_option maxRecDepth 100000 in
theorem c_X8_follow {l : Launch} {D : va_G} {T : Nat → ClassId} {sd : SdT} (h : Nat) (h_reckoner : Nat) (h_plan : Nat) (h_frontSteeped : Nat) (h_guestServed : Nat) (h_guestStormed : Nat) (h_plan_fronts : Nat) (h_plan_guests : Nat) (h_plan_orders : Nat) (h_plan_fronts_names : Nat) (h_plan_fronts_warm : Nat) (h_plan_fronts_force : Nat) (h_plan_fronts_from : Nat) (h_plan_fronts_hours : Nat) (h_plan_guests_names : Nat) (h_plan_guests_from : Nat) (h_plan_guests_weakest : Nat) (h_plan_guests_strongest : Nat) (h_plan_guests_nerve : Nat) (x0 : Nat) (x1 : Int32) (b_h : bX8) (b_h_plan_fronts : bX2) (b_h_plan_guests : bX4) {res : Int32 × Int32 × Int32 × Int32 × Int32 × (Nat → Int32) × (Nat → Int32)} (hf : f_X8_follow x0 x1 b_h b_h_plan_fronts b_h_plan_guests = some res) : SxK (SFx sd) l D T yX8_follow cX8_follow 3 none rm_X8_follow [.ref h, .ref (sd.1 x0), .int x1] (wc_X8_follow T sd h h_reckoner h_plan h_frontSteeped h_guestServed h_guestStormed h_plan_fronts h_plan_guests h_plan_orders h_plan_fronts_names h_plan_fronts_warm h_plan_fronts_force h_plan_fronts_from h_plan_fronts_hours h_plan_guests_names h_plan_guests_from h_plan_guests_weakest h_plan_guests_strongest h_plan_guests_nerve b_h b_h_plan_fronts b_h_plan_guests) (vf_X8_follow sd) (wf_X8_follow T sd h h_reckoner h_plan h_frontSteeped h_guestServed h_guestStormed h_plan_fronts h_plan_guests h_plan_orders h_plan_fronts_names h_plan_fronts_warm h_plan_fronts_force h_plan_fronts_from h_plan_fronts_hours h_plan_guests_names h_plan_guests_from h_plan_guests_weakest h_plan_guests_strongest h_plan_guests_nerve b_h b_h_plan_fronts b_h_plan_guests) res 0 0 := by
  refine sx_start (SFx_ok sd) (by decide +kernel) (Nat.le_of_ble_eq_true rfl) (fun p e s m args below meth c A X hnm => ?_)
  have hf := ob_1 hf
  refine sx_mst X qm_576 dX8_follow_0 ?_
  refine sx_aload_n X 1 rfl dX8_follow_3 rfl ?_
  obtain ⟨g1, hf⟩ := ob_h hf
  refine sx_ord X x0 g1 qm_577 (Nat.le_of_ble_eq_true rfl) (Nat.le_of_ble_eq_true rfl) (Nat.le_of_ble_eq_true rfl) (Nat.zero_le _) (Nat.zero_le _) dX8_follow_4 ?_
  refine sx_mld X x0 g1 dX8_follow_7 ?_
  by_cases c2 : (smap x0) = 21
  · have hf := ob_t hf c2
    refine sx_lookup X 52 (off := 44) (lin_X8_follow_8_0 (smap x0) c2) dX8_follow_8 (by decide) rfl ?_
    refine sx_aload_n X 0 rfl dX8_follow_52 rfl ?_
    refine sx_iload_n X 2 rfl dX8_follow_53 rfl ?_
    obtain ⟨u3, hu3, hf⟩ := ob_c hf
    refine sx_cV X (c_X8_steepFront (l := l) (D := D) (T := T) (sd := sd) h h_reckoner h_plan h_frontSteeped h_guestServed h_guestStormed h_plan_fronts h_plan_guests h_plan_orders h_plan_fronts_names h_plan_fronts_warm h_plan_fronts_force h_plan_fronts_from h_plan_fronts_hours x1 b_h b_h_plan_fronts hu3) (st' := [.int u3.1]) (q0 := 0) qm_603 qm_604 qm_605 qm_18 qm_606 hd_X8_steepFront ⟨rfl, rfl⟩ ⟨Nat.le_of_ble_eq_true rfl, Nat.le_of_ble_eq_true rfl⟩ rfl rfl (Nat.le_of_ble_eq_true rfl) rfl rfl rfl [0, 1, 2, 3, 4, 5, 6, 7, 8, 9, 10] rfl rfl (ws' := [zO h 6 [.ref h_reckoner, .ref h_plan, .int (X8_hour b_h), .int (X8_warmth b_h), .int u3.2.1, .int (X8_charge b_h), .int (X8_lemons b_h), .int (X8_saucers b_h), .int (X8_coins b_h), .int (X8_storms b_h), .ref h_frontSteeped, .ref h_guestServed, .ref h_guestStormed], zZ T h_frontSteeped 10 u3.2.2, zZ T h_guestServed 10 (X8_guestServed b_h), zZ T h_guestStormed 10 (X8_guestStormed b_h), zO h_plan 5 [.ref h_plan_fronts, .ref h_plan_guests, .ref h_plan_orders], zO h_plan_fronts 2 [.ref h_plan_fronts_names, .ref h_plan_fronts_warm, .ref h_plan_fronts_force, .ref h_plan_fronts_from, .ref h_plan_fronts_hours, .int (X2_count b_h_plan_fronts)], zJ T h_plan_fronts_names 10 (X2_names b_h_plan_fronts), zZ T h_plan_fronts_warm 10 (X2_warm b_h_plan_fronts), zI T h_plan_fronts_force 10 (X2_force b_h_plan_fronts), zI T h_plan_fronts_from 10 (X2_from b_h_plan_fronts), zI T h_plan_fronts_hours 10 (X2_hours b_h_plan_fronts), zO h_plan_guests 3 [.ref h_plan_guests_names, .ref h_plan_guests_from, .ref h_plan_guests_weakest, .ref h_plan_guests_strongest, .ref h_plan_guests_nerve, .int (X4_count b_h_plan_guests)], zJ T h_plan_guests_names 10 (X4_names b_h_plan_guests), zI T h_plan_guests_from 10 (X4_from b_h_plan_guests), zI T h_plan_guests_weakest 10 (X4_weakest b_h_plan_guests), zI T h_plan_guests_strongest 10 (X4_strongest b_h_plan_guests), zI T h_plan_guests_nerve 10 (X4_nerve b_h_plan_guests)]) (sxPatch_pk [(true, 0), (true, 1), (true, 2), (true, 3), (true, 4), (true, 5), (true, 6), (true, 7), (true, 8), (true, 9), (true, 10), (false, 11), (false, 12), (false, 13), (false, 14), (false, 15), (false, 16)] (by decide +kernel) rfl rfl rfl) rfl ⟨Nat.le_of_ble_eq_true rfl, Nat.le_of_ble_eq_true rfl⟩ dX8_follow_54 rfl ?_
    refine sx_pop X dX8_follow_57 rfl ?_
    refine sx_goto X 86 dX8_follow_58 rfl ?_
    exact sx_vret X dX8_follow_86 (ob_e hf) rfl rfl
  · have hf := ob_f hf c2
    by_cases c4 : (smap x0) = 23
    · have hf := ob_t hf c4
      refine sx_lookup X 77 (off := 69) (lin_X8_follow_8_1 (smap x0) c4) dX8_follow_8 (by decide) rfl ?_
      refine sx_aload_n X 0 rfl dX8_follow_77 rfl ?_
      refine sx_iload_n X 2 rfl dX8_follow_78 rfl ?_
      obtain ⟨u5, hu5, hf⟩ := ob_c hf
      refine sx_cV X (c_X8_serveGuest (l := l) (D := D) (T := T) (sd := sd) h h_reckoner h_plan h_frontSteeped h_guestServed h_guestStormed h_plan_fronts h_plan_guests h_plan_orders h_plan_guests_names h_plan_guests_from h_plan_guests_weakest h_plan_guests_strongest h_plan_guests_nerve x1 b_h b_h_plan_guests hu5) (st' := [.int u5.1]) (q0 := 0) qm_621 qm_622 qm_623 qm_18 qm_624 hd_X8_serveGuest ⟨rfl, rfl⟩ ⟨Nat.le_of_ble_eq_true rfl, Nat.le_of_ble_eq_true rfl⟩ rfl rfl (Nat.le_of_ble_eq_true rfl) rfl rfl rfl [0, 1, 2, 3, 4, 11, 12, 13, 14, 15, 16] rfl rfl (ws' := [zO h 6 [.ref h_reckoner, .ref h_plan, .int (X8_hour b_h), .int (X8_warmth b_h), .int u5.2.1, .int (X8_charge b_h), .int (X8_lemons b_h), .int (X8_saucers b_h), .int u5.2.2.1, .int (X8_storms b_h), .ref h_frontSteeped, .ref h_guestServed, .ref h_guestStormed], zZ T h_frontSteeped 10 (X8_frontSteeped b_h), zZ T h_guestServed 10 u5.2.2.2, zZ T h_guestStormed 10 (X8_guestStormed b_h), zO h_plan 5 [.ref h_plan_fronts, .ref h_plan_guests, .ref h_plan_orders], zO h_plan_fronts 2 [.ref h_plan_fronts_names, .ref h_plan_fronts_warm, .ref h_plan_fronts_force, .ref h_plan_fronts_from, .ref h_plan_fronts_hours, .int (X2_count b_h_plan_fronts)], zJ T h_plan_fronts_names 10 (X2_names b_h_plan_fronts), zZ T h_plan_fronts_warm 10 (X2_warm b_h_plan_fronts), zI T h_plan_fronts_force 10 (X2_force b_h_plan_fronts), zI T h_plan_fronts_from 10 (X2_from b_h_plan_fronts), zI T h_plan_fronts_hours 10 (X2_hours b_h_plan_fronts), zO h_plan_guests 3 [.ref h_plan_guests_names, .ref h_plan_guests_from, .ref h_plan_guests_weakest, .ref h_plan_guests_strongest, .ref h_plan_guests_nerve, .int (X4_count b_h_plan_guests)], zJ T h_plan_guests_names 10 (X4_names b_h_plan_guests), zI T h_plan_guests_from 10 (X4_from b_h_plan_guests), zI T h_plan_guests_weakest 10 (X4_weakest b_h_plan_guests), zI T h_plan_guests_strongest 10 (X4_strongest b_h_plan_guests), zI T h_plan_guests_nerve 10 (X4_nerve b_h_plan_guests)]) (sxPatch_pk [(true, 0), (true, 1), (true, 2), (true, 3), (true, 4), (false, 5), (false, 6), (false, 7), (false, 8), (false, 9), (false, 10), (true, 5), (true, 6), (true, 7), (true, 8), (true, 9), (true, 10)] (by decide +kernel) rfl rfl rfl) rfl ⟨Nat.le_of_ble_eq_true rfl, Nat.le_of_ble_eq_true rfl⟩ dX8_follow_79 rfl ?_
      refine sx_pop X dX8_follow_82 rfl ?_
      refine sx_goto X 86 dX8_follow_83 rfl ?_
      exact sx_vret X dX8_follow_86 (ob_e hf) rfl rfl
    · have hf := ob_f hf c4
      by_cases c6 : (smap x0) = 35
      · have hf := ob_t hf c6
        refine sx_lookup X 61 (off := 53) (lin_X8_follow_8_2 (smap x0) c6) dX8_follow_8 (by decide) rfl ?_
        refine sx_aload_n X 0 rfl dX8_follow_61 rfl ?_
        obtain ⟨u7, hu7, hf⟩ := ob_c hf
        refine sx_cV X (c_X8_squeezeLemon (l := l) (D := D) (T := T) (sd := sd) h h_reckoner h_plan h_frontSteeped h_guestServed h_guestStormed b_h hu7) (st' := [.int u7.1]) (q0 := 0) qm_612 qm_613 qm_614 qm_18 qm_615 hd_X8_squeezeLemon ⟨rfl, rfl⟩ ⟨Nat.le_of_ble_eq_true rfl, Nat.le_of_ble_eq_true rfl⟩ rfl rfl (Nat.le_of_ble_eq_true rfl) rfl rfl rfl [0, 1, 2, 3] rfl rfl (ws' := [zO h 6 [.ref h_reckoner, .ref h_plan, .int (X8_hour b_h), .int (X8_warmth b_h), .int (X8_strength b_h), .int u7.2.1, .int u7.2.2, .int (X8_saucers b_h), .int (X8_coins b_h), .int (X8_storms b_h), .ref h_frontSteeped, .ref h_guestServed, .ref h_guestStormed], zZ T h_frontSteeped 10 (X8_frontSteeped b_h), zZ T h_guestServed 10 (X8_guestServed b_h), zZ T h_guestStormed 10 (X8_guestStormed b_h), zO h_plan 5 [.ref h_plan_fronts, .ref h_plan_guests, .ref h_plan_orders], zO h_plan_fronts 2 [.ref h_plan_fronts_names, .ref h_plan_fronts_warm, .ref h_plan_fronts_force, .ref h_plan_fronts_from, .ref h_plan_fronts_hours, .int (X2_count b_h_plan_fronts)], zJ T h_plan_fronts_names 10 (X2_names b_h_plan_fronts), zZ T h_plan_fronts_warm 10 (X2_warm b_h_plan_fronts), zI T h_plan_fronts_force 10 (X2_force b_h_plan_fronts), zI T h_plan_fronts_from 10 (X2_from b_h_plan_fronts), zI T h_plan_fronts_hours 10 (X2_hours b_h_plan_fronts), zO h_plan_guests 3 [.ref h_plan_guests_names, .ref h_plan_guests_from, .ref h_plan_guests_weakest, .ref h_plan_guests_strongest, .ref h_plan_guests_nerve, .int (X4_count b_h_plan_guests)], zJ T h_plan_guests_names 10 (X4_names b_h_plan_guests), zI T h_plan_guests_from 10 (X4_from b_h_plan_guests), zI T h_plan_guests_weakest 10 (X4_weakest b_h_plan_guests), zI T h_plan_guests_strongest 10 (X4_strongest b_h_plan_guests), zI T h_plan_guests_nerve 10 (X4_nerve b_h_plan_guests)]) (sxPatch_pk [(true, 0), (true, 1), (true, 2), (true, 3), (false, 4), (false, 5), (false, 6), (false, 7), (false, 8), (false, 9), (false, 10), (false, 11), (false, 12), (false, 13), (false, 14), (false, 15), (false, 16)] (by decide +kernel) rfl rfl rfl) rfl ⟨Nat.le_of_ble_eq_true rfl, Nat.le_of_ble_eq_true rfl⟩ dX8_follow_62 rfl ?_
        refine sx_pop X dX8_follow_65 rfl ?_
        refine sx_goto X 86 dX8_follow_66 rfl ?_
        exact sx_vret X dX8_follow_86 (ob_e hf) rfl rfl
      · have hf := ob_f hf c6
        by_cases c8 : (smap x0) = 36
        · have hf := ob_t hf c8
          refine sx_lookup X 69 (off := 61) (lin_X8_follow_8_3 (smap x0) c8) dX8_follow_8 (by decide) rfl ?_
          refine sx_aload_n X 0 rfl dX8_follow_69 rfl ?_
          obtain ⟨u9, hu9, hf⟩ := ob_c hf
          refine sx_cV X (c_X8_putSaucer (l := l) (D := D) (T := T) (sd := sd) h h_reckoner h_plan h_frontSteeped h_guestServed h_guestStormed b_h hu9) (st' := [.int u9.1]) (q0 := 0) qm_616 qm_617 qm_618 qm_18 qm_619 hd_X8_putSaucer ⟨rfl, rfl⟩ ⟨Nat.le_of_ble_eq_true rfl, Nat.le_of_ble_eq_true rfl⟩ rfl rfl (Nat.le_of_ble_eq_true rfl) rfl rfl rfl [0, 1, 2, 3] rfl rfl (ws' := [zO h 6 [.ref h_reckoner, .ref h_plan, .int (X8_hour b_h), .int (X8_warmth b_h), .int (X8_strength b_h), .int u9.2.1, .int (X8_lemons b_h), .int u9.2.2, .int (X8_coins b_h), .int (X8_storms b_h), .ref h_frontSteeped, .ref h_guestServed, .ref h_guestStormed], zZ T h_frontSteeped 10 (X8_frontSteeped b_h), zZ T h_guestServed 10 (X8_guestServed b_h), zZ T h_guestStormed 10 (X8_guestStormed b_h), zO h_plan 5 [.ref h_plan_fronts, .ref h_plan_guests, .ref h_plan_orders], zO h_plan_fronts 2 [.ref h_plan_fronts_names, .ref h_plan_fronts_warm, .ref h_plan_fronts_force, .ref h_plan_fronts_from, .ref h_plan_fronts_hours, .int (X2_count b_h_plan_fronts)], zJ T h_plan_fronts_names 10 (X2_names b_h_plan_fronts), zZ T h_plan_fronts_warm 10 (X2_warm b_h_plan_fronts), zI T h_plan_fronts_force 10 (X2_force b_h_plan_fronts), zI T h_plan_fronts_from 10 (X2_from b_h_plan_fronts), zI T h_plan_fronts_hours 10 (X2_hours b_h_plan_fronts), zO h_plan_guests 3 [.ref h_plan_guests_names, .ref h_plan_guests_from, .ref h_plan_guests_weakest, .ref h_plan_guests_strongest, .ref h_plan_guests_nerve, .int (X4_count b_h_plan_guests)], zJ T h_plan_guests_names 10 (X4_names b_h_plan_guests), zI T h_plan_guests_from 10 (X4_from b_h_plan_guests), zI T h_plan_guests_weakest 10 (X4_weakest b_h_plan_guests), zI T h_plan_guests_strongest 10 (X4_strongest b_h_plan_guests), zI T h_plan_guests_nerve 10 (X4_nerve b_h_plan_guests)]) (sxPatch_pk [(true, 0), (true, 1), (true, 2), (true, 3), (false, 4), (false, 5), (false, 6), (false, 7), (false, 8), (false, 9), (false, 10), (false, 11), (false, 12), (false, 13), (false, 14), (false, 15), (false, 16)] (by decide +kernel) rfl rfl rfl) rfl ⟨Nat.le_of_ble_eq_true rfl, Nat.le_of_ble_eq_true rfl⟩ dX8_follow_70 rfl ?_
          refine sx_pop X dX8_follow_73 rfl ?_
          refine sx_goto X 86 dX8_follow_74 rfl ?_
          exact sx_vret X dX8_follow_86 (ob_e hf) rfl rfl
        · have hf := ob_f hf c8
          refine sx_lookup X 86 (off := 78) (lk_X8_follow_8 (smap x0) c2 c4 c6 c8) dX8_follow_8 (by decide) rfl ?_
          exact sx_vret X dX8_follow_86 (ob_e hf) rfl rfl

abbrev vf_J6_compare_7cf53 (sd : SdT) (r : Int32) : Option Value := some (.int r)
abbrev wc_J6_compare_7cf53 (T : Nat → ClassId) (sd : SdT)  : va_W := []
abbrev wf_J6_compare_7cf53 (T : Nat → ClassId) (sd : SdT)  (r : Int32) : va_W := []
abbrev rm_J6_compare_7cf53 : Room := { frames := 0, cells := 0, slots := 0, locals := 0 }
theorem hd_J6_compare_7cf53 : yJ6_compare_7cf53.cls ≠ "java/lang/invoke/MethodHandle" ∧ yJ6_compare_7cf53.cls ≠ "java/lang/invoke/VarHandle" ∧ (parseMethodDescriptor yJ6_compare_7cf53.desc).map (fun d => d.parameters.length) = some 2 := ⟨by decide, by decide, by decide +kernel⟩
set_option maxHeartbeats 4000000 in
set_option maxRecDepth 100000 in
theorem c_J6_compare_7cf53 {l : Launch} {D : va_G} {T : Nat → ClassId} {sd : SdT}  (x0 : Int32) (x1 : Int32) {res : Int32} (hf : f_J6_compare_7cf53 x0 x1 = some res) : SxK (SFx sd) l D T yJ6_compare_7cf53 cJ6_compare_7cf53 2 (some .int) rm_J6_compare_7cf53 [.int x0, .int x1] (wc_J6_compare_7cf53 T sd ) (vf_J6_compare_7cf53 sd) (wf_J6_compare_7cf53 T sd ) res 0 0 := by
  refine sx_start (SFx_ok sd) (by decide +kernel) (Nat.le_of_ble_eq_true rfl) (fun p e s m args below meth c A X hnm => ?_)
  have hf := ob_1 hf
  refine sx_iload_n X 0 rfl dJ6_compare_7cf53_0 rfl ?_
  refine sx_iload_n X 1 rfl dJ6_compare_7cf53_1 rfl ?_
  refine sx_icmp_ge X 9 dJ6_compare_7cf53_2 rfl (fun c1 => ?_) (fun c1 => ?_)
  · have hf := ob_t hf c1
    refine sx_iload_n X 0 rfl dJ6_compare_7cf53_9 rfl ?_
    refine sx_iload_n X 1 rfl dJ6_compare_7cf53_10 rfl ?_
    refine sx_icmp_ne X 18 dJ6_compare_7cf53_11 rfl (fun c2 => ?_) (fun c2 => ?_)
    · have hf := ob_f hf c2
      refine sx_iconst X (v := 1) dJ6_compare_7cf53_18 rfl ?_
      exact sx_iret X rfl dJ6_compare_7cf53_19 (ob_e hf) rfl rfl
    · have hf := ob_t hf c2
      refine sx_iconst X (v := 0) dJ6_compare_7cf53_14 rfl ?_
      refine sx_goto X 19 dJ6_compare_7cf53_15 rfl ?_
      exact sx_iret X rfl dJ6_compare_7cf53_19 (ob_e hf) rfl rfl
  · have hf := ob_f hf c1
    refine sx_iconst X (v := (-1)) dJ6_compare_7cf53_5 rfl ?_
    refine sx_goto X 19 dJ6_compare_7cf53_6 rfl ?_
    exact sx_iret X rfl dJ6_compare_7cf53_19 (ob_e hf) rfl rfl

abbrev vf_X8_blow (sd : SdT) (_r : Int32 × Int32) : Option Value := none
abbrev wc_X8_blow (T : Nat → ClassId) (sd : SdT) (h : Nat) (h_reckoner : Nat) (h_plan : Nat) (h_frontSteeped : Nat) (h_guestServed : Nat) (h_guestStormed : Nat) (h_plan_fronts : Nat) (h_plan_guests : Nat) (h_plan_orders : Nat) (h_plan_fronts_names : Nat) (h_plan_fronts_warm : Nat) (h_plan_fronts_force : Nat) (h_plan_fronts_from : Nat) (h_plan_fronts_hours : Nat) (b_h : bX8) (b_h_plan_fronts : bX2) : va_W := [zO h 6 [.ref h_reckoner, .ref h_plan, .int (X8_hour b_h), .int (X8_warmth b_h), .int (X8_strength b_h), .int (X8_charge b_h), .int (X8_lemons b_h), .int (X8_saucers b_h), .int (X8_coins b_h), .int (X8_storms b_h), .ref h_frontSteeped, .ref h_guestServed, .ref h_guestStormed], zZ T h_frontSteeped 10 (X8_frontSteeped b_h), zZ T h_guestServed 10 (X8_guestServed b_h), zZ T h_guestStormed 10 (X8_guestStormed b_h), zO h_plan 5 [.ref h_plan_fronts, .ref h_plan_guests, .ref h_plan_orders], zO h_plan_fronts 2 [.ref h_plan_fronts_names, .ref h_plan_fronts_warm, .ref h_plan_fronts_force, .ref h_plan_fronts_from, .ref h_plan_fronts_hours, .int (X2_count b_h_plan_fronts)], zJ T h_plan_fronts_names 10 (X2_names b_h_plan_fronts), zZ T h_plan_fronts_warm 10 (X2_warm b_h_plan_fronts), zI T h_plan_fronts_force 10 (X2_force b_h_plan_fronts), zI T h_plan_fronts_from 10 (X2_from b_h_plan_fronts), zI T h_plan_fronts_hours 10 (X2_hours b_h_plan_fronts)]
abbrev wf_X8_blow (T : Nat → ClassId) (sd : SdT) (h : Nat) (h_reckoner : Nat) (h_plan : Nat) (h_frontSteeped : Nat) (h_guestServed : Nat) (h_guestStormed : Nat) (h_plan_fronts : Nat) (h_plan_guests : Nat) (h_plan_orders : Nat) (h_plan_fronts_names : Nat) (h_plan_fronts_warm : Nat) (h_plan_fronts_force : Nat) (h_plan_fronts_from : Nat) (h_plan_fronts_hours : Nat) (b_h : bX8) (b_h_plan_fronts : bX2) (r : Int32 × Int32) : va_W := [zO h 6 [.ref h_reckoner, .ref h_plan, .int (X8_hour b_h), .int r.1, .int (X8_strength b_h), .int r.2, .int (X8_lemons b_h), .int (X8_saucers b_h), .int (X8_coins b_h), .int (X8_storms b_h), .ref h_frontSteeped, .ref h_guestServed, .ref h_guestStormed], zZ T h_frontSteeped 10 (X8_frontSteeped b_h), zZ T h_guestServed 10 (X8_guestServed b_h), zZ T h_guestStormed 10 (X8_guestStormed b_h), zO h_plan 5 [.ref h_plan_fronts, .ref h_plan_guests, .ref h_plan_orders], zO h_plan_fronts 2 [.ref h_plan_fronts_names, .ref h_plan_fronts_warm, .ref h_plan_fronts_force, .ref h_plan_fronts_from, .ref h_plan_fronts_hours, .int (X2_count b_h_plan_fronts)], zJ T h_plan_fronts_names 10 (X2_names b_h_plan_fronts), zZ T h_plan_fronts_warm 10 (X2_warm b_h_plan_fronts), zI T h_plan_fronts_force 10 (X2_force b_h_plan_fronts), zI T h_plan_fronts_from 10 (X2_from b_h_plan_fronts), zI T h_plan_fronts_hours 10 (X2_hours b_h_plan_fronts)]
abbrev rm_X8_blow : Room := { frames := 2, cells := 0, slots := 0, locals := 43 }
theorem hd_X8_blow : yX8_blow.cls ≠ "java/lang/invoke/MethodHandle" ∧ yX8_blow.cls ≠ "java/lang/invoke/VarHandle" ∧ (parseMethodDescriptor yX8_blow.desc).map (fun d => d.parameters.length) = some 0 := ⟨by decide, by decide, by decide +kernel⟩
set_option maxHeartbeats 4000000 in
set_option maxRecDepth 100000 in
theorem c_X8_blow {l : Launch} {D : va_G} {T : Nat → ClassId} {sd : SdT} (h : Nat) (h_reckoner : Nat) (h_plan : Nat) (h_frontSteeped : Nat) (h_guestServed : Nat) (h_guestStormed : Nat) (h_plan_fronts : Nat) (h_plan_guests : Nat) (h_plan_orders : Nat) (h_plan_fronts_names : Nat) (h_plan_fronts_warm : Nat) (h_plan_fronts_force : Nat) (h_plan_fronts_from : Nat) (h_plan_fronts_hours : Nat) (n : Nat) (b_h : bX8) (b_h_plan_fronts : bX2) {res : Int32 × Int32} (hf : f_X8_blow n b_h b_h_plan_fronts = some res) : SxK (SFx sd) l D T yX8_blow cX8_blow 4 none rm_X8_blow [.ref h] (wc_X8_blow T sd h h_reckoner h_plan h_frontSteeped h_guestServed h_guestStormed h_plan_fronts h_plan_guests h_plan_orders h_plan_fronts_names h_plan_fronts_warm h_plan_fronts_force h_plan_fronts_from h_plan_fronts_hours b_h b_h_plan_fronts) (vf_X8_blow sd) (wf_X8_blow T sd h h_reckoner h_plan h_frontSteeped h_guestServed h_guestStormed h_plan_fronts h_plan_guests h_plan_orders h_plan_fronts_names h_plan_fronts_warm h_plan_fronts_force h_plan_fronts_from h_plan_fronts_hours b_h b_h_plan_fronts) res 0 0 := by
  refine sx_start (SFx_ok sd) (by decide +kernel) (Nat.le_of_ble_eq_true rfl) (fun p e s m args below meth c A X hnm => ?_)
  have hf := ob_1 hf
  have R138 : ∀ (v1 : Int32) (v2 : Int32) (w_h_warmth : Int32) (w_h_charge : Int32), (f_X8_blow_R138 n b_h b_h_plan_fronts v1 v2 w_h_warmth w_h_charge).bind some = some res → SxG p l e rm_X8_blow s m args below meth c D A 4 0 0 (SxE below args s D A (vf_X8_blow sd) (wf_X8_blow T sd h h_reckoner h_plan h_frontSteeped h_guestServed h_guestStormed h_plan_fronts h_plan_guests h_plan_orders h_plan_fronts_names h_plan_fronts_warm h_plan_fronts_force h_plan_fronts_from h_plan_fronts_hours b_h b_h_plan_fronts) res 0 0) [zO h 6 [.ref h_reckoner, .ref h_plan, .int (X8_hour b_h), .int w_h_warmth, .int (X8_strength b_h), .int w_h_charge, .int (X8_lemons b_h), .int (X8_saucers b_h), .int (X8_coins b_h), .int (X8_storms b_h), .ref h_frontSteeped, .ref h_guestServed, .ref h_guestStormed], zZ T h_frontSteeped 10 (X8_frontSteeped b_h), zZ T h_guestServed 10 (X8_guestServed b_h), zZ T h_guestStormed 10 (X8_guestStormed b_h), zO h_plan 5 [.ref h_plan_fronts, .ref h_plan_guests, .ref h_plan_orders], zO h_plan_fronts 2 [.ref h_plan_fronts_names, .ref h_plan_fronts_warm, .ref h_plan_fronts_force, .ref h_plan_fronts_from, .ref h_plan_fronts_hours, .int (X2_count b_h_plan_fronts)], zJ T h_plan_fronts_names 10 (X2_names b_h_plan_fronts), zZ T h_plan_fronts_warm 10 (X2_warm b_h_plan_fronts), zI T h_plan_fronts_force 10 (X2_force b_h_plan_fronts), zI T h_plan_fronts_from 10 (X2_from b_h_plan_fronts), zI T h_plan_fronts_hours 10 (X2_hours b_h_plan_fronts)] [(0, .ref h), (1, .int v1), (2, .int v2)] 138 [] := by
    intro v1 v2 w_h_warmth w_h_charge hf
    refine sx_aload_n X 0 rfl dX8_blow_138 rfl ?_
    refine sx_bipush X (v := 30) dX8_blow_139 rfl ?_
    refine sx_aload_n X 0 rfl dX8_blow_141 rfl ?_
    refine sx_get X kX8 0 rfl 5 (Nat.le_of_ble_eq_true rfl) qm_276 rfl dX8_blow_142 ?_
    refine sx_iload_n X 1 rfl dX8_blow_145 rfl ?_
    refine sx_iload_n X 2 rfl dX8_blow_146 rfl ?_
    refine sx_min X qm_611 qm_594 qm_32 qm_595 (Nat.le_of_ble_eq_true rfl) (Nat.le_of_ble_eq_true rfl) (Nat.zero_le _) (Nat.zero_le _) dX8_blow_147 ?_
    refine sx_iadd X dX8_blow_150 ?_
    refine sx_min X qm_611 qm_594 qm_32 qm_595 (Nat.le_of_ble_eq_true rfl) (Nat.le_of_ble_eq_true rfl) (Nat.zero_le _) (Nat.zero_le _) dX8_blow_151 ?_
    refine sx_put X (ws' := [zO h 6 [.ref h_reckoner, .ref h_plan, .int (X8_hour b_h), .int w_h_warmth, .int (X8_strength b_h), .int (if (w_h_charge + (if v2 < v1 then v2 else v1)) < 30 then (w_h_charge + (if v2 < v1 then v2 else v1)) else 30), .int (X8_lemons b_h), .int (X8_saucers b_h), .int (X8_coins b_h), .int (X8_storms b_h), .ref h_frontSteeped, .ref h_guestServed, .ref h_guestStormed], zZ T h_frontSteeped 10 (X8_frontSteeped b_h), zZ T h_guestServed 10 (X8_guestServed b_h), zZ T h_guestStormed 10 (X8_guestStormed b_h), zO h_plan 5 [.ref h_plan_fronts, .ref h_plan_guests, .ref h_plan_orders], zO h_plan_fronts 2 [.ref h_plan_fronts_names, .ref h_plan_fronts_warm, .ref h_plan_fronts_force, .ref h_plan_fronts_from, .ref h_plan_fronts_hours, .int (X2_count b_h_plan_fronts)], zJ T h_plan_fronts_names 10 (X2_names b_h_plan_fronts), zZ T h_plan_fronts_warm 10 (X2_warm b_h_plan_fronts), zI T h_plan_fronts_force 10 (X2_force b_h_plan_fronts), zI T h_plan_fronts_from 10 (X2_from b_h_plan_fronts), zI T h_plan_fronts_hours 10 (X2_hours b_h_plan_fronts)]) kX8 0 rfl 5 (Nat.le_of_ble_eq_true rfl) qm_276 rfl rfl rfl (Nat.le_of_ble_eq_true rfl) rfl dX8_blow_154 ?_
    exact sx_vret X dX8_blow_157 (ob_e hf) rfl rfl
  have L6 : ∀ (w_h_warmth : Int32) (w_h_charge : Int32) (n0 : Nat) (v1 : Int32) (v2 : Int32) (v3 : Int32), (iter (fun s : Int32 × Int32 × Int32 => f_X8_blow_L6 n b_h b_h_plan_fronts s.1 s.2.1 s.2.2 w_h_warmth w_h_charge) n0 (v1, v2, v3)).bind some = some res → SxG p l e rm_X8_blow s m args below meth c D A 4 0 0 (SxE below args s D A (vf_X8_blow sd) (wf_X8_blow T sd h h_reckoner h_plan h_frontSteeped h_guestServed h_guestStormed h_plan_fronts h_plan_guests h_plan_orders h_plan_fronts_names h_plan_fronts_warm h_plan_fronts_force h_plan_fronts_from h_plan_fronts_hours b_h b_h_plan_fronts) res 0 0) [zO h 6 [.ref h_reckoner, .ref h_plan, .int (X8_hour b_h), .int w_h_warmth, .int (X8_strength b_h), .int w_h_charge, .int (X8_lemons b_h), .int (X8_saucers b_h), .int (X8_coins b_h), .int (X8_storms b_h), .ref h_frontSteeped, .ref h_guestServed, .ref h_guestStormed], zZ T h_frontSteeped 10 (X8_frontSteeped b_h), zZ T h_guestServed 10 (X8_guestServed b_h), zZ T h_guestStormed 10 (X8_guestStormed b_h), zO h_plan 5 [.ref h_plan_fronts, .ref h_plan_guests, .ref h_plan_orders], zO h_plan_fronts 2 [.ref h_plan_fronts_names, .ref h_plan_fronts_warm, .ref h_plan_fronts_force, .ref h_plan_fronts_from, .ref h_plan_fronts_hours, .int (X2_count b_h_plan_fronts)], zJ T h_plan_fronts_names 10 (X2_names b_h_plan_fronts), zZ T h_plan_fronts_warm 10 (X2_warm b_h_plan_fronts), zI T h_plan_fronts_force 10 (X2_force b_h_plan_fronts), zI T h_plan_fronts_from 10 (X2_from b_h_plan_fronts), zI T h_plan_fronts_hours 10 (X2_hours b_h_plan_fronts)] [(0, .ref h), (1, .int v1), (2, .int v2), (3, .int v3)] 6 [] := by
    intro w_h_warmth w_h_charge n0
    induction n0 with
    | zero =>
      intro v1 v2 v3 hf
      exact (iter_z hf).elim
    | succ n0 ih6 =>
      intro v1 v2 v3 hf
      obtain ⟨κ6, hκ6, hf⟩ := iter_k hf
      have hf : (f_X8_blow_L6 n b_h b_h_plan_fronts v1 v2 v3 w_h_warmth w_h_charge).bind κ6 = some res := hf
      have R61 : ∀ (v1 : Int32) (v2 : Int32) (v3 : Int32), (f_X8_blow_R61 n b_h b_h_plan_fronts v1 v2 v3 w_h_warmth w_h_charge).bind κ6 = some res → SxG p l e rm_X8_blow s m args below meth c D A 4 0 0 (SxE below args s D A (vf_X8_blow sd) (wf_X8_blow T sd h h_reckoner h_plan h_frontSteeped h_guestServed h_guestStormed h_plan_fronts h_plan_guests h_plan_orders h_plan_fronts_names h_plan_fronts_warm h_plan_fronts_force h_plan_fronts_from h_plan_fronts_hours b_h b_h_plan_fronts) res 0 0) [zO h 6 [.ref h_reckoner, .ref h_plan, .int (X8_hour b_h), .int w_h_warmth, .int (X8_strength b_h), .int w_h_charge, .int (X8_lemons b_h), .int (X8_saucers b_h), .int (X8_coins b_h), .int (X8_storms b_h), .ref h_frontSteeped, .ref h_guestServed, .ref h_guestStormed], zZ T h_frontSteeped 10 (X8_frontSteeped b_h), zZ T h_guestServed 10 (X8_guestServed b_h), zZ T h_guestStormed 10 (X8_guestStormed b_h), zO h_plan 5 [.ref h_plan_fronts, .ref h_plan_guests, .ref h_plan_orders], zO h_plan_fronts 2 [.ref h_plan_fronts_names, .ref h_plan_fronts_warm, .ref h_plan_fronts_force, .ref h_plan_fronts_from, .ref h_plan_fronts_hours, .int (X2_count b_h_plan_fronts)], zJ T h_plan_fronts_names 10 (X2_names b_h_plan_fronts), zZ T h_plan_fronts_warm 10 (X2_warm b_h_plan_fronts), zI T h_plan_fronts_force 10 (X2_force b_h_plan_fronts), zI T h_plan_fronts_from 10 (X2_from b_h_plan_fronts), zI T h_plan_fronts_hours 10 (X2_hours b_h_plan_fronts)] [(0, .ref h), (1, .int v1), (2, .int v2), (3, .int v3)] 61 [] := by
        intro v1 v2 v3 hf
        refine sx_aload_n X 0 rfl dX8_blow_61 rfl ?_
        refine sx_iload_n X 3 rfl dX8_blow_62 rfl ?_
        obtain ⟨u6, hu6, hf⟩ := ob_c hf
        refine sx_cVr X (c_X8_hangsOver (l := l) (D := D) (T := T) (sd := sd) h h_reckoner h_plan h_frontSteeped h_guestServed h_guestStormed h_plan_fronts h_plan_guests h_plan_orders h_plan_fronts_names h_plan_fronts_warm h_plan_fronts_force h_plan_fronts_from h_plan_fronts_hours v3 ((X8_hour b_h), w_h_warmth, (X8_strength b_h), w_h_charge, (X8_lemons b_h), (X8_saucers b_h), (X8_coins b_h), (X8_storms b_h), (X8_frontSteeped b_h), (X8_guestServed b_h), (X8_guestStormed b_h)) b_h_plan_fronts hu6) (st' := [.int u6]) (q0 := 0) qm_578 qm_490 qm_491 qm_18 qm_492 hd_X8_hangsOver ⟨rfl, rfl⟩ ⟨Nat.le_of_ble_eq_true rfl, Nat.le_of_ble_eq_true rfl⟩ rfl rfl (Nat.le_of_ble_eq_true rfl) rfl rfl rfl [0, 1, 2, 3, 4, 5, 6, 7, 8, 9, 10] rfl rfl rfl ⟨Nat.le_of_ble_eq_true rfl, Nat.le_of_ble_eq_true rfl⟩ dX8_blow_63 rfl ?_
        refine sx_if_eq X 84 dX8_blow_66 rfl (fun c7 => ?_) (fun c7 => ?_)
        · have hf := ob_t hf c7
          refine sx_iinc X (v := (v3 + 1)) (lv' := [(3, .int (v3 + 1)), (0, .ref h), (1, .int v1), (2, .int v2)]) 3 rfl dX8_blow_84 rfl (by decide) rfl ?_
          refine sx_goto X 6 dX8_blow_87 rfl ?_
          have hf := ob_k hκ6 hf
          refine sx_lsub [1, 2, 3, 0] rfl ?_
          exact ih6 v1 v2 (v3 + 1) hf
        · have hf := ob_f hf c7
          refine sx_iload_n X 2 rfl dX8_blow_69 rfl ?_
          refine sx_aload_n X 0 rfl dX8_blow_70 rfl ?_
          refine sx_get X kX8 0 rfl 1 (Nat.le_of_ble_eq_true rfl) qm_268 rfl dX8_blow_71 ?_
          refine sx_get X kX7 4 rfl 0 (Nat.le_of_ble_eq_true rfl) qm_250 rfl dX8_blow_74 ?_
          refine sx_get X kX2 5 rfl 2 (Nat.le_of_ble_eq_true rfl) qm_149 rfl dX8_blow_77 ?_
          refine sx_iload_n X 3 rfl dX8_blow_80 rfl ?_
          obtain ⟨g8, hf⟩ := ob_g hf
          refine sx_iald X 8 rfl g8 dX8_blow_81 ?_
          refine sx_iadd X dX8_blow_82 ?_
          refine sx_istore_n X (lv' := [(2, .int (v2 + ((X2_force b_h_plan_fronts) v3.toNatClampNeg))), (0, .ref h), (1, .int v1), (3, .int v3)]) dX8_blow_83 rfl (by decide) rfl ?_
          refine sx_iinc X (v := (v3 + 1)) (lv' := [(3, .int (v3 + 1)), (2, .int (v2 + ((X2_force b_h_plan_fronts) v3.toNatClampNeg))), (0, .ref h), (1, .int v1)]) 3 rfl dX8_blow_84 rfl (by decide) rfl ?_
          refine sx_goto X 6 dX8_blow_87 rfl ?_
          have hf := ob_k hκ6 hf
          refine sx_lsub [2, 3, 1, 0] rfl ?_
          exact ih6 v1 (v2 + ((X2_force b_h_plan_fronts) v3.toNatClampNeg)) (v3 + 1) hf
      refine sx_iload_n X 3 rfl dX8_blow_6 rfl ?_
      refine sx_aload_n X 0 rfl dX8_blow_7 rfl ?_
      refine sx_get X kX8 0 rfl 1 (Nat.le_of_ble_eq_true rfl) qm_268 rfl dX8_blow_8 ?_
      refine sx_get X kX7 4 rfl 0 (Nat.le_of_ble_eq_true rfl) qm_250 rfl dX8_blow_11 ?_
      refine sx_get X kX2 5 rfl 5 (Nat.le_of_ble_eq_true rfl) qm_159 rfl dX8_blow_14 ?_
      refine sx_icmp_ge X 90 dX8_blow_17 rfl (fun c1 => ?_) (fun c1 => ?_)
      · have hf := ob_t hf c1
        refine sx_iload_n X 1 rfl dX8_blow_90 rfl ?_
        refine sx_iload_n X 2 rfl dX8_blow_91 rfl ?_
        refine sx_iadd X dX8_blow_92 ?_
        refine sx_if_le X 120 dX8_blow_93 rfl (fun c2 => ?_) (fun c2 => ?_)
        · have hf := ob_t hf c2
          refine sx_aload_n X 0 rfl dX8_blow_120 rfl ?_
          refine sx_dup X dX8_blow_121 rfl ?_
          refine sx_get X kX8 0 rfl 3 (Nat.le_of_ble_eq_true rfl) qm_272 rfl dX8_blow_122 ?_
          refine sx_bipush X (v := 20) dX8_blow_125 rfl ?_
          refine sx_aload_n X 0 rfl dX8_blow_127 rfl ?_
          refine sx_get X kX8 0 rfl 3 (Nat.le_of_ble_eq_true rfl) qm_272 rfl dX8_blow_128 ?_
          obtain ⟨u3, hu3, hf⟩ := ob_c hf
          refine sx_cSr X (c_J6_compare_7cf53 (l := l) (D := D) (T := T) (sd := sd) 20 w_h_warmth hu3) (st' := [.int u3, .int w_h_warmth, .ref h]) qm_629 qm_630 qm_37 qm_631 hd_J6_compare_7cf53 ⟨rfl, rfl⟩ ⟨Nat.le_of_ble_eq_true rfl, Nat.le_of_ble_eq_true rfl⟩ rfl rfl (Nat.le_of_ble_eq_true rfl) [] rfl rfl rfl ⟨Nat.le_of_ble_eq_true rfl, Nat.le_of_ble_eq_true rfl⟩ dX8_blow_131 rfl ?_
          refine sx_iadd X dX8_blow_134 ?_
          refine sx_put X (ws' := [zO h 6 [.ref h_reckoner, .ref h_plan, .int (X8_hour b_h), .int (w_h_warmth + u3), .int (X8_strength b_h), .int w_h_charge, .int (X8_lemons b_h), .int (X8_saucers b_h), .int (X8_coins b_h), .int (X8_storms b_h), .ref h_frontSteeped, .ref h_guestServed, .ref h_guestStormed], zZ T h_frontSteeped 10 (X8_frontSteeped b_h), zZ T h_guestServed 10 (X8_guestServed b_h), zZ T h_guestStormed 10 (X8_guestStormed b_h), zO h_plan 5 [.ref h_plan_fronts, .ref h_plan_guests, .ref h_plan_orders], zO h_plan_fronts 2 [.ref h_plan_fronts_names, .ref h_plan_fronts_warm, .ref h_plan_fronts_force, .ref h_plan_fronts_from, .ref h_plan_fronts_hours, .int (X2_count b_h_plan_fronts)], zJ T h_plan_fronts_names 10 (X2_names b_h_plan_fronts), zZ T h_plan_fronts_warm 10 (X2_warm b_h_plan_fronts), zI T h_plan_fronts_force 10 (X2_force b_h_plan_fronts), zI T h_plan_fronts_from 10 (X2_from b_h_plan_fronts), zI T h_plan_fronts_hours 10 (X2_hours b_h_plan_fronts)]) kX8 0 rfl 3 (Nat.le_of_ble_eq_true rfl) qm_272 rfl rfl rfl (Nat.le_of_ble_eq_true rfl) rfl dX8_blow_135 ?_
          have hf := ob_kx hκ6 hf
          refine sx_lsub [0, 1, 2] rfl ?_
          exact R138 v1 v2 (w_h_warmth + u3) w_h_charge hf
        · have hf := ob_f hf c2
          refine sx_aload_n X 0 rfl dX8_blow_96 rfl ?_
          refine sx_iconst X (v := 0) dX8_blow_97 rfl ?_
          refine sx_bipush X (v := 40) dX8_blow_98 rfl ?_
          refine sx_aload_n X 0 rfl dX8_blow_100 rfl ?_
          refine sx_get X kX8 0 rfl 3 (Nat.le_of_ble_eq_true rfl) qm_272 rfl dX8_blow_101 ?_
          refine sx_iload_n X 1 rfl dX8_blow_104 rfl ?_
          refine sx_iadd X dX8_blow_105 ?_
          refine sx_iload_n X 2 rfl dX8_blow_106 rfl ?_
          refine sx_isub X dX8_blow_107 ?_
          refine sx_min X qm_611 qm_594 qm_32 qm_595 (Nat.le_of_ble_eq_true rfl) (Nat.le_of_ble_eq_true rfl) (Nat.zero_le _) (Nat.zero_le _) dX8_blow_108 ?_
          refine sx_max X qm_620 qm_597 qm_32 qm_598 (Nat.le_of_ble_eq_true rfl) (Nat.le_of_ble_eq_true rfl) (Nat.zero_le _) (Nat.zero_le _) dX8_blow_111 ?_
          refine sx_put X (ws' := [zO h 6 [.ref h_reckoner, .ref h_plan, .int (X8_hour b_h), .int (if 0 < (if ((w_h_warmth + v1) - v2) < 40 then ((w_h_warmth + v1) - v2) else 40) then (if ((w_h_warmth + v1) - v2) < 40 then ((w_h_warmth + v1) - v2) else 40) else 0), .int (X8_strength b_h), .int w_h_charge, .int (X8_lemons b_h), .int (X8_saucers b_h), .int (X8_coins b_h), .int (X8_storms b_h), .ref h_frontSteeped, .ref h_guestServed, .ref h_guestStormed], zZ T h_frontSteeped 10 (X8_frontSteeped b_h), zZ T h_guestServed 10 (X8_guestServed b_h), zZ T h_guestStormed 10 (X8_guestStormed b_h), zO h_plan 5 [.ref h_plan_fronts, .ref h_plan_guests, .ref h_plan_orders], zO h_plan_fronts 2 [.ref h_plan_fronts_names, .ref h_plan_fronts_warm, .ref h_plan_fronts_force, .ref h_plan_fronts_from, .ref h_plan_fronts_hours, .int (X2_count b_h_plan_fronts)], zJ T h_plan_fronts_names 10 (X2_names b_h_plan_fronts), zZ T h_plan_fronts_warm 10 (X2_warm b_h_plan_fronts), zI T h_plan_fronts_force 10 (X2_force b_h_plan_fronts), zI T h_plan_fronts_from 10 (X2_from b_h_plan_fronts), zI T h_plan_fronts_hours 10 (X2_hours b_h_plan_fronts)]) kX8 0 rfl 3 (Nat.le_of_ble_eq_true rfl) qm_272 rfl rfl rfl (Nat.le_of_ble_eq_true rfl) rfl dX8_blow_114 ?_
          refine sx_goto X 138 dX8_blow_117 rfl ?_
          have hf := ob_kx hκ6 hf
          refine sx_lsub [0, 1, 2] rfl ?_
          exact R138 v1 v2 (if 0 < (if ((w_h_warmth + v1) - v2) < 40 then ((w_h_warmth + v1) - v2) else 40) then (if ((w_h_warmth + v1) - v2) < 40 then ((w_h_warmth + v1) - v2) else 40) else 0) w_h_charge hf
      · have hf := ob_f hf c1
        refine sx_aload_n X 0 rfl dX8_blow_20 rfl ?_
        refine sx_iload_n X 3 rfl dX8_blow_21 rfl ?_
        obtain ⟨u4, hu4, hf⟩ := ob_c hf
        refine sx_cVr X (c_X8_hangsOver (l := l) (D := D) (T := T) (sd := sd) h h_reckoner h_plan h_frontSteeped h_guestServed h_guestStormed h_plan_fronts h_plan_guests h_plan_orders h_plan_fronts_names h_plan_fronts_warm h_plan_fronts_force h_plan_fronts_from h_plan_fronts_hours v3 ((X8_hour b_h), w_h_warmth, (X8_strength b_h), w_h_charge, (X8_lemons b_h), (X8_saucers b_h), (X8_coins b_h), (X8_storms b_h), (X8_frontSteeped b_h), (X8_guestServed b_h), (X8_guestStormed b_h)) b_h_plan_fronts hu4) (st' := [.int u4]) (q0 := 0) qm_578 qm_490 qm_491 qm_18 qm_492 hd_X8_hangsOver ⟨rfl, rfl⟩ ⟨Nat.le_of_ble_eq_true rfl, Nat.le_of_ble_eq_true rfl⟩ rfl rfl (Nat.le_of_ble_eq_true rfl) rfl rfl rfl [0, 1, 2, 3, 4, 5, 6, 7, 8, 9, 10] rfl rfl rfl ⟨Nat.le_of_ble_eq_true rfl, Nat.le_of_ble_eq_true rfl⟩ dX8_blow_22 rfl ?_
        refine sx_if_eq X 61 dX8_blow_25 rfl (fun c5 => ?_) (fun c5 => ?_)
        · have hf := ob_t hf c5
          exact R61 v1 v2 v3 hf
        · have hf := ob_f hf c5
          refine sx_aload_n X 0 rfl dX8_blow_28 rfl ?_
          refine sx_get X kX8 0 rfl 1 (Nat.le_of_ble_eq_true rfl) qm_268 rfl dX8_blow_29 ?_
          refine sx_get X kX7 4 rfl 0 (Nat.le_of_ble_eq_true rfl) qm_250 rfl dX8_blow_32 ?_
          refine sx_get X kX2 5 rfl 1 (Nat.le_of_ble_eq_true rfl) qm_146 rfl dX8_blow_35 ?_
          refine sx_iload_n X 3 rfl dX8_blow_38 rfl ?_
          obtain ⟨g9, hf⟩ := ob_g hf
          refine sx_zald X 7 rfl g9 dX8_blow_39 ?_
          refine sx_if_eq X 61 dX8_blow_40 rfl (fun c10 => ?_) (fun c10 => ?_)
          · have hf := ob_t hf c10
            exact R61 v1 v2 v3 hf
          · have hf := ob_f hf c10
            refine sx_iload_n X 1 rfl dX8_blow_43 rfl ?_
            refine sx_aload_n X 0 rfl dX8_blow_44 rfl ?_
            refine sx_get X kX8 0 rfl 1 (Nat.le_of_ble_eq_true rfl) qm_268 rfl dX8_blow_45 ?_
            refine sx_get X kX7 4 rfl 0 (Nat.le_of_ble_eq_true rfl) qm_250 rfl dX8_blow_48 ?_
            refine sx_get X kX2 5 rfl 2 (Nat.le_of_ble_eq_true rfl) qm_149 rfl dX8_blow_51 ?_
            refine sx_iload_n X 3 rfl dX8_blow_54 rfl ?_
            obtain ⟨g11, hf⟩ := ob_g hf
            refine sx_iald X 8 rfl g11 dX8_blow_55 ?_
            refine sx_iadd X dX8_blow_56 ?_
            refine sx_istore_n X (lv' := [(1, .int (v1 + ((X2_force b_h_plan_fronts) v3.toNatClampNeg))), (0, .ref h), (2, .int v2), (3, .int v3)]) dX8_blow_57 rfl (by decide) rfl ?_
            refine sx_goto X 84 dX8_blow_58 rfl ?_
            refine sx_iinc X (v := (v3 + 1)) (lv' := [(3, .int (v3 + 1)), (1, .int (v1 + ((X2_force b_h_plan_fronts) v3.toNatClampNeg))), (0, .ref h), (2, .int v2)]) 3 rfl dX8_blow_84 rfl (by decide) rfl ?_
            refine sx_goto X 6 dX8_blow_87 rfl ?_
            have hf := ob_k hκ6 hf
            refine sx_lsub [2, 1, 3, 0] rfl ?_
            exact ih6 (v1 + ((X2_force b_h_plan_fronts) v3.toNatClampNeg)) v2 (v3 + 1) hf
  refine sx_iconst X (v := 0) dX8_blow_0 rfl ?_
  refine sx_istore_n X (lv' := [(1, .int 0), (0, .ref h)]) dX8_blow_1 rfl (by decide) rfl ?_
  refine sx_iconst X (v := 0) dX8_blow_2 rfl ?_
  refine sx_istore_n X (lv' := [(2, .int 0), (1, .int 0), (0, .ref h)]) dX8_blow_3 rfl (by decide) rfl ?_
  refine sx_iconst X (v := 0) dX8_blow_4 rfl ?_
  refine sx_istore_n X (lv' := [(3, .int 0), (2, .int 0), (1, .int 0), (0, .ref h)]) dX8_blow_5 rfl (by decide) rfl ?_
  refine sx_lsub [3, 2, 1, 0] rfl ?_
  exact L6 (X8_warmth b_h) (X8_charge b_h) n 0 0 0 hf

abbrev vf_X8_storm (sd : SdT) (_r : Int32 × Int32 × Int32 × (Nat → Int32)) : Option Value := none
abbrev wc_X8_storm (T : Nat → ClassId) (sd : SdT) (h : Nat) (h_reckoner : Nat) (h_plan : Nat) (h_frontSteeped : Nat) (h_guestServed : Nat) (h_guestStormed : Nat) (h_plan_fronts : Nat) (h_plan_guests : Nat) (h_plan_orders : Nat) (h_plan_guests_names : Nat) (h_plan_guests_from : Nat) (h_plan_guests_weakest : Nat) (h_plan_guests_strongest : Nat) (h_plan_guests_nerve : Nat) (b_h : bX8) (b_h_plan_guests : bX4) : va_W := [zO h 6 [.ref h_reckoner, .ref h_plan, .int (X8_hour b_h), .int (X8_warmth b_h), .int (X8_strength b_h), .int (X8_charge b_h), .int (X8_lemons b_h), .int (X8_saucers b_h), .int (X8_coins b_h), .int (X8_storms b_h), .ref h_frontSteeped, .ref h_guestServed, .ref h_guestStormed], zZ T h_frontSteeped 10 (X8_frontSteeped b_h), zZ T h_guestServed 10 (X8_guestServed b_h), zZ T h_guestStormed 10 (X8_guestStormed b_h), zO h_plan 5 [.ref h_plan_fronts, .ref h_plan_guests, .ref h_plan_orders], zO h_plan_guests 3 [.ref h_plan_guests_names, .ref h_plan_guests_from, .ref h_plan_guests_weakest, .ref h_plan_guests_strongest, .ref h_plan_guests_nerve, .int (X4_count b_h_plan_guests)], zJ T h_plan_guests_names 10 (X4_names b_h_plan_guests), zI T h_plan_guests_from 10 (X4_from b_h_plan_guests), zI T h_plan_guests_weakest 10 (X4_weakest b_h_plan_guests), zI T h_plan_guests_strongest 10 (X4_strongest b_h_plan_guests), zI T h_plan_guests_nerve 10 (X4_nerve b_h_plan_guests)]
abbrev wf_X8_storm (T : Nat → ClassId) (sd : SdT) (h : Nat) (h_reckoner : Nat) (h_plan : Nat) (h_frontSteeped : Nat) (h_guestServed : Nat) (h_guestStormed : Nat) (h_plan_fronts : Nat) (h_plan_guests : Nat) (h_plan_orders : Nat) (h_plan_guests_names : Nat) (h_plan_guests_from : Nat) (h_plan_guests_weakest : Nat) (h_plan_guests_strongest : Nat) (h_plan_guests_nerve : Nat) (b_h : bX8) (b_h_plan_guests : bX4) (r : Int32 × Int32 × Int32 × (Nat → Int32)) : va_W := [zO h 6 [.ref h_reckoner, .ref h_plan, .int (X8_hour b_h), .int (X8_warmth b_h), .int r.1, .int r.2.1, .int (X8_lemons b_h), .int (X8_saucers b_h), .int (X8_coins b_h), .int r.2.2.1, .ref h_frontSteeped, .ref h_guestServed, .ref h_guestStormed], zZ T h_frontSteeped 10 (X8_frontSteeped b_h), zZ T h_guestServed 10 (X8_guestServed b_h), zZ T h_guestStormed 10 r.2.2.2, zO h_plan 5 [.ref h_plan_fronts, .ref h_plan_guests, .ref h_plan_orders], zO h_plan_guests 3 [.ref h_plan_guests_names, .ref h_plan_guests_from, .ref h_plan_guests_weakest, .ref h_plan_guests_strongest, .ref h_plan_guests_nerve, .int (X4_count b_h_plan_guests)], zJ T h_plan_guests_names 10 (X4_names b_h_plan_guests), zI T h_plan_guests_from 10 (X4_from b_h_plan_guests), zI T h_plan_guests_weakest 10 (X4_weakest b_h_plan_guests), zI T h_plan_guests_strongest 10 (X4_strongest b_h_plan_guests), zI T h_plan_guests_nerve 10 (X4_nerve b_h_plan_guests)]
abbrev rm_X8_storm : Room := { frames := 2, cells := 0, slots := 0, locals := 43 }
theorem hd_X8_storm : yX8_storm.cls ≠ "java/lang/invoke/MethodHandle" ∧ yX8_storm.cls ≠ "java/lang/invoke/VarHandle" ∧ (parseMethodDescriptor yX8_storm.desc).map (fun d => d.parameters.length) = some 0 := ⟨by decide, by decide, by decide +kernel⟩
set_option maxHeartbeats 4000000 in
set_option maxRecDepth 100000 in
theorem c_X8_storm {l : Launch} {D : va_G} {T : Nat → ClassId} {sd : SdT} (h : Nat) (h_reckoner : Nat) (h_plan : Nat) (h_frontSteeped : Nat) (h_guestServed : Nat) (h_guestStormed : Nat) (h_plan_fronts : Nat) (h_plan_guests : Nat) (h_plan_orders : Nat) (h_plan_guests_names : Nat) (h_plan_guests_from : Nat) (h_plan_guests_weakest : Nat) (h_plan_guests_strongest : Nat) (h_plan_guests_nerve : Nat) (n : Nat) (b_h : bX8) (b_h_plan_guests : bX4) {res : Int32 × Int32 × Int32 × (Nat → Int32)} (hf : f_X8_storm n b_h b_h_plan_guests = some res) : SxK (SFx sd) l D T yX8_storm cX8_storm 2 none rm_X8_storm [.ref h] (wc_X8_storm T sd h h_reckoner h_plan h_frontSteeped h_guestServed h_guestStormed h_plan_fronts h_plan_guests h_plan_orders h_plan_guests_names h_plan_guests_from h_plan_guests_weakest h_plan_guests_strongest h_plan_guests_nerve b_h b_h_plan_guests) (vf_X8_storm sd) (wf_X8_storm T sd h h_reckoner h_plan h_frontSteeped h_guestServed h_guestStormed h_plan_fronts h_plan_guests h_plan_orders h_plan_guests_names h_plan_guests_from h_plan_guests_weakest h_plan_guests_strongest h_plan_guests_nerve b_h b_h_plan_guests) res 0 0 := by
  refine sx_start (SFx_ok sd) (by decide +kernel) (Nat.le_of_ble_eq_true rfl) (fun p e s m args below meth c A X hnm => ?_)
  have hf := ob_1 hf
  have L2 : ∀ (w_h_strength : Int32) (w_h_charge : Int32) (w_h_storms : Int32) (n0 : Nat) (v1 : Int32) (w_h_guestStormed : Nat → Int32), (iter (fun s : Int32 × (Nat → Int32) => f_X8_storm_L2 n b_h b_h_plan_guests s.1 w_h_strength w_h_charge w_h_storms s.2) n0 (v1, w_h_guestStormed)).bind some = some res → SxG p l e rm_X8_storm s m args below meth c D A 2 0 0 (SxE below args s D A (vf_X8_storm sd) (wf_X8_storm T sd h h_reckoner h_plan h_frontSteeped h_guestServed h_guestStormed h_plan_fronts h_plan_guests h_plan_orders h_plan_guests_names h_plan_guests_from h_plan_guests_weakest h_plan_guests_strongest h_plan_guests_nerve b_h b_h_plan_guests) res 0 0) [zO h 6 [.ref h_reckoner, .ref h_plan, .int (X8_hour b_h), .int (X8_warmth b_h), .int w_h_strength, .int w_h_charge, .int (X8_lemons b_h), .int (X8_saucers b_h), .int (X8_coins b_h), .int w_h_storms, .ref h_frontSteeped, .ref h_guestServed, .ref h_guestStormed], zZ T h_frontSteeped 10 (X8_frontSteeped b_h), zZ T h_guestServed 10 (X8_guestServed b_h), zZ T h_guestStormed 10 w_h_guestStormed, zO h_plan 5 [.ref h_plan_fronts, .ref h_plan_guests, .ref h_plan_orders], zO h_plan_guests 3 [.ref h_plan_guests_names, .ref h_plan_guests_from, .ref h_plan_guests_weakest, .ref h_plan_guests_strongest, .ref h_plan_guests_nerve, .int (X4_count b_h_plan_guests)], zJ T h_plan_guests_names 10 (X4_names b_h_plan_guests), zI T h_plan_guests_from 10 (X4_from b_h_plan_guests), zI T h_plan_guests_weakest 10 (X4_weakest b_h_plan_guests), zI T h_plan_guests_strongest 10 (X4_strongest b_h_plan_guests), zI T h_plan_guests_nerve 10 (X4_nerve b_h_plan_guests)] [(0, .ref h), (1, .int v1)] 2 [] := by
    intro w_h_strength w_h_charge w_h_storms n0
    induction n0 with
    | zero =>
      intro v1 w_h_guestStormed hf
      exact (iter_z hf).elim
    | succ n0 ih2 =>
      intro v1 w_h_guestStormed hf
      obtain ⟨κ2, hκ2, hf⟩ := iter_k hf
      have hf : (f_X8_storm_L2 n b_h b_h_plan_guests v1 w_h_strength w_h_charge w_h_storms w_h_guestStormed).bind κ2 = some res := hf
      refine sx_iload_n X 1 rfl dX8_storm_2 rfl ?_
      refine sx_aload_n X 0 rfl dX8_storm_3 rfl ?_
      refine sx_get X kX8 0 rfl 1 (Nat.le_of_ble_eq_true rfl) qm_268 rfl dX8_storm_4 ?_
      refine sx_get X kX7 4 rfl 1 (Nat.le_of_ble_eq_true rfl) qm_255 rfl dX8_storm_7 ?_
      refine sx_get X kX4 5 rfl 5 (Nat.le_of_ble_eq_true rfl) qm_192 rfl dX8_storm_10 ?_
      refine sx_icmp_ge X 56 dX8_storm_13 rfl (fun c1 => ?_) (fun c1 => ?_)
      · have hf := ob_t hf c1
        refine sx_aload_n X 0 rfl dX8_storm_56 rfl ?_
        refine sx_dup X dX8_storm_57 rfl ?_
        refine sx_get X kX8 0 rfl 9 (Nat.le_of_ble_eq_true rfl) qm_284 rfl dX8_storm_58 ?_
        refine sx_iconst X (v := 1) dX8_storm_61 rfl ?_
        refine sx_iadd X dX8_storm_62 ?_
        refine sx_put X (ws' := [zO h 6 [.ref h_reckoner, .ref h_plan, .int (X8_hour b_h), .int (X8_warmth b_h), .int w_h_strength, .int w_h_charge, .int (X8_lemons b_h), .int (X8_saucers b_h), .int (X8_coins b_h), .int (w_h_storms + 1), .ref h_frontSteeped, .ref h_guestServed, .ref h_guestStormed], zZ T h_frontSteeped 10 (X8_frontSteeped b_h), zZ T h_guestServed 10 (X8_guestServed b_h), zZ T h_guestStormed 10 w_h_guestStormed, zO h_plan 5 [.ref h_plan_fronts, .ref h_plan_guests, .ref h_plan_orders], zO h_plan_guests 3 [.ref h_plan_guests_names, .ref h_plan_guests_from, .ref h_plan_guests_weakest, .ref h_plan_guests_strongest, .ref h_plan_guests_nerve, .int (X4_count b_h_plan_guests)], zJ T h_plan_guests_names 10 (X4_names b_h_plan_guests), zI T h_plan_guests_from 10 (X4_from b_h_plan_guests), zI T h_plan_guests_weakest 10 (X4_weakest b_h_plan_guests), zI T h_plan_guests_strongest 10 (X4_strongest b_h_plan_guests), zI T h_plan_guests_nerve 10 (X4_nerve b_h_plan_guests)]) kX8 0 rfl 9 (Nat.le_of_ble_eq_true rfl) qm_284 rfl rfl rfl (Nat.le_of_ble_eq_true rfl) rfl dX8_storm_63 ?_
        refine sx_aload_n X 0 rfl dX8_storm_66 rfl ?_
        refine sx_dup X dX8_storm_67 rfl ?_
        refine sx_get X kX8 0 rfl 4 (Nat.le_of_ble_eq_true rfl) qm_274 rfl dX8_storm_68 ?_
        refine sx_iconst X (v := 2) dX8_storm_71 rfl ?_
        refine sx_idiv X (by decide) dX8_storm_72 ?_
        refine sx_put X (ws' := [zO h 6 [.ref h_reckoner, .ref h_plan, .int (X8_hour b_h), .int (X8_warmth b_h), .int (w_h_strength / 2), .int w_h_charge, .int (X8_lemons b_h), .int (X8_saucers b_h), .int (X8_coins b_h), .int (w_h_storms + 1), .ref h_frontSteeped, .ref h_guestServed, .ref h_guestStormed], zZ T h_frontSteeped 10 (X8_frontSteeped b_h), zZ T h_guestServed 10 (X8_guestServed b_h), zZ T h_guestStormed 10 w_h_guestStormed, zO h_plan 5 [.ref h_plan_fronts, .ref h_plan_guests, .ref h_plan_orders], zO h_plan_guests 3 [.ref h_plan_guests_names, .ref h_plan_guests_from, .ref h_plan_guests_weakest, .ref h_plan_guests_strongest, .ref h_plan_guests_nerve, .int (X4_count b_h_plan_guests)], zJ T h_plan_guests_names 10 (X4_names b_h_plan_guests), zI T h_plan_guests_from 10 (X4_from b_h_plan_guests), zI T h_plan_guests_weakest 10 (X4_weakest b_h_plan_guests), zI T h_plan_guests_strongest 10 (X4_strongest b_h_plan_guests), zI T h_plan_guests_nerve 10 (X4_nerve b_h_plan_guests)]) kX8 0 rfl 4 (Nat.le_of_ble_eq_true rfl) qm_274 rfl rfl rfl (Nat.le_of_ble_eq_true rfl) rfl dX8_storm_73 ?_
        refine sx_aload_n X 0 rfl dX8_storm_76 rfl ?_
        refine sx_dup X dX8_storm_77 rfl ?_
        refine sx_get X kX8 0 rfl 5 (Nat.le_of_ble_eq_true rfl) qm_276 rfl dX8_storm_78 ?_
        refine sx_bipush X (v := 12) dX8_storm_81 rfl ?_
        refine sx_isub X dX8_storm_83 ?_
        refine sx_put X (ws' := [zO h 6 [.ref h_reckoner, .ref h_plan, .int (X8_hour b_h), .int (X8_warmth b_h), .int (w_h_strength / 2), .int (w_h_charge - 12), .int (X8_lemons b_h), .int (X8_saucers b_h), .int (X8_coins b_h), .int (w_h_storms + 1), .ref h_frontSteeped, .ref h_guestServed, .ref h_guestStormed], zZ T h_frontSteeped 10 (X8_frontSteeped b_h), zZ T h_guestServed 10 (X8_guestServed b_h), zZ T h_guestStormed 10 w_h_guestStormed, zO h_plan 5 [.ref h_plan_fronts, .ref h_plan_guests, .ref h_plan_orders], zO h_plan_guests 3 [.ref h_plan_guests_names, .ref h_plan_guests_from, .ref h_plan_guests_weakest, .ref h_plan_guests_strongest, .ref h_plan_guests_nerve, .int (X4_count b_h_plan_guests)], zJ T h_plan_guests_names 10 (X4_names b_h_plan_guests), zI T h_plan_guests_from 10 (X4_from b_h_plan_guests), zI T h_plan_guests_weakest 10 (X4_weakest b_h_plan_guests), zI T h_plan_guests_strongest 10 (X4_strongest b_h_plan_guests), zI T h_plan_guests_nerve 10 (X4_nerve b_h_plan_guests)]) kX8 0 rfl 5 (Nat.le_of_ble_eq_true rfl) qm_276 rfl rfl rfl (Nat.le_of_ble_eq_true rfl) rfl dX8_storm_84 ?_
        have hf := ob_kr hκ2 hf
        exact sx_vret X dX8_storm_87 (ob_e hf) rfl rfl
      · have hf := ob_f hf c1
        refine sx_aload_n X 0 rfl dX8_storm_16 rfl ?_
        refine sx_iload_n X 1 rfl dX8_storm_17 rfl ?_
        obtain ⟨u3, hu3, hf⟩ := ob_c hf
        refine sx_cVr X (c_X8_sits (l := l) (D := D) (T := T) (sd := sd) h h_reckoner h_plan h_frontSteeped h_guestServed h_guestStormed h_plan_fronts h_plan_guests h_plan_orders h_plan_guests_names h_plan_guests_from h_plan_guests_weakest h_plan_guests_strongest h_plan_guests_nerve v1 ((X8_hour b_h), (X8_warmth b_h), w_h_strength, w_h_charge, (X8_lemons b_h), (X8_saucers b_h), (X8_coins b_h), w_h_storms, (X8_frontSteeped b_h), (X8_guestServed b_h), w_h_guestStormed) b_h_plan_guests hu3) (st' := [.int u3]) (q0 := 0) qm_516 qm_385 qm_386 qm_18 qm_387 hd_X8_sits ⟨rfl, rfl⟩ ⟨Nat.le_of_ble_eq_true rfl, Nat.le_of_ble_eq_true rfl⟩ rfl rfl (Nat.le_of_ble_eq_true rfl) rfl rfl rfl [0, 1, 2, 3, 4, 5, 6, 7, 8, 9, 10] rfl rfl rfl ⟨Nat.le_of_ble_eq_true rfl, Nat.le_of_ble_eq_true rfl⟩ dX8_storm_18 rfl ?_
        refine sx_if_eq X 50 dX8_storm_21 rfl (fun c4 => ?_) (fun c4 => ?_)
        · have hf := ob_t hf c4
          refine sx_iinc X (v := (v1 + 1)) (lv' := [(1, .int (v1 + 1)), (0, .ref h)]) 1 rfl dX8_storm_50 rfl (by decide) rfl ?_
          refine sx_goto X 2 dX8_storm_53 rfl ?_
          have hf := ob_k hκ2 hf
          refine sx_lsub [1, 0] rfl ?_
          exact ih2 (v1 + 1) w_h_guestStormed hf
        · have hf := ob_f hf c4
          refine sx_aload_n X 0 rfl dX8_storm_24 rfl ?_
          refine sx_get X kX8 0 rfl 1 (Nat.le_of_ble_eq_true rfl) qm_268 rfl dX8_storm_25 ?_
          refine sx_get X kX7 4 rfl 1 (Nat.le_of_ble_eq_true rfl) qm_255 rfl dX8_storm_28 ?_
          refine sx_get X kX4 5 rfl 4 (Nat.le_of_ble_eq_true rfl) qm_188 rfl dX8_storm_31 ?_
          refine sx_iload_n X 1 rfl dX8_storm_34 rfl ?_
          obtain ⟨g5, hf⟩ := ob_g hf
          refine sx_iald X 10 rfl g5 dX8_storm_35 ?_
          refine sx_aload_n X 0 rfl dX8_storm_36 rfl ?_
          refine sx_get X kX8 0 rfl 5 (Nat.le_of_ble_eq_true rfl) qm_276 rfl dX8_storm_37 ?_
          refine sx_icmp_ge X 50 dX8_storm_40 rfl (fun c6 => ?_) (fun c6 => ?_)
          · have hf := ob_t hf c6
            refine sx_iinc X (v := (v1 + 1)) (lv' := [(1, .int (v1 + 1)), (0, .ref h)]) 1 rfl dX8_storm_50 rfl (by decide) rfl ?_
            refine sx_goto X 2 dX8_storm_53 rfl ?_
            have hf := ob_k hκ2 hf
            refine sx_lsub [1, 0] rfl ?_
            exact ih2 (v1 + 1) w_h_guestStormed hf
          · have hf := ob_f hf c6
            refine sx_aload_n X 0 rfl dX8_storm_43 rfl ?_
            refine sx_get X kX8 0 rfl 12 (Nat.le_of_ble_eq_true rfl) qm_290 rfl dX8_storm_44 ?_
            refine sx_iload_n X 1 rfl dX8_storm_47 rfl ?_
            refine sx_iconst X (v := 1) dX8_storm_48 rfl ?_
            obtain ⟨g7, hf⟩ := ob_g hf
            refine sx_zast X (ws' := [zO h 6 [.ref h_reckoner, .ref h_plan, .int (X8_hour b_h), .int (X8_warmth b_h), .int w_h_strength, .int w_h_charge, .int (X8_lemons b_h), .int (X8_saucers b_h), .int (X8_coins b_h), .int w_h_storms, .ref h_frontSteeped, .ref h_guestServed, .ref h_guestStormed], zZ T h_frontSteeped 10 (X8_frontSteeped b_h), zZ T h_guestServed 10 (X8_guestServed b_h), zZ T h_guestStormed 10 (upd w_h_guestStormed v1.toNatClampNeg 1), zO h_plan 5 [.ref h_plan_fronts, .ref h_plan_guests, .ref h_plan_orders], zO h_plan_guests 3 [.ref h_plan_guests_names, .ref h_plan_guests_from, .ref h_plan_guests_weakest, .ref h_plan_guests_strongest, .ref h_plan_guests_nerve, .int (X4_count b_h_plan_guests)], zJ T h_plan_guests_names 10 (X4_names b_h_plan_guests), zI T h_plan_guests_from 10 (X4_from b_h_plan_guests), zI T h_plan_guests_weakest 10 (X4_weakest b_h_plan_guests), zI T h_plan_guests_strongest 10 (X4_strongest b_h_plan_guests), zI T h_plan_guests_nerve 10 (X4_nerve b_h_plan_guests)]) 3 rfl g7 rfl dX8_storm_49 ?_
            refine sx_iinc X (v := (v1 + 1)) (lv' := [(1, .int (v1 + 1)), (0, .ref h)]) 1 rfl dX8_storm_50 rfl (by decide) rfl ?_
            refine sx_goto X 2 dX8_storm_53 rfl ?_
            have hf := ob_k hκ2 hf
            refine sx_lsub [1, 0] rfl ?_
            exact ih2 (v1 + 1) (upd w_h_guestStormed v1.toNatClampNeg 1) hf
  refine sx_iconst X (v := 0) dX8_storm_0 rfl ?_
  refine sx_istore_n X (lv' := [(1, .int 0), (0, .ref h)]) dX8_storm_1 rfl (by decide) rfl ?_
  refine sx_lsub [1, 0] rfl ?_
  exact L2 (X8_strength b_h) (X8_charge b_h) (X8_storms b_h) n 0 (X8_guestStormed b_h) hf
