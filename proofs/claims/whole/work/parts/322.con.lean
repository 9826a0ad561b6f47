/-! contracts, part 22 -/
abbrev vf_X8_follow (sd : SdT) (_r : Int32 × Int32 × Int32 × Int32 × Int32 × (Nat → Int32) × (Nat → Int32)) : Option Value := none
abbrev wc_X8_follow (T : Nat → ClassId) (sd : SdT) (h : Nat) (h_reckoner : Nat) (h_plan : Nat) (h_frontSteeped : Nat) (h_guestServed : Nat) (h_guestStormed : Nat) (h_plan_fronts : Nat) (h_plan_guests : Nat) (h_plan_orders : Nat) (h_plan_fronts_names : Nat) (h_plan_fronts_warm : Nat) (h_plan_fronts_force : Nat) (h_plan_fronts_from : Nat) (h_plan_fronts_hours : Nat) (h_plan_guests_names : Nat) (h_plan_guests_from : Nat) (h_plan_guests_weakest : Nat) (h_plan_guests_strongest : Nat) (h_plan_guests_nerve : Nat) (b_h : bX8) (b_h_plan_fronts : bX2) (b_h_plan_guests : bX4) : va_W := [zO h 4 [.ref h_reckoner, .ref h_plan, .int (X8_hour b_h), .int (X8_warmth b_h), .int (X8_strength b_h), .int (X8_charge b_h), .int (X8_lemons b_h), .int (X8_saucers b_h), .int (X8_coins b_h), .int (X8_storms b_h), .ref h_frontSteeped, .ref h_guestServed, .ref h_guestStormed], zZ T h_frontSteeped 10 (X8_frontSteeped b_h), zZ T h_guestServed 10 (X8_guestServed b_h), zZ T h_guestStormed 10 (X8_guestStormed b_h), zO h_plan 3 [.ref h_plan_fronts, .ref h_plan_guests, .ref h_plan_orders], zO h_plan_fronts 0 [.ref h_plan_fronts_names, .ref h_plan_fronts_warm, .ref h_plan_fronts_force, .ref h_plan_fronts_from, .ref h_plan_fronts_hours, .int (X2_count b_h_plan_fronts)], zJ T h_plan_fronts_names 10 (X2_names b_h_plan_fronts), zZ T h_plan_fronts_warm 10 (X2_warm b_h_plan_fronts), zI T h_plan_fronts_force 10 (X2_force b_h_plan_fronts), zI T h_plan_fronts_from 10 (X2_from b_h_plan_fronts), zI T h_plan_fronts_hours 10 (X2_hours b_h_plan_fronts), zO h_plan_guests 1 [.ref h_plan_guests_names, .ref h_plan_guests_from, .ref h_plan_guests_weakest, .ref h_plan_guests_strongest, .ref h_plan_guests_nerve, .int (X4_count b_h_plan_guests)], zJ T h_plan_guests_names 10 (X4_names b_h_plan_guests), zI T h_plan_guests_from 10 (X4_from b_h_plan_guests), zI T h_plan_guests_weakest 10 (X4_weakest b_h_plan_guests), zI T h_plan_guests_strongest 10 (X4_strongest b_h_plan_guests), zI T h_plan_guests_nerve 10 (X4_nerve b_h_plan_guests)]
abbrev wf_X8_follow (T : Nat → ClassId) (sd : SdT) (h : Nat) (h_reckoner : Nat) (h_plan : Nat) (h_frontSteeped : Nat) (h_guestServed : Nat) (h_guestStormed : Nat) (h_plan_fronts : Nat) (h_plan_guests : Nat) (h_plan_orders : Nat) (h_plan_fronts_names : Nat) (h_plan_fronts_warm : Nat) (h_plan_fronts_force : Nat) (h_plan_fronts_from : Nat) (h_plan_fronts_hours : Nat) (h_plan_guests_names : Nat) (h_plan_guests_from : Nat) (h_plan_guests_weakest : Nat) (h_plan_guests_strongest : Nat) (h_plan_guests_nerve : Nat) (b_h : bX8) (b_h_plan_fronts : bX2) (b_h_plan_guests : bX4) (r : Int32 × Int32 × Int32 × Int32 × Int32 × (Nat → Int32) × (Nat → Int32)) : va_W := [zO h 4 [.ref h_reckoner, .ref h_plan, .int (X8_hour b_h), .int (X8_warmth b_h), .int r.1, .int r.2.1, .int r.2.2.1, .int r.2.2.2.1, .int r.2.2.2.2.1, .int (X8_storms b_h), .ref h_frontSteeped, .ref h_guestServed, .ref h_guestStormed], zZ T h_frontSteeped 10 r.2.2.2.2.2.1, zZ T h_guestServed 10 r.2.2.2.2.2.2, zZ T h_guestStormed 10 (X8_guestStormed b_h), zO h_plan 3 [.ref h_plan_fronts, .ref h_plan_guests, .ref h_plan_orders], zO h_plan_fronts 0 [.ref h_plan_fronts_names, .ref h_plan_fronts_warm, .ref h_plan_fronts_force, .ref h_plan_fronts_from, .ref h_plan_fronts_hours, .int (X2_count b_h_plan_fronts)], zJ T h_plan_fronts_names 10 (X2_names b_h_plan_fronts), zZ T h_plan_fronts_warm 10 (X2_warm b_h_plan_fronts), zI T h_plan_fronts_force 10 (X2_force b_h_plan_fronts), zI T h_plan_fronts_from 10 (X2_from b_h_plan_fronts), zI T h_plan_fronts_hours 10 (X2_hours b_h_plan_fronts), zO h_plan_guests 1 [.ref h_plan_guests_names, .ref h_plan_guests_from, .ref h_plan_guests_weakest, .ref h_plan_guests_strongest, .ref h_plan_guests_nerve, .int (X4_count b_h_plan_guests)], zJ T h_plan_guests_names 10 (X4_names b_h_plan_guests), zI T h_plan_guests_from 10 (X4_from b_h_plan_guests), zI T h_plan_guests_weakest 10 (X4_weakest b_h_plan_guests), zI T h_plan_guests_strongest 10 (X4_strongest b_h_plan_guests), zI T h_plan_guests_nerve 10 (X4_nerve b_h_plan_guests)]
abbrev rm_X8_follow : Room := { frames := 4, cells := 0, slots := 0, locals := 86 }
theorem hd_X8_follow : yX8_follow.cls ≠ "java/lang/invoke/MethodHandle" ∧ yX8_follow.cls ≠ "java/lang/invoke/VarHandle" ∧ (parseMethodDescriptor yX8_follow.desc).map (fun d => d.parameters.length) = some 2 := ⟨by decide, by decide, by decide +kernel⟩
theorem lin_X8_follow_8_0 (x : Int32) (h : x = 21) : Op.lookupswitch.offset [(21, 44), (23, 69), (35, 53), (36, 61)] (78) x.toInt = 44 := by
  rcases h with rfl <;> decide
theorem lin_X8_follow_8_1 (x : Int32) (h : x = 23) : Op.lookupswitch.offset [(21, 44), (23, 69), (35, 53), (36, 61)] (78) x.toInt = 69 := by
  rcases h with rfl <;> decide
theorem lin_X8_follow_8_2 (x : Int32) (h : x = 35) : Op.lookupswitch.offset [(21, 44), (23, 69), (35, 53), (36, 61)] (78) x.toInt = 53 := by
  rcases h with rfl <;> decide
theorem lin_X8_follow_8_3 (x : Int32) (h : x = 36) : Op.lookupswitch.offset [(21, 44), (23, 69), (35, 53), (36, 61)] (78) x.toInt = 61 := by
  rcases h with rfl <;> decide
theorem lk_X8_follow_8 (x : Int32) (c0 : ¬ (x = 21)) (c1 : ¬ (x = 23)) (c2 : ¬ (x = 35)) (c3 : ¬ (x = 36)) : Op.lookupswitch.offset [(21, 44), (23, 69), (35, 53), (36, 61)] (78) x.toInt = 78 := by
  rw [lv_osw (k := 21) (fun q => c0 (by rw [q]; first | done | decide)) (by decide), lv_osw (k := 23) (fun q => c1 (by rw [q]; first | done | decide)) (by decide), lv_osw (k := 35) (fun q => c2 (by rw [q]; first | done | decide)) (by decide), lv_osw (k := 36) (fun q => c3 (by rw [q]; first | done | decide)) (by decide)]
  rfl
set_option maxHeartbeats 4000000 in
set_option maxRecDepth 100000 in
theorem c_X8_follow {l : Launch} {D : va_G} {T : Nat → ClassId} {sd : SdT} (h : Nat) (h_reckoner : Nat) (h_plan : Nat) (h_frontSteeped : Nat) (h_guestServed : Nat) (h_guestStormed : Nat) (h_plan_fronts : Nat) (h_plan_guests : Nat) (h_plan_orders : Nat) (h_plan_fronts_names : Nat) (h_plan_fronts_warm : Nat) (h_plan_fronts_force : Nat) (h_plan_fronts_from : Nat) (h_plan_fronts_hours : Nat) (h_plan_guests_names : Nat) (h_plan_guests_from : Nat) (h_plan_guests_weakest : Nat) (h_plan_guests_strongest : Nat) (h_plan_guests_nerve : Nat) (x0 : Nat) (x1 : Int32) (b_h : bX8) (b_h_plan_fronts : bX2) (b_h_plan_guests : bX4) {res : Int32 × Int32 × Int32 × Int32 × Int32 × (Nat → Int32) × (Nat → Int32)} (hf : f_X8_follow x0 x1 b_h b_h_plan_fronts b_h_plan_guests = some res) : SxK (SFx sd) l D T yX8_follow cX8_follow 3 none rm_X8_follow [.ref h, .ref (sd.1 x0), .int x1] (wc_X8_follow T sd h h_reckoner h_plan h_frontSteeped h_guestServed h_guestStormed h_plan_fronts h_plan_guests h_plan_orders h_plan_fronts_names h_plan_fronts_warm h_plan_fronts_force h_plan_fronts_from h_plan_fronts_hours h_plan_guests_names h_plan_guests_from h_plan_guests_weakest h_plan_guests_strongest h_plan_guests_nerve b_h b_h_plan_fronts b_h_plan_guests) (vf_X8_follow sd) (wf_X8_follow T sd h h_reckoner h_plan h_frontSteeped h_guestServed h_guestStormed h_plan_fronts h_plan_guests h_plan_orders h_plan_fronts_names h_plan_fronts_warm h_plan_fronts_force h_plan_fronts_from h_plan_fronts_hours h_plan_guests_names h_plan_guests_from h_plan_guests_weakest h_plan_guests_strongest h_plan_guests_nerve b_h b_h_plan_fronts b_h_plan_guests) res 0 0 := by
  refine sx_start (SFx_ok sd) (by decide +kernel) (Nat.le_of_ble_eq_true rfl) (fun p e s m args below meth c A X hnm => ?_)
  have hf := ob_1 hf
  refine sx_mst X qm_806 dX8_follow_0 ?_
  refine sx_aload_n X 1 rfl dX8_follow_3 rfl ?_
  obtain ⟨g1, hf⟩ := ob_h hf
  refine sx_ord X x0 g1 qm_807 (Nat.le_of_ble_eq_true rfl) (Nat.le_of_ble_eq_true rfl) (Nat.le_of_ble_eq_true rfl) (Nat.zero_le _) (Nat.zero_le _) dX8_follow_4 ?_
  refine sx_mld X x0 g1 dX8_follow_7 ?_
  by_cases c2 : (smap x0) = 21
  · have hf := ob_t hf c2
    refine sx_lookup X 52 (off := 44) (lin_X8_follow_8_0 (smap x0) c2) dX8_follow_8 (by decide) rfl ?_
    refine sx_aload_n X 0 rfl dX8_follow_52 rfl ?_
    refine sx_iload_n X 2 rfl dX8_follow_53 rfl ?_
    obtain ⟨u3, hu3, hf⟩ := ob_c hf
    refine sx_cV X (c_X8_steepFront (l := l) (D := D) (T := T) (sd := sd) h h_reckoner h_plan h_frontSteeped h_guestServed h_guestStormed h_plan_fronts h_plan_guests h_plan_orders h_plan_fronts_names h_plan_fronts_warm h_plan_fronts_force h_plan_fronts_from h_plan_fronts_hours x1 b_h b_h_plan_fronts hu3) (st' := [.int u3.1]) (q0 := 0) qm_844 qm_845 qm_846 qm_73 qm_847 hd_X8_steepFront ⟨rfl, rfl⟩ ⟨Nat.le_of_ble_eq_true rfl, Nat.le_of_ble_eq_true rfl⟩ rfl rfl (Nat.le_of_ble_eq_true rfl) rfl rfl rfl [0, 1, 2, 3, 4, 5, 6, 7, 8, 9, 10] rfl rfl (ws' := [zO h 4 [.ref h_reckoner, .ref h_plan, .int (X8_hour b_h), .int (X8_warmth b_h), .int u3.2.1, .int (X8_charge b_h), .int (X8_lemons b_h), .int (X8_saucers b_h), .int (X8_coins b_h), .int (X8_storms b_h), .ref h_frontSteeped, .ref h_guestServed, .ref h_guestStormed], zZ T h_frontSteeped 10 u3.2.2, zZ T h_guestServed 10 (X8_guestServed b_h), zZ T h_guestStormed 10 (X8_guestStormed b_h), zO h_plan 3 [.ref h_plan_fronts, .ref h_plan_guests, .ref h_plan_orders], zO h_plan_fronts 0 [.ref h_plan_fronts_names, .ref h_plan_fronts_warm, .ref h_plan_fronts_force, .ref h_plan_fronts_from, .ref h_plan_fronts_hours, .int (X2_count b_h_plan_fronts)], zJ T h_plan_fronts_names 10 (X2_names b_h_plan_fronts), zZ T h_plan_fronts_warm 10 (X2_warm b_h_plan_fronts), zI T h_plan_fronts_force 10 (X2_force b_h_plan_fronts), zI T h_plan_fronts_from 10 (X2_from b_h_plan_fronts), zI T h_plan_fronts_hours 10 (X2_hours b_h_plan_fronts), zO h_plan_guests 1 [.ref h_plan_guests_names, .ref h_plan_guests_from, .ref h_plan_guests_weakest, .ref h_plan_guests_strongest, .ref h_plan_guests_nerve, .int (X4_count b_h_plan_guests)], zJ T h_plan_guests_names 10 (X4_names b_h_plan_guests), zI T h_plan_guests_from 10 (X4_from b_h_plan_guests), zI T h_plan_guests_weakest 10 (X4_weakest b_h_plan_guests), zI T h_plan_guests_strongest 10 (X4_strongest b_h_plan_guests), zI T h_plan_guests_nerve 10 (X4_nerve b_h_plan_guests)]) rfl rfl ⟨Nat.le_of_ble_eq_true rfl, Nat.le_of_ble_eq_true rfl⟩ dX8_follow_54 rfl ?_
    refine sx_pop X dX8_follow_57 rfl ?_
    refine sx_goto X 86 dX8_follow_58 rfl ?_
    exact sx_vret X dX8_follow_86 (ob_e hf) rfl rfl
  · have hf := ob_f hf c2
    by_cases c4 : (smap x0) = 23
    · have hf := ob_t hf c4
      refine sx_lookup X 77 (off := 69) (lin_X8_follow_8_1 (smap x0) c4) dX8_follow_8 (by decide) rfl ?_
      refine sx_aload_n X 0 rfl dX8_follow_77 rfl ?_
      refine sx_iload_n X 2 rfl dX8_follow_78 rfl ?_
      obtain ⟨u5, hu5, hf⟩ := ob_c hf
      refine sx_cV X (c_X8_serveGuest (l := l) (D := D) (T := T) (sd := sd) h h_reckoner h_plan h_frontSteeped h_guestServed h_guestStormed h_plan_fronts h_plan_guests h_plan_orders h_plan_guests_names h_plan_guests_from h_plan_guests_weakest h_plan_guests_strongest h_plan_guests_nerve x1 b_h b_h_plan_guests hu5) (st' := [.int u5.1]) (q0 := 0) qm_862 qm_863 qm_864 qm_73 qm_865 hd_X8_serveGuest ⟨rfl, rfl⟩ ⟨Nat.le_of_ble_eq_true rfl, Nat.le_of_ble_eq_true rfl⟩ rfl rfl (Nat.le_of_ble_eq_true rfl) rfl rfl rfl [0, 1, 2, 3, 4, 11, 12, 13, 14, 15, 16] rfl rfl (ws' := [zO h 4 [.ref h_reckoner, .ref h_plan, .int (X8_hour b_h), .int (X8_warmth b_h), .int u5.2.1, .int (X8_charge b_h), .int (X8_lemons b_h), .int (X8_saucers b_h), .int u5.2.2.1, .int (X8_storms b_h), .ref h_frontSteeped, .ref h_guestServed, .ref h_guestStormed], zZ T h_frontSteeped 10 (X8_frontSteeped b_h), zZ T h_guestServed 10 u5.2.2.2, zZ T h_guestStormed 10 (X8_guestStormed b_h), zO h_plan 3 [.ref h_plan_fronts, .ref h_plan_guests, .ref h_plan_orders], zO h_plan_fronts 0 [.ref h_plan_fronts_names, .ref h_plan_fronts_warm, .ref h_plan_fronts_force, .ref h_plan_fronts_from, .ref h_plan_fronts_hours, .int (X2_count b_h_plan_fronts)], zJ T h_plan_fronts_names 10 (X2_names b_h_plan_fronts), zZ T h_plan_fronts_warm 10 (X2_warm b_h_plan_fronts), zI T h_plan_fronts_force 10 (X2_force b_h_plan_fronts), zI T h_plan_fronts_from 10 (X2_from b_h_plan_fronts), zI T h_plan_fronts_hours 10 (X2_hours b_h_plan_fronts), zO h_plan_guests 1 [.ref h_plan_guests_names, .ref h_plan_guests_from, .ref h_plan_guests_weakest, .ref h_plan_guests_strongest, .ref h_plan_guests_nerve, .int (X4_count b_h_plan_guests)], zJ T h_plan_guests_names 10 (X4_names b_h_plan_guests), zI T h_plan_guests_from 10 (X4_from b_h_plan_guests), zI T h_plan_guests_weakest 10 (X4_weakest b_h_plan_guests), zI T h_plan_guests_strongest 10 (X4_strongest b_h_plan_guests), zI T h_plan_guests_nerve 10 (X4_nerve b_h_plan_guests)]) rfl rfl ⟨Nat.le_of_ble_eq_true rfl, Nat.le_of_ble_eq_true rfl⟩ dX8_follow_79 rfl ?_
      refine sx_pop X dX8_follow_82 rfl ?_
      refine sx_goto X 86 dX8_follow_83 rfl ?_
      exact sx_vret X dX8_follow_86 (ob_e hf) rfl rfl
    · have hf := ob_f hf c4
      by_cases c6 : (smap x0) = 35
      · have hf := ob_t hf c6
        refine sx_lookup X 61 (off := 53) (lin_X8_follow_8_2 (smap x0) c6) dX8_follow_8 (by decide) rfl ?_
        refine sx_aload_n X 0 rfl dX8_follow_61 rfl ?_
        obtain ⟨u7, hu7, hf⟩ := ob_c hf
        refine sx_cV X (c_X8_squeezeLemon (l := l) (D := D) (T := T) (sd := sd) h h_reckoner h_plan h_frontSteeped h_guestServed h_guestStormed b_h hu7) (st' := [.int u7.1]) (q0 := 0) qm_853 qm_854 qm_855 qm_73 qm_856 hd_X8_squeezeLemon ⟨rfl, rfl⟩ ⟨Nat.le_of_ble_eq_true rfl, Nat.le_of_ble_eq_true rfl⟩ rfl rfl (Nat.le_of_ble_eq_true rfl) rfl rfl rfl [0, 1, 2, 3] rfl rfl (ws' := [zO h 4 [.ref h_reckoner, .ref h_plan, .int (X8_hour b_h), .int (X8_warmth b_h), .int (X8_strength b_h), .int u7.2.1, .int u7.2.2, .int (X8_saucers b_h), .int (X8_coins b_h), .int (X8_storms b_h), .ref h_frontSteeped, .ref h_guestServed, .ref h_guestStormed], zZ T h_frontSteeped 10 (X8_frontSteeped b_h), zZ T h_guestServed 10 (X8_guestServed b_h), zZ T h_guestStormed 10 (X8_guestStormed b_h), zO h_plan 3 [.ref h_plan_fronts, .ref h_plan_guests, .ref h_plan_orders], zO h_plan_fronts 0 [.ref h_plan_fronts_names, .ref h_plan_fronts_warm, .ref h_plan_fronts_force, .ref h_plan_fronts_from, .ref h_plan_fronts_hours, .int (X2_count b_h_plan_fronts)], zJ T h_plan_fronts_names 10 (X2_names b_h_plan_fronts), zZ T h_plan_fronts_warm 10 (X2_warm b_h_plan_fronts), zI T h_plan_fronts_force 10 (X2_force b_h_plan_fronts), zI T h_plan_fronts_from 10 (X2_from b_h_plan_fronts), zI T h_plan_fronts_hours 10 (X2_hours b_h_plan_fronts), zO h_plan_guests 1 [.ref h_plan_guests_names, .ref h_plan_guests_from, .ref h_plan_guests_weakest, .ref h_plan_guests_strongest, .ref h_plan_guests_nerve, .int (X4_count b_h_plan_guests)], zJ T h_plan_guests_names 10 (X4_names b_h_plan_guests), zI T h_plan_guests_from 10 (X4_from b_h_plan_guests), zI T h_plan_guests_weakest 10 (X4_weakest b_h_plan_guests), zI T h_plan_guests_strongest 10 (X4_strongest b_h_plan_guests), zI T h_plan_guests_nerve 10 (X4_nerve b_h_plan_guests)]) rfl rfl ⟨Nat.le_of_ble_eq_true rfl, Nat.le_of_ble_eq_true rfl⟩ dX8_follow_62 rfl ?_
        refine sx_pop X dX8_follow_65 rfl ?_
        refine sx_goto X 86 dX8_follow_66 rfl ?_
        exact sx_vret X dX8_follow_86 (ob_e hf) rfl rfl
      · have hf := ob_f hf c6
        by_cases c8 : (smap x0) = 36
        · have hf := ob_t hf c8
          refine sx_lookup X 69 (off := 61) (lin_X8_follow_8_3 (smap x0) c8) dX8_follow_8 (by decide) rfl ?_
          refine sx_aload_n X 0 rfl dX8_follow_69 rfl ?_
          obtain ⟨u9, hu9, hf⟩ := ob_c hf
          refine sx_cV X (c_X8_putSaucer (l := l) (D := D) (T := T) (sd := sd) h h_reckoner h_plan h_frontSteeped h_guestServed h_guestStormed b_h hu9) (st' := [.int u9.1]) (q0 := 0) qm_857 qm_858 qm_859 qm_73 qm_860 hd_X8_putSaucer ⟨rfl, rfl⟩ ⟨Nat.le_of_ble_eq_true rfl, Nat.le_of_ble_eq_true rfl⟩ rfl rfl (Nat.le_of_ble_eq_true rfl) rfl rfl rfl [0, 1, 2, 3] rfl rfl (ws' := [zO h 4 [.ref h_reckoner, .ref h_plan, .int (X8_hour b_h), .int (X8_warmth b_h), .int (X8_strength b_h), .int u9.2.1, .int (X8_lemons b_h), .int u9.2.2, .int (X8_coins b_h), .int (X8_storms b_h), .ref h_frontSteeped, .ref h_guestServed, .ref h_guestStormed], zZ T h_frontSteeped 10 (X8_frontSteeped b_h), zZ T h_guestServed 10 (X8_guestServed b_h), zZ T h_guestStormed 10 (X8_guestStormed b_h), zO h_plan 3 [.ref h_plan_fronts, .ref h_plan_guests, .ref h_plan_orders], zO h_plan_fronts 0 [.ref h_plan_fronts_names, .ref h_plan_fronts_warm, .ref h_plan_fronts_force, .ref h_plan_fronts_from, .ref h_plan_fronts_hours, .int (X2_count b_h_plan_fronts)], zJ T h_plan_fronts_names 10 (X2_names b_h_plan_fronts), zZ T h_plan_fronts_warm 10 (X2_warm b_h_plan_fronts), zI T h_plan_fronts_force 10 (X2_force b_h_plan_fronts), zI T h_plan_fronts_from 10 (X2_from b_h_plan_fronts), zI T h_plan_fronts_hours 10 (X2_hours b_h_plan_fronts), zO h_plan_guests 1 [.ref h_plan_guests_names, .ref h_plan_guests_from, .ref h_plan_guests_weakest, .ref h_plan_guests_strongest, .ref h_plan_guests_nerve, .int (X4_count b_h_plan_guests)], zJ T h_plan_guests_names 10 (X4_names b_h_plan_guests), zI T h_plan_guests_from 10 (X4_from b_h_plan_guests), zI T h_plan_guests_weakest 10 (X4_weakest b_h_plan_guests), zI T h_plan_guests_strongest 10 (X4_strongest b_h_plan_guests), zI T h_plan_guests_nerve 10 (X4_nerve b_h_plan_guests)]) rfl rfl ⟨Nat.le_of_ble_eq_true rfl, Nat.le_of_ble_eq_true rfl⟩ dX8_follow_70 rfl ?_
          refine sx_pop X dX8_follow_73 rfl ?_
          refine sx_goto X 86 dX8_follow_74 rfl ?_
          exact sx_vret X dX8_follow_86 (ob_e hf) rfl rfl
        · have hf := ob_f hf c8
          refine sx_lookup X 86 (off := 78) (lk_X8_follow_8 (smap x0) c2 c4 c6 c8) dX8_follow_8 (by decide) rfl ?_
          exact sx_vret X dX8_follow_86 (ob_e hf) rfl rfl

abbrev vf_J6_compare_7cf53 (sd : SdT) (r : Int32) : Option Value := some (.int r)
abbrev wc_J6_compare_7cf53 (T : Nat → ClassId) (sd : SdT)  : va_W := []
abbrev wf_J6_compare_7cf53 (T : Nat → ClassId) (sd : SdT)  (r : Int32) : va_W := []
abbrev rm_J6_compare_7cf53 : Room := { frames := 0, cells := 0, slots := 0, locals := 0 }
theorem hd_J6_compare_7cf53 : yJ6_compare_7cf53.cls ≠ "java/lang/invoke/MethodHandle" ∧ yJ6_compare_7cf53.cls ≠ "java/lang/invoke/VarHandle" ∧ (parseMethodDescriptor yJ6_compare_7cf53.desc).map (fun d => d.parameters.length) = some 2 := ⟨by decide, by decide, by decide +kernel⟩
set_option maxHeartbeats 4000000 in
set_option maxRecDepth 100000 in
theorem c_J6_compare_7cf53 {l : Launch} {D : va_G} {T : Nat → ClassId} {sd : SdT}  (x0 : Int32) (x1 : Int32) {res : Int32} (hf : f_J6_compare_7cf53 x0 x1 = some res) : SxK (SFx sd) l D T yJ6_compare_7cf53 cJ6_compare_7cf53 2 (some .int) rm_J6_compare_7cf53 [.int x0, .int x1] (wc_J6_compare_7cf53 T sd ) (vf_J6_compare_7cf53 sd) (wf_J6_compare_7cf53 T sd ) res 0 0 := by
  refine sx_start (SFx_ok sd) (by decide +kernel) (Nat.le_of_ble_eq_true rfl) (fun p e s m args below meth c A X hnm => ?_)
  have hf := ob_1 hf
  refine sx_iload_n X 0 rfl dJ6_compare_7cf53_0 rfl ?_
  refine sx_iload_n X 1 rfl dJ6_compare_7cf53_1 rfl ?_
  refine sx_icmp_ge X 9 dJ6_compare_7cf53_2 rfl (fun c1 => ?_) (fun c1 => ?_)
  · have hf := ob_t hf c1
    refine sx_iload_n X 0 rfl dJ6_compare_7cf53_9 rfl ?_
    refine sx_iload_n X 1 rfl dJ6_compare_7cf53_10 rfl ?_
    refine sx_icmp_ne X 18 dJ6_compare_7cf53_11 rfl (fun c2 => ?_) (fun c2 => ?_)
    · have hf := ob_f hf c2
      refine sx_iconst X (v := 1) dJ6_compare_7cf53_18 rfl ?_
      exact sx_iret X rfl dJ6_compare_7cf53_19 (ob_e hf) rfl rfl
    · have hf := ob_t hf c2
      refine sx_iconst X (v := 0) dJ6_compare_7cf53_14 rfl ?_
      refine sx_goto X 19 dJ6_compare_7cf53_15 rfl ?_
      exact sx_iret X rfl dJ6_compare_7cf53_19 (ob_e hf) rfl rfl
  · have hf := ob_f hf c1
    refine sx_iconst X (v := (-1)) dJ6_compare_7cf53_5 rfl ?_
    refine sx_goto X 19 dJ6_compare_7cf53_6 rfl ?_
    exact sx_iret X rfl dJ6_compare_7cf53_19 (ob_e hf) rfl rfl
