/-! contracts, part 17 -/
abbrev vf_X9_push (sd : SdT) (_r : (Nat → Int32) × Int32) : Option Value := none
abbrev wc_X9_push (T : Nat → ClassId) (sd : SdT) (h : Nat) (h_stack : Nat) (b_h : bX9) : va_W := [zO h 5 [.ref h_stack, .int (X9_height b_h)], zI T h_stack 400 (X9_stack b_h)]
abbrev wf_X9_push (T : Nat → ClassId) (sd : SdT) (h : Nat) (h_stack : Nat) (b_h : bX9) (r : (Nat → Int32) × Int32) : va_W := [zO h 5 [.ref h_stack, .int r.2], zI T h_stack 400 r.1]
abbrev rm_X9_push : Room := { frames := 0, cells := 0, slots := 0, locals := 0 }
theorem hd_X9_push : yX9_push.cls ≠ "java/lang/invoke/MethodHandle" ∧ yX9_push.cls ≠ "java/lang/invoke/VarHandle" ∧ (parseMethodDescriptor yX9_push.desc).map (fun d => d.parameters.length) = some 1 := ⟨by decide, by decide, by decide +kernel⟩
set_option maxHeartbeats 4000000 in
set_option maxRecDepth 100000 in
theorem c_X9_push {l : Launch} {D : va_G} {T : Nat → ClassId} {sd : SdT} (h : Nat) (h_stack : Nat) (x0 : Int32) (b_h : bX9) {res : (Nat → Int32) × Int32} (hf : f_X9_push x0 b_h = some res) : SxK (SFx sd) l D T yX9_push cX9_push 2 none rm_X9_push [.ref h, .int x0] (wc_X9_push T sd h h_stack b_h) (vf_X9_push sd) (wf_X9_push T sd h h_stack b_h) res 0 0 := by
  refine sx_start (SFx_ok sd) (by decide +kernel) (Nat.le_of_ble_eq_true rfl) (fun p e s m args below meth c A X hnm => ?_)
  have hf := ob_1 hf
  refine sx_aload_n X 0 rfl dX9_push_0 rfl ?_
  refine sx_get X kX9 0 rfl 1 (Nat.le_of_ble_eq_true rfl) qm_173 rfl dX9_push_1 ?_
  refine sx_sipush X (v := 400) dX9_push_4 rfl ?_
  refine sx_icmp_ge X 30 dX9_push_7 rfl (fun c1 => ?_) (fun c1 => ?_)
  · have hf := ob_t hf c1
    exact sx_vret X dX9_push_30 (ob_e hf) rfl rfl
  · have hf := ob_f hf c1
    refine sx_aload_n X 0 rfl dX9_push_10 rfl ?_
    refine sx_get X kX9 0 rfl 0 (Nat.le_of_ble_eq_true rfl) qm_172 rfl dX9_push_11 ?_
    refine sx_aload_n X 0 rfl dX9_push_14 rfl ?_
    refine sx_get X kX9 0 rfl 1 (Nat.le_of_ble_eq_true rfl) qm_173 rfl dX9_push_15 ?_
    refine sx_iload_n X 1 rfl dX9_push_18 rfl ?_
    obtain ⟨g2, hf⟩ := ob_g hf
    refine sx_iast X (ws' := [zO h 5 [.ref h_stack, .int (X9_height b_h)], zI T h_stack 400 (upd (X9_stack b_h) (X9_height b_h).toNatClampNeg x0)]) 1 rfl g2 rfl dX9_push_19 ?_
    refine sx_aload_n X 0 rfl dX9_push_20 rfl ?_
    refine sx_dup X dX9_push_21 rfl ?_
    refine sx_get X kX9 0 rfl 1 (Nat.le_of_ble_eq_true rfl) qm_173 rfl dX9_push_22 ?_
    refine sx_iconst X (v := 1) dX9_push_25 rfl ?_
    refine sx_iadd X dX9_push_26 ?_
    refine sx_put X (ws' := [zO h 5 [.ref h_stack, .int ((X9_height b_h) + 1)], zI T h_stack 400 (upd (X9_stack b_h) (X9_height b_h).toNatClampNeg x0)]) kX9 0 rfl 1 (Nat.le_of_ble_eq_true rfl) qm_173 rfl rfl rfl (Nat.le_of_ble_eq_true rfl) rfl dX9_push_27 ?_
    exact sx_vret X dX9_push_30 (ob_e hf) rfl rfl

abbrev vf_X8_standsFor (sd : SdT) (r : Int32) : Option Value := some (.int r)
abbrev wc_X8_standsFor (T : Nat → ClassId) (sd : SdT) (h : Nat) (h_reckoner : Nat) (h_plan : Nat) (h_frontSteeped : Nat) (h_guestServed : Nat) (h_guestStormed : Nat) (h_plan_fronts : Nat) (h_plan_guests : Nat) (h_plan_orders : Nat) (h_plan_fronts_names : Nat) (h_plan_fronts_warm : Nat) (h_plan_fronts_force : Nat) (h_plan_fronts_from : Nat) (h_plan_fronts_hours : Nat) (h_plan_guests_names : Nat) (h_plan_guests_from : Nat) (h_plan_guests_weakest : Nat) (h_plan_guests_strongest : Nat) (h_plan_guests_nerve : Nat) (b_h : bX8) (b_h_plan_fronts : bX2) (b_h_plan_guests : bX4) : va_W := [zO h 4 [.ref h_reckoner, .ref h_plan, .int (X8_hour b_h), .int (X8_warmth b_h), .int (X8_strength b_h), .int (X8_charge b_h), .int (X8_lemons b_h), .int (X8_saucers b_h), .int (X8_coins b_h), .int (X8_storms b_h), .ref h_frontSteeped, .ref h_guestServed, .ref h_guestStormed], zZ T h_frontSteeped 10 (X8_frontSteeped b_h), zZ T h_guestServed 10 (X8_guestServed b_h), zZ T h_guestStormed 10 (X8_guestStormed b_h), zO h_plan 3 [.ref h_plan_fronts, .ref h_plan_guests, .ref h_plan_orders], zO h_plan_fronts 0 [.ref h_plan_fronts_names, .ref h_plan_fronts_warm, .ref h_plan_fronts_force, .ref h_plan_fronts_from, .ref h_plan_fronts_hours, .int (X2_count b_h_plan_fronts)], zJ T h_plan_fronts_names 10 (X2_names b_h_plan_fronts), zZ T h_plan_fronts_warm 10 (X2_warm b_h_plan_fronts), zI T h_plan_fronts_force 10 (X2_force b_h_plan_fronts), zI T h_plan_fronts_from 10 (X2_from b_h_plan_fronts), zI T h_plan_fronts_hours 10 (X2_hours b_h_plan_fronts), zO h_plan_guests 1 [.ref h_plan_guests_names, .ref h_plan_guests_from, .ref h_plan_guests_weakest, .ref h_plan_guests_strongest, .ref h_plan_guests_nerve, .int (X4_count b_h_plan_guests)], zJ T h_plan_guests_names 10 (X4_names b_h_plan_guests), zI T h_plan_guests_from 10 (X4_from b_h_plan_guests), zI T h_plan_guests_weakest 10 (X4_weakest b_h_plan_guests), zI T h_plan_guests_strongest 10 (X4_strongest b_h_plan_guests), zI T h_plan_guests_nerve 10 (X4_nerve b_h_plan_guests)]
abbrev wf_X8_standsFor (T : Nat → ClassId) (sd : SdT) (h : Nat) (h_reckoner : Nat) (h_plan : Nat) (h_frontSteeped : Nat) (h_guestServed : Nat) (h_guestStormed : Nat) (h_plan_fronts : Nat) (h_plan_guests : Nat) (h_plan_orders : Nat) (h_plan_fronts_names : Nat) (h_plan_fronts_warm : Nat) (h_plan_fronts_force : Nat) (h_plan_fronts_from : Nat) (h_plan_fronts_hours : Nat) (h_plan_guests_names : Nat) (h_plan_guests_from : Nat) (h_plan_guests_weakest : Nat) (h_plan_guests_strongest : Nat) (h_plan_guests_nerve : Nat) (b_h : bX8) (b_h_plan_fronts : bX2) (b_h_plan_guests : bX4) (r : Int32) : va_W := [zO h 4 [.ref h_reckoner, .ref h_plan, .int (X8_hour b_h), .int (X8_warmth b_h), .int (X8_strength b_h), .int (X8_charge b_h), .int (X8_lemons b_h), .int (X8_saucers b_h), .int (X8_coins b_h), .int (X8_storms b_h), .ref h_frontSteeped, .ref h_guestServed, .ref h_guestStormed], zZ T h_frontSteeped 10 (X8_frontSteeped b_h), zZ T h_guestServed 10 (X8_guestServed b_h), zZ T h_guestStormed 10 (X8_guestStormed b_h), zO h_plan 3 [.ref h_plan_fronts, .ref h_plan_guests, .ref h_plan_orders], zO h_plan_fronts 0 [.ref h_plan_fronts_names, .ref h_plan_fronts_warm, .ref h_plan_fronts_force, .ref h_plan_fronts_from, .ref h_plan_fronts_hours, .int (X2_count b_h_plan_fronts)], zJ T h_plan_fronts_names 10 (X2_names b_h_plan_fronts), zZ T h_plan_fronts_warm 10 (X2_warm b_h_plan_fronts), zI T h_plan_fronts_force 10 (X2_force b_h_plan_fronts), zI T h_plan_fronts_from 10 (X2_from b_h_plan_fronts), zI T h_plan_fronts_hours 10 (X2_hours b_h_plan_fronts), zO h_plan_guests 1 [.ref h_plan_guests_names, .ref h_plan_guests_from, .ref h_plan_guests_weakest, .ref h_plan_guests_strongest, .ref h_plan_guests_nerve, .int (X4_count b_h_plan_guests)], zJ T h_plan_guests_names 10 (X4_names b_h_plan_guests), zI T h_plan_guests_from 10 (X4_from b_h_plan_guests), zI T h_plan_guests_weakest 10 (X4_weakest b_h_plan_guests), zI T h_plan_guests_strongest 10 (X4_strongest b_h_plan_guests), zI T h_plan_guests_nerve 10 (X4_nerve b_h_plan_guests)]
abbrev rm_X8_standsFor : Room := { frames := 3, cells := 0, slots := 0, locals := 65 }
theorem hd_X8_standsFor : yX8_standsFor.cls ≠ "java/lang/invoke/MethodHandle" ∧ yX8_standsFor.cls ≠ "java/lang/invoke/VarHandle" ∧ (parseMethodDescriptor yX8_standsFor.desc).map (fun d => d.parameters.length) = some 2 := ⟨by decide, by decide, by decide +kernel⟩
theorem tin_X8_standsFor_8_0 (x : Int32) (h : x = 3) : SxIn (3) (14) #[130, 139, 148, 161, 64, 69, 74, 79, 84, 89, 94, 99] (130) x := by
  rcases h with rfl <;> exact ⟨by decide, by decide, by decide⟩
theorem tin_X8_standsFor_8_1 (x : Int32) (h : x = 4) : SxIn (3) (14) #[130, 139, 148, 161, 64, 69, 74, 79, 84, 89, 94, 99] (139) x := by
  rcases h with rfl <;> exact ⟨by decide, by decide, by decide⟩
theorem tin_X8_standsFor_8_2 (x : Int32) (h : x = 5) : SxIn (3) (14) #[130, 139, 148, 161, 64, 69, 74, 79, 84, 89, 94, 99] (148) x := by
  rcases h with rfl <;> exact ⟨by decide, by decide, by decide⟩
theorem tin_X8_standsFor_8_3 (x : Int32) (h : x = 7) : SxIn (3) (14) #[130, 139, 148, 161, 64, 69, 74, 79, 84, 89, 94, 99] (64) x := by
  rcases h with rfl <;> exact ⟨by decide, by decide, by decide⟩
theorem tin_X8_standsFor_8_4 (x : Int32) (h : x = 8) : SxIn (3) (14) #[130, 139, 148, 161, 64, 69, 74, 79, 84, 89, 94, 99] (69) x := by
  rcases h with rfl <;> exact ⟨by decide, by decide, by decide⟩
theorem tin_X8_standsFor_8_5 (x : Int32) (h : x = 9) : SxIn (3) (14) #[130, 139, 148, 161, 64, 69, 74, 79, 84, 89, 94, 99] (74) x := by
  rcases h with rfl <;> exact ⟨by decide, by decide, by decide⟩
theorem tin_X8_standsFor_8_6 (x : Int32) (h : x = 10) : SxIn (3) (14) #[130, 139, 148, 161, 64, 69, 74, 79, 84, 89, 94, 99] (79) x := by
  rcases h with rfl <;> exact ⟨by decide, by decide, by decide⟩
theorem tin_X8_standsFor_8_7 (x : Int32) (h : x = 11) : SxIn (3) (14) #[130, 139, 148, 161, 64, 69, 74, 79, 84, 89, 94, 99] (84) x := by
  rcases h with rfl <;> exact ⟨by decide, by decide, by decide⟩
theorem tin_X8_standsFor_8_8 (x : Int32) (h : x = 12) : SxIn (3) (14) #[130, 139, 148, 161, 64, 69, 74, 79, 84, 89, 94, 99] (89) x := by
  rcases h with rfl <;> exact ⟨by decide, by decide, by decide⟩
theorem tin_X8_standsFor_8_9 (x : Int32) (h : x = 13) : SxIn (3) (14) #[130, 139, 148, 161, 64, 69, 74, 79, 84, 89, 94, 99] (94) x := by
  rcases h with rfl <;> exact ⟨by decide, by decide, by decide⟩
theorem tin_X8_standsFor_8_10 (x : Int32) (h : x = 14) : SxIn (3) (14) #[130, 139, 148, 161, 64, 69, 74, 79, 84, 89, 94, 99] (99) x := by
  rcases h with rfl <;> exact ⟨by decide, by decide, by decide⟩
theorem tab_X8_standsFor_8 (x : Int32) (c0 : ¬ (x = 3)) (c1 : ¬ (x = 4)) (c2 : ¬ (x = 5)) (c3 : ¬ (x = 7)) (c4 : ¬ (x = 8)) (c5 : ¬ (x = 9)) (c6 : ¬ (x = 10)) (c7 : ¬ (x = 11)) (c8 : ¬ (x = 12)) (c9 : ¬ (x = 13)) (c10 : ¬ (x = 14)) : SxTab (3) (14) #[130, 139, 148, 161, 64, 69, 74, 79, 84, 89, 94, 99] (161) x := by
  rcases sx_rng (3) 12 x with h | ⟨j, hj, h⟩
  · exact Or.inl (by omega)
  · rcases (show j = 0 ∨ j = 1 ∨ j = 2 ∨ j = 3 ∨ j = 4 ∨ j = 5 ∨ j = 6 ∨ j = 7 ∨ j = 8 ∨ j = 9 ∨ j = 10 ∨ j = 11 by omega) with rfl | rfl | rfl | rfl | rfl | rfl | rfl | rfl | rfl | rfl | rfl | rfl
    · exact absurd (Int32.toInt_inj.mp (h.trans (by decide : (3 : Int) + ((0 : Nat) : Int) = Int32.toInt 3))) (fun q => c0 (by rw [q]; first | done | decide))
    · exact absurd (Int32.toInt_inj.mp (h.trans (by decide : (3 : Int) + ((1 : Nat) : Int) = Int32.toInt 4))) (fun q => c1 (by rw [q]; first | done | decide))
    · exact absurd (Int32.toInt_inj.mp (h.trans (by decide : (3 : Int) + ((2 : Nat) : Int) = Int32.toInt 5))) (fun q => c2 (by rw [q]; first | done | decide))
    · exact Or.inr ⟨by rw [h]; decide, by rw [h]; decide, by rw [h]; decide⟩
    · exact absurd (Int32.toInt_inj.mp (h.trans (by decide : (3 : Int) + ((4 : Nat) : Int) = Int32.toInt 7))) (fun q => c3 (by rw [q]; first | done | decide))
    · exact absurd (Int32.toInt_inj.mp (h.trans (by decide : (3 : Int) + ((5 : Nat) : Int) = Int32.toInt 8))) (fun q => c4 (by rw [q]; first | done | decide))
    · exact absurd (Int32.toInt_inj.mp (h.trans (by decide : (3 : Int) + ((6 : Nat) : Int) = Int32.toInt 9))) (fun q => c5 (by rw [q]; first | done | decide))
    · exact absurd (Int32.toInt_inj.mp (h.trans (by decide : (3 : Int) + ((7 : Nat) : Int) = Int32.toInt 10))) (fun q => c6 (by rw [q]; first | done | decide))
    · exact absurd (Int32.toInt_inj.mp (h.trans (by decide : (3 : Int) + ((8 : Nat) : Int) = Int32.toInt 11))) (fun q => c7 (by rw [q]; first | done | decide))
    · exact absurd (Int32.toInt_inj.mp (h.trans (by decide : (3 : Int) + ((9 : Nat) : Int) = Int32.toInt 12))) (fun q => c8 (by rw [q]; first | done | decide))
    · exact absurd (Int32.toInt_inj.mp (h.trans (by decide : (3 : Int) + ((10 : Nat) : Int) = Int32.toInt 13))) (fun q => c9 (by rw [q]; first | done | decide))
    · exact absurd (Int32.toInt_inj.mp (h.trans (by decide : (3 : Int) + ((11 : Nat) : Int) = Int32.toInt 14))) (fun q => c10 (by rw [q]; first | done | decide))
set_option maxHeartbeats 4000000 in
set_option maxRecDepth 100000 in
theorem c_X8_standsFor {l : Launch} {D : va_G} {T : Nat → ClassId} {sd : SdT} (h : Nat) (h_reckoner : Nat) (h_plan : Nat) (h_frontSteeped : Nat) (h_guestServed : Nat) (h_guestStormed : Nat) (h_plan_fronts : Nat) (h_plan_guests : Nat) (h_plan_orders : Nat) (h_plan_fronts_names : Nat) (h_plan_fronts_warm : Nat) (h_plan_fronts_force : Nat) (h_plan_fronts_from : Nat) (h_plan_fronts_hours : Nat) (h_plan_guests_names : Nat) (h_plan_guests_from : Nat) (h_plan_guests_weakest : Nat) (h_plan_guests_strongest : Nat) (h_plan_guests_nerve : Nat) (x0 : Nat) (x1 : Int32) (b_h : bX8) (b_h_plan_fronts : bX2) (b_h_plan_guests : bX4) {res : Int32} (hf : f_X8_standsFor x0 x1 b_h b_h_plan_fronts b_h_plan_guests = some res) : SxK (SFx sd) l D T yX8_standsFor cX8_standsFor 3 (some .int) rm_X8_standsFor [.ref h, .ref (sd.1 x0), .int x1] (wc_X8_standsFor T sd h h_reckoner h_plan h_frontSteeped h_guestServed h_guestStormed h_plan_fronts h_plan_guests h_plan_orders h_plan_fronts_names h_plan_fronts_warm h_plan_fronts_force h_plan_fronts_from h_plan_fronts_hours h_plan_guests_names h_plan_guests_from h_plan_guests_weakest h_plan_guests_strongest h_plan_guests_nerve b_h b_h_plan_fronts b_h_plan_guests) (vf_X8_standsFor sd) (wf_X8_standsFor T sd h h_reckoner h_plan h_frontSteeped h_guestServed h_guestStormed h_plan_fronts h_plan_guests h_plan_orders h_plan_fronts_names h_plan_fronts_warm h_plan_fronts_force h_plan_fronts_from h_plan_fronts_hours h_plan_guests_names h_plan_guests_from h_plan_guests_weakest h_plan_guests_strongest h_plan_guests_nerve b_h b_h_plan_fronts b_h_plan_guests) res 0 0 := by
  refine sx_start (SFx_ok sd) (by decide +kernel) (Nat.le_of_ble_eq_true rfl) (fun p e s m args below meth c A X hnm => ?_)
  have hf := ob_1 hf
  refine sx_mst X qm_806 dX8_standsFor_0 ?_
  refine sx_aload_n X 1 rfl dX8_standsFor_3 rfl ?_
  obtain ⟨g1, hf⟩ := ob_h hf
  refine sx_ord X x0 g1 qm_807 (Nat.le_of_ble_eq_true rfl) (Nat.le_of_ble_eq_true rfl) (Nat.le_of_ble_eq_true rfl) (Nat.zero_le _) (Nat.zero_le _) dX8_standsFor_4 ?_
  refine sx_mld X x0 g1 dX8_standsFor_7 ?_
  by_cases c2 : (smap x0) = 3
  · have hf := ob_t hf c2
    refine sx_tin X 138 dX8_standsFor_8 rfl (tin_X8_standsFor_8_0 (smap x0) c2) ?_
    refine sx_aload_n X 0 rfl dX8_standsFor_138 rfl ?_
    refine sx_iload_n X 2 rfl dX8_standsFor_139 rfl ?_
    obtain ⟨u3, hu3, hf⟩ := ob_c hf
    refine sx_cVr X (c_X8_hangsOver (l := l) (D := D) (T := T) (sd := sd) h h_reckoner h_plan h_frontSteeped h_guestServed h_guestStormed h_plan_fronts h_plan_guests h_plan_orders h_plan_fronts_names h_plan_fronts_warm h_plan_fronts_force h_plan_fronts_from h_plan_fronts_hours x1 b_h b_h_plan_fronts hu3) (st' := [.int u3]) (q0 := 0) qm_812 qm_813 qm_814 qm_73 qm_815 hd_X8_hangsOver ⟨rfl, rfl⟩ ⟨Nat.le_of_ble_eq_true rfl, Nat.le_of_ble_eq_true rfl⟩ rfl rfl (Nat.le_of_ble_eq_true rfl) rfl rfl rfl [0, 1, 2, 3, 4, 5, 6, 7, 8, 9, 10] rfl rfl rfl ⟨Nat.le_of_ble_eq_true rfl, Nat.le_of_ble_eq_true rfl⟩ dX8_standsFor_140 rfl ?_
    obtain ⟨u4, hu4, hf⟩ := ob_c hf
    refine sx_cNr X (c_X12_oneIf (l := l) (D := D) (T := T) (sd := sd) u3 hu4) (st' := [.int u4]) (X.sf.2.2.1.2.1 _ (List.mem_of_getElem? (i := 0) rfl)) qm_763 qm_68 qm_764 hd_X12_oneIf ⟨rfl, rfl⟩ ⟨Nat.le_of_ble_eq_true rfl, Nat.le_of_ble_eq_true rfl⟩ rfl rfl (Nat.le_of_ble_eq_true rfl) [] rfl rfl rfl ⟨Nat.le_of_ble_eq_true rfl, Nat.le_of_ble_eq_true rfl⟩ dX8_standsFor_143 rfl ?_
    exact sx_iret X rfl dX8_standsFor_146 (ob_e hf) rfl rfl
  · have hf := ob_f hf c2
    by_cases c5 : (smap x0) = 4
    · have hf := ob_t hf c5
      refine sx_tin X 147 dX8_standsFor_8 rfl (tin_X8_standsFor_8_1 (smap x0) c5) ?_
      refine sx_aload_n X 0 rfl dX8_standsFor_147 rfl ?_
      refine sx_iload_n X 2 rfl dX8_standsFor_148 rfl ?_
      obtain ⟨u6, hu6, hf⟩ := ob_c hf
      refine sx_cVr X (c_X8_sits (l := l) (D := D) (T := T) (sd := sd) h h_reckoner h_plan h_frontSteeped h_guestServed h_guestStormed h_plan_fronts h_plan_guests h_plan_orders h_plan_guests_names h_plan_guests_from h_plan_guests_weakest h_plan_guests_strongest h_plan_guests_nerve x1 b_h b_h_plan_guests hu6) (st' := [.int u6]) (q0 := 0) qm_817 qm_755 qm_756 qm_73 qm_757 hd_X8_sits ⟨rfl, rfl⟩ ⟨Nat.le_of_ble_eq_true rfl, Nat.le_of_ble_eq_true rfl⟩ rfl rfl (Nat.le_of_ble_eq_true rfl) rfl rfl rfl [0, 1, 2, 3, 4, 11, 12, 13, 14, 15, 16] rfl rfl rfl ⟨Nat.le_of_ble_eq_true rfl, Nat.le_of_ble_eq_true rfl⟩ dX8_standsFor_149 rfl ?_
      obtain ⟨u7, hu7, hf⟩ := ob_c hf
      refine sx_cNr X (c_X12_oneIf (l := l) (D := D) (T := T) (sd := sd) u6 hu7) (st' := [.int u7]) (X.sf.2.2.1.2.1 _ (List.mem_of_getElem? (i := 0) rfl)) qm_763 qm_68 qm_764 hd_X12_oneIf ⟨rfl, rfl⟩ ⟨Nat.le_of_ble_eq_true rfl, Nat.le_of_ble_eq_true rfl⟩ rfl rfl (Nat.le_of_ble_eq_true rfl) [] rfl rfl rfl ⟨Nat.le_of_ble_eq_true rfl, Nat.le_of_ble_eq_true rfl⟩ dX8_standsFor_152 rfl ?_
      exact sx_iret X rfl dX8_standsFor_155 (ob_e hf) rfl rfl
    · have hf := ob_f hf c5
      by_cases c8 : (smap x0) = 5
      · have hf := ob_t hf c8
        refine sx_tin X 156 dX8_standsFor_8 rfl (tin_X8_standsFor_8_2 (smap x0) c8) ?_
        refine sx_aload_n X 0 rfl dX8_standsFor_156 rfl ?_
        refine sx_iload_n X 2 rfl dX8_standsFor_157 rfl ?_
        refine sx_aload_n X 0 rfl dX8_standsFor_158 rfl ?_
        refine sx_get X kX8 0 rfl 4 (Nat.le_of_ble_eq_true rfl) qm_321 rfl dX8_standsFor_159 ?_
        obtain ⟨u9, hu9, hf⟩ := ob_c hf
        refine sx_cVr X (c_X8_wouldLike (l := l) (D := D) (T := T) (sd := sd) h h_reckoner h_plan h_frontSteeped h_guestServed h_guestStormed h_plan_fronts h_plan_guests h_plan_orders h_plan_guests_names h_plan_guests_from h_plan_guests_weakest h_plan_guests_strongest h_plan_guests_nerve x1 (X8_strength b_h) b_h b_h_plan_guests hu9) (st' := [.int u9]) (q0 := 0) qm_818 qm_819 qm_820 qm_73 qm_821 hd_X8_wouldLike ⟨rfl, rfl⟩ ⟨Nat.le_of_ble_eq_true rfl, Nat.le_of_ble_eq_true rfl⟩ rfl rfl (Nat.le_of_ble_eq_true rfl) rfl rfl rfl [0, 1, 2, 3, 4, 11, 12, 13, 14, 15, 16] rfl rfl rfl ⟨Nat.le_of_ble_eq_true rfl, Nat.le_of_ble_eq_true rfl⟩ dX8_standsFor_162 rfl ?_
        obtain ⟨u10, hu10, hf⟩ := ob_c hf
        refine sx_cNr X (c_X12_oneIf (l := l) (D := D) (T := T) (sd := sd) u9 hu10) (st' := [.int u10]) (X.sf.2.2.1.2.1 _ (List.mem_of_getElem? (i := 0) rfl)) qm_763 qm_68 qm_764 hd_X12_oneIf ⟨rfl, rfl⟩ ⟨Nat.le_of_ble_eq_true rfl, Nat.le_of_ble_eq_true rfl⟩ rfl rfl (Nat.le_of_ble_eq_true rfl) [] rfl rfl rfl ⟨Nat.le_of_ble_eq_true rfl, Nat.le_of_ble_eq_true rfl⟩ dX8_standsFor_165 rfl ?_
        exact sx_iret X rfl dX8_standsFor_168 (ob_e hf) rfl rfl
      · have hf := ob_f hf c8
        by_cases c11 : (smap x0) = 7
        · have hf := ob_t hf c11
          refine sx_tin X 72 dX8_standsFor_8 rfl (tin_X8_standsFor_8_3 (smap x0) c11) ?_
          refine sx_aload_n X 0 rfl dX8_standsFor_72 rfl ?_
          refine sx_get X kX8 0 rfl 2 (Nat.le_of_ble_eq_true rfl) qm_317 rfl dX8_standsFor_73 ?_
          exact sx_iret X rfl dX8_standsFor_76 (ob_e hf) rfl rfl
        · have hf := ob_f hf c11
          by_cases c12 : (smap x0) = 8
          · have hf := ob_t hf c12
            refine sx_tin X 77 dX8_standsFor_8 rfl (tin_X8_standsFor_8_4 (smap x0) c12) ?_
            refine sx_aload_n X 0 rfl dX8_standsFor_77 rfl ?_
            refine sx_get X kX8 0 rfl 3 (Nat.le_of_ble_eq_true rfl) qm_319 rfl dX8_standsFor_78 ?_
            exact sx_iret X rfl dX8_standsFor_81 (ob_e hf) rfl rfl
          · have hf := ob_f hf c12
            by_cases c13 : (smap x0) = 9
            · have hf := ob_t hf c13
              refine sx_tin X 82 dX8_standsFor_8 rfl (tin_X8_standsFor_8_5 (smap x0) c13) ?_
              refine sx_aload_n X 0 rfl dX8_standsFor_82 rfl ?_
              refine sx_get X kX8 0 rfl 4 (Nat.le_of_ble_eq_true rfl) qm_321 rfl dX8_standsFor_83 ?_
              exact sx_iret X rfl dX8_standsFor_86 (ob_e hf) rfl rfl
            · have hf := ob_f hf c13
              by_cases c14 : (smap x0) = 10
              · have hf := ob_t hf c14
                refine sx_tin X 87 dX8_standsFor_8 rfl (tin_X8_standsFor_8_6 (smap x0) c14) ?_
                refine sx_aload_n X 0 rfl dX8_standsFor_87 rfl ?_
                refine sx_get X kX8 0 rfl 5 (Nat.le_of_ble_eq_true rfl) qm_323 rfl dX8_standsFor_88 ?_
                exact sx_iret X rfl dX8_standsFor_91 (ob_e hf) rfl rfl
              · have hf := ob_f hf c14
                by_cases c15 : (smap x0) = 11
                · have hf := ob_t hf c15
                  refine sx_tin X 92 dX8_standsFor_8 rfl (tin_X8_standsFor_8_7 (smap x0) c15) ?_
                  refine sx_aload_n X 0 rfl dX8_standsFor_92 rfl ?_
                  refine sx_get X kX8 0 rfl 6 (Nat.le_of_ble_eq_true rfl) qm_325 rfl dX8_standsFor_93 ?_
                  exact sx_iret X rfl dX8_standsFor_96 (ob_e hf) rfl rfl
                · have hf := ob_f hf c15
                  by_cases c16 : (smap x0) = 12
                  · have hf := ob_t hf c16
                    refine sx_tin X 97 dX8_standsFor_8 rfl (tin_X8_standsFor_8_8 (smap x0) c16) ?_
                    refine sx_aload_n X 0 rfl dX8_standsFor_97 rfl ?_
                    refine sx_get X kX8 0 rfl 7 (Nat.le_of_ble_eq_true rfl) qm_327 rfl dX8_standsFor_98 ?_
                    exact sx_iret X rfl dX8_standsFor_101 (ob_e hf) rfl rfl
                  · have hf := ob_f hf c16
                    by_cases c17 : (smap x0) = 13
                    · have hf := ob_t hf c17
                      refine sx_tin X 102 dX8_standsFor_8 rfl (tin_X8_standsFor_8_9 (smap x0) c17) ?_
                      refine sx_aload_n X 0 rfl dX8_standsFor_102 rfl ?_
                      refine sx_get X kX8 0 rfl 9 (Nat.le_of_ble_eq_true rfl) qm_331 rfl dX8_standsFor_103 ?_
                      exact sx_iret X rfl dX8_standsFor_106 (ob_e hf) rfl rfl
                    · have hf := ob_f hf c17
                      by_cases c18 : (smap x0) = 14
                      · have hf := ob_t hf c18
                        refine sx_tin X 107 dX8_standsFor_8 rfl (tin_X8_standsFor_8_10 (smap x0) c18) ?_
                        refine sx_aload_n X 0 rfl dX8_standsFor_107 rfl ?_
                        refine sx_get X kX8 0 rfl 1 (Nat.le_of_ble_eq_true rfl) qm_315 rfl dX8_standsFor_108 ?_
                        refine sx_get X kX7 4 rfl 0 (Nat.le_of_ble_eq_true rfl) qm_297 rfl dX8_standsFor_111 ?_
                        refine sx_iload_n X 2 rfl dX8_standsFor_114 rfl ?_
                        obtain ⟨u19, hu19, hf⟩ := ob_c hf
                        refine sx_cVr X (c_X2_has (l := l) (D := D) (T := T) (sd := sd) h_plan_fronts h_plan_fronts_names h_plan_fronts_warm h_plan_fronts_force h_plan_fronts_from h_plan_fronts_hours x1 b_h_plan_fronts hu19) (st' := [.int u19]) (q0 := 5) qm_808 qm_809 qm_810 qm_76 qm_811 hd_X2_has ⟨rfl, rfl⟩ ⟨Nat.le_of_ble_eq_true rfl, Nat.le_of_ble_eq_true rfl⟩ rfl rfl (Nat.le_of_ble_eq_true rfl) rfl rfl rfl [5, 6, 7, 8, 9, 10] rfl rfl rfl ⟨Nat.le_of_ble_eq_true rfl, Nat.le_of_ble_eq_true rfl⟩ dX8_standsFor_115 rfl ?_
                        refine sx_if_eq X 136 dX8_standsFor_118 rfl (fun c20 => ?_) (fun c20 => ?_)
                        · have hf := ob_t hf c20
                          refine sx_iconst X (v := 0) dX8_standsFor_136 rfl ?_
                          exact sx_iret X rfl dX8_standsFor_137 (ob_e hf) rfl rfl
                        · have hf := ob_f hf c20
                          refine sx_aload_n X 0 rfl dX8_standsFor_121 rfl ?_
                          refine sx_get X kX8 0 rfl 1 (Nat.le_of_ble_eq_true rfl) qm_315 rfl dX8_standsFor_122 ?_
                          refine sx_get X kX7 4 rfl 0 (Nat.le_of_ble_eq_true rfl) qm_297 rfl dX8_standsFor_125 ?_
                          refine sx_get X kX2 5 rfl 2 (Nat.le_of_ble_eq_true rfl) qm_196 rfl dX8_standsFor_128 ?_
                          refine sx_iload_n X 2 rfl dX8_standsFor_131 rfl ?_
                          obtain ⟨g21, hf⟩ := ob_g hf
                          refine sx_iald X 8 rfl g21 dX8_standsFor_132 ?_
                          refine sx_goto X 137 dX8_standsFor_133 rfl ?_
                          exact sx_iret X rfl dX8_standsFor_137 (ob_e hf) rfl rfl
                      · have hf := ob_f hf c18
                        refine sx_tdef X 169 dX8_standsFor_8 rfl (tab_X8_standsFor_8 (smap x0) c2 c5 c8 c11 c12 c13 c14 c15 c16 c17 c18) ?_
                        refine sx_iconst X (v := 0) dX8_standsFor_169 rfl ?_
                        exact sx_iret X rfl dX8_standsFor_170 (ob_e hf) rfl rfl

abbrev vf_X9_pop (sd : SdT) (r : Int32 × Int32) : Option Value := some (.int r.1)
abbrev wc_X9_pop (T : Nat → ClassId) (sd : SdT) (h : Nat) (h_stack : Nat) (b_h : bX9) : va_W := [zO h 5 [.ref h_stack, .int (X9_height b_h)], zI T h_stack 400 (X9_stack b_h)]
abbrev wf_X9_pop (T : Nat → ClassId) (sd : SdT) (h : Nat) (h_stack : Nat) (b_h : bX9) (r : Int32 × Int32) : va_W := [zO h 5 [.ref h_stack, .int r.2], zI T h_stack 400 (X9_stack b_h)]
abbrev rm_X9_pop : Room := { frames := 0, cells := 0, slots := 0, locals := 0 }
theorem hd_X9_pop : yX9_pop.cls ≠ "java/lang/invoke/MethodHandle" ∧ yX9_pop.cls ≠ "java/lang/invoke/VarHandle" ∧ (parseMethodDescriptor yX9_pop.desc).map (fun d => d.parameters.length) = some 0 := ⟨by decide, by decide, by decide +kernel⟩
set_option maxHeartbeats 4000000 in
set_option maxRecDepth 100000 in
theorem c_X9_pop {l : Launch} {D : va_G} {T : Nat → ClassId} {sd : SdT} (h : Nat) (h_stack : Nat) (b_h : bX9) {res : Int32 × Int32} (hf : f_X9_pop b_h = some res) : SxK (SFx sd) l D T yX9_pop cX9_pop 1 (some .int) rm_X9_pop [.ref h] (wc_X9_pop T sd h h_stack b_h) (vf_X9_pop sd) (wf_X9_pop T sd h h_stack b_h) res 0 0 := by
  refine sx_start (SFx_ok sd) (by decide +kernel) (Nat.le_of_ble_eq_true rfl) (fun p e s m args below meth c A X hnm => ?_)
  have hf := ob_1 hf
  refine sx_aload_n X 0 rfl dX9_pop_0 rfl ?_
  refine sx_get X kX9 0 rfl 1 (Nat.le_of_ble_eq_true rfl) qm_173 rfl dX9_pop_1 ?_
  refine sx_if_gt X 9 dX9_pop_4 rfl (fun c1 => ?_) (fun c1 => ?_)
  · have hf := ob_t hf c1
    refine sx_aload_n X 0 rfl dX9_pop_9 rfl ?_
    refine sx_dup X dX9_pop_10 rfl ?_
    refine sx_get X kX9 0 rfl 1 (Nat.le_of_ble_eq_true rfl) qm_173 rfl dX9_pop_11 ?_
    refine sx_iconst X (v := 1) dX9_pop_14 rfl ?_
    refine sx_isub X dX9_pop_15 ?_
    refine sx_put X (ws' := [zO h 5 [.ref h_stack, .int ((X9_height b_h) - 1)], zI T h_stack 400 (X9_stack b_h)]) kX9 0 rfl 1 (Nat.le_of_ble_eq_true rfl) qm_173 rfl rfl rfl (Nat.le_of_ble_eq_true rfl) rfl dX9_pop_16 ?_
    refine sx_aload_n X 0 rfl dX9_pop_19 rfl ?_
    refine sx_get X kX9 0 rfl 0 (Nat.le_of_ble_eq_true rfl) qm_172 rfl dX9_pop_20 ?_
    refine sx_aload_n X 0 rfl dX9_pop_23 rfl ?_
    refine sx_get X kX9 0 rfl 1 (Nat.le_of_ble_eq_true rfl) qm_173 rfl dX9_pop_24 ?_
    obtain ⟨g2, hf⟩ := ob_g hf
    refine sx_iald X 1 rfl g2 dX9_pop_27 ?_
    exact sx_iret X rfl dX9_pop_28 (ob_e hf) rfl rfl
  · have hf := ob_f hf c1
    refine sx_iconst X (v := 0) dX9_pop_7 rfl ?_
    exact sx_iret X rfl dX9_pop_8 (ob_e hf) rfl rfl
