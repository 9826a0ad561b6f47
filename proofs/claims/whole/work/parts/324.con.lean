/-! contracts, part 24 -/
abbrev vf_X8_storm (sd : SdT) (_r : Int32 × Int32 × Int32 × (Nat → Int32)) : Option Value := none
abbrev wc_X8_storm (T : Nat → ClassId) (sd : SdT) (h : Nat) (h_reckoner : Nat) (h_plan : Nat) (h_frontSteeped : Nat) (h_guestServed : Nat) (h_guestStormed : Nat) (h_plan_fronts : Nat) (h_plan_guests : Nat) (h_plan_orders : Nat) (h_plan_guests_names : Nat) (h_plan_guests_from : Nat) (h_plan_guests_weakest : Nat) (h_plan_guests_strongest : Nat) (h_plan_guests_nerve : Nat) (b_h : bX8) (b_h_plan_guests : bX4) : va_W := [zO h 4 [.ref h_reckoner, .ref h_plan, .int (X8_hour b_h), .int (X8_warmth b_h), .int (X8_strength b_h), .int (X8_charge b_h), .int (X8_lemons b_h), .int (X8_saucers b_h), .int (X8_coins b_h), .int (X8_storms b_h), .ref h_frontSteeped, .ref h_guestServed, .ref h_guestStormed], zZ T h_frontSteeped 10 (X8_frontSteeped b_h), zZ T h_guestServed 10 (X8_guestServed b_h), zZ T h_guestStormed 10 (X8_guestStormed b_h), zO h_plan 3 [.ref h_plan_fronts, .ref h_plan_guests, .ref h_plan_orders], zO h_plan_guests 1 [.ref h_plan_guests_names, .ref h_plan_guests_from, .ref h_plan_guests_weakest, .ref h_plan_guests_strongest, .ref h_plan_guests_nerve, .int (X4_count b_h_plan_guests)], zJ T h_plan_guests_names 10 (X4_names b_h_plan_guests), zI T h_plan_guests_from 10 (X4_from b_h_plan_guests), zI T h_plan_guests_weakest 10 (X4_weakest b_h_plan_guests), zI T h_plan_guests_strongest 10 (X4_strongest b_h_plan_guests), zI T h_plan_guests_nerve 10 (X4_nerve b_h_plan_guests)]
abbrev wf_X8_storm (T : Nat → ClassId) (sd : SdT) (h : Nat) (h_reckoner : Nat) (h_plan : Nat) (h_frontSteeped : Nat) (h_guestServed : Nat) (h_guestStormed : Nat) (h_plan_fronts : Nat) (h_plan_guests : Nat) (h_plan_orders : Nat) (h_plan_guests_names : Nat) (h_plan_guests_from : Nat) (h_plan_guests_weakest : Nat) (h_plan_guests_strongest : Nat) (h_plan_guests_nerve : Nat) (b_h : bX8) (b_h_plan_guests : bX4) (r : Int32 × Int32 × Int32 × (Nat → Int32)) : va_W := [zO h 4 [.ref h_reckoner, .ref h_plan, .int (X8_hour b_h), .int (X8_warmth b_h), .int r.1, .int r.2.1, .int (X8_lemons b_h), .int (X8_saucers b_h), .int (X8_coins b_h), .int r.2.2.1, .ref h_frontSteeped, .ref h_guestServed, .ref h_guestStormed], zZ T h_frontSteeped 10 (X8_frontSteeped b_h), zZ T h_guestServed 10 (X8_guestServed b_h), zZ T h_guestStormed 10 r.2.2.2, zO h_plan 3 [.ref h_plan_fronts, .ref h_plan_guests, .ref h_plan_orders], zO h_plan_guests 1 [.ref h_plan_guests_names, .ref h_plan_guests_from, .ref h_plan_guests_weakest, .ref h_plan_guests_strongest, .ref h_plan_guests_nerve, .int (X4_count b_h_plan_guests)], zJ T h_plan_guests_names 10 (X4_names b_h_plan_guests), zI T h_plan_guests_from 10 (X4_from b_h_plan_guests), zI T h_plan_guests_weakest 10 (X4_weakest b_h_plan_guests), zI T h_plan_guests_strongest 10 (X4_strongest b_h_plan_guests), zI T h_plan_guests_nerve 10 (X4_nerve b_h_plan_guests)]
abbrev rm_X8_storm : Room := { frames := 2, cells := 0, slots := 0, locals := 43 }
theorem hd_X8_storm : yX8_storm.cls ≠ "java/lang/invoke/MethodHandle" ∧ yX8_storm.cls ≠ "java/lang/invoke/VarHandle" ∧ (parseMethodDescriptor yX8_storm.desc).map (fun d => d.parameters.length) = some 0 := ⟨by decide, by decide, by decide +kernel⟩
set_option maxHeartbeats 4000000 in
set_option maxRecDepth 100000 in
theorem c_X8_storm {l : Launch} {D : va_G} {T : Nat → ClassId} {sd : SdT} (h : Nat) (h_reckoner : Nat) (h_plan : Nat) (h_frontSteeped : Nat) (h_guestServed : Nat) (h_guestStormed : Nat) (h_plan_fronts : Nat) (h_plan_guests : Nat) (h_plan_orders : Nat) (h_plan_guests_names : Nat) (h_plan_guests_from : Nat) (h_plan_guests_weakest : Nat) (h_plan_guests_strongest : Nat) (h_plan_guests_nerve : Nat) (n : Nat) (b_h : bX8) (b_h_plan_guests : bX4) {res : Int32 × Int32 × Int32 × (Nat → Int32)} (hf : f_X8_storm n b_h b_h_plan_guests = some res) : SxK (SFx sd) l D T yX8_storm cX8_storm 2 none rm_X8_storm [.ref h] (wc_X8_storm T sd h h_reckoner h_plan h_frontSteeped h_guestServed h_guestStormed h_plan_fronts h_plan_guests h_plan_orders h_plan_guests_names h_plan_guests_from h_plan_guests_weakest h_plan_guests_strongest h_plan_guests_nerve b_h b_h_plan_guests) (vf_X8_storm sd) (wf_X8_storm T sd h h_reckoner h_plan h_frontSteeped h_guestServed h_guestStormed h_plan_fronts h_plan_guests h_plan_orders h_plan_guests_names h_plan_guests_from h_plan_guests_weakest h_plan_guests_strongest h_plan_guests_nerve b_h b_h_plan_guests) res 0 0 := by
  refine sx_start (SFx_ok sd) (by decide +kernel) (Nat.le_of_ble_eq_true rfl) (fun p e s m args below meth c A X hnm => ?_)
  have hf := ob_1 hf
  have L2 : ∀ (w_h_strength : Int32) (w_h_charge : Int32) (w_h_storms : Int32) (n0 : Nat) (v1 : Int32) (w_h_guestStormed : Nat → Int32), (iter (fun s : Int32 × (Nat → Int32) => f_X8_storm_L2 n b_h b_h_plan_guests s.1 w_h_strength w_h_charge w_h_storms s.2) n0 (v1, w_h_guestStormed)).bind some = some res → SxG p l e rm_X8_storm s m args below meth c D A 2 0 0 (SxE below args s D A (vf_X8_storm sd) (wf_X8_storm T sd h h_reckoner h_plan h_frontSteeped h_guestServed h_guestStormed h_plan_fronts h_plan_guests h_plan_orders h_plan_guests_names h_plan_guests_from h_plan_guests_weakest h_plan_guests_strongest h_plan_guests_nerve b_h b_h_plan_guests) res 0 0) [zO h 4 [.ref h_reckoner, .ref h_plan, .int (X8_hour b_h), .int (X8_warmth b_h), .int w_h_strength, .int w_h_charge, .int (X8_lemons b_h), .int (X8_saucers b_h), .int (X8_coins b_h), .int w_h_storms, .ref h_frontSteeped, .ref h_guestServed, .ref h_guestStormed], zZ T h_frontSteeped 10 (X8_frontSteeped b_h), zZ T h_guestServed 10 (X8_guestServed b_h), zZ T h_guestStormed 10 w_h_guestStormed, zO h_plan 3 [.ref h_plan_fronts, .ref h_plan_guests, .ref h_plan_orders], zO h_plan_guests 1 [.ref h_plan_guests_names, .ref h_plan_guests_from, .ref h_plan_guests_weakest, .ref h_plan_guests_strongest, .ref h_plan_guests_nerve, .int (X4_count b_h_plan_guests)], zJ T h_plan_guests_names 10 (X4_names b_h_plan_guests), zI T h_plan_guests_from 10 (X4_from b_h_plan_guests), zI T h_plan_guests_weakest 10 (X4_weakest b_h_plan_guests), zI T h_plan_guests_strongest 10 (X4_strongest b_h_plan_guests), zI T h_plan_guests_nerve 10 (X4_nerve b_h_plan_guests)] [(0, .ref h), (1, .int v1)] 2 [] := by
    intro w_h_strength w_h_charge w_h_storms n0
    induction n0 with
    | zero =>
      intro v1 w_h_guestStormed hf
      exact (iter_z hf).elim
    | succ n0 ih2 =>
      intro v1 w_h_guestStormed hf
      obtain ⟨κ2, hκ2, hf⟩ := iter_k hf
      have hf : (f_X8_storm_L2 n b_h b_h_plan_guests v1 w_h_strength w_h_charge w_h_storms w_h_guestStormed).bind κ2 = some res := hf
      refine sx_iload_n X 1 rfl dX8_storm_2 rfl ?_
      refine sx_aload_n X 0 rfl dX8_storm_3 rfl ?_
      refine sx_get X kX8 0 rfl 1 (Nat.le_of_ble_eq_true rfl) qm_315 rfl dX8_storm_4 ?_
      refine sx_get X kX7 4 rfl 1 (Nat.le_of_ble_eq_true rfl) qm_302 rfl dX8_storm_7 ?_
      refine sx_get X kX4 5 rfl 5 (Nat.le_of_ble_eq_true rfl) qm_239 rfl dX8_storm_10 ?_
      refine sx_icmp_ge X 56 dX8_storm_13 rfl (fun c1 => ?_) (fun c1 => ?_)
      · have hf := ob_t hf c1
        refine sx_aload_n X 0 rfl dX8_storm_56 rfl ?_
        refine sx_dup X dX8_storm_57 rfl ?_
        refine sx_get X kX8 0 rfl 9 (Nat.le_of_ble_eq_true rfl) qm_331 rfl dX8_storm_58 ?_
        refine sx_iconst X (v := 1) dX8_storm_61 rfl ?_
        refine sx_iadd X dX8_storm_62 ?_
        refine sx_put X (ws' := [zO h 4 [.ref h_reckoner, .ref h_plan, .int (X8_hour b_h), .int (X8_warmth b_h), .int w_h_strength, .int w_h_charge, .int (X8_lemons b_h), .int (X8_saucers b_h), .int (X8_coins b_h), .int (w_h_storms + 1), .ref h_frontSteeped, .ref h_guestServed, .ref h_guestStormed], zZ T h_frontSteeped 10 (X8_frontSteeped b_h), zZ T h_guestServed 10 (X8_guestServed b_h), zZ T h_guestStormed 10 w_h_guestStormed, zO h_plan 3 [.ref h_plan_fronts, .ref h_plan_guests, .ref h_plan_orders], zO h_plan_guests 1 [.ref h_plan_guests_names, .ref h_plan_guests_from, .ref h_plan_guests_weakest, .ref h_plan_guests_strongest, .ref h_plan_guests_nerve, .int (X4_count b_h_plan_guests)], zJ T h_plan_guests_names 10 (X4_names b_h_plan_guests), zI T h_plan_guests_from 10 (X4_from b_h_plan_guests), zI T h_plan_guests_weakest 10 (X4_weakest b_h_plan_guests), zI T h_plan_guests_strongest 10 (X4_strongest b_h_plan_guests), zI T h_plan_guests_nerve 10 (X4_nerve b_h_plan_guests)]) kX8 0 rfl 9 (Nat.le_of_ble_eq_true rfl) qm_331 rfl rfl rfl (Nat.le_of_ble_eq_true rfl) rfl dX8_storm_63 ?_
        refine sx_aload_n X 0 rfl dX8_storm_66 rfl ?_
        refine sx_dup X dX8_storm_67 rfl ?_
        refine sx_get X kX8 0 rfl 4 (Nat.le_of_ble_eq_true rfl) qm_321 rfl dX8_storm_68 ?_
        refine sx_iconst X (v := 2) dX8_storm_71 rfl ?_
        refine sx_idiv X (by decide) dX8_storm_72 ?_
        refine sx_put X (ws' := [zO h 4 [.ref h_reckoner, .ref h_plan, .int (X8_hour b_h), .int (X8_warmth b_h), .int (w_h_strength / 2), .int w_h_charge, .int (X8_lemons b_h), .int (X8_saucers b_h), .int (X8_coins b_h), .int (w_h_storms + 1), .ref h_frontSteeped, .ref h_guestServed, .ref h_guestStormed], zZ T h_frontSteeped 10 (X8_frontSteeped b_h), zZ T h_guestServed 10 (X8_guestServed b_h), zZ T h_guestStormed 10 w_h_guestStormed, zO h_plan 3 [.ref h_plan_fronts, .ref h_plan_guests, .ref h_plan_orders], zO h_plan_guests 1 [.ref h_plan_guests_names, .ref h_plan_guests_from, .ref h_plan_guests_weakest, .ref h_plan_guests_strongest, .ref h_plan_guests_nerve, .int (X4_count b_h_plan_guests)], zJ T h_plan_guests_names 10 (X4_names b_h_plan_guests), zI T h_plan_guests_from 10 (X4_from b_h_plan_guests), zI T h_plan_guests_weakest 10 (X4_weakest b_h_plan_guests), zI T h_plan_guests_strongest 10 (X4_strongest b_h_plan_guests), zI T h_plan_guests_nerve 10 (X4_nerve b_h_plan_guests)]) kX8 0 rfl 4 (Nat.le_of_ble_eq_true rfl) qm_321 rfl rfl rfl (Nat.le_of_ble_eq_true rfl) rfl dX8_storm_73 ?_
        refine sx_aload_n X 0 rfl dX8_storm_76 rfl ?_
        refine sx_dup X dX8_storm_77 rfl ?_
        refine sx_get X kX8 0 rfl 5 (Nat.le_of_ble_eq_true rfl) qm_323 rfl dX8_storm_78 ?_
        refine sx_bipush X (v := 12) dX8_storm_81 rfl ?_
        refine sx_isub X dX8_storm_83 ?_
        refine sx_put X (ws' := [zO h 4 [.ref h_reckoner, .ref h_plan, .int (X8_hour b_h), .int (X8_warmth b_h), .int (w_h_strength / 2), .int (w_h_charge - 12), .int (X8_lemons b_h), .int (X8_saucers b_h), .int (X8_coins b_h), .int (w_h_storms + 1), .ref h_frontSteeped, .ref h_guestServed, .ref h_guestStormed], zZ T h_frontSteeped 10 (X8_frontSteeped b_h), zZ T h_guestServed 10 (X8_guestServed b_h), zZ T h_guestStormed 10 w_h_guestStormed, zO h_plan 3 [.ref h_plan_fronts, .ref h_plan_guests, .ref h_plan_orders], zO h_plan_guests 1 [.ref h_plan_guests_names, .ref h_plan_guests_from, .ref h_plan_guests_weakest, .ref h_plan_guests_strongest, .ref h_plan_guests_nerve, .int (X4_count b_h_plan_guests)], zJ T h_plan_guests_names 10 (X4_names b_h_plan_guests), zI T h_plan_guests_from 10 (X4_from b_h_plan_guests), zI T h_plan_guests_weakest 10 (X4_weakest b_h_plan_guests), zI T h_plan_guests_strongest 10 (X4_strongest b_h_plan_guests), zI T h_plan_guests_nerve 10 (X4_nerve b_h_plan_guests)]) kX8 0 rfl 5 (Nat.le_of_ble_eq_true rfl) qm_323 rfl rfl rfl (Nat.le_of_ble_eq_true rfl) rfl dX8_storm_84 ?_
        have hf := ob_kr hκ2 hf
        exact sx_vret X dX8_storm_87 (ob_e hf) rfl rfl
      · have hf := ob_f hf c1
        refine sx_aload_n X 0 rfl dX8_storm_16 rfl ?_
        refine sx_iload_n X 1 rfl dX8_storm_17 rfl ?_
        obtain ⟨u3, hu3, hf⟩ := ob_c hf
        refine sx_cVr X (c_X8_sits (l := l) (D := D) (T := T) (sd := sd) h h_reckoner h_plan h_frontSteeped h_guestServed h_guestStormed h_plan_fronts h_plan_guests h_plan_orders h_plan_guests_names h_plan_guests_from h_plan_guests_weakest h_plan_guests_strongest h_plan_guests_nerve v1 ((X8_hour b_h), (X8_warmth b_h), w_h_strength, w_h_charge, (X8_lemons b_h), (X8_saucers b_h), (X8_coins b_h), w_h_storms, (X8_frontSteeped b_h), (X8_guestServed b_h), w_h_guestStormed) b_h_plan_guests hu3) (st' := [.int u3]) (q0 := 0) qm_817 qm_755 qm_756 qm_73 qm_757 hd_X8_sits ⟨rfl, rfl⟩ ⟨Nat.le_of_ble_eq_true rfl, Nat.le_of_ble_eq_true rfl⟩ rfl rfl (Nat.le_of_ble_eq_true rfl) rfl rfl rfl [0, 1, 2, 3, 4, 5, 6, 7, 8, 9, 10] rfl rfl rfl ⟨Nat.le_of_ble_eq_true rfl, Nat.le_of_ble_eq_true rfl⟩ dX8_storm_18 rfl ?_
        refine sx_if_eq X 50 dX8_storm_21 rfl (fun c4 => ?_) (fun c4 => ?_)
        · have hf := ob_t hf c4
          refine sx_iinc X (v := (v1 + 1)) (lv' := [(1, .int (v1 + 1)), (0, .ref h)]) 1 rfl dX8_storm_50 rfl (by decide) rfl ?_
          refine sx_goto X 2 dX8_storm_53 rfl ?_
          have hf := ob_k hκ2 hf
          refine sx_lsub [1, 0] rfl ?_
          exact ih2 (v1 + 1) w_h_guestStormed hf
        · have hf := ob_f hf c4
          refine sx_aload_n X 0 rfl dX8_storm_24 rfl ?_
          refine sx_get X kX8 0 rfl 1 (Nat.le_of_ble_eq_true rfl) qm_315 rfl dX8_storm_25 ?_
          refine sx_get X kX7 4 rfl 1 (Nat.le_of_ble_eq_true rfl) qm_302 rfl dX8_storm_28 ?_
          refine sx_get X kX4 5 rfl 4 (Nat.le_of_ble_eq_true rfl) qm_235 rfl dX8_storm_31 ?_
          refine sx_iload_n X 1 rfl dX8_storm_34 rfl ?_
          obtain ⟨g5, hf⟩ := ob_g hf
          refine sx_iald X 10 rfl g5 dX8_storm_35 ?_
          refine sx_aload_n X 0 rfl dX8_storm_36 rfl ?_
          refine sx_get X kX8 0 rfl 5 (Nat.le_of_ble_eq_true rfl) qm_323 rfl dX8_storm_37 ?_
          refine sx_icmp_ge X 50 dX8_storm_40 rfl (fun c6 => ?_) (fun c6 => ?_)
          · have hf := ob_t hf c6
            refine sx_iinc X (v := (v1 + 1)) (lv' := [(1, .int (v1 + 1)), (0, .ref h)]) 1 rfl dX8_storm_50 rfl (by decide) rfl ?_
            refine sx_goto X 2 dX8_storm_53 rfl ?_
            have hf := ob_k hκ2 hf
            refine sx_lsub [1, 0] rfl ?_
            exact ih2 (v1 + 1) w_h_guestStormed hf
          · have hf := ob_f hf c6
            refine sx_aload_n X 0 rfl dX8_storm_43 rfl ?_
            refine sx_get X kX8 0 rfl 12 (Nat.le_of_ble_eq_true rfl) qm_337 rfl dX8_storm_44 ?_
            refine sx_iload_n X 1 rfl dX8_storm_47 rfl ?_
            refine sx_iconst X (v := 1) dX8_storm_48 rfl ?_
            obtain ⟨g7, hf⟩ := ob_g hf
            refine sx_zast X (ws' := [zO h 4 [.ref h_reckoner, .ref h_plan, .int (X8_hour b_h), .int (X8_warmth b_h), .int w_h_strength, .int w_h_charge, .int (X8_lemons b_h), .int (X8_saucers b_h), .int (X8_coins b_h), .int w_h_storms, .ref h_frontSteeped, .ref h_guestServed, .ref h_guestStormed], zZ T h_frontSteeped 10 (X8_frontSteeped b_h), zZ T h_guestServed 10 (X8_guestServed b_h), zZ T h_guestStormed 10 (upd w_h_guestStormed v1.toNatClampNeg 1), zO h_plan 3 [.ref h_plan_fronts, .ref h_plan_guests, .ref h_plan_orders], zO h_plan_guests 1 [.ref h_plan_guests_names, .ref h_plan_guests_from, .ref h_plan_guests_weakest, .ref h_plan_guests_strongest, .ref h_plan_guests_nerve, .int (X4_count b_h_plan_guests)], zJ T h_plan_guests_names 10 (X4_names b_h_plan_guests), zI T h_plan_guests_from 10 (X4_from b_h_plan_guests), zI T h_plan_guests_weakest 10 (X4_weakest b_h_plan_guests), zI T h_plan_guests_strongest 10 (X4_strongest b_h_plan_guests), zI T h_plan_guests_nerve 10 (X4_nerve b_h_plan_guests)]) 3 rfl g7 rfl dX8_storm_49 ?_
            refine sx_iinc X (v := (v1 + 1)) (lv' := [(1, .int (v1 + 1)), (0, .ref h)]) 1 rfl dX8_storm_50 rfl (by decide) rfl ?_
            refine sx_goto X 2 dX8_storm_53 rfl ?_
            have hf := ob_k hκ2 hf
            refine sx_lsub [1, 0] rfl ?_
            exact ih2 (v1 + 1) (upd w_h_guestStormed v1.toNatClampNeg 1) hf
  refine sx_iconst X (v := 0) dX8_storm_0 rfl ?_
  refine sx_istore_n X (lv' := [(1, .int 0), (0, .ref h)]) dX8_storm_1 rfl (by decide) rfl ?_
  refine sx_lsub [1, 0] rfl ?_
  exact L2 (X8_strength b_h) (X8_charge b_h) (X8_storms b_h) n 0 (X8_guestStormed b_h) hf
