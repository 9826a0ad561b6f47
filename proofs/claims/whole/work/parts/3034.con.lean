/-! contracts, part 34 -/
abbrev vf_X14_storm (sd : SdT) (_r : (Nat → Int32)) : Option Value := none
abbrev wc_X14_storm (T : Nat → ClassId) (sd : SdT) (h : Nat) (h_tape : Nat) (h_kind : Nat) (h_number : Nat) (h_position : Nat) (h_length : Nat) (h_frontName : Nat) (h_guestName : Nat) (h_told : Nat) (h_fresh : Nat) (h_value : Nat) (h_now : Nat) (h_kept : Nat) (h_told_warm : Nat) (h_told_force : Nat) (h_told_comes : Nat) (h_told_stays : Nat) (h_told_sits : Nat) (h_told_low : Nat) (h_told_high : Nat) (h_told_nerve : Nat) (h_told_does : Nat) (h_told_whom : Nat) (h_told_from : Nat) (h_told_to : Nat) (h_told_test : Nat) (h_told_sort : Nat) (h_told_left : Nat) (h_told_right : Nat) (b_h : bX14) (b_h_told : bX13) : va_W := [zO h 10 [.int (X14_thrown b_h), .ref h_tape, .int (X14_bytes b_h), .int (X14_errorAt b_h), .ref h_kind, .ref h_number, .ref h_position, .ref h_length, .int (X14_token b_h), .int (X14_isWrong b_h), .int (X14_error b_h), .int (X14_errorToken b_h), .int (X14_deep b_h), .ref h_frontName, .ref h_guestName, .ref h_told, .ref h_fresh, .ref h_value, .ref h_now, .ref h_kept], zI T h_tape 2000 (X14_tape b_h), zI T h_kind 402 (X14_kind b_h), zI T h_number 402 (X14_number b_h), zI T h_position 402 (X14_position b_h), zI T h_length 402 (X14_length b_h), zI T h_frontName 10 (X14_frontName b_h), zI T h_guestName 10 (X14_guestName b_h), zI T h_value 800 (X14_value b_h), zI T h_now 58 (X14_now b_h), zI T h_kept 58 (X14_kept b_h), zO h_told 9 [.int (X13_fronts b_h_told), .ref h_told_warm, .ref h_told_force, .ref h_told_comes, .ref h_told_stays, .int (X13_guests b_h_told), .ref h_told_sits, .ref h_told_low, .ref h_told_high, .ref h_told_nerve, .int (X13_orders b_h_told), .ref h_told_does, .ref h_told_whom, .ref h_told_from, .ref h_told_to, .ref h_told_test, .int (X13_nodes b_h_told), .ref h_told_sort, .ref h_told_left, .ref h_told_right], zI T h_told_warm 11 (X13_warm b_h_told), zI T h_told_force 11 (X13_force b_h_told), zI T h_told_comes 11 (X13_comes b_h_told), zI T h_told_stays 11 (X13_stays b_h_told), zI T h_told_sits 11 (X13_sits b_h_told), zI T h_told_low 11 (X13_low b_h_told), zI T h_told_high 11 (X13_high b_h_told), zI T h_told_nerve 11 (X13_nerve b_h_told), zI T h_told_does 17 (X13_does b_h_told), zI T h_told_whom 17 (X13_whom b_h_told), zI T h_told_from 17 (X13_from b_h_told), zI T h_told_to 17 (X13_to b_h_told), zI T h_told_test 17 (X13_test b_h_told), zI T h_told_sort 800 (X13_sort b_h_told), zI T h_told_left 800 (X13_left b_h_told), zI T h_told_right 800 (X13_right b_h_told)]
abbrev wf_X14_storm (T : Nat → ClassId) (sd : SdT) (h : Nat) (h_tape : Nat) (h_kind : Nat) (h_number : Nat) (h_position : Nat) (h_length : Nat) (h_frontName : Nat) (h_guestName : Nat) (h_told : Nat) (h_fresh : Nat) (h_value : Nat) (h_now : Nat) (h_kept : Nat) (h_told_warm : Nat) (h_told_force : Nat) (h_told_comes : Nat) (h_told_stays : Nat) (h_told_sits : Nat) (h_told_low : Nat) (h_told_high : Nat) (h_told_nerve : Nat) (h_told_does : Nat) (h_told_whom : Nat) (h_told_from : Nat) (h_told_to : Nat) (h_told_test : Nat) (h_told_sort : Nat) (h_told_left : Nat) (h_told_right : Nat) (b_h : bX14) (b_h_told : bX13) (r : (Nat → Int32)) : va_W := [zO h 10 [.int (X14_thrown b_h), .ref h_tape, .int (X14_bytes b_h), .int (X14_errorAt b_h), .ref h_kind, .ref h_number, .ref h_position, .ref h_length, .int (X14_token b_h), .int (X14_isWrong b_h), .int (X14_error b_h), .int (X14_errorToken b_h), .int (X14_deep b_h), .ref h_frontName, .ref h_guestName, .ref h_told, .ref h_fresh, .ref h_value, .ref h_now, .ref h_kept], zI T h_tape 2000 (X14_tape b_h), zI T h_kind 402 (X14_kind b_h), zI T h_number 402 (X14_number b_h), zI T h_position 402 (X14_position b_h), zI T h_length 402 (X14_length b_h), zI T h_frontName 10 (X14_frontName b_h), zI T h_guestName 10 (X14_guestName b_h), zI T h_value 800 (X14_value b_h), zI T h_now 58 r, zI T h_kept 58 (X14_kept b_h), zO h_told 9 [.int (X13_fronts b_h_told), .ref h_told_warm, .ref h_told_force, .ref h_told_comes, .ref h_told_stays, .int (X13_guests b_h_told), .ref h_told_sits, .ref h_told_low, .ref h_told_high, .ref h_told_nerve, .int (X13_orders b_h_told), .ref h_told_does, .ref h_told_whom, .ref h_told_from, .ref h_told_to, .ref h_told_test, .int (X13_nodes b_h_told), .ref h_told_sort, .ref h_told_left, .ref h_told_right], zI T h_told_warm 11 (X13_warm b_h_told), zI T h_told_force 11 (X13_force b_h_told), zI T h_told_comes 11 (X13_comes b_h_told), zI T h_told_stays 11 (X13_stays b_h_told), zI T h_told_sits 11 (X13_sits b_h_told), zI T h_told_low 11 (X13_low b_h_told), zI T h_told_high 11 (X13_high b_h_told), zI T h_told_nerve 11 (X13_nerve b_h_told), zI T h_told_does 17 (X13_does b_h_told), zI T h_told_whom 17 (X13_whom b_h_told), zI T h_told_from 17 (X13_from b_h_told), zI T h_told_to 17 (X13_to b_h_told), zI T h_told_test 17 (X13_test b_h_told), zI T h_told_sort 800 (X13_sort b_h_told), zI T h_told_left 800 (X13_left b_h_told), zI T h_told_right 800 (X13_right b_h_told)]
abbrev rm_X14_storm : Room := { frames := 0, cells := 0, slots := 0, locals := 0 }
theorem hd_X14_storm : yX14_storm.cls ≠ "java/lang/invoke/MethodHandle" ∧ yX14_storm.cls ≠ "java/lang/invoke/VarHandle" ∧ (parseMethodDescriptor yX14_storm.desc).map (fun d => d.parameters.length) = some 0 := ⟨by decide, by decide, by decide +kernel⟩
set_option maxHeartbeats 4000000 in
set_option maxRecDepth 100000 in
theorem c_X14_storm {l : Launch} {D : va_G} {T : Nat → ClassId} {sd : SdT} (h : Nat) (h_tape : Nat) (h_kind : Nat) (h_number : Nat) (h_position : Nat) (h_length : Nat) (h_frontName : Nat) (h_guestName : Nat) (h_told : Nat) (h_fresh : Nat) (h_value : Nat) (h_now : Nat) (h_kept : Nat) (h_told_warm : Nat) (h_told_force : Nat) (h_told_comes : Nat) (h_told_stays : Nat) (h_told_sits : Nat) (h_told_low : Nat) (h_told_high : Nat) (h_told_nerve : Nat) (h_told_does : Nat) (h_told_whom : Nat) (h_told_from : Nat) (h_told_to : Nat) (h_told_test : Nat) (h_told_sort : Nat) (h_told_left : Nat) (h_told_right : Nat) (n : Nat) (b_h : bX14) (b_h_told : bX13) {res : (Nat → Int32)} (hf : f_X14_storm n b_h b_h_told = some res) : SxK (SFx sd) l D T yX14_storm cX14_storm 2 none rm_X14_storm [.ref h] (wc_X14_storm T sd h h_tape h_kind h_number h_position h_length h_frontName h_guestName h_told h_fresh h_value h_now h_kept h_told_warm h_told_force h_told_comes h_told_stays h_told_sits h_told_low h_told_high h_told_nerve h_told_does h_told_whom h_told_from h_told_to h_told_test h_told_sort h_told_left h_told_right b_h b_h_told) (vf_X14_storm sd) (wf_X14_storm T sd h h_tape h_kind h_number h_position h_length h_frontName h_guestName h_told h_fresh h_value h_now h_kept h_told_warm h_told_force h_told_comes h_told_stays h_told_sits h_told_low h_told_high h_told_nerve h_told_does h_told_whom h_told_from h_told_to h_told_test h_told_sort h_told_left h_told_right b_h b_h_told) res 0 0 := by
  refine sx_start (SFx_ok sd) (by decide +kernel) (Nat.le_of_ble_eq_true rfl) (fun p e s m args below meth c A X hnm => ?_)
  have hf := ob_1 hf
  have L14 : ∀ (n0 : Nat) (v1 : Int32) (w_h_now : Nat → Int32), (iter (fun s : Int32 × (Nat → Int32) => f_X14_storm_L14 n b_h b_h_told s.1 s.2) n0 (v1, w_h_now)).bind some = some res → SxG p l e rm_X14_storm s m args below meth c D A 2 0 0 (SxE below args s D A (vf_X14_storm sd) (wf_X14_storm T sd h h_tape h_kind h_number h_position h_length h_frontName h_guestName h_told h_fresh h_value h_now h_kept h_told_warm h_told_force h_told_comes h_told_stays h_told_sits h_told_low h_told_high h_told_nerve h_told_does h_told_whom h_told_from h_told_to h_told_test h_told_sort h_told_left h_told_right b_h b_h_told) res 0 0) [zO h 10 [.int (X14_thrown b_h), .ref h_tape, .int (X14_bytes b_h), .int (X14_errorAt b_h), .ref h_kind, .ref h_number, .ref h_position, .ref h_length, .int (X14_token b_h), .int (X14_isWrong b_h), .int (X14_error b_h), .int (X14_errorToken b_h), .int (X14_deep b_h), .ref h_frontName, .ref h_guestName, .ref h_told, .ref h_fresh, .ref h_value, .ref h_now, .ref h_kept], zI T h_tape 2000 (X14_tape b_h), zI T h_kind 402 (X14_kind b_h), zI T h_number 402 (X14_number b_h), zI T h_position 402 (X14_position b_h), zI T h_length 402 (X14_length b_h), zI T h_frontName 10 (X14_frontName b_h), zI T h_guestName 10 (X14_guestName b_h), zI T h_value 800 (X14_value b_h), zI T h_now 58 w_h_now, zI T h_kept 58 (X14_kept b_h), zO h_told 9 [.int (X13_fronts b_h_told), .ref h_told_warm, .ref h_told_force, .ref h_told_comes, .ref h_told_stays, .int (X13_guests b_h_told), .ref h_told_sits, .ref h_told_low, .ref h_told_high, .ref h_told_nerve, .int (X13_orders b_h_told), .ref h_told_does, .ref h_told_whom, .ref h_told_from, .ref h_told_to, .ref h_told_test, .int (X13_nodes b_h_told), .ref h_told_sort, .ref h_told_left, .ref h_told_right], zI T h_told_warm 11 (X13_warm b_h_told), zI T h_told_force 11 (X13_force b_h_told), zI T h_told_comes 11 (X13_comes b_h_told), zI T h_told_stays 11 (X13_stays b_h_told), zI T h_told_sits 11 (X13_sits b_h_told), zI T h_told_low 11 (X13_low b_h_told), zI T h_told_high 11 (X13_high b_h_told), zI T h_told_nerve 11 (X13_nerve b_h_told), zI T h_told_does 17 (X13_does b_h_told), zI T h_told_whom 17 (X13_whom b_h_told), zI T h_told_from 17 (X13_from b_h_told), zI T h_told_to 17 (X13_to b_h_told), zI T h_told_test 17 (X13_test b_h_told), zI T h_told_sort 800 (X13_sort b_h_told), zI T h_told_left 800 (X13_left b_h_told), zI T h_told_right 800 (X13_right b_h_told)] [(0, .ref h), (1, .int v1)] 14 [] := by
    intro n0
    induction n0 with
    | zero =>
      intro v1 w_h_now hf
      exact (iter_z hf).elim
    | succ n0 ih14 =>
      intro v1 w_h_now hf
      obtain ⟨κ14, hκ14, hf⟩ := iter_k hf
      have hf : (f_X14_storm_L14 n b_h b_h_told v1 w_h_now).bind κ14 = some res := hf
      refine sx_iload_n X 1 rfl dX14_storm_14 rfl ?_
      refine sx_aload_n X 0 rfl dX14_storm_15 rfl ?_
      refine sx_get X kX14 0 rfl 15 (Nat.le_of_ble_eq_true rfl) qm_1283 rfl dX14_storm_16 ?_
      refine sx_getN X kX13 11 rfl 5 (Nat.le_of_ble_eq_true rfl) (List.mem_of_getElem? (i := 6) rfl) rfl dX14_storm_19 ?_
      refine sx_icmp_ge X 84 dX14_storm_22 rfl (fun c3 => ?_) (fun c3 => ?_)
      · have hf := ob_t hf c3
        refine sx_aload_n X 0 rfl dX14_storm_84 rfl ?_
        refine sx_get X kX14 0 rfl 18 (Nat.le_of_ble_eq_true rfl) qm_1286 rfl dX14_storm_85 ?_
        refine sx_iconst X (v := 2) dX14_storm_88 rfl ?_
        refine sx_dup2 X dX14_storm_89 rfl rfl ?_
        obtain ⟨g4, hf⟩ := ob_g hf
        refine sx_iald X 9 rfl g4 dX14_storm_90 ?_
        refine sx_iconst X (v := 2) dX14_storm_91 rfl ?_
        refine sx_idiv X (by decide) dX14_storm_92 ?_
        obtain ⟨g6, hf⟩ := ob_g hf
        refine sx_iast X (ws' := [zO h 10 [.int (X14_thrown b_h), .ref h_tape, .int (X14_bytes b_h), .int (X14_errorAt b_h), .ref h_kind, .ref h_number, .ref h_position, .ref h_length, .int (X14_token b_h), .int (X14_isWrong b_h), .int (X14_error b_h), .int (X14_errorToken b_h), .int (X14_deep b_h), .ref h_frontName, .ref h_guestName, .ref h_told, .ref h_fresh, .ref h_value, .ref h_now, .ref h_kept], zI T h_tape 2000 (X14_tape b_h), zI T h_kind 402 (X14_kind b_h), zI T h_number 402 (X14_number b_h), zI T h_position 402 (X14_position b_h), zI T h_length 402 (X14_length b_h), zI T h_frontName 10 (X14_frontName b_h), zI T h_guestName 10 (X14_guestName b_h), zI T h_value 800 (X14_value b_h), zI T h_now 58 (upd w_h_now (2 : Int32).toNatClampNeg ((w_h_now (2 : Int32).toNatClampNeg) / 2)), zI T h_kept 58 (X14_kept b_h), zO h_told 9 [.int (X13_fronts b_h_told), .ref h_told_warm, .ref h_told_force, .ref h_told_comes, .ref h_told_stays, .int (X13_guests b_h_told), .ref h_told_sits, .ref h_told_low, .ref h_told_high, .ref h_told_nerve, .int (X13_orders b_h_told), .ref h_told_does, .ref h_told_whom, .ref h_told_from, .ref h_told_to, .ref h_told_test, .int (X13_nodes b_h_told), .ref h_told_sort, .ref h_told_left, .ref h_told_right], zI T h_told_warm 11 (X13_warm b_h_told), zI T h_told_force 11 (X13_force b_h_told), zI T h_told_comes 11 (X13_comes b_h_told), zI T h_told_stays 11 (X13_stays b_h_told), zI T h_told_sits 11 (X13_sits b_h_told), zI T h_told_low 11 (X13_low b_h_told), zI T h_told_high 11 (X13_high b_h_told), zI T h_told_nerve 11 (X13_nerve b_h_told), zI T h_told_does 17 (X13_does b_h_told), zI T h_told_whom 17 (X13_whom b_h_told), zI T h_told_from 17 (X13_from b_h_told), zI T h_told_to 17 (X13_to b_h_told), zI T h_told_test 17 (X13_test b_h_told), zI T h_told_sort 800 (X13_sort b_h_told), zI T h_told_left 800 (X13_left b_h_told), zI T h_told_right 800 (X13_right b_h_told)]) 9 rfl g6 rfl dX14_storm_93 ?_
        refine sx_aload_n X 0 rfl dX14_storm_94 rfl ?_
        refine sx_get X kX14 0 rfl 18 (Nat.le_of_ble_eq_true rfl) qm_1286 rfl dX14_storm_95 ?_
        refine sx_iconst X (v := 3) dX14_storm_98 rfl ?_
        refine sx_dup2 X dX14_storm_99 rfl rfl ?_
        obtain ⟨g7, hf⟩ := ob_g hf
        refine sx_iald X 9 rfl g7 dX14_storm_100 ?_
        refine sx_bipush X (v := 12) dX14_storm_101 rfl ?_
        refine sx_isub X dX14_storm_103 ?_
        obtain ⟨g8, hf⟩ := ob_g hf
        refine sx_iast X (ws' := [zO h 10 [.int (X14_thrown b_h), .ref h_tape, .int (X14_bytes b_h), .int (X14_errorAt b_h), .ref h_kind, .ref h_number, .ref h_position, .ref h_length, .int (X14_token b_h), .int (X14_isWrong b_h), .int (X14_error b_h), .int (X14_errorToken b_h), .int (X14_deep b_h), .ref h_frontName, .ref h_guestName, .ref h_told, .ref h_fresh, .ref h_value, .ref h_now, .ref h_kept], zI T h_tape 2000 (X14_tape b_h), zI T h_kind 402 (X14_kind b_h), zI T h_number 402 (X14_number b_h), zI T h_position 402 (X14_position b_h), zI T h_length 402 (X14_length b_h), zI T h_frontName 10 (X14_frontName b_h), zI T h_guestName 10 (X14_guestName b_h), zI T h_value 800 (X14_value b_h), zI T h_now 58 (upd (upd w_h_now (2 : Int32).toNatClampNeg ((w_h_now (2 : Int32).toNatClampNeg) / 2)) (3 : Int32).toNatClampNeg (((upd w_h_now (2 : Int32).toNatClampNeg ((w_h_now (2 : Int32).toNatClampNeg) / 2)) (3 : Int32).toNatClampNeg) - 12)), zI T h_kept 58 (X14_kept b_h), zO h_told 9 [.int (X13_fronts b_h_told), .ref h_told_warm, .ref h_told_force, .ref h_told_comes, .ref h_told_stays, .int (X13_guests b_h_told), .ref h_told_sits, .ref h_told_low, .ref h_told_high, .ref h_told_nerve, .int (X13_orders b_h_told), .ref h_told_does, .ref h_told_whom, .ref h_told_from, .ref h_told_to, .ref h_told_test, .int (X13_nodes b_h_told), .ref h_told_sort, .ref h_told_left, .ref h_told_right], zI T h_told_warm 11 (X13_warm b_h_told), zI T h_told_force 11 (X13_force b_h_told), zI T h_told_comes 11 (X13_comes b_h_told), zI T h_told_stays 11 (X13_stays b_h_told), zI T h_told_sits 11 (X13_sits b_h_told), zI T h_told_low 11 (X13_low b_h_told), zI T h_told_high 11 (X13_high b_h_told), zI T h_told_nerve 11 (X13_nerve b_h_told), zI T h_told_does 17 (X13_does b_h_told), zI T h_told_whom 17 (X13_whom b_h_told), zI T h_told_from 17 (X13_from b_h_told), zI T h_told_to 17 (X13_to b_h_told), zI T h_told_test 17 (X13_test b_h_told), zI T h_told_sort 800 (X13_sort b_h_told), zI T h_told_left 800 (X13_left b_h_told), zI T h_told_right 800 (X13_right b_h_told)]) 9 rfl g8 rfl dX14_storm_104 ?_
        refine sx_aload_n X 0 rfl dX14_storm_105 rfl ?_
        refine sx_get X kX14 0 rfl 18 (Nat.le_of_ble_eq_true rfl) qm_1286 rfl dX14_storm_106 ?_
        refine sx_bipush X (v := 6) dX14_storm_109 rfl ?_
        refine sx_dup2 X dX14_storm_111 rfl rfl ?_
        obtain ⟨g9, hf⟩ := ob_g hf
        refine sx_iald X 9 rfl g9 dX14_storm_112 ?_
        refine sx_iconst X (v := 1) dX14_storm_113 rfl ?_
        refine sx_iadd X dX14_storm_114 ?_
        obtain ⟨g10, hf⟩ := ob_g hf
        refine sx_iast X (ws' := [zO h 10 [.int (X14_thrown b_h), .ref h_tape, .int (X14_bytes b_h), .int (X14_errorAt b_h), .ref h_kind, .ref h_number, .ref h_position, .ref h_length, .int (X14_token b_h), .int (X14_isWrong b_h), .int (X14_error b_h), .int (X14_errorToken b_h), .int (X14_deep b_h), .ref h_frontName, .ref h_guestName, .ref h_told, .ref h_fresh, .ref h_value, .ref h_now, .ref h_kept], zI T h_tape 2000 (X14_tape b_h), zI T h_kind 402 (X14_kind b_h), zI T h_number 402 (X14_number b_h), zI T h_position 402 (X14_position b_h), zI T h_length 402 (X14_length b_h), zI T h_frontName 10 (X14_frontName b_h), zI T h_guestName 10 (X14_guestName b_h), zI T h_value 800 (X14_value b_h), zI T h_now 58 (upd (upd (upd w_h_now (2 : Int32).toNatClampNeg ((w_h_now (2 : Int32).toNatClampNeg) / 2)) (3 : Int32).toNatClampNeg (((upd w_h_now (2 : Int32).toNatClampNeg ((w_h_now (2 : Int32).toNatClampNeg) / 2)) (3 : Int32).toNatClampNeg) - 12)) (6 : Int32).toNatClampNeg (((upd (upd w_h_now (2 : Int32).toNatClampNeg ((w_h_now (2 : Int32).toNatClampNeg) / 2)) (3 : Int32).toNatClampNeg (((upd w_h_now (2 : Int32).toNatClampNeg ((w_h_now (2 : Int32).toNatClampNeg) / 2)) (3 : Int32).toNatClampNeg) - 12)) (6 : Int32).toNatClampNeg) + 1)), zI T h_kept 58 (X14_kept b_h), zO h_told 9 [.int (X13_fronts b_h_told), .ref h_told_warm, .ref h_told_force, .ref h_told_comes, .ref h_told_stays, .int (X13_guests b_h_told), .ref h_told_sits, .ref h_told_low, .ref h_told_high, .ref h_told_nerve, .int (X13_orders b_h_told), .ref h_told_does, .ref h_told_whom, .ref h_told_from, .ref h_told_to, .ref h_told_test, .int (X13_nodes b_h_told), .ref h_told_sort, .ref h_told_left, .ref h_told_right], zI T h_told_warm 11 (X13_warm b_h_told), zI T h_told_force 11 (X13_force b_h_told), zI T h_told_comes 11 (X13_comes b_h_told), zI T h_told_stays 11 (X13_stays b_h_told), zI T h_told_sits 11 (X13_sits b_h_told), zI T h_told_low 11 (X13_low b_h_told), zI T h_told_high 11 (X13_high b_h_told), zI T h_told_nerve 11 (X13_nerve b_h_told), zI T h_told_does 17 (X13_does b_h_told), zI T h_told_whom 17 (X13_whom b_h_told), zI T h_told_from 17 (X13_from b_h_told), zI T h_told_to 17 (X13_to b_h_told), zI T h_told_test 17 (X13_test b_h_told), zI T h_told_sort 800 (X13_sort b_h_told), zI T h_told_left 800 (X13_left b_h_told), zI T h_told_right 800 (X13_right b_h_told)]) 9 rfl g10 rfl dX14_storm_115 ?_
        have hf := ob_kr hκ14 hf
        exact sx_vret X dX14_storm_116 (ob_e hf) rfl rfl
      · have hf := ob_f hf c3
        refine sx_aload_n X 0 rfl dX14_storm_25 rfl ?_
        refine sx_get X kX14 0 rfl 18 (Nat.le_of_ble_eq_true rfl) qm_1286 rfl dX14_storm_26 ?_
        refine sx_bipush X (v := 28) dX14_storm_29 rfl ?_
        refine sx_iload_n X 1 rfl dX14_storm_31 rfl ?_
        refine sx_iadd X dX14_storm_32 ?_
        obtain ⟨g11, hf⟩ := ob_g hf
        refine sx_iald X 9 rfl g11 dX14_storm_33 ?_
        refine sx_if_eq X 78 dX14_storm_34 rfl (fun c12 => ?_) (fun c12 => ?_)
        · have hf := ob_t hf c12
          refine sx_iinc X (v := (v1 + 1)) (lv' := [(1, .int (v1 + 1)), (0, .ref h)]) 1 rfl dX14_storm_78 rfl (by decide) rfl ?_
          refine sx_goto X 14 dX14_storm_81 rfl ?_
          have hf := ob_k hκ14 hf
          refine sx_lsub [1, 0] rfl ?_
          exact ih14 (v1 + 1) w_h_now hf
        · have hf := ob_f hf c12
          refine sx_aload_n X 0 rfl dX14_storm_37 rfl ?_
          refine sx_get X kX14 0 rfl 15 (Nat.le_of_ble_eq_true rfl) qm_1283 rfl dX14_storm_38 ?_
          refine sx_getN X kX13 11 rfl 9 (Nat.le_of_ble_eq_true rfl) (List.mem_of_getElem? (i := 10) rfl) rfl dX14_storm_41 ?_
          refine sx_iload_n X 1 rfl dX14_storm_44 rfl ?_
          obtain ⟨g13, hf⟩ := ob_g hf
          refine sx_iald X 19 rfl g13 dX14_storm_45 ?_
          refine sx_aload_n X 0 rfl dX14_storm_46 rfl ?_
          refine sx_get X kX14 0 rfl 18 (Nat.le_of_ble_eq_true rfl) qm_1286 rfl dX14_storm_47 ?_
          refine sx_iconst X (v := 3) dX14_storm_50 rfl ?_
          obtain ⟨g14, hf⟩ := ob_g hf
          refine sx_iald X 9 rfl g14 dX14_storm_51 ?_
          refine sx_icmp_lt X 58 dX14_storm_52 rfl (fun c15 => ?_) (fun c15 => ?_)
          · have hf := ob_t hf c15
            refine sx_aload_n X 0 rfl dX14_storm_58 rfl ?_
            refine sx_get X kX14 0 rfl 18 (Nat.le_of_ble_eq_true rfl) qm_1286 rfl dX14_storm_59 ?_
            refine sx_bipush X (v := 28) dX14_storm_62 rfl ?_
            refine sx_iload_n X 1 rfl dX14_storm_64 rfl ?_
            refine sx_iadd X dX14_storm_65 ?_
            refine sx_iconst X (v := 0) dX14_storm_66 rfl ?_
            obtain ⟨g16, hf⟩ := ob_g hf
            refine sx_iast X (ws' := [zO h 10 [.int (X14_thrown b_h), .ref h_tape, .int (X14_bytes b_h), .int (X14_errorAt b_h), .ref h_kind, .ref h_number, .ref h_position, .ref h_length, .int (X14_token b_h), .int (X14_isWrong b_h), .int (X14_error b_h), .int (X14_errorToken b_h), .int (X14_deep b_h), .ref h_frontName, .ref h_guestName, .ref h_told, .ref h_fresh, .ref h_value, .ref h_now, .ref h_kept], zI T h_tape 2000 (X14_tape b_h), zI T h_kind 402 (X14_kind b_h), zI T h_number 402 (X14_number b_h), zI T h_position 402 (X14_position b_h), zI T h_length 402 (X14_length b_h), zI T h_frontName 10 (X14_frontName b_h), zI T h_guestName 10 (X14_guestName b_h), zI T h_value 800 (X14_value b_h), zI T h_now 58 (upd w_h_now (28 + v1).toNatClampNeg 0), zI T h_kept 58 (X14_kept b_h), zO h_told 9 [.int (X13_fronts b_h_told), .ref h_told_warm, .ref h_told_force, .ref h_told_comes, .ref h_told_stays, .int (X13_guests b_h_told), .ref h_told_sits, .ref h_told_low, .ref h_told_high, .ref h_told_nerve, .int (X13_orders b_h_told), .ref h_told_does, .ref h_told_whom, .ref h_told_from, .ref h_told_to, .ref h_told_test, .int (X13_nodes b_h_told), .ref h_told_sort, .ref h_told_left, .ref h_told_right], zI T h_told_warm 11 (X13_warm b_h_told), zI T h_told_force 11 (X13_force b_h_told), zI T h_told_comes 11 (X13_comes b_h_told), zI T h_told_stays 11 (X13_stays b_h_told), zI T h_told_sits 11 (X13_sits b_h_told), zI T h_told_low 11 (X13_low b_h_told), zI T h_told_high 11 (X13_high b_h_told), zI T h_told_nerve 11 (X13_nerve b_h_told), zI T h_told_does 17 (X13_does b_h_told), zI T h_told_whom 17 (X13_whom b_h_told), zI T h_told_from 17 (X13_from b_h_told), zI T h_told_to 17 (X13_to b_h_told), zI T h_told_test 17 (X13_test b_h_told), zI T h_told_sort 800 (X13_sort b_h_told), zI T h_told_left 800 (X13_left b_h_told), zI T h_told_right 800 (X13_right b_h_told)]) 9 rfl g16 rfl dX14_storm_67 ?_
            refine sx_aload_n X 0 rfl dX14_storm_68 rfl ?_
            refine sx_get X kX14 0 rfl 18 (Nat.le_of_ble_eq_true rfl) qm_1286 rfl dX14_storm_69 ?_
            refine sx_bipush X (v := 48) dX14_storm_72 rfl ?_
            refine sx_iload_n X 1 rfl dX14_storm_74 rfl ?_
            refine sx_iadd X dX14_storm_75 ?_
            refine sx_iconst X (v := 1) dX14_storm_76 rfl ?_
            obtain ⟨g17, hf⟩ := ob_g hf
            refine sx_iast X (ws' := [zO h 10 [.int (X14_thrown b_h), .ref h_tape, .int (X14_bytes b_h), .int (X14_errorAt b_h), .ref h_kind, .ref h_number, .ref h_position, .ref h_length, .int (X14_token b_h), .int (X14_isWrong b_h), .int (X14_error b_h), .int (X14_errorToken b_h), .int (X14_deep b_h), .ref h_frontName, .ref h_guestName, .ref h_told, .ref h_fresh, .ref h_value, .ref h_now, .ref h_kept], zI T h_tape 2000 (X14_tape b_h), zI T h_kind 402 (X14_kind b_h), zI T h_number 402 (X14_number b_h), zI T h_position 402 (X14_position b_h), zI T h_length 402 (X14_length b_h), zI T h_frontName 10 (X14_frontName b_h), zI T h_guestName 10 (X14_guestName b_h), zI T h_value 800 (X14_value b_h), zI T h_now 58 (upd (upd w_h_now (28 + v1).toNatClampNeg 0) (48 + v1).toNatClampNeg 1), zI T h_kept 58 (X14_kept b_h), zO h_told 9 [.int (X13_fronts b_h_told), .ref h_told_warm, .ref h_told_force, .ref h_told_comes, .ref h_told_stays, .int (X13_guests b_h_told), .ref h_told_sits, .ref h_told_low, .ref h_told_high, .ref h_told_nerve, .int (X13_orders b_h_told), .ref h_told_does, .ref h_told_whom, .ref h_told_from, .ref h_told_to, .ref h_told_test, .int (X13_nodes b_h_told), .ref h_told_sort, .ref h_told_left, .ref h_told_right], zI T h_told_warm 11 (X13_warm b_h_told), zI T h_told_force 11 (X13_force b_h_told), zI T h_told_comes 11 (X13_comes b_h_told), zI T h_told_stays 11 (X13_stays b_h_told), zI T h_told_sits 11 (X13_sits b_h_told), zI T h_told_low 11 (X13_low b_h_told), zI T h_told_high 11 (X13_high b_h_told), zI T h_told_nerve 11 (X13_nerve b_h_told), zI T h_told_does 17 (X13_does b_h_told), zI T h_told_whom 17 (X13_whom b_h_told), zI T h_told_from 17 (X13_from b_h_told), zI T h_told_to 17 (X13_to b_h_told), zI T h_told_test 17 (X13_test b_h_told), zI T h_told_sort 800 (X13_sort b_h_told), zI T h_told_left 800 (X13_left b_h_told), zI T h_told_right 800 (X13_right b_h_told)]) 9 rfl g17 rfl dX14_storm_77 ?_
            refine sx_iinc X (v := (v1 + 1)) (lv' := [(1, .int (v1 + 1)), (0, .ref h)]) 1 rfl dX14_storm_78 rfl (by decide) rfl ?_
            refine sx_goto X 14 dX14_storm_81 rfl ?_
            have hf := ob_k hκ14 hf
            refine sx_lsub [1, 0] rfl ?_
            exact ih14 (v1 + 1) (upd (upd w_h_now (28 + v1).toNatClampNeg 0) (48 + v1).toNatClampNeg 1) hf
          · have hf := ob_f hf c15
            refine sx_goto X 78 dX14_storm_55 rfl ?_
            refine sx_iinc X (v := (v1 + 1)) (lv' := [(1, .int (v1 + 1)), (0, .ref h)]) 1 rfl dX14_storm_78 rfl (by decide) rfl ?_
            refine sx_goto X 14 dX14_storm_81 rfl ?_
            have hf := ob_k hκ14 hf
            refine sx_lsub [1, 0] rfl ?_
            exact ih14 (v1 + 1) w_h_now hf
  refine sx_aload_n X 0 rfl dX14_storm_0 rfl ?_
  refine sx_get X kX14 0 rfl 18 (Nat.le_of_ble_eq_true rfl) qm_1286 rfl dX14_storm_1 ?_
  refine sx_iconst X (v := 3) dX14_storm_4 rfl ?_
  obtain ⟨g1, hf⟩ := ob_g hf
  refine sx_iald X 9 rfl g1 dX14_storm_5 ?_
  refine sx_bipush X (v := 12) dX14_storm_6 rfl ?_
  refine sx_icmp_ge X 12 dX14_storm_8 rfl (fun c2 => ?_) (fun c2 => ?_)
  · have hf := ob_t hf c2
    refine sx_iconst X (v := 0) dX14_storm_12 rfl ?_
    refine sx_istore_n X (lv' := [(1, .int 0), (0, .ref h)]) dX14_storm_13 rfl (by decide) rfl ?_
    refine sx_lsub [1, 0] rfl ?_
    exact L14 n 0 (X14_now b_h) hf
  · have hf := ob_f hf c2
    exact sx_vret X dX14_storm_11 (ob_e hf) rfl rfl
