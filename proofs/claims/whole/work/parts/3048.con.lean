/-! contracts, part 48 -/
abbrev vf_X14_passHours (sd : SdT) (r : Int32 × Int32 × (Nat → Int32) × (Nat → Int32)) : Option Value := some (.int r.1)
abbrev wc_X14_passHours (T : Nat → ClassId) (sd : SdT) (h : Nat) (h_tape : Nat) (h_kind : Nat) (h_number : Nat) (h_position : Nat) (h_length : Nat) (h_frontName : Nat) (h_guestName : Nat) (h_told : Nat) (h_fresh : Nat) (h_value : Nat) (h_now : Nat) (h_kept : Nat) (h_told_warm : Nat) (h_told_force : Nat) (h_told_comes : Nat) (h_told_stays : Nat) (h_told_sits : Nat) (h_told_low : Nat) (h_told_high : Nat) (h_told_nerve : Nat) (h_told_does : Nat) (h_told_whom : Nat) (h_told_from : Nat) (h_told_to : Nat) (h_told_test : Nat) (h_told_sort : Nat) (h_told_left : Nat) (h_told_right : Nat) (b_h : bX14) (b_h_told : bX13) : va_W := [zO h 10 [.int (X14_thrown b_h), .ref h_tape, .int (X14_bytes b_h), .int (X14_errorAt b_h), .ref h_kind, .ref h_number, .ref h_position, .ref h_length, .int (X14_token b_h), .int (X14_isWrong b_h), .int (X14_error b_h), .int (X14_errorToken b_h), .int (X14_deep b_h), .ref h_frontName, .ref h_guestName, .ref h_told, .ref h_fresh, .ref h_value, .ref h_now, .ref h_kept], zI T h_tape 2000 (X14_tape b_h), zI T h_kind 402 (X14_kind b_h), zI T h_number 402 (X14_number b_h), zI T h_position 402 (X14_position b_h), zI T h_length 402 (X14_length b_h), zI T h_frontName 10 (X14_frontName b_h), zI T h_guestName 10 (X14_guestName b_h), zI T h_value 800 (X14_value b_h), zI T h_now 58 (X14_now b_h), zI T h_kept 58 (X14_kept b_h), zO h_told 9 [.int (X13_fronts b_h_told), .ref h_told_warm, .ref h_told_force, .ref h_told_comes, .ref h_told_stays, .int (X13_guests b_h_told), .ref h_told_sits, .ref h_told_low, .ref h_told_high, .ref h_told_nerve, .int (X13_orders b_h_told), .ref h_told_does, .ref h_told_whom, .ref h_told_from, .ref h_told_to, .ref h_told_test, .int (X13_nodes b_h_told), .ref h_told_sort, .ref h_told_left, .ref h_told_right], zI T h_told_warm 11 (X13_warm b_h_told), zI T h_told_force 11 (X13_force b_h_told), zI T h_told_comes 11 (X13_comes b_h_told), zI T h_told_stays 11 (X13_stays b_h_told), zI T h_told_sits 11 (X13_sits b_h_told), zI T h_told_low 11 (X13_low b_h_told), zI T h_told_high 11 (X13_high b_h_told), zI T h_told_nerve 11 (X13_nerve b_h_told), zI T h_told_does 17 (X13_does b_h_told), zI T h_told_whom 17 (X13_whom b_h_told), zI T h_told_from 17 (X13_from b_h_told), zI T h_told_to 17 (X13_to b_h_told), zI T h_told_test 17 (X13_test b_h_told), zI T h_told_sort 800 (X13_sort b_h_told), zI T h_told_left 800 (X13_left b_h_told), zI T h_told_right 800 (X13_right b_h_told)]
abbrev wf_X14_passHours (T : Nat → ClassId) (sd : SdT) (h : Nat) (h_tape : Nat) (h_kind : Nat) (h_number : Nat) (h_position : Nat) (h_length : Nat) (h_frontName : Nat) (h_guestName : Nat) (h_told : Nat) (h_fresh : Nat) (h_value : Nat) (h_now : Nat) (h_kept : Nat) (h_told_warm : Nat) (h_told_force : Nat) (h_told_comes : Nat) (h_told_stays : Nat) (h_told_sits : Nat) (h_told_low : Nat) (h_told_high : Nat) (h_told_nerve : Nat) (h_told_does : Nat) (h_told_whom : Nat) (h_told_from : Nat) (h_told_to : Nat) (h_told_test : Nat) (h_told_sort : Nat) (h_told_left : Nat) (h_told_right : Nat) (b_h : bX14) (b_h_told : bX13) (r : Int32 × Int32 × (Nat → Int32) × (Nat → Int32)) : va_W := [zO h 10 [.int r.2.1, .ref h_tape, .int (X14_bytes b_h), .int (X14_errorAt b_h), .ref h_kind, .ref h_number, .ref h_position, .ref h_length, .int (X14_token b_h), .int (X14_isWrong b_h), .int (X14_error b_h), .int (X14_errorToken b_h), .int (X14_deep b_h), .ref h_frontName, .ref h_guestName, .ref h_told, .ref h_fresh, .ref h_value, .ref h_now, .ref h_kept], zI T h_tape 2000 (X14_tape b_h), zI T h_kind 402 (X14_kind b_h), zI T h_number 402 (X14_number b_h), zI T h_position 402 (X14_position b_h), zI T h_length 402 (X14_length b_h), zI T h_frontName 10 (X14_frontName b_h), zI T h_guestName 10 (X14_guestName b_h), zI T h_value 800 r.2.2.1, zI T h_now 58 r.2.2.2, zI T h_kept 58 (X14_kept b_h), zO h_told 9 [.int (X13_fronts b_h_told), .ref h_told_warm, .ref h_told_force, .ref h_told_comes, .ref h_told_stays, .int (X13_guests b_h_told), .ref h_told_sits, .ref h_told_low, .ref h_told_high, .ref h_told_nerve, .int (X13_orders b_h_told), .ref h_told_does, .ref h_told_whom, .ref h_told_from, .ref h_told_to, .ref h_told_test, .int (X13_nodes b_h_told), .ref h_told_sort, .ref h_told_left, .ref h_told_right], zI T h_told_warm 11 (X13_warm b_h_told), zI T h_told_force 11 (X13_force b_h_told), zI T h_told_comes 11 (X13_comes b_h_told), zI T h_told_stays 11 (X13_stays b_h_told), zI T h_told_sits 11 (X13_sits b_h_told), zI T h_told_low 11 (X13_low b_h_told), zI T h_told_high 11 (X13_high b_h_told), zI T h_told_nerve 11 (X13_nerve b_h_told), zI T h_told_does 17 (X13_does b_h_told), zI T h_told_whom 17 (X13_whom b_h_told), zI T h_told_from 17 (X13_from b_h_told), zI T h_told_to 17 (X13_to b_h_told), zI T h_told_test 17 (X13_test b_h_told), zI T h_told_sort 800 (X13_sort b_h_told), zI T h_told_left 800 (X13_left b_h_told), zI T h_told_right 800 (X13_right b_h_told)]
abbrev rm_X14_passHours : Room := { frames := 5, cells := 0, slots := 0, locals := 109 }
theorem hd_X14_passHours : yX14_passHours.cls ≠ "java/lang/invoke/MethodHandle" ∧ yX14_passHours.cls ≠ "java/lang/invoke/VarHandle" ∧ (parseMethodDescriptor yX14_passHours.desc).map (fun d => d.parameters.length) = some 1 := ⟨by decide, by decide, by decide +kernel⟩
set_option maxHeartbeats 4000000 in
set_option maxRecDepth 100000 in
theorem c_X14_passHours {l : Launch} {D : va_G} {T : Nat → ClassId} {sd : SdT} (h : Nat) (h_tape : Nat) (h_kind : Nat) (h_number : Nat) (h_position : Nat) (h_length : Nat) (h_frontName : Nat) (h_guestName : Nat) (h_told : Nat) (h_fresh : Nat) (h_value : Nat) (h_now : Nat) (h_kept : Nat) (h_told_warm : Nat) (h_told_force : Nat) (h_told_comes : Nat) (h_told_stays : Nat) (h_told_sits : Nat) (h_told_low : Nat) (h_told_high : Nat) (h_told_nerve : Nat) (h_told_does : Nat) (h_told_whom : Nat) (h_told_from : Nat) (h_told_to : Nat) (h_told_test : Nat) (h_told_sort : Nat) (h_told_left : Nat) (h_told_right : Nat) (n : Nat) (x0 : Int32) (b_h : bX14) (b_h_told : bX13) {res : Int32 × Int32 × (Nat → Int32) × (Nat → Int32)} (hf : f_X14_passHours n x0 b_h b_h_told = some res) : SxK (SFx sd) l D T yX14_passHours cX14_passHours 4 (some .int) rm_X14_passHours [.ref h, .int x0] (wc_X14_passHours T sd h h_tape h_kind h_number h_position h_length h_frontName h_guestName h_told h_fresh h_value h_now h_kept h_told_warm h_told_force h_told_comes h_told_stays h_told_sits h_told_low h_told_high h_told_nerve h_told_does h_told_whom h_told_from h_told_to h_told_test h_told_sort h_told_left h_told_right b_h b_h_told) (vf_X14_passHours sd) (wf_X14_passHours T sd h h_tape h_kind h_number h_position h_length h_frontName h_guestName h_told h_fresh h_value h_now h_kept h_told_warm h_told_force h_told_comes h_told_stays h_told_sits h_told_low h_told_high h_told_nerve h_told_does h_told_whom h_told_from h_told_to h_told_test h_told_sort h_told_left h_told_right b_h b_h_told) res 0 0 := by
  refine sx_start (SFx_ok sd) (by decide +kernel) (Nat.le_of_ble_eq_true rfl) (fun p e s m args below meth c A X hnm => ?_)
  have hf := ob_1 hf
  have L31 : ∀ (v1 : Int32) (v2 : Int32) (w_h_thrown : Int32) (n0 : Nat) (v3 : Int32) (w_h_value : Nat → Int32) (w_h_now : Nat → Int32), (iter (fun s : Int32 × (Nat → Int32) × (Nat → Int32) => f_X14_passHours_L31 n x0 b_h b_h_told v1 v2 s.1 w_h_thrown s.2.1 s.2.2) n0 (v3, w_h_value, w_h_now)).bind some = some res → SxG p l e rm_X14_passHours s m args below meth c D A 4 0 0 (SxE below args s D A (vf_X14_passHours sd) (wf_X14_passHours T sd h h_tape h_kind h_number h_position h_length h_frontName h_guestName h_told h_fresh h_value h_now h_kept h_told_warm h_told_force h_told_comes h_told_stays h_told_sits h_told_low h_told_high h_told_nerve h_told_does h_told_whom h_told_from h_told_to h_told_test h_told_sort h_told_left h_told_right b_h b_h_told) res 0 0) [zO h 10 [.int w_h_thrown, .ref h_tape, .int (X14_bytes b_h), .int (X14_errorAt b_h), .ref h_kind, .ref h_number, .ref h_position, .ref h_length, .int (X14_token b_h), .int (X14_isWrong b_h), .int (X14_error b_h), .int (X14_errorToken b_h), .int (X14_deep b_h), .ref h_frontName, .ref h_guestName, .ref h_told, .ref h_fresh, .ref h_value, .ref h_now, .ref h_kept], zI T h_tape 2000 (X14_tape b_h), zI T h_kind 402 (X14_kind b_h), zI T h_number 402 (X14_number b_h), zI T h_position 402 (X14_position b_h), zI T h_length 402 (X14_length b_h), zI T h_frontName 10 (X14_frontName b_h), zI T h_guestName 10 (X14_guestName b_h), zI T h_value 800 w_h_value, zI T h_now 58 w_h_now, zI T h_kept 58 (X14_kept b_h), zO h_told 9 [.int (X13_fronts b_h_told), .ref h_told_warm, .ref h_told_force, .ref h_told_comes, .ref h_told_stays, .int (X13_guests b_h_told), .ref h_told_sits, .ref h_told_low, .ref h_told_high, .ref h_told_nerve, .int (X13_orders b_h_told), .ref h_told_does, .ref h_told_whom, .ref h_told_from, .ref h_told_to, .ref h_told_test, .int (X13_nodes b_h_told), .ref h_told_sort, .ref h_told_left, .ref h_told_right], zI T h_told_warm 11 (X13_warm b_h_told), zI T h_told_force 11 (X13_force b_h_told), zI T h_told_comes 11 (X13_comes b_h_told), zI T h_told_stays 11 (X13_stays b_h_told), zI T h_told_sits 11 (X13_sits b_h_told), zI T h_told_low 11 (X13_low b_h_told), zI T h_told_high 11 (X13_high b_h_told), zI T h_told_nerve 11 (X13_nerve b_h_told), zI T h_told_does 17 (X13_does b_h_told), zI T h_told_whom 17 (X13_whom b_h_told), zI T h_told_from 17 (X13_from b_h_told), zI T h_told_to 17 (X13_to b_h_told), zI T h_told_test 17 (X13_test b_h_told), zI T h_told_sort 800 (X13_sort b_h_told), zI T h_told_left 800 (X13_left b_h_told), zI T h_told_right 800 (X13_right b_h_told)] [(0, .ref h), (1, .int v1), (2, .int v2), (3, .int v3)] 31 [] := by
    intro v1 v2 w_h_thrown n0
    induction n0 with
    | zero =>
      intro v3 w_h_value w_h_now hf
      exact (iter_z hf).elim
    | succ n0 ih31 =>
      intro v3 w_h_value w_h_now hf
      obtain ⟨κ31, hκ31, hf⟩ := iter_k hf
      have hf : (f_X14_passHours_L31 n x0 b_h b_h_told v1 v2 v3 w_h_thrown w_h_value w_h_now).bind κ31 = some res := hf
      refine sx_iload_n X 3 rfl dX14_passHours_31 rfl ?_
      refine sx_iload_n X 1 rfl dX14_passHours_32 rfl ?_
      refine sx_icmp_ge X 46 dX14_passHours_33 rfl (fun c4 => ?_) (fun c4 => ?_)
      · have hf := ob_t hf c4
        refine sx_aload_n X 0 rfl dX14_passHours_46 rfl ?_
        refine sx_get X kX14 0 rfl 18 (Nat.le_of_ble_eq_true rfl) qm_1286 rfl dX14_passHours_47 ?_
        refine sx_bipush X (v := 6) dX14_passHours_50 rfl ?_
        obtain ⟨g5, hf⟩ := ob_g hf
        refine sx_iald X 9 rfl g5 dX14_passHours_52 ?_
        refine sx_iload_n X 2 rfl dX14_passHours_53 rfl ?_
        refine sx_isub X dX14_passHours_54 ?_
        have hf := ob_kr hκ31 hf
        exact sx_iret X rfl dX14_passHours_55 (ob_e hf) rfl rfl
      · have hf := ob_f hf c4
        refine sx_aload_n X 0 rfl dX14_passHours_36 rfl ?_
        obtain ⟨u6, hu6, hf⟩ := ob_c hf
        refine sx_cV X (c_X14_hourOn (l := l) (D := D) (T := T) (sd := sd) h h_tape h_kind h_number h_position h_length h_frontName h_guestName h_told h_fresh h_value h_now h_kept h_told_warm h_told_force h_told_comes h_told_stays h_told_sits h_told_low h_told_high h_told_nerve h_told_does h_told_whom h_told_from h_told_to h_told_test h_told_sort h_told_left h_told_right n (w_h_thrown, (X14_tape b_h), (X14_bytes b_h), (X14_errorAt b_h), (X14_kind b_h), (X14_number b_h), (X14_position b_h), (X14_length b_h), (X14_token b_h), (X14_isWrong b_h), (X14_error b_h), (X14_errorToken b_h), (X14_deep b_h), (X14_frontName b_h), (X14_guestName b_h), w_h_value, w_h_now, (X14_kept b_h)) b_h_told hu6) (st' := []) (q0 := 0) qm_1665 qm_1667 qm_58 qm_79 qm_1668 hd_X14_hourOn ⟨rfl, rfl⟩ ⟨Nat.le_of_ble_eq_true rfl, Nat.le_of_ble_eq_true rfl⟩ rfl rfl (Nat.le_of_ble_eq_true rfl) rfl rfl rfl [0, 1, 2, 3, 4, 5, 6, 7, 8, 9, 10, 11, 12, 13, 14, 15, 16, 17, 18, 19, 20, 21, 22, 23, 24, 25, 26, 27] rfl rfl (ws' := [zO h 10 [.int w_h_thrown, .ref h_tape, .int (X14_bytes b_h), .int (X14_errorAt b_h), .ref h_kind, .ref h_number, .ref h_position, .ref h_length, .int (X14_token b_h), .int (X14_isWrong b_h), .int (X14_error b_h), .int (X14_errorToken b_h), .int (X14_deep b_h), .ref h_frontName, .ref h_guestName, .ref h_told, .ref h_fresh, .ref h_value, .ref h_now, .ref h_kept], zI T h_tape 2000 (X14_tape b_h), zI T h_kind 402 (X14_kind b_h), zI T h_number 402 (X14_number b_h), zI T h_position 402 (X14_position b_h), zI T h_length 402 (X14_length b_h), zI T h_frontName 10 (X14_frontName b_h), zI T h_guestName 10 (X14_guestName b_h), zI T h_value 800 u6.1, zI T h_now 58 u6.2, zI T h_kept 58 (X14_kept b_h), zO h_told 9 [.int (X13_fronts b_h_told), .ref h_told_warm, .ref h_told_force, .ref h_told_comes, .ref h_told_stays, .int (X13_guests b_h_told), .ref h_told_sits, .ref h_told_low, .ref h_told_high, .ref h_told_nerve, .int (X13_orders b_h_told), .ref h_told_does, .ref h_told_whom, .ref h_told_from, .ref h_told_to, .ref h_told_test, .int (X13_nodes b_h_told), .ref h_told_sort, .ref h_told_left, .ref h_told_right], zI T h_told_warm 11 (X13_warm b_h_told), zI T h_told_force 11 (X13_force b_h_told), zI T h_told_comes 11 (X13_comes b_h_told), zI T h_told_stays 11 (X13_stays b_h_told), zI T h_told_sits 11 (X13_sits b_h_told), zI T h_told_low 11 (X13_low b_h_told), zI T h_told_high 11 (X13_high b_h_told), zI T h_told_nerve 11 (X13_nerve b_h_told), zI T h_told_does 17 (X13_does b_h_told), zI T h_told_whom 17 (X13_whom b_h_told), zI T h_told_from 17 (X13_from b_h_told), zI T h_told_to 17 (X13_to b_h_told), zI T h_told_test 17 (X13_test b_h_told), zI T h_told_sort 800 (X13_sort b_h_told), zI T h_told_left 800 (X13_left b_h_told), zI T h_told_right 800 (X13_right b_h_told)]) (sxPatch_pk [(true, 0), (true, 1), (true, 2), (true, 3), (true, 4), (true, 5), (true, 6), (true, 7), (true, 8), (true, 9), (true, 10), (true, 11), (true, 12), (true, 13), (true, 14), (true, 15), (true, 16), (true, 17), (true, 18), (true, 19), (true, 20), (true, 21), (true, 22), (true, 23), (true, 24), (true, 25), (true, 26), (true, 27)] (by decide +kernel) rfl rfl rfl) rfl ⟨Nat.le_of_ble_eq_true rfl, Nat.le_of_ble_eq_true rfl⟩ dX14_passHours_37 rfl ?_
        refine sx_iinc X (v := (v3 + 1)) (lv' := [(3, .int (v3 + 1)), (0, .ref h), (1, .int v1), (2, .int v2)]) 3 rfl dX14_passHours_40 rfl (by decide) rfl ?_
        refine sx_goto X 31 dX14_passHours_43 rfl ?_
        have hf := ob_k hκ31 hf
        refine sx_lsub [1, 2, 3, 0] rfl ?_
        exact ih31 (v3 + 1) u6.1 u6.2 hf
  refine sx_aload_n X 0 rfl dX14_passHours_0 rfl ?_
  refine sx_iconst X (v := 0) dX14_passHours_1 rfl ?_
  refine sx_put X (ws' := [zO h 10 [.int 0, .ref h_tape, .int (X14_bytes b_h), .int (X14_errorAt b_h), .ref h_kind, .ref h_number, .ref h_position, .ref h_length, .int (X14_token b_h), .int (X14_isWrong b_h), .int (X14_error b_h), .int (X14_errorToken b_h), .int (X14_deep b_h), .ref h_frontName, .ref h_guestName, .ref h_told, .ref h_fresh, .ref h_value, .ref h_now, .ref h_kept], zI T h_tape 2000 (X14_tape b_h), zI T h_kind 402 (X14_kind b_h), zI T h_number 402 (X14_number b_h), zI T h_position 402 (X14_position b_h), zI T h_length 402 (X14_length b_h), zI T h_frontName 10 (X14_frontName b_h), zI T h_guestName 10 (X14_guestName b_h), zI T h_value 800 (X14_value b_h), zI T h_now 58 (X14_now b_h), zI T h_kept 58 (X14_kept b_h), zO h_told 9 [.int (X13_fronts b_h_told), .ref h_told_warm, .ref h_told_force, .ref h_told_comes, .ref h_told_stays, .int (X13_guests b_h_told), .ref h_told_sits, .ref h_told_low, .ref h_told_high, .ref h_told_nerve, .int (X13_orders b_h_told), .ref h_told_does, .ref h_told_whom, .ref h_told_from, .ref h_told_to, .ref h_told_test, .int (X13_nodes b_h_told), .ref h_told_sort, .ref h_told_left, .ref h_told_right], zI T h_told_warm 11 (X13_warm b_h_told), zI T h_told_force 11 (X13_force b_h_told), zI T h_told_comes 11 (X13_comes b_h_told), zI T h_told_stays 11 (X13_stays b_h_told), zI T h_told_sits 11 (X13_sits b_h_told), zI T h_told_low 11 (X13_low b_h_told), zI T h_told_high 11 (X13_high b_h_told), zI T h_told_nerve 11 (X13_nerve b_h_told), zI T h_told_does 17 (X13_does b_h_told), zI T h_told_whom 17 (X13_whom b_h_told), zI T h_told_from 17 (X13_from b_h_told), zI T h_told_to 17 (X13_to b_h_told), zI T h_told_test 17 (X13_test b_h_told), zI T h_told_sort 800 (X13_sort b_h_told), zI T h_told_left 800 (X13_left b_h_told), zI T h_told_right 800 (X13_right b_h_told)]) kX14 0 rfl 0 (Nat.le_of_ble_eq_true rfl) qm_1268 rfl rfl rfl (Nat.le_of_ble_eq_true rfl) rfl dX14_passHours_2 ?_
  refine sx_iload_n X 1 rfl dX14_passHours_5 rfl ?_
  refine sx_iconst X (v := 1) dX14_passHours_6 rfl ?_
  refine sx_bipush X (v := 30) dX14_passHours_7 rfl ?_
  obtain ⟨u1, hu1, hf⟩ := ob_c hf
  refine sx_cSr X (c_X14_isIn (l := l) (D := D) (T := T) (sd := sd) x0 1 30 hu1) (st' := [.int u1]) qm_1345 qm_1346 qm_79 qm_1347 hd_X14_isIn ⟨rfl, rfl⟩ ⟨Nat.le_of_ble_eq_true rfl, Nat.le_of_ble_eq_true rfl⟩ rfl rfl (Nat.le_of_ble_eq_true rfl) [] rfl rfl rfl ⟨Nat.le_of_ble_eq_true rfl, Nat.le_of_ble_eq_true rfl⟩ dX14_passHours_9 rfl ?_
  refine sx_if_ne X 21 dX14_passHours_12 rfl (fun c2 => ?_) (fun c2 => ?_)
  · have hf := ob_f hf c2
    refine sx_aload_n X 0 rfl dX14_passHours_21 rfl ?_
    refine sx_get X kX14 0 rfl 18 (Nat.le_of_ble_eq_true rfl) qm_1286 rfl dX14_passHours_22 ?_
    refine sx_bipush X (v := 6) dX14_passHours_25 rfl ?_
    obtain ⟨g3, hf⟩ := ob_g hf
    refine sx_iald X 9 rfl g3 dX14_passHours_27 ?_
    refine sx_istore_n X (lv' := [(2, .int ((X14_now b_h) (6 : Int32).toNatClampNeg)), (0, .ref h), (1, .int x0)]) dX14_passHours_28 rfl (by decide) rfl ?_
    refine sx_iconst X (v := 0) dX14_passHours_29 rfl ?_
    refine sx_istore_n X (lv' := [(3, .int 0), (2, .int ((X14_now b_h) (6 : Int32).toNatClampNeg)), (0, .ref h), (1, .int x0)]) dX14_passHours_30 rfl (by decide) rfl ?_
    refine sx_lsub [2, 3, 1, 0] rfl ?_
    exact L31 x0 ((X14_now b_h) (6 : Int32).toNatClampNeg) 0 n 0 (X14_value b_h) (X14_now b_h) hf
  · have hf := ob_t hf c2
    refine sx_aload_n X 0 rfl dX14_passHours_15 rfl ?_
    refine sx_iconst X (v := 1) dX14_passHours_16 rfl ?_
    obtain ⟨u7, hu7, hf⟩ := ob_c hf
    refine sx_cV X (c_X14_no (l := l) (D := D) (T := T) (sd := sd) h h_tape h_kind h_number h_position h_length h_frontName h_guestName h_told h_fresh h_value h_now h_kept 1 (0, (X14_tape b_h), (X14_bytes b_h), (X14_errorAt b_h), (X14_kind b_h), (X14_number b_h), (X14_position b_h), (X14_length b_h), (X14_token b_h), (X14_isWrong b_h), (X14_error b_h), (X14_errorToken b_h), (X14_deep b_h), (X14_frontName b_h), (X14_guestName b_h), (X14_value b_h), (X14_now b_h), (X14_kept b_h)) hu7) (st' := [.int u7.1]) (q0 := 0) qm_1337 qm_1339 qm_14 qm_79 qm_1340 hd_X14_no ⟨rfl, rfl⟩ ⟨Nat.le_of_ble_eq_true rfl, Nat.le_of_ble_eq_true rfl⟩ rfl rfl (Nat.le_of_ble_eq_true rfl) rfl rfl rfl [0, 1, 2, 3, 4, 5, 6, 7, 8, 9, 10] rfl rfl (ws' := [zO h 10 [.int u7.2, .ref h_tape, .int (X14_bytes b_h), .int (X14_errorAt b_h), .ref h_kind, .ref h_number, .ref h_position, .ref h_length, .int (X14_token b_h), .int (X14_isWrong b_h), .int (X14_error b_h), .int (X14_errorToken b_h), .int (X14_deep b_h), .ref h_frontName, .ref h_guestName, .ref h_told, .ref h_fresh, .ref h_value, .ref h_now, .ref h_kept], zI T h_tape 2000 (X14_tape b_h), zI T h_kind 402 (X14_kind b_h), zI T h_number 402 (X14_number b_h), zI T h_position 402 (X14_position b_h), zI T h_length 402 (X14_length b_h), zI T h_frontName 10 (X14_frontName b_h), zI T h_guestName 10 (X14_guestName b_h), zI T h_value 800 (X14_value b_h), zI T h_now 58 (X14_now b_h), zI T h_kept 58 (X14_kept b_h), zO h_told 9 [.int (X13_fronts b_h_told), .ref h_told_warm, .ref h_told_force, .ref h_told_comes, .ref h_told_stays, .int (X13_guests b_h_told), .ref h_told_sits, .ref h_told_low, .ref h_told_high, .ref h_told_nerve, .int (X13_orders b_h_told), .ref h_told_does, .ref h_told_whom, .ref h_told_from, .ref h_told_to, .ref h_told_test, .int (X13_nodes b_h_told), .ref h_told_sort, .ref h_told_left, .ref h_told_right], zI T h_told_warm 11 (X13_warm b_h_told), zI T h_told_force 11 (X13_force b_h_told), zI T h_told_comes 11 (X13_comes b_h_told), zI T h_told_stays 11 (X13_stays b_h_told), zI T h_told_sits 11 (X13_sits b_h_told), zI T h_told_low 11 (X13_low b_h_told), zI T h_told_high 11 (X13_high b_h_told), zI T h_told_nerve 11 (X13_nerve b_h_told), zI T h_told_does 17 (X13_does b_h_told), zI T h_told_whom 17 (X13_whom b_h_told), zI T h_told_from 17 (X13_from b_h_told), zI T h_told_to 17 (X13_to b_h_told), zI T h_told_test 17 (X13_test b_h_told), zI T h_told_sort 800 (X13_sort b_h_told), zI T h_told_left 800 (X13_left b_h_told), zI T h_told_right 800 (X13_right b_h_told)]) (sxPatch_pk [(true, 0), (true, 1), (true, 2), (true, 3), (true, 4), (true, 5), (true, 6), (true, 7), (true, 8), (true, 9), (true, 10), (false, 11), (false, 12), (false, 13), (false, 14), (false, 15), (false, 16), (false, 17), (false, 18), (false, 19), (false, 20), (false, 21), (false, 22), (false, 23), (false, 24), (false, 25), (false, 26), (false, 27)] (by decide +kernel) rfl rfl rfl) rfl ⟨Nat.le_of_ble_eq_true rfl, Nat.le_of_ble_eq_true rfl⟩ dX14_passHours_17 rfl ?_
    exact sx_iret X rfl dX14_passHours_20 (ob_e hf) rfl rfl

abbrev vf_X14_symbol (sd : SdT) (r : Int32) : Option Value := some (.int r)
abbrev wc_X14_symbol (T : Nat → ClassId) (sd : SdT)  : va_W := []
abbrev wf_X14_symbol (T : Nat → ClassId) (sd : SdT)  (r : Int32) : va_W := []
abbrev rm_X14_symbol : Room := { frames := 0, cells := 0, slots := 0, locals := 0 }
theorem hd_X14_symbol : yX14_symbol.cls ≠ "java/lang/invoke/MethodHandle" ∧ yX14_symbol.cls ≠ "java/lang/invoke/VarHandle" ∧ (parseMethodDescriptor yX14_symbol.desc).map (fun d => d.parameters.length) = some 1 := ⟨by decide, by decide, by decide +kernel⟩
theorem tin_X14_symbol_1_0 (x : Int32) (h : x = 40) : SxIn (40) (93) #[231, 234, 255, 249, 246, 252, 270, 258, 270, 270, 270, 270, 270, 270, 270, 270, 270, 270, 270, 243, 261, 267, 264, 270, 270, 270, 270, 270, 270, 270, 270, 270, 270, 270, 270, 270, 270, 270, 270, 270, 270, 270, 270, 270, 270, 270, 270, 270, 270, 270, 270, 237, 270, 240] (231) x := by
  rcases h with rfl <;> exact ⟨by decide, by decide, by decide⟩
theorem tin_X14_symbol_1_1 (x : Int32) (h : x = 41) : SxIn (40) (93) #[231, 234, 255, 249, 246, 252, 270, 258, 270, 270, 270, 270, 270, 270, 270, 270, 270, 270, 270, 243, 261, 267, 264, 270, 270, 270, 270, 270, 270, 270, 270, 270, 270, 270, 270, 270, 270, 270, 270, 270, 270, 270, 270, 270, 270, 270, 270, 270, 270, 270, 270, 237, 270, 240] (234) x := by
  rcases h with rfl <;> exact ⟨by decide, by decide, by decide⟩
theorem tin_X14_symbol_1_2 (x : Int32) (h : x = 42) : SxIn (40) (93) #[231, 234, 255, 249, 246, 252, 270, 258, 270, 270, 270, 270, 270, 270, 270, 270, 270, 270, 270, 243, 261, 267, 264, 270, 270, 270, 270, 270, 270, 270, 270, 270, 270, 270, 270, 270, 270, 270, 270, 270, 270, 270, 270, 270, 270, 270, 270, 270, 270, 270, 270, 237, 270, 240] (255) x := by
  rcases h with rfl <;> exact ⟨by decide, by decide, by decide⟩
theorem tin_X14_symbol_1_3 (x : Int32) (h : x = 43) : SxIn (40) (93) #[231, 234, 255, 249, 246, 252, 270, 258, 270, 270, 270, 270, 270, 270, 270, 270, 270, 270, 270, 243, 261, 267, 264, 270, 270, 270, 270, 270, 270, 270, 270, 270, 270, 270, 270, 270, 270, 270, 270, 270, 270, 270, 270, 270, 270, 270, 270, 270, 270, 270, 270, 237, 270, 240] (249) x := by
  rcases h with rfl <;> exact ⟨by decide, by decide, by decide⟩
theorem tin_X14_symbol_1_4 (x : Int32) (h : x = 44) : SxIn (40) (93) #[231, 234, 255, 249, 246, 252, 270, 258, 270, 270, 270, 270, 270, 270, 270, 270, 270, 270, 270, 243, 261, 267, 264, 270, 270, 270, 270, 270, 270, 270, 270, 270, 270, 270, 270, 270, 270, 270, 270, 270, 270, 270, 270, 270, 270, 270, 270, 270, 270, 270, 270, 237, 270, 240] (246) x := by
  rcases h with rfl <;> exact ⟨by decide, by decide, by decide⟩
theorem tin_X14_symbol_1_5 (x : Int32) (h : x = 45) : SxIn (40) (93) #[231, 234, 255, 249, 246, 252, 270, 258, 270, 270, 270, 270, 270, 270, 270, 270, 270, 270, 270, 243, 261, 267, 264, 270, 270, 270, 270, 270, 270, 270, 270, 270, 270, 270, 270, 270, 270, 270, 270, 270, 270, 270, 270, 270, 270, 270, 270, 270, 270, 270, 270, 237, 270, 240] (252) x := by
  rcases h with rfl <;> exact ⟨by decide, by decide, by decide⟩
theorem tin_X14_symbol_1_6 (x : Int32) (h : x = 47) : SxIn (40) (93) #[231, 234, 255, 249, 246, 252, 270, 258, 270, 270, 270, 270, 270, 270, 270, 270, 270, 270, 270, 243, 261, 267, 264, 270, 270, 270, 270, 270, 270, 270, 270, 270, 270, 270, 270, 270, 270, 270, 270, 270, 270, 270, 270, 270, 270, 270, 270, 270, 270, 270, 270, 237, 270, 240] (258) x := by
  rcases h with rfl <;> exact ⟨by decide, by decide, by decide⟩
theorem tin_X14_symbol_1_7 (x : Int32) (h : x = 59) : SxIn (40) (93) #[231, 234, 255, 249, 246, 252, 270, 258, 270, 270, 270, 270, 270, 270, 270, 270, 270, 270, 270, 243, 261, 267, 264, 270, 270, 270, 270, 270, 270, 270, 270, 270, 270, 270, 270, 270, 270, 270, 270, 270, 270, 270, 270, 270, 270, 270, 270, 270, 270, 270, 270, 237, 270, 240] (243) x := by
  rcases h with rfl <;> exact ⟨by decide, by decide, by decide⟩
theorem tin_X14_symbol_1_8 (x : Int32) (h : x = 60) : SxIn (40) (93) #[231, 234, 255, 249, 246, 252, 270, 258, 270, 270, 270, 270, 270, 270, 270, 270, 270, 270, 270, 243, 261, 267, 264, 270, 270, 270, 270, 270, 270, 270, 270, 270, 270, 270, 270, 270, 270, 270, 270, 270, 270, 270, 270, 270, 270, 270, 270, 270, 270, 270, 270, 237, 270, 240] (261) x := by
  rcases h with rfl <;> exact ⟨by decide, by decide, by decide⟩
theorem tin_X14_symbol_1_9 (x : Int32) (h : x = 61) : SxIn (40) (93) #[231, 234, 255, 249, 246, 252, 270, 258, 270, 270, 270, 270, 270, 270, 270, 270, 270, 270, 270, 243, 261, 267, 264, 270, 270, 270, 270, 270, 270, 270, 270, 270, 270, 270, 270, 270, 270, 270, 270, 270, 270, 270, 270, 270, 270, 270, 270, 270, 270, 270, 270, 237, 270, 240] (267) x := by
  rcases h with rfl <;> exact ⟨by decide, by decide, by decide⟩
theorem tin_X14_symbol_1_10 (x : Int32) (h : x = 62) : SxIn (40) (93) #[231, 234, 255, 249, 246, 252, 270, 258, 270, 270, 270, 270, 270, 270, 270, 270, 270, 270, 270, 243, 261, 267, 264, 270, 270, 270, 270, 270, 270, 270, 270, 270, 270, 270, 270, 270, 270, 270, 270, 270, 270, 270, 270, 270, 270, 270, 270, 270, 270, 270, 270, 237, 270, 240] (264) x := by
  rcases h with rfl <;> exact ⟨by decide, by decide, by decide⟩
theorem tin_X14_symbol_1_11 (x : Int32) (h : x = 91) : SxIn (40) (93) #[231, 234, 255, 249, 246, 252, 270, 258, 270, 270, 270, 270, 270, 270, 270, 270, 270, 270, 270, 243, 261, 267, 264, 270, 270, 270, 270, 270, 270, 270, 270, 270, 270, 270, 270, 270, 270, 270, 270, 270, 270, 270, 270, 270, 270, 270, 270, 270, 270, 270, 270, 237, 270, 240] (237) x := by
  rcases h with rfl <;> exact ⟨by decide, by decide, by decide⟩
theorem tin_X14_symbol_1_12 (x : Int32) (h : x = 93) : SxIn (40) (93) #[231, 234, 255, 249, 246, 252, 270, 258, 270, 270, 270, 270, 270, 270, 270, 270, 270, 270, 270, 243, 261, 267, 264, 270, 270, 270, 270, 270, 270, 270, 270, 270, 270, 270, 270, 270, 270, 270, 270, 270, 270, 270, 270, 270, 270, 270, 270, 270, 270, 270, 270, 237, 270, 240] (240) x := by
  rcases h with rfl <;> exact ⟨by decide, by decide, by decide⟩
theorem tab_X14_symbol_1 (x : Int32) (c0 : ¬ (x = 40)) (c1 : ¬ (x = 41)) (c2 : ¬ (x = 42)) (c3 : ¬ (x = 43)) (c4 : ¬ (x = 44)) (c5 : ¬ (x = 45)) (c6 : ¬ (x = 47)) (c7 : ¬ (x = 59)) (c8 : ¬ (x = 60)) (c9 : ¬ (x = 61)) (c10 : ¬ (x = 62)) (c11 : ¬ (x = 91)) (c12 : ¬ (x = 93)) : SxTab (40) (93) #[231, 234, 255, 249, 246, 252, 270, 258, 270, 270, 270, 270, 270, 270, 270, 270, 270, 270, 270, 243, 261, 267, 264, 270, 270, 270, 270, 270, 270, 270, 270, 270, 270, 270, 270, 270, 270, 270, 270, 270, 270, 270, 270, 270, 270, 270, 270, 270, 270, 270, 270, 237, 270, 240] (270) x := by
  refine sx_tabd [40, 41, 42, 43, 44, 45, 47, 59, 60, 61, 62, 91, 93] x (by decide +kernel) (fun v hv e => ?_)
  simp only [List.mem_cons, List.not_mem_nil, or_false] at hv
  rcases hv with h | h | h | h | h | h | h | h | h | h | h | h | h
  · exact c0 (e.trans h)
  · exact c1 (e.trans h)
  · exact c2 (e.trans h)
  · exact c3 (e.trans h)
  · exact c4 (e.trans h)
  · exact c5 (e.trans h)
  · exact c6 (e.trans h)
  · exact c7 (e.trans h)
  · exact c8 (e.trans h)
  · exact c9 (e.trans h)
  · exact c10 (e.trans h)
  · exact c11 (e.trans h)
  · exact c12 (e.trans h)
set_option maxHeartbeats 4000000 in
set_option maxRecDepth 100000 in
theorem c_X14_symbol {l : Launch} {D : va_G} {T : Nat → ClassId} {sd : SdT}  (x0 : Int32) {res : Int32} (hf : f_X14_symbol x0 = some res) : SxK (SFx sd) l D T yX14_symbol cX14_symbol 1 (some .int) rm_X14_symbol [.int x0] (wc_X14_symbol T sd ) (vf_X14_symbol sd) (wf_X14_symbol T sd ) res 0 0 := by
  refine sx_start (SFx_ok sd) (by decide +kernel) (Nat.le_of_ble_eq_true rfl) (fun p e s m args below meth c A X hnm => ?_)
  have hf := ob_1 hf
  refine sx_iload_n X 0 rfl dX14_symbol_0 rfl ?_
  by_cases c1 : x0 = 40
  · have hf := ob_t hf c1
    refine sx_tin X 232 dX14_symbol_1 rfl (tin_X14_symbol_1_0 x0 c1) ?_
    refine sx_bipush X (v := 59) dX14_symbol_232 rfl ?_
    exact sx_iret X rfl dX14_symbol_234 (ob_e hf) rfl rfl
  · have hf := ob_f hf c1
    by_cases c2 : x0 = 41
    · have hf := ob_t hf c2
      refine sx_tin X 235 dX14_symbol_1 rfl (tin_X14_symbol_1_1 x0 c2) ?_
      refine sx_bipush X (v := 60) dX14_symbol_235 rfl ?_
      exact sx_iret X rfl dX14_symbol_237 (ob_e hf) rfl rfl
    · have hf := ob_f hf c2
      by_cases c3 : x0 = 42
      · have hf := ob_t hf c3
        refine sx_tin X 256 dX14_symbol_1 rfl (tin_X14_symbol_1_2 x0 c3) ?_
        refine sx_bipush X (v := 52) dX14_symbol_256 rfl ?_
        exact sx_iret X rfl dX14_symbol_258 (ob_e hf) rfl rfl
      · have hf := ob_f hf c3
        by_cases c4 : x0 = 43
        · have hf := ob_t hf c4
          refine sx_tin X 250 dX14_symbol_1 rfl (tin_X14_symbol_1_3 x0 c4) ?_
          refine sx_bipush X (v := 50) dX14_symbol_250 rfl ?_
          exact sx_iret X rfl dX14_symbol_252 (ob_e hf) rfl rfl
        · have hf := ob_f hf c4
          by_cases c5 : x0 = 44
          · have hf := ob_t hf c5
            refine sx_tin X 247 dX14_symbol_1 rfl (tin_X14_symbol_1_4 x0 c5) ?_
            refine sx_bipush X (v := 64) dX14_symbol_247 rfl ?_
            exact sx_iret X rfl dX14_symbol_249 (ob_e hf) rfl rfl
          · have hf := ob_f hf c5
            by_cases c6 : x0 = 45
            · have hf := ob_t hf c6
              refine sx_tin X 253 dX14_symbol_1 rfl (tin_X14_symbol_1_5 x0 c6) ?_
              refine sx_bipush X (v := 51) dX14_symbol_253 rfl ?_
              exact sx_iret X rfl dX14_symbol_255 (ob_e hf) rfl rfl
            · have hf := ob_f hf c6
              by_cases c7 : x0 = 47
              · have hf := ob_t hf c7
                refine sx_tin X 259 dX14_symbol_1 rfl (tin_X14_symbol_1_6 x0 c7) ?_
                refine sx_bipush X (v := 53) dX14_symbol_259 rfl ?_
                exact sx_iret X rfl dX14_symbol_261 (ob_e hf) rfl rfl
              · have hf := ob_f hf c7
                by_cases c8 : x0 = 59
                · have hf := ob_t hf c8
                  refine sx_tin X 244 dX14_symbol_1 rfl (tin_X14_symbol_1_7 x0 c8) ?_
                  refine sx_bipush X (v := 63) dX14_symbol_244 rfl ?_
                  exact sx_iret X rfl dX14_symbol_246 (ob_e hf) rfl rfl
                · have hf := ob_f hf c8
                  by_cases c9 : x0 = 60
                  · have hf := ob_t hf c9
                    refine sx_tin X 262 dX14_symbol_1 rfl (tin_X14_symbol_1_8 x0 c9) ?_
                    refine sx_bipush X (v := 54) dX14_symbol_262 rfl ?_
                    exact sx_iret X rfl dX14_symbol_264 (ob_e hf) rfl rfl
                  · have hf := ob_f hf c9
                    by_cases c10 : x0 = 61
                    · have hf := ob_t hf c10
                      refine sx_tin X 268 dX14_symbol_1 rfl (tin_X14_symbol_1_9 x0 c10) ?_
                      refine sx_bipush X (v := 56) dX14_symbol_268 rfl ?_
                      exact sx_iret X rfl dX14_symbol_270 (ob_e hf) rfl rfl
                    · have hf := ob_f hf c10
                      by_cases c11 : x0 = 62
                      · have hf := ob_t hf c11
                        refine sx_tin X 265 dX14_symbol_1 rfl (tin_X14_symbol_1_10 x0 c11) ?_
                        refine sx_bipush X (v := 55) dX14_symbol_265 rfl ?_
                        exact sx_iret X rfl dX14_symbol_267 (ob_e hf) rfl rfl
                      · have hf := ob_f hf c11
                        by_cases c12 : x0 = 91
                        · have hf := ob_t hf c12
                          refine sx_tin X 238 dX14_symbol_1 rfl (tin_X14_symbol_1_11 x0 c12) ?_
                          refine sx_bipush X (v := 61) dX14_symbol_238 rfl ?_
                          exact sx_iret X rfl dX14_symbol_240 (ob_e hf) rfl rfl
                        · have hf := ob_f hf c12
                          by_cases c13 : x0 = 93
                          · have hf := ob_t hf c13
                            refine sx_tin X 241 dX14_symbol_1 rfl (tin_X14_symbol_1_12 x0 c13) ?_
                            refine sx_bipush X (v := 62) dX14_symbol_241 rfl ?_
                            exact sx_iret X rfl dX14_symbol_243 (ob_e hf) rfl rfl
                          · have hf := ob_f hf c13
                            refine sx_tdef X 271 dX14_symbol_1 rfl (tab_X14_symbol_1 x0 c1 c2 c3 c4 c5 c6 c7 c8 c9 c10 c11 c12 c13) ?_
                            refine sx_bipush X (v := 42) dX14_symbol_271 rfl ?_
                            exact sx_iret X rfl dX14_symbol_273 (ob_e hf) rfl rfl
