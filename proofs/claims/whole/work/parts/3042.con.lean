/-! contracts, part 42 -/
abbrev vf_X14_isWarm (sd : SdT) (r : Int32 × Int32) : Option Value := some (.int r.1)
abbrev wc_X14_isWarm (T : Nat → ClassId) (sd : SdT) (h : Nat) (h_tape : Nat) (h_kind : Nat) (h_number : Nat) (h_position : Nat) (h_length : Nat) (h_frontName : Nat) (h_guestName : Nat) (h_told : Nat) (h_fresh : Nat) (h_value : Nat) (h_now : Nat) (h_kept : Nat) (h_told_warm : Nat) (h_told_force : Nat) (h_told_comes : Nat) (h_told_stays : Nat) (h_told_sits : Nat) (h_told_low : Nat) (h_told_high : Nat) (h_told_nerve : Nat) (h_told_does : Nat) (h_told_whom : Nat) (h_told_from : Nat) (h_told_to : Nat) (h_told_test : Nat) (h_told_sort : Nat) (h_told_left : Nat) (h_told_right : Nat) (b_h : bX14) (b_h_told : bX13) : va_W := [zO h 10 [.int (X14_thrown b_h), .ref h_tape, .int (X14_bytes b_h), .int (X14_errorAt b_h), .ref h_kind, .ref h_number, .ref h_position, .ref h_length, .int (X14_token b_h), .int (X14_isWrong b_h), .int (X14_error b_h), .int (X14_errorToken b_h), .int (X14_deep b_h), .ref h_frontName, .ref h_guestName, .ref h_told, .ref h_fresh, .ref h_value, .ref h_now, .ref h_kept], zI T h_tape 2000 (X14_tape b_h), zI T h_kind 402 (X14_kind b_h), zI T h_number 402 (X14_number b_h), zI T h_position 402 (X14_position b_h), zI T h_length 402 (X14_length b_h), zI T h_frontName 10 (X14_frontName b_h), zI T h_guestName 10 (X14_guestName b_h), zI T h_value 800 (X14_value b_h), zI T h_now 58 (X14_now b_h), zI T h_kept 58 (X14_kept b_h), zO h_told 9 [.int (X13_fronts b_h_told), .ref h_told_warm, .ref h_told_force, .ref h_told_comes, .ref h_told_stays, .int (X13_guests b_h_told), .ref h_told_sits, .ref h_told_low, .ref h_told_high, .ref h_told_nerve, .int (X13_orders b_h_told), .ref h_told_does, .ref h_told_whom, .ref h_told_from, .ref h_told_to, .ref h_told_test, .int (X13_nodes b_h_told), .ref h_told_sort, .ref h_told_left, .ref h_told_right], zI T h_told_warm 11 (X13_warm b_h_told), zI T h_told_force 11 (X13_force b_h_told), zI T h_told_comes 11 (X13_comes b_h_told), zI T h_told_stays 11 (X13_stays b_h_told), zI T h_told_sits 11 (X13_sits b_h_told), zI T h_told_low 11 (X13_low b_h_told), zI T h_told_high 11 (X13_high b_h_told), zI T h_told_nerve 11 (X13_nerve b_h_told), zI T h_told_does 17 (X13_does b_h_told), zI T h_told_whom 17 (X13_whom b_h_told), zI T h_told_from 17 (X13_from b_h_told), zI T h_told_to 17 (X13_to b_h_told), zI T h_told_test 17 (X13_test b_h_told), zI T h_told_sort 800 (X13_sort b_h_told), zI T h_told_left 800 (X13_left b_h_told), zI T h_told_right 800 (X13_right b_h_told)]
abbrev wf_X14_isWarm (T : Nat → ClassId) (sd : SdT) (h : Nat) (h_tape : Nat) (h_kind : Nat) (h_number : Nat) (h_position : Nat) (h_length : Nat) (h_frontName : Nat) (h_guestName : Nat) (h_told : Nat) (h_fresh : Nat) (h_value : Nat) (h_now : Nat) (h_kept : Nat) (h_told_warm : Nat) (h_told_force : Nat) (h_told_comes : Nat) (h_told_stays : Nat) (h_told_sits : Nat) (h_told_low : Nat) (h_told_high : Nat) (h_told_nerve : Nat) (h_told_does : Nat) (h_told_whom : Nat) (h_told_from : Nat) (h_told_to : Nat) (h_told_test : Nat) (h_told_sort : Nat) (h_told_left : Nat) (h_told_right : Nat) (b_h : bX14) (b_h_told : bX13) (r : Int32 × Int32) : va_W := [zO h 10 [.int r.2, .ref h_tape, .int (X14_bytes b_h), .int (X14_errorAt b_h), .ref h_kind, .ref h_number, .ref h_position, .ref h_length, .int (X14_token b_h), .int (X14_isWrong b_h), .int (X14_error b_h), .int (X14_errorToken b_h), .int (X14_deep b_h), .ref h_frontName, .ref h_guestName, .ref h_told, .ref h_fresh, .ref h_value, .ref h_now, .ref h_kept], zI T h_tape 2000 (X14_tape b_h), zI T h_kind 402 (X14_kind b_h), zI T h_number 402 (X14_number b_h), zI T h_position 402 (X14_position b_h), zI T h_length 402 (X14_length b_h), zI T h_frontName 10 (X14_frontName b_h), zI T h_guestName 10 (X14_guestName b_h), zI T h_value 800 (X14_value b_h), zI T h_now 58 (X14_now b_h), zI T h_kept 58 (X14_kept b_h), zO h_told 9 [.int (X13_fronts b_h_told), .ref h_told_warm, .ref h_told_force, .ref h_told_comes, .ref h_told_stays, .int (X13_guests b_h_told), .ref h_told_sits, .ref h_told_low, .ref h_told_high, .ref h_told_nerve, .int (X13_orders b_h_told), .ref h_told_does, .ref h_told_whom, .ref h_told_from, .ref h_told_to, .ref h_told_test, .int (X13_nodes b_h_told), .ref h_told_sort, .ref h_told_left, .ref h_told_right], zI T h_told_warm 11 (X13_warm b_h_told), zI T h_told_force 11 (X13_force b_h_told), zI T h_told_comes 11 (X13_comes b_h_told), zI T h_told_stays 11 (X13_stays b_h_told), zI T h_told_sits 11 (X13_sits b_h_told), zI T h_told_low 11 (X13_low b_h_told), zI T h_told_high 11 (X13_high b_h_told), zI T h_told_nerve 11 (X13_nerve b_h_told), zI T h_told_does 17 (X13_does b_h_told), zI T h_told_whom 17 (X13_whom b_h_told), zI T h_told_from 17 (X13_from b_h_told), zI T h_told_to 17 (X13_to b_h_told), zI T h_told_test 17 (X13_test b_h_told), zI T h_told_sort 800 (X13_sort b_h_told), zI T h_told_left 800 (X13_left b_h_told), zI T h_told_right 800 (X13_right b_h_told)]
abbrev rm_X14_isWarm : Room := { frames := 2, cells := 0, slots := 0, locals := 43 }
theorem hd_X14_isWarm : yX14_isWarm.cls ≠ "java/lang/invoke/MethodHandle" ∧ yX14_isWarm.cls ≠ "java/lang/invoke/VarHandle" ∧ (parseMethodDescriptor yX14_isWarm.desc).map (fun d => d.parameters.length) = some 1 := ⟨by decide, by decide, by decide +kernel⟩
set_option maxHeartbeats 4000000 in
set_option maxRecDepth 100000 in
theorem c_X14_isWarm {l : Launch} {D : va_G} {T : Nat → ClassId} {sd : SdT} (h : Nat) (h_tape : Nat) (h_kind : Nat) (h_number : Nat) (h_position : Nat) (h_length : Nat) (h_frontName : Nat) (h_guestName : Nat) (h_told : Nat) (h_fresh : Nat) (h_value : Nat) (h_now : Nat) (h_kept : Nat) (h_told_warm : Nat) (h_told_force : Nat) (h_told_comes : Nat) (h_told_stays : Nat) (h_told_sits : Nat) (h_told_low : Nat) (h_told_high : Nat) (h_told_nerve : Nat) (h_told_does : Nat) (h_told_whom : Nat) (h_told_from : Nat) (h_told_to : Nat) (h_told_test : Nat) (h_told_sort : Nat) (h_told_left : Nat) (h_told_right : Nat) (x0 : Int32) (b_h : bX14) (b_h_told : bX13) {res : Int32 × Int32} (hf : f_X14_isWarm x0 b_h b_h_told = some res) : SxK (SFx sd) l D T yX14_isWarm cX14_isWarm 2 (some .boolean) rm_X14_isWarm [.ref h, .int x0] (wc_X14_isWarm T sd h h_tape h_kind h_number h_position h_length h_frontName h_guestName h_told h_fresh h_value h_now h_kept h_told_warm h_told_force h_told_comes h_told_stays h_told_sits h_told_low h_told_high h_told_nerve h_told_does h_told_whom h_told_from h_told_to h_told_test h_told_sort h_told_left h_told_right b_h b_h_told) (vf_X14_isWarm sd) (wf_X14_isWarm T sd h h_tape h_kind h_number h_position h_length h_frontName h_guestName h_told h_fresh h_value h_now h_kept h_told_warm h_told_force h_told_comes h_told_stays h_told_sits h_told_low h_told_high h_told_nerve h_told_does h_told_whom h_told_from h_told_to h_told_test h_told_sort h_told_left h_told_right b_h b_h_told) res 0 0 := by
  refine sx_start (SFx_ok sd) (by decide +kernel) (Nat.le_of_ble_eq_true rfl) (fun p e s m args below meth c A X hnm => ?_)
  have hf := ob_1 hf
  refine sx_aload_n X 0 rfl dX14_isWarm_0 rfl ?_
  refine sx_iload_n X 1 rfl dX14_isWarm_1 rfl ?_
  obtain ⟨u1, hu1, hf⟩ := ob_c hf
  refine sx_cV X (c_X14_isFront (l := l) (D := D) (T := T) (sd := sd) h h_tape h_kind h_number h_position h_length h_frontName h_guestName h_told h_fresh h_value h_now h_kept h_told_warm h_told_force h_told_comes h_told_stays h_told_sits h_told_low h_told_high h_told_nerve h_told_does h_told_whom h_told_from h_told_to h_told_test h_told_sort h_told_left h_told_right x0 b_h b_h_told hu1) (st' := [.int u1.1]) (q0 := 0) qm_1581 qm_1583 qm_50 qm_79 qm_1584 hd_X14_isFront ⟨rfl, rfl⟩ ⟨Nat.le_of_ble_eq_true rfl, Nat.le_of_ble_eq_true rfl⟩ rfl rfl (Nat.le_of_ble_eq_true rfl) rfl rfl rfl [0, 1, 2, 3, 4, 5, 6, 7, 8, 9, 10, 11, 12, 13, 14, 15, 16, 17, 18, 19, 20, 21, 22, 23, 24, 25, 26, 27] rfl rfl (ws' := [zO h 10 [.int u1.2, .ref h_tape, .int (X14_bytes b_h), .int (X14_errorAt b_h), .ref h_kind, .ref h_number, .ref h_position, .ref h_length, .int (X14_token b_h), .int (X14_isWrong b_h), .int (X14_error b_h), .int (X14_errorToken b_h), .int (X14_deep b_h), .ref h_frontName, .ref h_guestName, .ref h_told, .ref h_fresh, .ref h_value, .ref h_now, .ref h_kept], zI T h_tape 2000 (X14_tape b_h), zI T h_kind 402 (X14_kind b_h), zI T h_number 402 (X14_number b_h), zI T h_position 402 (X14_position b_h), zI T h_length 402 (X14_length b_h), zI T h_frontName 10 (X14_frontName b_h), zI T h_guestName 10 (X14_guestName b_h), zI T h_value 800 (X14_value b_h), zI T h_now 58 (X14_now b_h), zI T h_kept 58 (X14_kept b_h), zO h_told 9 [.int (X13_fronts b_h_told), .ref h_told_warm, .ref h_told_force, .ref h_told_comes, .ref h_told_stays, .int (X13_guests b_h_told), .ref h_told_sits, .ref h_told_low, .ref h_told_high, .ref h_told_nerve, .int (X13_orders b_h_told), .ref h_told_does, .ref h_told_whom, .ref h_told_from, .ref h_told_to, .ref h_told_test, .int (X13_nodes b_h_told), .ref h_told_sort, .ref h_told_left, .ref h_told_right], zI T h_told_warm 11 (X13_warm b_h_told), zI T h_told_force 11 (X13_force b_h_told), zI T h_told_comes 11 (X13_comes b_h_told), zI T h_told_stays 11 (X13_stays b_h_told), zI T h_told_sits 11 (X13_sits b_h_told), zI T h_told_low 11 (X13_low b_h_told), zI T h_told_high 11 (X13_high b_h_told), zI T h_told_nerve 11 (X13_nerve b_h_told), zI T h_told_does 17 (X13_does b_h_told), zI T h_told_whom 17 (X13_whom b_h_told), zI T h_told_from 17 (X13_from b_h_told), zI T h_told_to 17 (X13_to b_h_told), zI T h_told_test 17 (X13_test b_h_told), zI T h_told_sort 800 (X13_sort b_h_told), zI T h_told_left 800 (X13_left b_h_told), zI T h_told_right 800 (X13_right b_h_told)]) (sxPatch_pk [(true, 0), (true, 1), (true, 2), (true, 3), (true, 4), (true, 5), (true, 6), (true, 7), (true, 8), (true, 9), (true, 10), (true, 11), (true, 12), (true, 13), (true, 14), (true, 15), (true, 16), (true, 17), (true, 18), (true, 19), (true, 20), (true, 21), (true, 22), (true, 23), (true, 24), (true, 25), (true, 26), (true, 27)] (by decide +kernel) rfl rfl rfl) rfl ⟨Nat.le_of_ble_eq_true rfl, Nat.le_of_ble_eq_true rfl⟩ dX14_isWarm_2 rfl ?_
  refine sx_if_eq X 25 dX14_isWarm_5 rfl (fun c2 => ?_) (fun c2 => ?_)
  · have hf := ob_t hf c2
    refine sx_iconst X (v := 0) dX14_isWarm_25 rfl ?_
    exact sx_iret X rfl dX14_isWarm_26 (ob_e hf) rfl rfl
  · have hf := ob_f hf c2
    refine sx_aload_n X 0 rfl dX14_isWarm_8 rfl ?_
    refine sx_get X kX14 0 rfl 15 (Nat.le_of_ble_eq_true rfl) qm_1283 rfl dX14_isWarm_9 ?_
    refine sx_getN X kX13 11 rfl 1 (Nat.le_of_ble_eq_true rfl) (List.mem_of_getElem? (i := 2) rfl) rfl dX14_isWarm_12 ?_
    refine sx_iload_n X 1 rfl dX14_isWarm_15 rfl ?_
    obtain ⟨g3, hf⟩ := ob_g hf
    refine sx_iald X 12 rfl g3 dX14_isWarm_16 ?_
    refine sx_iconst X (v := 1) dX14_isWarm_17 rfl ?_
    refine sx_icmp_ne X 25 dX14_isWarm_18 rfl (fun c4 => ?_) (fun c4 => ?_)
    · have hf := ob_f hf c4
      refine sx_iconst X (v := 0) dX14_isWarm_25 rfl ?_
      exact sx_iret X rfl dX14_isWarm_26 (ob_e hf) rfl rfl
    · have hf := ob_t hf c4
      refine sx_iconst X (v := 1) dX14_isWarm_21 rfl ?_
      refine sx_goto X 26 dX14_isWarm_22 rfl ?_
      exact sx_iret X rfl dX14_isWarm_26 (ob_e hf) rfl rfl

abbrev vf_X14_isWord (sd : SdT) (r : Int32) : Option Value := some (.int r)
abbrev wc_X14_isWord (T : Nat → ClassId) (sd : SdT) (h : Nat) (h_tape : Nat) (h_kind : Nat) (h_number : Nat) (h_position : Nat) (h_length : Nat) (h_frontName : Nat) (h_guestName : Nat) (h_told : Nat) (h_fresh : Nat) (h_value : Nat) (h_now : Nat) (h_kept : Nat) (b_h : bX14) : va_W := [zO h 10 [.int (X14_thrown b_h), .ref h_tape, .int (X14_bytes b_h), .int (X14_errorAt b_h), .ref h_kind, .ref h_number, .ref h_position, .ref h_length, .int (X14_token b_h), .int (X14_isWrong b_h), .int (X14_error b_h), .int (X14_errorToken b_h), .int (X14_deep b_h), .ref h_frontName, .ref h_guestName, .ref h_told, .ref h_fresh, .ref h_value, .ref h_now, .ref h_kept], zI T h_tape 2000 (X14_tape b_h), zI T h_kind 402 (X14_kind b_h), zI T h_number 402 (X14_number b_h), zI T h_position 402 (X14_position b_h), zI T h_length 402 (X14_length b_h), zI T h_frontName 10 (X14_frontName b_h), zI T h_guestName 10 (X14_guestName b_h), zI T h_value 800 (X14_value b_h), zI T h_now 58 (X14_now b_h), zI T h_kept 58 (X14_kept b_h)]
abbrev wf_X14_isWord (T : Nat → ClassId) (sd : SdT) (h : Nat) (h_tape : Nat) (h_kind : Nat) (h_number : Nat) (h_position : Nat) (h_length : Nat) (h_frontName : Nat) (h_guestName : Nat) (h_told : Nat) (h_fresh : Nat) (h_value : Nat) (h_now : Nat) (h_kept : Nat) (b_h : bX14) (r : Int32) : va_W := [zO h 10 [.int (X14_thrown b_h), .ref h_tape, .int (X14_bytes b_h), .int (X14_errorAt b_h), .ref h_kind, .ref h_number, .ref h_position, .ref h_length, .int (X14_token b_h), .int (X14_isWrong b_h), .int (X14_error b_h), .int (X14_errorToken b_h), .int (X14_deep b_h), .ref h_frontName, .ref h_guestName, .ref h_told, .ref h_fresh, .ref h_value, .ref h_now, .ref h_kept], zI T h_tape 2000 (X14_tape b_h), zI T h_kind 402 (X14_kind b_h), zI T h_number 402 (X14_number b_h), zI T h_position 402 (X14_position b_h), zI T h_length 402 (X14_length b_h), zI T h_frontName 10 (X14_frontName b_h), zI T h_guestName 10 (X14_guestName b_h), zI T h_value 800 (X14_value b_h), zI T h_now 58 (X14_now b_h), zI T h_kept 58 (X14_kept b_h)]
abbrev rm_X14_isWord : Room := { frames := 4, cells := 0, slots := 0, locals := 100 }
theorem hd_X14_isWord : yX14_isWord.cls ≠ "java/lang/invoke/MethodHandle" ∧ yX14_isWord.cls ≠ "java/lang/invoke/VarHandle" ∧ (parseMethodDescriptor yX14_isWord.desc).map (fun d => d.parameters.length) = some 3 := ⟨by decide, by decide, by decide +kernel⟩
set_option maxHeartbeats 4000000 in
set_option maxRecDepth 100000 in
theorem c_X14_isWord {l : Launch} {D : va_G} {T : Nat → ClassId} {sd : SdT} (h : Nat) (h_tape : Nat) (h_kind : Nat) (h_number : Nat) (h_position : Nat) (h_length : Nat) (h_frontName : Nat) (h_guestName : Nat) (h_told : Nat) (h_fresh : Nat) (h_value : Nat) (h_now : Nat) (h_kept : Nat) (n : Nat) (x0 : Int32) (x1 : Int32) (x2 : Nat) (b_h : bX14) {res : Int32} (hf : f_X14_isWord n x0 x1 x2 b_h = some res) : SxK (SFx sd) l D T yX14_isWord cX14_isWord 5 (some .boolean) rm_X14_isWord [.ref h, .int x0, .int x1, .ref (sd.2.1 x2)] (wc_X14_isWord T sd h h_tape h_kind h_number h_position h_length h_frontName h_guestName h_told h_fresh h_value h_now h_kept b_h) (vf_X14_isWord sd) (wf_X14_isWord T sd h h_tape h_kind h_number h_position h_length h_frontName h_guestName h_told h_fresh h_value h_now h_kept b_h) res 0 0 := by
  refine sx_start (SFx_ok sd) (by decide +kernel) (Nat.le_of_ble_eq_true rfl) (fun p e s m args below meth c A X hnm => ?_)
  have hf := ob_1 hf
  have L13 : ∀ (v1 : Int32) (v2 : Int32) (v3 : Nat) (n0 : Nat) (v4 : Int32), (iter (fun s : Int32 => f_X14_isWord_L13 n x0 x1 x2 b_h v1 v2 v3 s) n0 v4).bind some = some res → SxG p l e rm_X14_isWord s m args below meth c D A 5 0 0 (SxE below args s D A (vf_X14_isWord sd) (wf_X14_isWord T sd h h_tape h_kind h_number h_position h_length h_frontName h_guestName h_told h_fresh h_value h_now h_kept b_h) res 0 0) [zO h 10 [.int (X14_thrown b_h), .ref h_tape, .int (X14_bytes b_h), .int (X14_errorAt b_h), .ref h_kind, .ref h_number, .ref h_position, .ref h_length, .int (X14_token b_h), .int (X14_isWrong b_h), .int (X14_error b_h), .int (X14_errorToken b_h), .int (X14_deep b_h), .ref h_frontName, .ref h_guestName, .ref h_told, .ref h_fresh, .ref h_value, .ref h_now, .ref h_kept], zI T h_tape 2000 (X14_tape b_h), zI T h_kind 402 (X14_kind b_h), zI T h_number 402 (X14_number b_h), zI T h_position 402 (X14_position b_h), zI T h_length 402 (X14_length b_h), zI T h_frontName 10 (X14_frontName b_h), zI T h_guestName 10 (X14_guestName b_h), zI T h_value 800 (X14_value b_h), zI T h_now 58 (X14_now b_h), zI T h_kept 58 (X14_kept b_h)] [(0, .ref h), (1, .int v1), (2, .int v2), (3, .ref (sd.2.1 v3)), (4, .int v4)] 13 [] := by
    intro v1 v2 v3 n0
    induction n0 with
    | zero =>
      intro v4 hf
      exact (iter_z hf).elim
    | succ n0 ih13 =>
      intro v4 hf
      obtain ⟨κ13, hκ13, hf⟩ := iter_k hf
      have hf : (f_X14_isWord_L13 n x0 x1 x2 b_h v1 v2 v3 v4).bind κ13 = some res := hf
      refine sx_iload X 4 rfl dX14_isWord_13 ?_
      refine sx_iload_n X 2 rfl dX14_isWord_15 rfl ?_
      refine sx_icmp_ge X 45 dX14_isWord_16 rfl (fun c3 => ?_) (fun c3 => ?_)
      · have hf := ob_t hf c3
        refine sx_iconst X (v := 1) dX14_isWord_45 rfl ?_
        have hf := ob_kr hκ13 hf
        exact sx_iret X rfl dX14_isWord_46 (ob_e hf) rfl rfl
      · have hf := ob_f hf c3
        refine sx_aload_n X 3 rfl dX14_isWord_19 rfl ?_
        refine sx_iload X 4 rfl dX14_isWord_20 ?_
        obtain ⟨g4, hf⟩ := ob_h hf
        obtain ⟨g5, hf⟩ := ob_g hf
        refine sx_schar X v3 g4 g5 qm_1389 (Nat.le_of_ble_eq_true rfl) (Nat.le_of_ble_eq_true rfl) (Nat.le_of_ble_eq_true rfl) (Nat.zero_le _) (Nat.zero_le _) dX14_isWord_22 ?_
        refine sx_aload_n X 0 rfl dX14_isWord_25 rfl ?_
        refine sx_get X kX14 0 rfl 1 (Nat.le_of_ble_eq_true rfl) qm_1269 rfl dX14_isWord_26 ?_
        refine sx_iload_n X 1 rfl dX14_isWord_29 rfl ?_
        refine sx_iload X 4 rfl dX14_isWord_30 ?_
        refine sx_iadd X dX14_isWord_32 ?_
        obtain ⟨g6, hf⟩ := ob_g hf
        refine sx_iald X 1 rfl g6 dX14_isWord_33 ?_
        refine sx_icmp_eq X 39 dX14_isWord_34 rfl (fun c7 => ?_) (fun c7 => ?_)
        · have hf := ob_t hf c7
          refine sx_iinc X (v := (v4 + 1)) (lv' := [(4, .int (v4 + 1)), (0, .ref h), (1, .int v1), (2, .int v2), (3, .ref (sd.2.1 v3))]) 4 rfl dX14_isWord_39 rfl (by decide) rfl ?_
          refine sx_goto X 13 dX14_isWord_42 rfl ?_
          have hf := ob_k hκ13 hf
          refine sx_lsub [1, 2, 3, 4, 0] rfl ?_
          exact ih13 (v4 + 1) hf
        · have hf := ob_f hf c7
          refine sx_iconst X (v := 0) dX14_isWord_37 rfl ?_
          have hf := ob_kr hκ13 hf
          exact sx_iret X rfl dX14_isWord_38 (ob_e hf) rfl rfl
  refine sx_aload_n X 3 rfl dX14_isWord_0 rfl ?_
  obtain ⟨g1, hf⟩ := ob_h hf
  refine sx_slen X x2 g1 qm_1388 (Nat.le_of_ble_eq_true rfl) (Nat.le_of_ble_eq_true rfl) (Nat.le_of_ble_eq_true rfl) (Nat.zero_le _) (Nat.zero_le _) dX14_isWord_1 ?_
  refine sx_iload_n X 2 rfl dX14_isWord_4 rfl ?_
  refine sx_icmp_eq X 10 dX14_isWord_5 rfl (fun c2 => ?_) (fun c2 => ?_)
  · have hf := ob_t hf c2
    refine sx_iconst X (v := 0) dX14_isWord_10 rfl ?_
    refine sx_istore X (lv' := [(4, .int 0), (0, .ref h), (1, .int x0), (2, .int x1), (3, .ref (sd.2.1 x2))]) dX14_isWord_11 (by decide) rfl ?_
    refine sx_lsub [1, 2, 3, 4, 0] rfl ?_
    exact L13 x0 x1 x2 n 0 hf
  · have hf := ob_f hf c2
    refine sx_iconst X (v := 0) dX14_isWord_8 rfl ?_
    exact sx_iret X rfl dX14_isWord_9 (ob_e hf) rfl rfl

abbrev vf_X14_keyword (sd : SdT) (r : Int32) : Option Value := some (.int r)
abbrev wc_X14_keyword (T : Nat → ClassId) (sd : SdT) (h : Nat) (h_tape : Nat) (h_kind : Nat) (h_number : Nat) (h_position : Nat) (h_length : Nat) (h_frontName : Nat) (h_guestName : Nat) (h_told : Nat) (h_fresh : Nat) (h_value : Nat) (h_now : Nat) (h_kept : Nat) (b_h : bX14) : va_W := [zO h 10 [.int (X14_thrown b_h), .ref h_tape, .int (X14_bytes b_h), .int (X14_errorAt b_h), .ref h_kind, .ref h_number, .ref h_position, .ref h_length, .int (X14_token b_h), .int (X14_isWrong b_h), .int (X14_error b_h), .int (X14_errorToken b_h), .int (X14_deep b_h), .ref h_frontName, .ref h_guestName, .ref h_told, .ref h_fresh, .ref h_value, .ref h_now, .ref h_kept], zI T h_tape 2000 (X14_tape b_h), zI T h_kind 402 (X14_kind b_h), zI T h_number 402 (X14_number b_h), zI T h_position 402 (X14_position b_h), zI T h_length 402 (X14_length b_h), zI T h_frontName 10 (X14_frontName b_h), zI T h_guestName 10 (X14_guestName b_h), zI T h_value 800 (X14_value b_h), zI T h_now 58 (X14_now b_h), zI T h_kept 58 (X14_kept b_h)]
abbrev wf_X14_keyword (T : Nat → ClassId) (sd : SdT) (h : Nat) (h_tape : Nat) (h_kind : Nat) (h_number : Nat) (h_position : Nat) (h_length : Nat) (h_frontName : Nat) (h_guestName : Nat) (h_told : Nat) (h_fresh : Nat) (h_value : Nat) (h_now : Nat) (h_kept : Nat) (b_h : bX14) (r : Int32) : va_W := [zO h 10 [.int (X14_thrown b_h), .ref h_tape, .int (X14_bytes b_h), .int (X14_errorAt b_h), .ref h_kind, .ref h_number, .ref h_position, .ref h_length, .int (X14_token b_h), .int (X14_isWrong b_h), .int (X14_error b_h), .int (X14_errorToken b_h), .int (X14_deep b_h), .ref h_frontName, .ref h_guestName, .ref h_told, .ref h_fresh, .ref h_value, .ref h_now, .ref h_kept], zI T h_tape 2000 (X14_tape b_h), zI T h_kind 402 (X14_kind b_h), zI T h_number 402 (X14_number b_h), zI T h_position 402 (X14_position b_h), zI T h_length 402 (X14_length b_h), zI T h_frontName 10 (X14_frontName b_h), zI T h_guestName 10 (X14_guestName b_h), zI T h_value 800 (X14_value b_h), zI T h_now 58 (X14_now b_h), zI T h_kept 58 (X14_kept b_h)]
abbrev rm_X14_keyword : Room := { frames := 5, cells := 0, slots := 0, locals := 124 }
theorem hd_X14_keyword : yX14_keyword.cls ≠ "java/lang/invoke/MethodHandle" ∧ yX14_keyword.cls ≠ "java/lang/invoke/VarHandle" ∧ (parseMethodDescriptor yX14_keyword.desc).map (fun d => d.parameters.length) = some 2 := ⟨by decide, by decide, by decide +kernel⟩
set_option maxHeartbeats 4000000 in
set_option maxRecDepth 100000 in
theorem c_X14_keyword {l : Launch} {D : va_G} {T : Nat → ClassId} {sd : SdT} (h : Nat) (h_tape : Nat) (h_kind : Nat) (h_number : Nat) (h_position : Nat) (h_length : Nat) (h_frontName : Nat) (h_guestName : Nat) (h_told : Nat) (h_fresh : Nat) (h_value : Nat) (h_now : Nat) (h_kept : Nat) (n : Nat) (x0 : Int32) (x1 : Int32) (b_h : bX14) {res : Int32} (hf : f_X14_keyword n x0 x1 b_h = some res) : SxK (SFx sd) l D T yX14_keyword cX14_keyword 4 (some .int) rm_X14_keyword [.ref h, .int x0, .int x1] (wc_X14_keyword T sd h h_tape h_kind h_number h_position h_length h_frontName h_guestName h_told h_fresh h_value h_now h_kept b_h) (vf_X14_keyword sd) (wf_X14_keyword T sd h h_tape h_kind h_number h_position h_length h_frontName h_guestName h_told h_fresh h_value h_now h_kept b_h) res 0 0 := by
  refine sx_start (SFx_ok sd) (by decide +kernel) (Nat.le_of_ble_eq_true rfl) (fun p e s m args below meth c A X hnm => ?_)
  have hf := ob_1 hf
  have L2 : ∀ (v1 : Int32) (v2 : Int32) (n0 : Nat) (v3 : Int32), (iter (fun s : Int32 => f_X14_keyword_L2 n x0 x1 b_h v1 v2 s) n0 v3).bind some = some res → SxG p l e rm_X14_keyword s m args below meth c D A 4 0 0 (SxE below args s D A (vf_X14_keyword sd) (wf_X14_keyword T sd h h_tape h_kind h_number h_position h_length h_frontName h_guestName h_told h_fresh h_value h_now h_kept b_h) res 0 0) [zO h 10 [.int (X14_thrown b_h), .ref h_tape, .int (X14_bytes b_h), .int (X14_errorAt b_h), .ref h_kind, .ref h_number, .ref h_position, .ref h_length, .int (X14_token b_h), .int (X14_isWrong b_h), .int (X14_error b_h), .int (X14_errorToken b_h), .int (X14_deep b_h), .ref h_frontName, .ref h_guestName, .ref h_told, .ref h_fresh, .ref h_value, .ref h_now, .ref h_kept], zI T h_tape 2000 (X14_tape b_h), zI T h_kind 402 (X14_kind b_h), zI T h_number 402 (X14_number b_h), zI T h_position 402 (X14_position b_h), zI T h_length 402 (X14_length b_h), zI T h_frontName 10 (X14_frontName b_h), zI T h_guestName 10 (X14_guestName b_h), zI T h_value 800 (X14_value b_h), zI T h_now 58 (X14_now b_h), zI T h_kept 58 (X14_kept b_h)] [(0, .ref h), (1, .int v1), (2, .int v2), (3, .int v3)] 2 [] := by
    intro v1 v2 n0
    induction n0 with
    | zero =>
      intro v3 hf
      exact (iter_z hf).elim
    | succ n0 ih2 =>
      intro v3 hf
      obtain ⟨κ2, hκ2, hf⟩ := iter_k hf
      have hf : (f_X14_keyword_L2 n x0 x1 b_h v1 v2 v3).bind κ2 = some res := hf
      refine sx_iload_n X 3 rfl dX14_keyword_2 rfl ?_
      refine sx_Tst X qm_1382 dX14_keyword_3 ?_
      refine sx_Tlen X dX14_keyword_6 ?_
      refine sx_icmp_ge X 32 dX14_keyword_7 rfl (fun c1 => ?_) (fun c1 => ?_)
      · have hf := ob_t hf c1
        refine sx_iload_n X 2 rfl dX14_keyword_32 rfl ?_
        refine sx_bipush X (v := 10) dX14_keyword_33 rfl ?_
        refine sx_icmp_le X 43 dX14_keyword_35 rfl (fun c2 => ?_) (fun c2 => ?_)
        · have hf := ob_t hf c2
          refine sx_bipush X (v := 40) dX14_keyword_43 rfl ?_
          have hf := ob_kr hκ2 hf
          exact sx_iret X rfl dX14_keyword_45 (ob_e hf) rfl rfl
        · have hf := ob_f hf c2
          refine sx_bipush X (v := 42) dX14_keyword_38 rfl ?_
          refine sx_goto X 45 dX14_keyword_40 rfl ?_
          have hf := ob_kr hκ2 hf
          exact sx_iret X rfl dX14_keyword_45 (ob_e hf) rfl rfl
      · have hf := ob_f hf c1
        refine sx_aload_n X 0 rfl dX14_keyword_10 rfl ?_
        refine sx_iload_n X 1 rfl dX14_keyword_11 rfl ?_
        refine sx_iload_n X 2 rfl dX14_keyword_12 rfl ?_
        refine sx_Tst X qm_1382 dX14_keyword_13 ?_
        refine sx_iload_n X 3 rfl dX14_keyword_16 rfl ?_
        obtain ⟨g3, hf⟩ := ob_g hf
        refine sx_Tld X g3 dX14_keyword_17 ?_
        obtain ⟨u4, hu4, hf⟩ := ob_c hf
        refine sx_cVr X (c_X14_isWord (l := l) (D := D) (T := T) (sd := sd) h h_tape h_kind h_number h_position h_length h_frontName h_guestName h_told h_fresh h_value h_now h_kept n v1 v2 (tkK v3.toNatClampNeg) b_h hu4) (st' := [.int u4]) (q0 := 0) qm_1384 qm_1386 qm_20 qm_79 qm_1387 hd_X14_isWord ⟨rfl, rfl⟩ ⟨Nat.le_of_ble_eq_true rfl, Nat.le_of_ble_eq_true rfl⟩ rfl rfl (Nat.le_of_ble_eq_true rfl) rfl rfl rfl [0, 1, 2, 3, 4, 5, 6, 7, 8, 9, 10] rfl rfl rfl ⟨Nat.le_of_ble_eq_true rfl, Nat.le_of_ble_eq_true rfl⟩ dX14_keyword_18 rfl ?_
        refine sx_if_eq X 26 dX14_keyword_21 rfl (fun c5 => ?_) (fun c5 => ?_)
        · have hf := ob_t hf c5
          refine sx_iinc X (v := (v3 + 1)) (lv' := [(3, .int (v3 + 1)), (0, .ref h), (1, .int v1), (2, .int v2)]) 3 rfl dX14_keyword_26 rfl (by decide) rfl ?_
          refine sx_goto X 2 dX14_keyword_29 rfl ?_
          have hf := ob_k hκ2 hf
          refine sx_lsub [1, 2, 3, 0] rfl ?_
          exact ih2 (v3 + 1) hf
        · have hf := ob_f hf c5
          refine sx_iload_n X 3 rfl dX14_keyword_24 rfl ?_
          have hf := ob_kr hκ2 hf
          exact sx_iret X rfl dX14_keyword_25 (ob_e hf) rfl rfl
  refine sx_iconst X (v := 0) dX14_keyword_0 rfl ?_
  refine sx_istore_n X (lv' := [(3, .int 0), (0, .ref h), (1, .int x0), (2, .int x1)]) dX14_keyword_1 rfl (by decide) rfl ?_
  refine sx_lsub [1, 2, 3, 0] rfl ?_
  exact L2 x0 x1 n 0 hf

abbrev vf_X14_lemon (sd : SdT) (r : Int32 × Int32 × (Nat → Int32)) : Option Value := some (.int r.1)
abbrev wc_X14_lemon (T : Nat → ClassId) (sd : SdT) (h : Nat) (h_tape : Nat) (h_kind : Nat) (h_number : Nat) (h_position : Nat) (h_length : Nat) (h_frontName : Nat) (h_guestName : Nat) (h_told : Nat) (h_fresh : Nat) (h_value : Nat) (h_now : Nat) (h_kept : Nat) (b_h : bX14) : va_W := [zO h 10 [.int (X14_thrown b_h), .ref h_tape, .int (X14_bytes b_h), .int (X14_errorAt b_h), .ref h_kind, .ref h_number, .ref h_position, .ref h_length, .int (X14_token b_h), .int (X14_isWrong b_h), .int (X14_error b_h), .int (X14_errorToken b_h), .int (X14_deep b_h), .ref h_frontName, .ref h_guestName, .ref h_told, .ref h_fresh, .ref h_value, .ref h_now, .ref h_kept], zI T h_tape 2000 (X14_tape b_h), zI T h_kind 402 (X14_kind b_h), zI T h_number 402 (X14_number b_h), zI T h_position 402 (X14_position b_h), zI T h_length 402 (X14_length b_h), zI T h_frontName 10 (X14_frontName b_h), zI T h_guestName 10 (X14_guestName b_h), zI T h_value 800 (X14_value b_h), zI T h_now 58 (X14_now b_h), zI T h_kept 58 (X14_kept b_h)]
abbrev wf_X14_lemon (T : Nat → ClassId) (sd : SdT) (h : Nat) (h_tape : Nat) (h_kind : Nat) (h_number : Nat) (h_position : Nat) (h_length : Nat) (h_frontName : Nat) (h_guestName : Nat) (h_told : Nat) (h_fresh : Nat) (h_value : Nat) (h_now : Nat) (h_kept : Nat) (b_h : bX14) (r : Int32 × Int32 × (Nat → Int32)) : va_W := [zO h 10 [.int r.2.1, .ref h_tape, .int (X14_bytes b_h), .int (X14_errorAt b_h), .ref h_kind, .ref h_number, .ref h_position, .ref h_length, .int (X14_token b_h), .int (X14_isWrong b_h), .int (X14_error b_h), .int (X14_errorToken b_h), .int (X14_deep b_h), .ref h_frontName, .ref h_guestName, .ref h_told, .ref h_fresh, .ref h_value, .ref h_now, .ref h_kept], zI T h_tape 2000 (X14_tape b_h), zI T h_kind 402 (X14_kind b_h), zI T h_number 402 (X14_number b_h), zI T h_position 402 (X14_position b_h), zI T h_length 402 (X14_length b_h), zI T h_frontName 10 (X14_frontName b_h), zI T h_guestName 10 (X14_guestName b_h), zI T h_value 800 (X14_value b_h), zI T h_now 58 r.2.2, zI T h_kept 58 (X14_kept b_h)]
abbrev rm_X14_lemon : Room := { frames := 2, cells := 0, slots := 0, locals := 41 }
theorem hd_X14_lemon : yX14_lemon.cls ≠ "java/lang/invoke/MethodHandle" ∧ yX14_lemon.cls ≠ "java/lang/invoke/VarHandle" ∧ (parseMethodDescriptor yX14_lemon.desc).map (fun d => d.parameters.length) = some 0 := ⟨by decide, by decide, by decide +kernel⟩
set_option maxHeartbeats 4000000 in
set_option maxRecDepth 100000 in
theorem c_X14_lemon {l : Launch} {D : va_G} {T : Nat → ClassId} {sd : SdT} (h : Nat) (h_tape : Nat) (h_kind : Nat) (h_number : Nat) (h_position : Nat) (h_length : Nat) (h_frontName : Nat) (h_guestName : Nat) (h_told : Nat) (h_fresh : Nat) (h_value : Nat) (h_now : Nat) (h_kept : Nat) (b_h : bX14) {res : Int32 × Int32 × (Nat → Int32)} (hf : f_X14_lemon b_h = some res) : SxK (SFx sd) l D T yX14_lemon cX14_lemon 1 (some .int) rm_X14_lemon [.ref h] (wc_X14_lemon T sd h h_tape h_kind h_number h_position h_length h_frontName h_guestName h_told h_fresh h_value h_now h_kept b_h) (vf_X14_lemon sd) (wf_X14_lemon T sd h h_tape h_kind h_number h_position h_length h_frontName h_guestName h_told h_fresh h_value h_now h_kept b_h) res 0 0 := by
  refine sx_start (SFx_ok sd) (by decide +kernel) (Nat.le_of_ble_eq_true rfl) (fun p e s m args below meth c A X hnm => ?_)
  have hf := ob_1 hf
  refine sx_aload_n X 0 rfl dX14_lemon_0 rfl ?_
  refine sx_get X kX14 0 rfl 18 (Nat.le_of_ble_eq_true rfl) qm_1286 rfl dX14_lemon_1 ?_
  refine sx_iconst X (v := 4) dX14_lemon_4 rfl ?_
  obtain ⟨g1, hf⟩ := ob_g hf
  refine sx_iald X 9 rfl g1 dX14_lemon_5 ?_
  refine sx_if_ne X 15 dX14_lemon_6 rfl (fun c2 => ?_) (fun c2 => ?_)
  · have hf := ob_f hf c2
    refine sx_aload_n X 0 rfl dX14_lemon_15 rfl ?_
    obtain ⟨u3, hu3, hf⟩ := ob_c hf
    refine sx_cV X (c_X14_squeeze (l := l) (D := D) (T := T) (sd := sd) h h_tape h_kind h_number h_position h_length h_frontName h_guestName h_told h_fresh h_value h_now h_kept b_h hu3) (st' := []) (q0 := 0) qm_1637 qm_1639 qm_55 qm_79 qm_1640 hd_X14_squeeze ⟨rfl, rfl⟩ ⟨Nat.le_of_ble_eq_true rfl, Nat.le_of_ble_eq_true rfl⟩ rfl rfl (Nat.le_of_ble_eq_true rfl) rfl rfl rfl [0, 1, 2, 3, 4, 5, 6, 7, 8, 9, 10] rfl rfl (ws' := [zO h 10 [.int (X14_thrown b_h), .ref h_tape, .int (X14_bytes b_h), .int (X14_errorAt b_h), .ref h_kind, .ref h_number, .ref h_position, .ref h_length, .int (X14_token b_h), .int (X14_isWrong b_h), .int (X14_error b_h), .int (X14_errorToken b_h), .int (X14_deep b_h), .ref h_frontName, .ref h_guestName, .ref h_told, .ref h_fresh, .ref h_value, .ref h_now, .ref h_kept], zI T h_tape 2000 (X14_tape b_h), zI T h_kind 402 (X14_kind b_h), zI T h_number 402 (X14_number b_h), zI T h_position 402 (X14_position b_h), zI T h_length 402 (X14_length b_h), zI T h_frontName 10 (X14_frontName b_h), zI T h_guestName 10 (X14_guestName b_h), zI T h_value 800 (X14_value b_h), zI T h_now 58 u3, zI T h_kept 58 (X14_kept b_h)]) (sxPatch_pk [(true, 0), (true, 1), (true, 2), (true, 3), (true, 4), (true, 5), (true, 6), (true, 7), (true, 8), (true, 9), (true, 10)] (by decide +kernel) rfl rfl rfl) rfl ⟨Nat.le_of_ble_eq_true rfl, Nat.le_of_ble_eq_true rfl⟩ dX14_lemon_16 rfl ?_
    refine sx_aload_n X 0 rfl dX14_lemon_19 rfl ?_
    refine sx_aload_n X 0 rfl dX14_lemon_20 rfl ?_
    refine sx_get X kX14 0 rfl 18 (Nat.le_of_ble_eq_true rfl) qm_1286 rfl dX14_lemon_21 ?_
    refine sx_iconst X (v := 3) dX14_lemon_24 rfl ?_
    obtain ⟨g4, hf⟩ := ob_g hf
    refine sx_iald X 9 rfl g4 dX14_lemon_25 ?_
    obtain ⟨u5, hu5, hf⟩ := ob_c hf
    refine sx_cV X (c_X14_ok (l := l) (D := D) (T := T) (sd := sd) h h_tape h_kind h_number h_position h_length h_frontName h_guestName h_told h_fresh h_value h_now h_kept (u3 (3 : Int32).toNatClampNeg) ((X14_thrown b_h), (X14_tape b_h), (X14_bytes b_h), (X14_errorAt b_h), (X14_kind b_h), (X14_number b_h), (X14_position b_h), (X14_length b_h), (X14_token b_h), (X14_isWrong b_h), (X14_error b_h), (X14_errorToken b_h), (X14_deep b_h), (X14_frontName b_h), (X14_guestName b_h), (X14_value b_h), u3, (X14_kept b_h)) hu5) (st' := [.int u5.1]) (q0 := 0) qm_1517 qm_1519 qm_48 qm_79 qm_1520 hd_X14_ok ⟨rfl, rfl⟩ ⟨Nat.le_of_ble_eq_true rfl, Nat.le_of_ble_eq_true rfl⟩ rfl rfl (Nat.le_of_ble_eq_true rfl) rfl rfl rfl [0, 1, 2, 3, 4, 5, 6, 7, 8, 9, 10] rfl rfl (ws' := [zO h 10 [.int u5.2, .ref h_tape, .int (X14_bytes b_h), .int (X14_errorAt b_h), .ref h_kind, .ref h_number, .ref h_position, .ref h_length, .int (X14_token b_h), .int (X14_isWrong b_h), .int (X14_error b_h), .int (X14_errorToken b_h), .int (X14_deep b_h), .ref h_frontName, .ref h_guestName, .ref h_told, .ref h_fresh, .ref h_value, .ref h_now, .ref h_kept], zI T h_tape 2000 (X14_tape b_h), zI T h_kind 402 (X14_kind b_h), zI T h_number 402 (X14_number b_h), zI T h_position 402 (X14_position b_h), zI T h_length 402 (X14_length b_h), zI T h_frontName 10 (X14_frontName b_h), zI T h_guestName 10 (X14_guestName b_h), zI T h_value 800 (X14_value b_h), zI T h_now 58 u3, zI T h_kept 58 (X14_kept b_h)]) (sxPatch_pk [(true, 0), (true, 1), (true, 2), (true, 3), (true, 4), (true, 5), (true, 6), (true, 7), (true, 8), (true, 9), (true, 10)] (by decide +kernel) rfl rfl rfl) rfl ⟨Nat.le_of_ble_eq_true rfl, Nat.le_of_ble_eq_true rfl⟩ dX14_lemon_26 rfl ?_
    exact sx_iret X rfl dX14_lemon_29 (ob_e hf) rfl rfl
  · have hf := ob_t hf c2
    refine sx_aload_n X 0 rfl dX14_lemon_9 rfl ?_
    refine sx_iconst X (v := 1) dX14_lemon_10 rfl ?_
    obtain ⟨u6, hu6, hf⟩ := ob_c hf
    refine sx_cV X (c_X14_no (l := l) (D := D) (T := T) (sd := sd) h h_tape h_kind h_number h_position h_length h_frontName h_guestName h_told h_fresh h_value h_now h_kept 1 b_h hu6) (st' := [.int u6.1]) (q0 := 0) qm_1337 qm_1339 qm_14 qm_79 qm_1340 hd_X14_no ⟨rfl, rfl⟩ ⟨Nat.le_of_ble_eq_true rfl, Nat.le_of_ble_eq_true rfl⟩ rfl rfl (Nat.le_of_ble_eq_true rfl) rfl rfl rfl [0, 1, 2, 3, 4, 5, 6, 7, 8, 9, 10] rfl rfl (ws' := [zO h 10 [.int u6.2, .ref h_tape, .int (X14_bytes b_h), .int (X14_errorAt b_h), .ref h_kind, .ref h_number, .ref h_position, .ref h_length, .int (X14_token b_h), .int (X14_isWrong b_h), .int (X14_error b_h), .int (X14_errorToken b_h), .int (X14_deep b_h), .ref h_frontName, .ref h_guestName, .ref h_told, .ref h_fresh, .ref h_value, .ref h_now, .ref h_kept], zI T h_tape 2000 (X14_tape b_h), zI T h_kind 402 (X14_kind b_h), zI T h_number 402 (X14_number b_h), zI T h_position 402 (X14_position b_h), zI T h_length 402 (X14_length b_h), zI T h_frontName 10 (X14_frontName b_h), zI T h_guestName 10 (X14_guestName b_h), zI T h_value 800 (X14_value b_h), zI T h_now 58 (X14_now b_h), zI T h_kept 58 (X14_kept b_h)]) (sxPatch_pk [(true, 0), (true, 1), (true, 2), (true, 3), (true, 4), (true, 5), (true, 6), (true, 7), (true, 8), (true, 9), (true, 10)] (by decide +kernel) rfl rfl rfl) rfl ⟨Nat.le_of_ble_eq_true rfl, Nat.le_of_ble_eq_true rfl⟩ dX14_lemon_11 rfl ?_
    exact sx_iret X rfl dX14_lemon_14 (ob_e hf) rfl rfl

abbrev vf_X14_lemons (sd : SdT) (r : Int32 × Int32) : Option Value := some (.int r.1)
abbrev wc_X14_lemons (T : Nat → ClassId) (sd : SdT) (h : Nat) (h_tape : Nat) (h_kind : Nat) (h_number : Nat) (h_position : Nat) (h_length : Nat) (h_frontName : Nat) (h_guestName : Nat) (h_told : Nat) (h_fresh : Nat) (h_value : Nat) (h_now : Nat) (h_kept : Nat) (b_h : bX14) : va_W := [zO h 10 [.int (X14_thrown b_h), .ref h_tape, .int (X14_bytes b_h), .int (X14_errorAt b_h), .ref h_kind, .ref h_number, .ref h_position, .ref h_length, .int (X14_token b_h), .int (X14_isWrong b_h), .int (X14_error b_h), .int (X14_errorToken b_h), .int (X14_deep b_h), .ref h_frontName, .ref h_guestName, .ref h_told, .ref h_fresh, .ref h_value, .ref h_now, .ref h_kept], zI T h_tape 2000 (X14_tape b_h), zI T h_kind 402 (X14_kind b_h), zI T h_number 402 (X14_number b_h), zI T h_position 402 (X14_position b_h), zI T h_length 402 (X14_length b_h), zI T h_frontName 10 (X14_frontName b_h), zI T h_guestName 10 (X14_guestName b_h), zI T h_value 800 (X14_value b_h), zI T h_now 58 (X14_now b_h), zI T h_kept 58 (X14_kept b_h)]
abbrev wf_X14_lemons (T : Nat → ClassId) (sd : SdT) (h : Nat) (h_tape : Nat) (h_kind : Nat) (h_number : Nat) (h_position : Nat) (h_length : Nat) (h_frontName : Nat) (h_guestName : Nat) (h_told : Nat) (h_fresh : Nat) (h_value : Nat) (h_now : Nat) (h_kept : Nat) (b_h : bX14) (r : Int32 × Int32) : va_W := [zO h 10 [.int r.2, .ref h_tape, .int (X14_bytes b_h), .int (X14_errorAt b_h), .ref h_kind, .ref h_number, .ref h_position, .ref h_length, .int (X14_token b_h), .int (X14_isWrong b_h), .int (X14_error b_h), .int (X14_errorToken b_h), .int (X14_deep b_h), .ref h_frontName, .ref h_guestName, .ref h_told, .ref h_fresh, .ref h_value, .ref h_now, .ref h_kept], zI T h_tape 2000 (X14_tape b_h), zI T h_kind 402 (X14_kind b_h), zI T h_number 402 (X14_number b_h), zI T h_position 402 (X14_position b_h), zI T h_length 402 (X14_length b_h), zI T h_frontName 10 (X14_frontName b_h), zI T h_guestName 10 (X14_guestName b_h), zI T h_value 800 (X14_value b_h), zI T h_now 58 (X14_now b_h), zI T h_kept 58 (X14_kept b_h)]
abbrev rm_X14_lemons : Room := { frames := 1, cells := 0, slots := 0, locals := 21 }
theorem hd_X14_lemons : yX14_lemons.cls ≠ "java/lang/invoke/MethodHandle" ∧ yX14_lemons.cls ≠ "java/lang/invoke/VarHandle" ∧ (parseMethodDescriptor yX14_lemons.desc).map (fun d => d.parameters.length) = some 0 := ⟨by decide, by decide, by decide +kernel⟩
set_option maxHeartbeats 4000000 in
set_option maxRecDepth 100000 in
theorem c_X14_lemons {l : Launch} {D : va_G} {T : Nat → ClassId} {sd : SdT} (h : Nat) (h_tape : Nat) (h_kind : Nat) (h_number : Nat) (h_position : Nat) (h_length : Nat) (h_frontName : Nat) (h_guestName : Nat) (h_told : Nat) (h_fresh : Nat) (h_value : Nat) (h_now : Nat) (h_kept : Nat) (b_h : bX14) {res : Int32 × Int32} (hf : f_X14_lemons b_h = some res) : SxK (SFx sd) l D T yX14_lemons cX14_lemons 1 (some .int) rm_X14_lemons [.ref h] (wc_X14_lemons T sd h h_tape h_kind h_number h_position h_length h_frontName h_guestName h_told h_fresh h_value h_now h_kept b_h) (vf_X14_lemons sd) (wf_X14_lemons T sd h h_tape h_kind h_number h_position h_length h_frontName h_guestName h_told h_fresh h_value h_now h_kept b_h) res 0 0 := by
  refine sx_start (SFx_ok sd) (by decide +kernel) (Nat.le_of_ble_eq_true rfl) (fun p e s m args below meth c A X hnm => ?_)
  have hf := ob_1 hf
  refine sx_aload_n X 0 rfl dX14_lemons_0 rfl ?_
  refine sx_aload_n X 0 rfl dX14_lemons_1 rfl ?_
  refine sx_get X kX14 0 rfl 18 (Nat.le_of_ble_eq_true rfl) qm_1286 rfl dX14_lemons_2 ?_
  refine sx_iconst X (v := 4) dX14_lemons_5 rfl ?_
  obtain ⟨g1, hf⟩ := ob_g hf
  refine sx_iald X 9 rfl g1 dX14_lemons_6 ?_
  obtain ⟨u2, hu2, hf⟩ := ob_c hf
  refine sx_cV X (c_X14_ok (l := l) (D := D) (T := T) (sd := sd) h h_tape h_kind h_number h_position h_length h_frontName h_guestName h_told h_fresh h_value h_now h_kept ((X14_now b_h) (4 : Int32).toNatClampNeg) b_h hu2) (st' := [.int u2.1]) (q0 := 0) qm_1517 qm_1519 qm_48 qm_79 qm_1520 hd_X14_ok ⟨rfl, rfl⟩ ⟨Nat.le_of_ble_eq_true rfl, Nat.le_of_ble_eq_true rfl⟩ rfl rfl (Nat.le_of_ble_eq_true rfl) rfl rfl rfl [0, 1, 2, 3, 4, 5, 6, 7, 8, 9, 10] rfl rfl (ws' := [zO h 10 [.int u2.2, .ref h_tape, .int (X14_bytes b_h), .int (X14_errorAt b_h), .ref h_kind, .ref h_number, .ref h_position, .ref h_length, .int (X14_token b_h), .int (X14_isWrong b_h), .int (X14_error b_h), .int (X14_errorToken b_h), .int (X14_deep b_h), .ref h_frontName, .ref h_guestName, .ref h_told, .ref h_fresh, .ref h_value, .ref h_now, .ref h_kept], zI T h_tape 2000 (X14_tape b_h), zI T h_kind 402 (X14_kind b_h), zI T h_number 402 (X14_number b_h), zI T h_position 402 (X14_position b_h), zI T h_length 402 (X14_length b_h), zI T h_frontName 10 (X14_frontName b_h), zI T h_guestName 10 (X14_guestName b_h), zI T h_value 800 (X14_value b_h), zI T h_now 58 (X14_now b_h), zI T h_kept 58 (X14_kept b_h)]) (sxPatch_pk [(true, 0), (true, 1), (true, 2), (true, 3), (true, 4), (true, 5), (true, 6), (true, 7), (true, 8), (true, 9), (true, 10)] (by decide +kernel) rfl rfl rfl) rfl ⟨Nat.le_of_ble_eq_true rfl, Nat.le_of_ble_eq_true rfl⟩ dX14_lemons_7 rfl ?_
  exact sx_iret X rfl dX14_lemons_10 (ob_e hf) rfl rfl

abbrev vf_X14_newName (sd : SdT) (_r : Int32 × Int32 × Int32 × Int32 × (Nat → Int32)) : Option Value := none
abbrev wc_X14_newName (T : Nat → ClassId) (sd : SdT) (h : Nat) (h_tape : Nat) (h_kind : Nat) (h_number : Nat) (h_position : Nat) (h_length : Nat) (h_frontName : Nat) (h_guestName : Nat) (h_told : Nat) (h_fresh : Nat) (h_value : Nat) (h_now : Nat) (h_kept : Nat) (a0 : Nat) (b_h : bX14) (m_a0 : Nat) (f_a0 : Nat → Int32) : va_W := [zO h 10 [.int (X14_thrown b_h), .ref h_tape, .int (X14_bytes b_h), .int (X14_errorAt b_h), .ref h_kind, .ref h_number, .ref h_position, .ref h_length, .int (X14_token b_h), .int (X14_isWrong b_h), .int (X14_error b_h), .int (X14_errorToken b_h), .int (X14_deep b_h), .ref h_frontName, .ref h_guestName, .ref h_told, .ref h_fresh, .ref h_value, .ref h_now, .ref h_kept], zI T h_tape 2000 (X14_tape b_h), zI T h_kind 402 (X14_kind b_h), zI T h_number 402 (X14_number b_h), zI T h_position 402 (X14_position b_h), zI T h_length 402 (X14_length b_h), zI T h_value 800 (X14_value b_h), zI T h_now 58 (X14_now b_h), zI T h_kept 58 (X14_kept b_h), zI T a0 m_a0 f_a0]
abbrev wf_X14_newName (T : Nat → ClassId) (sd : SdT) (h : Nat) (h_tape : Nat) (h_kind : Nat) (h_number : Nat) (h_position : Nat) (h_length : Nat) (h_frontName : Nat) (h_guestName : Nat) (h_told : Nat) (h_fresh : Nat) (h_value : Nat) (h_now : Nat) (h_kept : Nat) (a0 : Nat) (b_h : bX14) (m_a0 : Nat) (f_a0 : Nat → Int32) (r : Int32 × Int32 × Int32 × Int32 × (Nat → Int32)) : va_W := [zO h 10 [.int (X14_thrown b_h), .ref h_tape, .int (X14_bytes b_h), .int (X14_errorAt b_h), .ref h_kind, .ref h_number, .ref h_position, .ref h_length, .int r.1, .int r.2.1, .int r.2.2.1, .int r.2.2.2.1, .int (X14_deep b_h), .ref h_frontName, .ref h_guestName, .ref h_told, .ref h_fresh, .ref h_value, .ref h_now, .ref h_kept], zI T h_tape 2000 (X14_tape b_h), zI T h_kind 402 (X14_kind b_h), zI T h_number 402 (X14_number b_h), zI T h_position 402 (X14_position b_h), zI T h_length 402 (X14_length b_h), zI T h_value 800 (X14_value b_h), zI T h_now 58 (X14_now b_h), zI T h_kept 58 (X14_kept b_h), zI T a0 m_a0 r.2.2.2.2]
abbrev rm_X14_newName : Room := { frames := 2, cells := 0, slots := 0, locals := 46 }
theorem hd_X14_newName : yX14_newName.cls ≠ "java/lang/invoke/MethodHandle" ∧ yX14_newName.cls ≠ "java/lang/invoke/VarHandle" ∧ (parseMethodDescriptor yX14_newName.desc).map (fun d => d.parameters.length) = some 2 := ⟨by decide, by decide, by decide +kernel⟩
set_option maxHeartbeats 4000000 in
set_option maxRecDepth 100000 in
theorem c_X14_newName {l : Launch} {D : va_G} {T : Nat → ClassId} {sd : SdT} (h : Nat) (h_tape : Nat) (h_kind : Nat) (h_number : Nat) (h_position : Nat) (h_length : Nat) (h_frontName : Nat) (h_guestName : Nat) (h_told : Nat) (h_fresh : Nat) (h_value : Nat) (h_now : Nat) (h_kept : Nat) (a0 : Nat) (n : Nat) (x1 : Int32) (b_h : bX14) (m_a0 : Nat) (f_a0 : Nat → Int32) {res : Int32 × Int32 × Int32 × Int32 × (Nat → Int32)} (hf : f_X14_newName n x1 b_h m_a0 f_a0 = some res) : SxK (SFx sd) l D T yX14_newName cX14_newName 3 none rm_X14_newName [.ref h, .ref a0, .int x1] (wc_X14_newName T sd h h_tape h_kind h_number h_position h_length h_frontName h_guestName h_told h_fresh h_value h_now h_kept a0 b_h m_a0 f_a0) (vf_X14_newName sd) (wf_X14_newName T sd h h_tape h_kind h_number h_position h_length h_frontName h_guestName h_told h_fresh h_value h_now h_kept a0 b_h m_a0 f_a0) res 0 0 := by
  refine sx_start (SFx_ok sd) (by decide +kernel) (Nat.le_of_ble_eq_true rfl) (fun p e s m args below meth c A X hnm => ?_)
  have hf := ob_1 hf
  have R71 : ∀ (w_h_token : Int32) (w_h_isWrong : Int32) (w_h_error : Int32) (w_h_errorToken : Int32) (w_a0 : Nat → Int32), (f_X14_newName_R71 n x1 b_h m_a0 f_a0 w_h_token w_h_isWrong w_h_error w_h_errorToken w_a0).bind some = some res → SxG p l e rm_X14_newName s m args below meth c D A 3 0 0 (SxE below args s D A (vf_X14_newName sd) (wf_X14_newName T sd h h_tape h_kind h_number h_position h_length h_frontName h_guestName h_told h_fresh h_value h_now h_kept a0 b_h m_a0 f_a0) res 0 0) [zO h 10 [.int (X14_thrown b_h), .ref h_tape, .int (X14_bytes b_h), .int (X14_errorAt b_h), .ref h_kind, .ref h_number, .ref h_position, .ref h_length, .int w_h_token, .int w_h_isWrong, .int w_h_error, .int w_h_errorToken, .int (X14_deep b_h), .ref h_frontName, .ref h_guestName, .ref h_told, .ref h_fresh, .ref h_value, .ref h_now, .ref h_kept], zI T h_tape 2000 (X14_tape b_h), zI T h_kind 402 (X14_kind b_h), zI T h_number 402 (X14_number b_h), zI T h_position 402 (X14_position b_h), zI T h_length 402 (X14_length b_h), zI T h_value 800 (X14_value b_h), zI T h_now 58 (X14_now b_h), zI T h_kept 58 (X14_kept b_h), zI T a0 m_a0 w_a0] [(0, .ref h)] 71 [] := by
    intro w_h_token w_h_isWrong w_h_error w_h_errorToken w_a0 hf
    refine sx_aload_n X 0 rfl dX14_newName_71 rfl ?_
    refine sx_bipush X (v := 40) dX14_newName_72 rfl ?_
    obtain ⟨u7, hu7, hf⟩ := ob_c hf
    refine sx_cV X (c_X14_take (l := l) (D := D) (T := T) (sd := sd) h h_tape h_kind h_number h_position h_length h_frontName h_guestName h_told h_fresh h_value h_now h_kept 40 ((X14_thrown b_h), (X14_tape b_h), (X14_bytes b_h), (X14_errorAt b_h), (X14_kind b_h), (X14_number b_h), (X14_position b_h), (X14_length b_h), w_h_token, w_h_isWrong, w_h_error, w_h_errorToken, (X14_deep b_h), (X14_frontName b_h), (X14_guestName b_h), (X14_value b_h), (X14_now b_h), (X14_kept b_h)) hu7) (st' := []) (q0 := 0) qm_1426 qm_1428 qm_29 qm_79 qm_1429 hd_X14_take ⟨rfl, rfl⟩ ⟨Nat.le_of_ble_eq_true rfl, Nat.le_of_ble_eq_true rfl⟩ rfl rfl (Nat.le_of_ble_eq_true rfl) rfl rfl rfl [0, 1, 2, 3, 4, 5, 6, 7, 8] rfl rfl (ws' := [zO h 10 [.int (X14_thrown b_h), .ref h_tape, .int (X14_bytes b_h), .int (X14_errorAt b_h), .ref h_kind, .ref h_number, .ref h_position, .ref h_length, .int u7.1, .int u7.2.1, .int u7.2.2.1, .int u7.2.2.2, .int (X14_deep b_h), .ref h_frontName, .ref h_guestName, .ref h_told, .ref h_fresh, .ref h_value, .ref h_now, .ref h_kept], zI T h_tape 2000 (X14_tape b_h), zI T h_kind 402 (X14_kind b_h), zI T h_number 402 (X14_number b_h), zI T h_position 402 (X14_position b_h), zI T h_length 402 (X14_length b_h), zI T h_value 800 (X14_value b_h), zI T h_now 58 (X14_now b_h), zI T h_kept 58 (X14_kept b_h), zI T a0 m_a0 w_a0]) (sxPatch_pk [(true, 0), (true, 1), (true, 2), (true, 3), (true, 4), (true, 5), (true, 6), (true, 7), (true, 8), (false, 9)] (by decide +kernel) rfl rfl rfl) rfl ⟨Nat.le_of_ble_eq_true rfl, Nat.le_of_ble_eq_true rfl⟩ dX14_newName_74 rfl ?_
    exact sx_vret X dX14_newName_77 (ob_e hf) rfl rfl
  have R49 : ∀ (v2 : Int32) (w_h_token : Int32) (w_h_isWrong : Int32) (w_h_error : Int32) (w_h_errorToken : Int32) (w_a0 : Nat → Int32), (f_X14_newName_R49 n x1 b_h m_a0 f_a0 v2 w_h_token w_h_isWrong w_h_error w_h_errorToken w_a0).bind some = some res → SxG p l e rm_X14_newName s m args below meth c D A 3 0 0 (SxE below args s D A (vf_X14_newName sd) (wf_X14_newName T sd h h_tape h_kind h_number h_position h_length h_frontName h_guestName h_told h_fresh h_value h_now h_kept a0 b_h m_a0 f_a0) res 0 0) [zO h 10 [.int (X14_thrown b_h), .ref h_tape, .int (X14_bytes b_h), .int (X14_errorAt b_h), .ref h_kind, .ref h_number, .ref h_position, .ref h_length, .int w_h_token, .int w_h_isWrong, .int w_h_error, .int w_h_errorToken, .int (X14_deep b_h), .ref h_frontName, .ref h_guestName, .ref h_told, .ref h_fresh, .ref h_value, .ref h_now, .ref h_kept], zI T h_tape 2000 (X14_tape b_h), zI T h_kind 402 (X14_kind b_h), zI T h_number 402 (X14_number b_h), zI T h_position 402 (X14_position b_h), zI T h_length 402 (X14_length b_h), zI T h_value 800 (X14_value b_h), zI T h_now 58 (X14_now b_h), zI T h_kept 58 (X14_kept b_h), zI T a0 m_a0 w_a0] [(0, .ref h), (1, .ref a0), (2, .int v2)] 49 [] := by
    intro v2 w_h_token w_h_isWrong w_h_error w_h_errorToken w_a0 hf
    refine sx_aload_n X 0 rfl dX14_newName_49 rfl ?_
    refine sx_bipush X (v := 40) dX14_newName_50 rfl ?_
    obtain ⟨u5, hu5, hf⟩ := ob_c hf
    refine sx_cVr X (c_X14_is (l := l) (D := D) (T := T) (sd := sd) h h_tape h_kind h_number h_position h_length h_frontName h_guestName h_told h_fresh h_value h_now h_kept 40 ((X14_thrown b_h), (X14_tape b_h), (X14_bytes b_h), (X14_errorAt b_h), (X14_kind b_h), (X14_number b_h), (X14_position b_h), (X14_length b_h), w_h_token, w_h_isWrong, w_h_error, w_h_errorToken, (X14_deep b_h), (X14_frontName b_h), (X14_guestName b_h), (X14_value b_h), (X14_now b_h), (X14_kept b_h)) hu5) (st' := [.int u5]) (q0 := 0) qm_1401 qm_1403 qm_23 qm_79 qm_1404 hd_X14_is ⟨rfl, rfl⟩ ⟨Nat.le_of_ble_eq_true rfl, Nat.le_of_ble_eq_true rfl⟩ rfl rfl (Nat.le_of_ble_eq_true rfl) rfl rfl rfl [0, 1, 2, 3, 4, 5, 6, 7, 8] rfl rfl rfl ⟨Nat.le_of_ble_eq_true rfl, Nat.le_of_ble_eq_true rfl⟩ dX14_newName_52 rfl ?_
    refine sx_if_eq X 71 dX14_newName_55 rfl (fun c6 => ?_) (fun c6 => ?_)
    · have hf := ob_t hf c6
      refine sx_lsub [0] rfl ?_
      exact R71 w_h_token w_h_isWrong w_h_error w_h_errorToken w_a0 hf
    · have hf := ob_f hf c6
      refine sx_iload_n X 2 rfl dX14_newName_58 rfl ?_
      refine sx_bipush X (v := 10) dX14_newName_59 rfl ?_
      refine sx_icmp_ge X 71 dX14_newName_61 rfl (fun c8 => ?_) (fun c8 => ?_)
      · have hf := ob_t hf c8
        refine sx_lsub [0] rfl ?_
        exact R71 w_h_token w_h_isWrong w_h_error w_h_errorToken w_a0 hf
      · have hf := ob_f hf c8
        refine sx_aload_n X 1 rfl dX14_newName_64 rfl ?_
        refine sx_iload_n X 2 rfl dX14_newName_65 rfl ?_
        refine sx_aload_n X 0 rfl dX14_newName_66 rfl ?_
        refine sx_get X kX14 0 rfl 8 (Nat.le_of_ble_eq_true rfl) qm_1276 rfl dX14_newName_67 ?_
        obtain ⟨g9, hf⟩ := ob_g hf
        refine sx_iast X (ws' := [zO h 10 [.int (X14_thrown b_h), .ref h_tape, .int (X14_bytes b_h), .int (X14_errorAt b_h), .ref h_kind, .ref h_number, .ref h_position, .ref h_length, .int w_h_token, .int w_h_isWrong, .int w_h_error, .int w_h_errorToken, .int (X14_deep b_h), .ref h_frontName, .ref h_guestName, .ref h_told, .ref h_fresh, .ref h_value, .ref h_now, .ref h_kept], zI T h_tape 2000 (X14_tape b_h), zI T h_kind 402 (X14_kind b_h), zI T h_number 402 (X14_number b_h), zI T h_position 402 (X14_position b_h), zI T h_length 402 (X14_length b_h), zI T h_value 800 (X14_value b_h), zI T h_now 58 (X14_now b_h), zI T h_kept 58 (X14_kept b_h), zI T a0 m_a0 (upd w_a0 v2.toNatClampNeg w_h_token)]) 9 rfl g9 rfl dX14_newName_70 ?_
        refine sx_lsub [0] rfl ?_
        exact R71 w_h_token w_h_isWrong w_h_error w_h_errorToken (upd w_a0 v2.toNatClampNeg w_h_token) hf
  have R29 : ∀ (v2 : Int32) (w_h_token : Int32) (w_h_isWrong : Int32) (w_h_error : Int32) (w_h_errorToken : Int32) (w_a0 : Nat → Int32), (f_X14_newName_R29 n x1 b_h m_a0 f_a0 v2 w_h_token w_h_isWrong w_h_error w_h_errorToken w_a0).bind some = some res → SxG p l e rm_X14_newName s m args below meth c D A 3 0 0 (SxE below args s D A (vf_X14_newName sd) (wf_X14_newName T sd h h_tape h_kind h_number h_position h_length h_frontName h_guestName h_told h_fresh h_value h_now h_kept a0 b_h m_a0 f_a0) res 0 0) [zO h 10 [.int (X14_thrown b_h), .ref h_tape, .int (X14_bytes b_h), .int (X14_errorAt b_h), .ref h_kind, .ref h_number, .ref h_position, .ref h_length, .int w_h_token, .int w_h_isWrong, .int w_h_error, .int w_h_errorToken, .int (X14_deep b_h), .ref h_frontName, .ref h_guestName, .ref h_told, .ref h_fresh, .ref h_value, .ref h_now, .ref h_kept], zI T h_tape 2000 (X14_tape b_h), zI T h_kind 402 (X14_kind b_h), zI T h_number 402 (X14_number b_h), zI T h_position 402 (X14_position b_h), zI T h_length 402 (X14_length b_h), zI T h_value 800 (X14_value b_h), zI T h_now 58 (X14_now b_h), zI T h_kept 58 (X14_kept b_h), zI T a0 m_a0 w_a0] [(0, .ref h), (1, .ref a0), (2, .int v2)] 29 [] := by
    intro v2 w_h_token w_h_isWrong w_h_error w_h_errorToken w_a0 hf
    refine sx_aload_n X 0 rfl dX14_newName_29 rfl ?_
    refine sx_bipush X (v := 40) dX14_newName_30 rfl ?_
    obtain ⟨u3, hu3, hf⟩ := ob_c hf
    refine sx_cVr X (c_X14_is (l := l) (D := D) (T := T) (sd := sd) h h_tape h_kind h_number h_position h_length h_frontName h_guestName h_told h_fresh h_value h_now h_kept 40 ((X14_thrown b_h), (X14_tape b_h), (X14_bytes b_h), (X14_errorAt b_h), (X14_kind b_h), (X14_number b_h), (X14_position b_h), (X14_length b_h), w_h_token, w_h_isWrong, w_h_error, w_h_errorToken, (X14_deep b_h), (X14_frontName b_h), (X14_guestName b_h), (X14_value b_h), (X14_now b_h), (X14_kept b_h)) hu3) (st' := [.int u3]) (q0 := 0) qm_1401 qm_1403 qm_23 qm_79 qm_1404 hd_X14_is ⟨rfl, rfl⟩ ⟨Nat.le_of_ble_eq_true rfl, Nat.le_of_ble_eq_true rfl⟩ rfl rfl (Nat.le_of_ble_eq_true rfl) rfl rfl rfl [0, 1, 2, 3, 4, 5, 6, 7, 8] rfl rfl rfl ⟨Nat.le_of_ble_eq_true rfl, Nat.le_of_ble_eq_true rfl⟩ dX14_newName_32 rfl ?_
    refine sx_if_eq X 49 dX14_newName_35 rfl (fun c4 => ?_) (fun c4 => ?_)
    · have hf := ob_t hf c4
      exact R49 v2 w_h_token w_h_isWrong w_h_error w_h_errorToken w_a0 hf
    · have hf := ob_f hf c4
      refine sx_iload_n X 2 rfl dX14_newName_38 rfl ?_
      refine sx_bipush X (v := 10) dX14_newName_39 rfl ?_
      refine sx_icmp_ne X 49 dX14_newName_41 rfl (fun c10 => ?_) (fun c10 => ?_)
      · have hf := ob_f hf c10
        exact R49 v2 w_h_token w_h_isWrong w_h_error w_h_errorToken w_a0 hf
      · have hf := ob_t hf c10
        refine sx_aload_n X 0 rfl dX14_newName_44 rfl ?_
        refine sx_iconst X (v := 4) dX14_newName_45 rfl ?_
        obtain ⟨u11, hu11, hf⟩ := ob_c hf
        refine sx_cV X (c_X14_mark (l := l) (D := D) (T := T) (sd := sd) h h_tape h_kind h_number h_position h_length h_frontName h_guestName h_told h_fresh h_value h_now h_kept 4 ((X14_thrown b_h), (X14_tape b_h), (X14_bytes b_h), (X14_errorAt b_h), (X14_kind b_h), (X14_number b_h), (X14_position b_h), (X14_length b_h), w_h_token, w_h_isWrong, w_h_error, w_h_errorToken, (X14_deep b_h), (X14_frontName b_h), (X14_guestName b_h), (X14_value b_h), (X14_now b_h), (X14_kept b_h)) hu11) (st' := []) (q0 := 0) qm_1422 qm_1424 qm_28 qm_79 qm_1425 hd_X14_mark ⟨rfl, rfl⟩ ⟨Nat.le_of_ble_eq_true rfl, Nat.le_of_ble_eq_true rfl⟩ rfl rfl (Nat.le_of_ble_eq_true rfl) rfl rfl rfl [0, 1, 2, 3, 4, 5, 6, 7, 8] rfl rfl (ws' := [zO h 10 [.int (X14_thrown b_h), .ref h_tape, .int (X14_bytes b_h), .int (X14_errorAt b_h), .ref h_kind, .ref h_number, .ref h_position, .ref h_length, .int w_h_token, .int w_h_isWrong, .int u11.1, .int u11.2, .int (X14_deep b_h), .ref h_frontName, .ref h_guestName, .ref h_told, .ref h_fresh, .ref h_value, .ref h_now, .ref h_kept], zI T h_tape 2000 (X14_tape b_h), zI T h_kind 402 (X14_kind b_h), zI T h_number 402 (X14_number b_h), zI T h_position 402 (X14_position b_h), zI T h_length 402 (X14_length b_h), zI T h_value 800 (X14_value b_h), zI T h_now 58 (X14_now b_h), zI T h_kept 58 (X14_kept b_h), zI T a0 m_a0 w_a0]) (sxPatch_pk [(true, 0), (true, 1), (true, 2), (true, 3), (true, 4), (true, 5), (true, 6), (true, 7), (true, 8), (false, 9)] (by decide +kernel) rfl rfl rfl) rfl ⟨Nat.le_of_ble_eq_true rfl, Nat.le_of_ble_eq_true rfl⟩ dX14_newName_46 rfl ?_
        exact R49 v2 w_h_token w_h_isWrong u11.1 u11.2 w_a0 hf
  refine sx_aload_n X 0 rfl dX14_newName_0 rfl ?_
  refine sx_bipush X (v := 40) dX14_newName_1 rfl ?_
  obtain ⟨u1, hu1, hf⟩ := ob_c hf
  refine sx_cVr X (c_X14_is (l := l) (D := D) (T := T) (sd := sd) h h_tape h_kind h_number h_position h_length h_frontName h_guestName h_told h_fresh h_value h_now h_kept 40 b_h hu1) (st' := [.int u1]) (q0 := 0) qm_1401 qm_1403 qm_23 qm_79 qm_1404 hd_X14_is ⟨rfl, rfl⟩ ⟨Nat.le_of_ble_eq_true rfl, Nat.le_of_ble_eq_true rfl⟩ rfl rfl (Nat.le_of_ble_eq_true rfl) rfl rfl rfl [0, 1, 2, 3, 4, 5, 6, 7, 8] rfl rfl rfl ⟨Nat.le_of_ble_eq_true rfl, Nat.le_of_ble_eq_true rfl⟩ dX14_newName_3 rfl ?_
  refine sx_if_eq X 29 dX14_newName_6 rfl (fun c2 => ?_) (fun c2 => ?_)
  · have hf := ob_t hf c2
    exact R29 x1 (X14_token b_h) (X14_isWrong b_h) (X14_error b_h) (X14_errorToken b_h) f_a0 hf
  · have hf := ob_f hf c2
    refine sx_aload_n X 0 rfl dX14_newName_9 rfl ?_
    refine sx_aload_n X 1 rfl dX14_newName_10 rfl ?_
    refine sx_bipush X (v := 10) dX14_newName_11 rfl ?_
    refine sx_iload_n X 2 rfl dX14_newName_13 rfl ?_
    refine sx_min X qm_1409 qm_835 qm_93 qm_836 (Nat.le_of_ble_eq_true rfl) (Nat.le_of_ble_eq_true rfl) (Nat.zero_le _) (Nat.zero_le _) dX14_newName_14 ?_
    obtain ⟨u12, hu12, hf⟩ := ob_c hf
    refine sx_cVr X (c_X14_known (l := l) (D := D) (T := T) (sd := sd) h h_tape h_kind h_number h_position h_length h_frontName h_guestName h_told h_fresh h_value h_now h_kept a0 n (if x1 < 10 then x1 else 10) b_h m_a0 f_a0 hu12) (st' := [.int u12]) (q0 := 0) qm_1414 qm_1416 qm_26 qm_79 qm_1417 hd_X14_known ⟨rfl, rfl⟩ ⟨Nat.le_of_ble_eq_true rfl, Nat.le_of_ble_eq_true rfl⟩ rfl rfl (Nat.le_of_ble_eq_true rfl) rfl rfl rfl [0, 1, 2, 3, 4, 5, 6, 7, 8, 9] rfl rfl rfl ⟨Nat.le_of_ble_eq_true rfl, Nat.le_of_ble_eq_true rfl⟩ dX14_newName_17 rfl ?_
    refine sx_iconst X (v := (-1)) dX14_newName_20 rfl ?_
    refine sx_icmp_eq X 29 dX14_newName_21 rfl (fun c13 => ?_) (fun c13 => ?_)
    · have hf := ob_t hf c13
      exact R29 x1 (X14_token b_h) (X14_isWrong b_h) (X14_error b_h) (X14_errorToken b_h) f_a0 hf
    · have hf := ob_f hf c13
      refine sx_aload_n X 0 rfl dX14_newName_24 rfl ?_
      refine sx_iconst X (v := 2) dX14_newName_25 rfl ?_
      obtain ⟨u14, hu14, hf⟩ := ob_c hf
      refine sx_cV X (c_X14_mark (l := l) (D := D) (T := T) (sd := sd) h h_tape h_kind h_number h_position h_length h_frontName h_guestName h_told h_fresh h_value h_now h_kept 2 b_h hu14) (st' := []) (q0 := 0) qm_1422 qm_1424 qm_28 qm_79 qm_1425 hd_X14_mark ⟨rfl, rfl⟩ ⟨Nat.le_of_ble_eq_true rfl, Nat.le_of_ble_eq_true rfl⟩ rfl rfl (Nat.le_of_ble_eq_true rfl) rfl rfl rfl [0, 1, 2, 3, 4, 5, 6, 7, 8] rfl rfl (ws' := [zO h 10 [.int (X14_thrown b_h), .ref h_tape, .int (X14_bytes b_h), .int (X14_errorAt b_h), .ref h_kind, .ref h_number, .ref h_position, .ref h_length, .int (X14_token b_h), .int (X14_isWrong b_h), .int u14.1, .int u14.2, .int (X14_deep b_h), .ref h_frontName, .ref h_guestName, .ref h_told, .ref h_fresh, .ref h_value, .ref h_now, .ref h_kept], zI T h_tape 2000 (X14_tape b_h), zI T h_kind 402 (X14_kind b_h), zI T h_number 402 (X14_number b_h), zI T h_position 402 (X14_position b_h), zI T h_length 402 (X14_length b_h), zI T h_value 800 (X14_value b_h), zI T h_now 58 (X14_now b_h), zI T h_kept 58 (X14_kept b_h), zI T a0 m_a0 f_a0]) (sxPatch_pk [(true, 0), (true, 1), (true, 2), (true, 3), (true, 4), (true, 5), (true, 6), (true, 7), (true, 8), (false, 9)] (by decide +kernel) rfl rfl rfl) rfl ⟨Nat.le_of_ble_eq_true rfl, Nat.le_of_ble_eq_true rfl⟩ dX14_newName_26 rfl ?_
      exact R29 x1 (X14_token b_h) (X14_isWrong b_h) u14.1 u14.2 f_a0 hf
