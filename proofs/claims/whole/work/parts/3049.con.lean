/-! contracts, part 49 -/
abbrev vf_X14_read (sd : SdT) (r : Int32 × (Nat → Int32) × (Nat → Int32) × (Nat → Int32) × (Nat → Int32)) : Option Value := some (.int r.1)
abbrev wc_X14_read (T : Nat → ClassId) (sd : SdT) (h : Nat) (h_tape : Nat) (h_kind : Nat) (h_number : Nat) (h_position : Nat) (h_length : Nat) (h_frontName : Nat) (h_guestName : Nat) (h_told : Nat) (h_fresh : Nat) (h_value : Nat) (h_now : Nat) (h_kept : Nat) (b_h : bX14) : va_W := [zO h 10 [.int (X14_thrown b_h), .ref h_tape, .int (X14_bytes b_h), .int (X14_errorAt b_h), .ref h_kind, .ref h_number, .ref h_position, .ref h_length, .int (X14_token b_h), .int (X14_isWrong b_h), .int (X14_error b_h), .int (X14_errorToken b_h), .int (X14_deep b_h), .ref h_frontName, .ref h_guestName, .ref h_told, .ref h_fresh, .ref h_value, .ref h_now, .ref h_kept], zI T h_tape 2000 (X14_tape b_h), zI T h_kind 402 (X14_kind b_h), zI T h_number 402 (X14_number b_h), zI T h_position 402 (X14_position b_h), zI T h_length 402 (X14_length b_h), zI T h_frontName 10 (X14_frontName b_h), zI T h_guestName 10 (X14_guestName b_h), zI T h_value 800 (X14_value b_h), zI T h_now 58 (X14_now b_h), zI T h_kept 58 (X14_kept b_h)]
abbrev wf_X14_read (T : Nat → ClassId) (sd : SdT) (h : Nat) (h_tape : Nat) (h_kind : Nat) (h_number : Nat) (h_position : Nat) (h_length : Nat) (h_frontName : Nat) (h_guestName : Nat) (h_told : Nat) (h_fresh : Nat) (h_value : Nat) (h_now : Nat) (h_kept : Nat) (b_h : bX14) (r : Int32 × (Nat → Int32) × (Nat → Int32) × (Nat → Int32) × (Nat → Int32)) : va_W := [zO h 10 [.int (X14_thrown b_h), .ref h_tape, .int (X14_bytes b_h), .int (X14_errorAt b_h), .ref h_kind, .ref h_number, .ref h_position, .ref h_length, .int (X14_token b_h), .int (X14_isWrong b_h), .int (X14_error b_h), .int (X14_errorToken b_h), .int (X14_deep b_h), .ref h_frontName, .ref h_guestName, .ref h_told, .ref h_fresh, .ref h_value, .ref h_now, .ref h_kept], zI T h_tape 2000 (X14_tape b_h), zI T h_kind 402 r.2.1, zI T h_number 402 r.2.2.1, zI T h_position 402 r.2.2.2.1, zI T h_length 402 r.2.2.2.2, zI T h_frontName 10 (X14_frontName b_h), zI T h_guestName 10 (X14_guestName b_h), zI T h_value 800 (X14_value b_h), zI T h_now 58 (X14_now b_h), zI T h_kept 58 (X14_kept b_h)]
abbrev rm_X14_read : Room := { frames := 6, cells := 0, slots := 0, locals := 147 }
theorem hd_X14_read : yX14_read.cls ≠ "java/lang/invoke/MethodHandle" ∧ yX14_read.cls ≠ "java/lang/invoke/VarHandle" ∧ (parseMethodDescriptor yX14_read.desc).map (fun d => d.parameters.length) = some 2 := ⟨by decide, by decide, by decide +kernel⟩
set_option maxHeartbeats 4000000 in
set_option maxRecDepth 100000 in
theorem c_X14_read {l : Launch} {D : va_G} {T : Nat → ClassId} {sd : SdT} (h : Nat) (h_tape : Nat) (h_kind : Nat) (h_number : Nat) (h_position : Nat) (h_length : Nat) (h_frontName : Nat) (h_guestName : Nat) (h_told : Nat) (h_fresh : Nat) (h_value : Nat) (h_now : Nat) (h_kept : Nat) (n : Nat) (x0 : Int32) (x1 : Int32) (b_h : bX14) {res : Int32 × (Nat → Int32) × (Nat → Int32) × (Nat → Int32) × (Nat → Int32)} (hf : f_X14_read n x0 x1 b_h = some res) : SxK (SFx sd) l D T yX14_read cX14_read 6 (some .int) rm_X14_read [.ref h, .int x0, .int x1] (wc_X14_read T sd h h_tape h_kind h_number h_position h_length h_frontName h_guestName h_told h_fresh h_value h_now h_kept b_h) (vf_X14_read sd) (wf_X14_read T sd h h_tape h_kind h_number h_position h_length h_frontName h_guestName h_told h_fresh h_value h_now h_kept b_h) res 0 0 := by
  refine sx_start (SFx_ok sd) (by decide +kernel) (Nat.le_of_ble_eq_true rfl) (fun p e s m args below meth c A X hnm => ?_)
  have hf := ob_1 hf
  have R239 : ∀ (v1 : Int32) (v2 : Int32) (v4 : Int32) (w_h_kind : Nat → Int32) (w_h_number : Nat → Int32) (w_h_position : Nat → Int32) (w_h_length : Nat → Int32), (f_X14_read_R239 n x0 x1 b_h v1 v2 v4 w_h_kind w_h_number w_h_position w_h_length).bind some = some res → SxG p l e rm_X14_read s m args below meth c D A 6 0 0 (SxE below args s D A (vf_X14_read sd) (wf_X14_read T sd h h_tape h_kind h_number h_position h_length h_frontName h_guestName h_told h_fresh h_value h_now h_kept b_h) res 0 0) [zO h 10 [.int (X14_thrown b_h), .ref h_tape, .int (X14_bytes b_h), .int (X14_errorAt b_h), .ref h_kind, .ref h_number, .ref h_position, .ref h_length, .int (X14_token b_h), .int (X14_isWrong b_h), .int (X14_error b_h), .int (X14_errorToken b_h), .int (X14_deep b_h), .ref h_frontName, .ref h_guestName, .ref h_told, .ref h_fresh, .ref h_value, .ref h_now, .ref h_kept], zI T h_tape 2000 (X14_tape b_h), zI T h_kind 402 w_h_kind, zI T h_number 402 w_h_number, zI T h_position 402 w_h_position, zI T h_length 402 w_h_length, zI T h_frontName 10 (X14_frontName b_h), zI T h_guestName 10 (X14_guestName b_h), zI T h_value 800 (X14_value b_h), zI T h_now 58 (X14_now b_h), zI T h_kept 58 (X14_kept b_h)] [(0, .ref h), (1, .int v1), (2, .int v2), (4, .int v4)] 239 [] := by
    intro v1 v2 v4 w_h_kind w_h_number w_h_position w_h_length hf
    refine sx_aload_n X 0 rfl dX14_read_239 rfl ?_
    refine sx_get X kX14 0 rfl 7 (Nat.le_of_ble_eq_true rfl) qm_1275 rfl dX14_read_240 ?_
    refine sx_iload_n X 2 rfl dX14_read_243 rfl ?_
    refine sx_iload X 3 rfl dX14_read_244 ?_
    refine sx_iload_n X 1 rfl dX14_read_246 rfl ?_
    refine sx_isub X dX14_read_247 ?_
    obtain ⟨g13, hf⟩ := ob_g hf
    refine sx_iast X (ws' := [zO h 10 [.int (X14_thrown b_h), .ref h_tape, .int (X14_bytes b_h), .int (X14_errorAt b_h), .ref h_kind, .ref h_number, .ref h_position, .ref h_length, .int (X14_token b_h), .int (X14_isWrong b_h), .int (X14_error b_h), .int (X14_errorToken b_h), .int (X14_deep b_h), .ref h_frontName, .ref h_guestName, .ref h_told, .ref h_fresh, .ref h_value, .ref h_now, .ref h_kept], zI T h_tape 2000 (X14_tape b_h), zI T h_kind 402 w_h_kind, zI T h_number 402 w_h_number, zI T h_position 402 w_h_position, zI T h_length 402 (upd w_h_length v2.toNatClampNeg (v4 - v1)), zI T h_frontName 10 (X14_frontName b_h), zI T h_guestName 10 (X14_guestName b_h), zI T h_value 800 (X14_value b_h), zI T h_now 58 (X14_now b_h), zI T h_kept 58 (X14_kept b_h)]) 5 rfl g13 rfl dX14_read_248 ?_
    refine sx_iload X 3 rfl dX14_read_249 ?_
    exact sx_iret X rfl dX14_read_251 (ob_e hf) rfl rfl
  have R235 : ∀ (v1 : Int32) (v2 : Int32) (v4 : Int32) (w_h_kind : Nat → Int32) (w_h_number : Nat → Int32) (w_h_position : Nat → Int32) (w_h_length : Nat → Int32) (t0 : Int32) (t1 : Int32), (f_X14_read_R235 n x0 x1 b_h v1 v2 v4 w_h_kind w_h_number w_h_position w_h_length t0 t1).bind some = some res → SxG p l e rm_X14_read s m args below meth c D A 6 0 0 (SxE below args s D A (vf_X14_read sd) (wf_X14_read T sd h h_tape h_kind h_number h_position h_length h_frontName h_guestName h_told h_fresh h_value h_now h_kept b_h) res 0 0) [zO h 10 [.int (X14_thrown b_h), .ref h_tape, .int (X14_bytes b_h), .int (X14_errorAt b_h), .ref h_kind, .ref h_number, .ref h_position, .ref h_length, .int (X14_token b_h), .int (X14_isWrong b_h), .int (X14_error b_h), .int (X14_errorToken b_h), .int (X14_deep b_h), .ref h_frontName, .ref h_guestName, .ref h_told, .ref h_fresh, .ref h_value, .ref h_now, .ref h_kept], zI T h_tape 2000 (X14_tape b_h), zI T h_kind 402 w_h_kind, zI T h_number 402 w_h_number, zI T h_position 402 w_h_position, zI T h_length 402 w_h_length, zI T h_frontName 10 (X14_frontName b_h), zI T h_guestName 10 (X14_guestName b_h), zI T h_value 800 (X14_value b_h), zI T h_now 58 (X14_now b_h), zI T h_kept 58 (X14_kept b_h)] [(0, .ref h), (1, .int v1), (2, .int v2), (4, .int v4)] 235 [.int t0, .int t1, .ref h_kind] := by
    intro v1 v2 v4 w_h_kind w_h_number w_h_position w_h_length t0 t1 hf
    obtain ⟨g16, hf⟩ := ob_g hf
    refine sx_iast X (ws' := [zO h 10 [.int (X14_thrown b_h), .ref h_tape, .int (X14_bytes b_h), .int (X14_errorAt b_h), .ref h_kind, .ref h_number, .ref h_position, .ref h_length, .int (X14_token b_h), .int (X14_isWrong b_h), .int (X14_error b_h), .int (X14_errorToken b_h), .int (X14_deep b_h), .ref h_frontName, .ref h_guestName, .ref h_told, .ref h_fresh, .ref h_value, .ref h_now, .ref h_kept], zI T h_tape 2000 (X14_tape b_h), zI T h_kind 402 (upd w_h_kind t1.toNatClampNeg t0), zI T h_number 402 w_h_number, zI T h_position 402 w_h_position, zI T h_length 402 w_h_length, zI T h_frontName 10 (X14_frontName b_h), zI T h_guestName 10 (X14_guestName b_h), zI T h_value 800 (X14_value b_h), zI T h_now 58 (X14_now b_h), zI T h_kept 58 (X14_kept b_h)]) 2 rfl g16 rfl dX14_read_235 ?_
    refine sx_iinc X (v := (v4 + 1)) (lv' := [(4, .int (v4 + 1)), (0, .ref h), (1, .int v1), (2, .int v2)]) 3 rfl dX14_read_236 rfl (by decide) rfl ?_
    refine sx_lsub [1, 2, 3, 0] rfl ?_
    exact R239 v1 v2 (v4 + 1) (upd w_h_kind t1.toNatClampNeg t0) w_h_number w_h_position w_h_length hf
  have R201 : ∀ (v1 : Int32) (v2 : Int32) (v4 : Int32) (w_h_kind : Nat → Int32) (w_h_number : Nat → Int32) (w_h_position : Nat → Int32) (w_h_length : Nat → Int32), (f_X14_read_R201 n x0 x1 b_h v1 v2 v4 w_h_kind w_h_number w_h_position w_h_length).bind some = some res → SxG p l e rm_X14_read s m args below meth c D A 6 0 0 (SxE below args s D A (vf_X14_read sd) (wf_X14_read T sd h h_tape h_kind h_number h_position h_length h_frontName h_guestName h_told h_fresh h_value h_now h_kept b_h) res 0 0) [zO h 10 [.int (X14_thrown b_h), .ref h_tape, .int (X14_bytes b_h), .int (X14_errorAt b_h), .ref h_kind, .ref h_number, .ref h_position, .ref h_length, .int (X14_token b_h), .int (X14_isWrong b_h), .int (X14_error b_h), .int (X14_errorToken b_h), .int (X14_deep b_h), .ref h_frontName, .ref h_guestName, .ref h_told, .ref h_fresh, .ref h_value, .ref h_now, .ref h_kept], zI T h_tape 2000 (X14_tape b_h), zI T h_kind 402 w_h_kind, zI T h_number 402 w_h_number, zI T h_position 402 w_h_position, zI T h_length 402 w_h_length, zI T h_frontName 10 (X14_frontName b_h), zI T h_guestName 10 (X14_guestName b_h), zI T h_value 800 (X14_value b_h), zI T h_now 58 (X14_now b_h), zI T h_kept 58 (X14_kept b_h)] [(0, .ref h), (1, .int v1), (2, .int v2), (4, .int v4)] 201 [] := by
    intro v1 v2 v4 w_h_kind w_h_number w_h_position w_h_length hf
    refine sx_aload_n X 0 rfl dX14_read_201 rfl ?_
    refine sx_iload X 3 rfl dX14_read_202 ?_
    obtain ⟨u11, hu11, hf⟩ := ob_c hf
    refine sx_cVr X (c_X14_byteAt (l := l) (D := D) (T := T) (sd := sd) h h_tape h_kind h_number h_position h_length h_frontName h_guestName h_told h_fresh h_value h_now h_kept v4 ((X14_thrown b_h), (X14_tape b_h), (X14_bytes b_h), (X14_errorAt b_h), w_h_kind, w_h_number, w_h_position, w_h_length, (X14_token b_h), (X14_isWrong b_h), (X14_error b_h), (X14_errorToken b_h), (X14_deep b_h), (X14_frontName b_h), (X14_guestName b_h), (X14_value b_h), (X14_now b_h), (X14_kept b_h)) hu11) (st' := [.int u11]) (q0 := 0) qm_1364 qm_1366 qm_17 qm_79 qm_1367 hd_X14_byteAt ⟨rfl, rfl⟩ ⟨Nat.le_of_ble_eq_true rfl, Nat.le_of_ble_eq_true rfl⟩ rfl rfl (Nat.le_of_ble_eq_true rfl) rfl rfl rfl [0, 1, 2, 3, 4, 5, 6, 7, 8, 9, 10] rfl rfl rfl ⟨Nat.le_of_ble_eq_true rfl, Nat.le_of_ble_eq_true rfl⟩ dX14_read_204 rfl ?_
    refine sx_bipush X (v := 61) dX14_read_207 rfl ?_
    refine sx_icmp_ne X 239 dX14_read_209 rfl (fun c12 => ?_) (fun c12 => ?_)
    · have hf := ob_f hf c12
      exact R239 v1 v2 v4 w_h_kind w_h_number w_h_position w_h_length hf
    · have hf := ob_t hf c12
      refine sx_aload_n X 0 rfl dX14_read_212 rfl ?_
      refine sx_get X kX14 0 rfl 4 (Nat.le_of_ble_eq_true rfl) qm_1272 rfl dX14_read_213 ?_
      refine sx_iload_n X 2 rfl dX14_read_216 rfl ?_
      refine sx_aload_n X 0 rfl dX14_read_217 rfl ?_
      refine sx_get X kX14 0 rfl 4 (Nat.le_of_ble_eq_true rfl) qm_1272 rfl dX14_read_218 ?_
      refine sx_iload_n X 2 rfl dX14_read_221 rfl ?_
      obtain ⟨g14, hf⟩ := ob_g hf
      refine sx_iald X 2 rfl g14 dX14_read_222 ?_
      refine sx_bipush X (v := 54) dX14_read_223 rfl ?_
      refine sx_icmp_ne X 233 dX14_read_225 rfl (fun c15 => ?_) (fun c15 => ?_)
      · have hf := ob_f hf c15
        refine sx_bipush X (v := 58) dX14_read_233 rfl ?_
        exact R235 v1 v2 v4 w_h_kind w_h_number w_h_position w_h_length 58 v2 hf
      · have hf := ob_t hf c15
        refine sx_bipush X (v := 57) dX14_read_228 rfl ?_
        refine sx_goto X 235 dX14_read_230 rfl ?_
        exact R235 v1 v2 v4 w_h_kind w_h_number w_h_position w_h_length 57 v2 hf
  have R165 : ∀ (v1 : Int32) (v2 : Int32) (v4 : Int32) (w_h_kind : Nat → Int32) (w_h_number : Nat → Int32) (w_h_position : Nat → Int32) (w_h_length : Nat → Int32) (t0 : Int32) (t1 : Int32), (f_X14_read_R165 n x0 x1 b_h v1 v2 v4 w_h_kind w_h_number w_h_position w_h_length t0 t1).bind some = some res → SxG p l e rm_X14_read s m args below meth c D A 6 0 0 (SxE below args s D A (vf_X14_read sd) (wf_X14_read T sd h h_tape h_kind h_number h_position h_length h_frontName h_guestName h_told h_fresh h_value h_now h_kept b_h) res 0 0) [zO h 10 [.int (X14_thrown b_h), .ref h_tape, .int (X14_bytes b_h), .int (X14_errorAt b_h), .ref h_kind, .ref h_number, .ref h_position, .ref h_length, .int (X14_token b_h), .int (X14_isWrong b_h), .int (X14_error b_h), .int (X14_errorToken b_h), .int (X14_deep b_h), .ref h_frontName, .ref h_guestName, .ref h_told, .ref h_fresh, .ref h_value, .ref h_now, .ref h_kept], zI T h_tape 2000 (X14_tape b_h), zI T h_kind 402 w_h_kind, zI T h_number 402 w_h_number, zI T h_position 402 w_h_position, zI T h_length 402 w_h_length, zI T h_frontName 10 (X14_frontName b_h), zI T h_guestName 10 (X14_guestName b_h), zI T h_value 800 (X14_value b_h), zI T h_now 58 (X14_now b_h), zI T h_kept 58 (X14_kept b_h)] [(0, .ref h), (1, .int v1), (2, .int v2), (4, .int v4)] 165 [.int t0, .int t1, .ref h_kind] := by
    intro v1 v2 v4 w_h_kind w_h_number w_h_position w_h_length t0 t1 hf
    obtain ⟨g24, hf⟩ := ob_g hf
    refine sx_iast X (ws' := [zO h 10 [.int (X14_thrown b_h), .ref h_tape, .int (X14_bytes b_h), .int (X14_errorAt b_h), .ref h_kind, .ref h_number, .ref h_position, .ref h_length, .int (X14_token b_h), .int (X14_isWrong b_h), .int (X14_error b_h), .int (X14_errorToken b_h), .int (X14_deep b_h), .ref h_frontName, .ref h_guestName, .ref h_told, .ref h_fresh, .ref h_value, .ref h_now, .ref h_kept], zI T h_tape 2000 (X14_tape b_h), zI T h_kind 402 (upd w_h_kind t1.toNatClampNeg t0), zI T h_number 402 w_h_number, zI T h_position 402 w_h_position, zI T h_length 402 w_h_length, zI T h_frontName 10 (X14_frontName b_h), zI T h_guestName 10 (X14_guestName b_h), zI T h_value 800 (X14_value b_h), zI T h_now 58 (X14_now b_h), zI T h_kept 58 (X14_kept b_h)]) 2 rfl g24 rfl dX14_read_165 ?_
    refine sx_goto X 239 dX14_read_166 rfl ?_
    exact R239 v1 v2 v4 (upd w_h_kind t1.toNatClampNeg t0) w_h_number w_h_position w_h_length hf
  have L87 : ∀ (v1 : Int32) (v2 : Int32) (w_h_kind : Nat → Int32) (w_h_number : Nat → Int32) (w_h_position : Nat → Int32) (w_h_length : Nat → Int32) (n0 : Nat) (v4 : Int32) (v5 : Int32), (iter (fun s : Int32 × Int32 => f_X14_read_L87 n x0 x1 b_h v1 v2 s.1 s.2 w_h_kind w_h_number w_h_position w_h_length) n0 (v4, v5)).bind some = some res → SxG p l e rm_X14_read s m args below meth c D A 6 0 0 (SxE below args s D A (vf_X14_read sd) (wf_X14_read T sd h h_tape h_kind h_number h_position h_length h_frontName h_guestName h_told h_fresh h_value h_now h_kept b_h) res 0 0) [zO h 10 [.int (X14_thrown b_h), .ref h_tape, .int (X14_bytes b_h), .int (X14_errorAt b_h), .ref h_kind, .ref h_number, .ref h_position, .ref h_length, .int (X14_token b_h), .int (X14_isWrong b_h), .int (X14_error b_h), .int (X14_errorToken b_h), .int (X14_deep b_h), .ref h_frontName, .ref h_guestName, .ref h_told, .ref h_fresh, .ref h_value, .ref h_now, .ref h_kept], zI T h_tape 2000 (X14_tape b_h), zI T h_kind 402 w_h_kind, zI T h_number 402 w_h_number, zI T h_position 402 w_h_position, zI T h_length 402 w_h_length, zI T h_frontName 10 (X14_frontName b_h), zI T h_guestName 10 (X14_guestName b_h), zI T h_value 800 (X14_value b_h), zI T h_now 58 (X14_now b_h), zI T h_kept 58 (X14_kept b_h)] [(0, .ref h), (1, .int v1), (2, .int v2), (4, .int v4), (5, .int v5)] 87 [] := by
    intro v1 v2 w_h_kind w_h_number w_h_position w_h_length n0
    induction n0 with
    | zero =>
      intro v4 v5 hf
      exact (iter_z hf).elim
    | succ n0 ih87 =>
      intro v4 v5 hf
      obtain ⟨κ87, hκ87, hf⟩ := iter_k hf
      have hf : (f_X14_read_L87 n x0 x1 b_h v1 v2 v4 v5 w_h_kind w_h_number w_h_position w_h_length).bind κ87 = some res := hf
      refine sx_aload_n X 0 rfl dX14_read_87 rfl ?_
      refine sx_iload X 3 rfl dX14_read_88 ?_
      obtain ⟨u19, hu19, hf⟩ := ob_c hf
      refine sx_cVr X (c_X14_byteAt (l := l) (D := D) (T := T) (sd := sd) h h_tape h_kind h_number h_position h_length h_frontName h_guestName h_told h_fresh h_value h_now h_kept v4 ((X14_thrown b_h), (X14_tape b_h), (X14_bytes b_h), (X14_errorAt b_h), w_h_kind, w_h_number, w_h_position, w_h_length, (X14_token b_h), (X14_isWrong b_h), (X14_error b_h), (X14_errorToken b_h), (X14_deep b_h), (X14_frontName b_h), (X14_guestName b_h), (X14_value b_h), (X14_now b_h), (X14_kept b_h)) hu19) (st' := [.int u19]) (q0 := 0) qm_1364 qm_1366 qm_17 qm_79 qm_1367 hd_X14_byteAt ⟨rfl, rfl⟩ ⟨Nat.le_of_ble_eq_true rfl, Nat.le_of_ble_eq_true rfl⟩ rfl rfl (Nat.le_of_ble_eq_true rfl) rfl rfl rfl [0, 1, 2, 3, 4, 5, 6, 7, 8, 9, 10] rfl rfl rfl ⟨Nat.le_of_ble_eq_true rfl, Nat.le_of_ble_eq_true rfl⟩ dX14_read_90 rfl ?_
      obtain ⟨u20, hu20, hf⟩ := ob_c hf
      refine sx_cSr X (c_X14_isDigit (l := l) (D := D) (T := T) (sd := sd) u19 hu20) (st' := [.int u20]) qm_1375 qm_1376 qm_79 qm_1377 hd_X14_isDigit ⟨rfl, rfl⟩ ⟨Nat.le_of_ble_eq_true rfl, Nat.le_of_ble_eq_true rfl⟩ rfl rfl (Nat.le_of_ble_eq_true rfl) [] rfl rfl rfl ⟨Nat.le_of_ble_eq_true rfl, Nat.le_of_ble_eq_true rfl⟩ dX14_read_93 rfl ?_
      refine sx_if_eq X 136 dX14_read_96 rfl (fun c21 => ?_) (fun c21 => ?_)
      · have hf := ob_t hf c21
        refine sx_aload_n X 0 rfl dX14_read_136 rfl ?_
        refine sx_get X kX14 0 rfl 5 (Nat.le_of_ble_eq_true rfl) qm_1273 rfl dX14_read_137 ?_
        refine sx_iload_n X 2 rfl dX14_read_140 rfl ?_
        refine sx_iload X 4 rfl dX14_read_141 ?_
        obtain ⟨g22, hf⟩ := ob_g hf
        refine sx_iast X (ws' := [zO h 10 [.int (X14_thrown b_h), .ref h_tape, .int (X14_bytes b_h), .int (X14_errorAt b_h), .ref h_kind, .ref h_number, .ref h_position, .ref h_length, .int (X14_token b_h), .int (X14_isWrong b_h), .int (X14_error b_h), .int (X14_errorToken b_h), .int (X14_deep b_h), .ref h_frontName, .ref h_guestName, .ref h_told, .ref h_fresh, .ref h_value, .ref h_now, .ref h_kept], zI T h_tape 2000 (X14_tape b_h), zI T h_kind 402 w_h_kind, zI T h_number 402 (upd w_h_number v2.toNatClampNeg v5), zI T h_position 402 w_h_position, zI T h_length 402 w_h_length, zI T h_frontName 10 (X14_frontName b_h), zI T h_guestName 10 (X14_guestName b_h), zI T h_value 800 (X14_value b_h), zI T h_now 58 (X14_now b_h), zI T h_kept 58 (X14_kept b_h)]) 3 rfl g22 rfl dX14_read_143 ?_
        refine sx_aload_n X 0 rfl dX14_read_144 rfl ?_
        refine sx_get X kX14 0 rfl 4 (Nat.le_of_ble_eq_true rfl) qm_1272 rfl dX14_read_145 ?_
        refine sx_iload_n X 2 rfl dX14_read_148 rfl ?_
        refine sx_iload X 3 rfl dX14_read_149 ?_
        refine sx_iload_n X 1 rfl dX14_read_151 rfl ?_
        refine sx_isub X dX14_read_152 ?_
        refine sx_bipush X (v := 6) dX14_read_153 rfl ?_
        refine sx_icmp_le X 163 dX14_read_155 rfl (fun c23 => ?_) (fun c23 => ?_)
        · have hf := ob_t hf c23
          refine sx_bipush X (v := 41) dX14_read_163 rfl ?_
          have hf := ob_kx hκ87 hf
          refine sx_lsub [0, 1, 2, 3] rfl ?_
          exact R165 v1 v2 v4 w_h_kind (upd w_h_number v2.toNatClampNeg v5) w_h_position w_h_length 41 v2 hf
        · have hf := ob_f hf c23
          refine sx_bipush X (v := 42) dX14_read_158 rfl ?_
          refine sx_goto X 165 dX14_read_160 rfl ?_
          have hf := ob_kx hκ87 hf
          refine sx_lsub [0, 1, 2, 3] rfl ?_
          exact R165 v1 v2 v4 w_h_kind (upd w_h_number v2.toNatClampNeg v5) w_h_position w_h_length 42 v2 hf
      · have hf := ob_f hf c21
        refine sx_iload X 3 rfl dX14_read_99 ?_
        refine sx_iload_n X 1 rfl dX14_read_101 rfl ?_
        refine sx_isub X dX14_read_102 ?_
        refine sx_bipush X (v := 7) dX14_read_103 rfl ?_
        refine sx_icmp_ge X 126 dX14_read_105 rfl (fun c25 => ?_) (fun c25 => ?_)
        · have hf := ob_t hf c25
          refine sx_iload X 4 rfl dX14_read_126 ?_
          refine sx_istore X (lv' := [(5, .int v5), (0, .ref h), (1, .int v1), (2, .int v2), (4, .int v4)]) dX14_read_128 (by decide) rfl ?_
          refine sx_iinc X (v := (v4 + 1)) (lv' := [(4, .int (v4 + 1)), (5, .int v5), (0, .ref h), (1, .int v1), (2, .int v2)]) 4 rfl dX14_read_130 rfl (by decide) rfl ?_
          refine sx_goto X 87 dX14_read_133 rfl ?_
          have hf := ob_k hκ87 hf
          refine sx_lsub [2, 3, 4, 0, 1] rfl ?_
          exact ih87 (v4 + 1) v5 hf
        · have hf := ob_f hf c25
          refine sx_bipush X (v := 10) dX14_read_108 rfl ?_
          refine sx_iload X 4 rfl dX14_read_110 ?_
          refine sx_imul X dX14_read_112 ?_
          refine sx_aload_n X 0 rfl dX14_read_113 rfl ?_
          refine sx_iload X 3 rfl dX14_read_114 ?_
          obtain ⟨u26, hu26, hf⟩ := ob_c hf
          refine sx_cVr X (c_X14_byteAt (l := l) (D := D) (T := T) (sd := sd) h h_tape h_kind h_number h_position h_length h_frontName h_guestName h_told h_fresh h_value h_now h_kept v4 ((X14_thrown b_h), (X14_tape b_h), (X14_bytes b_h), (X14_errorAt b_h), w_h_kind, w_h_number, w_h_position, w_h_length, (X14_token b_h), (X14_isWrong b_h), (X14_error b_h), (X14_errorToken b_h), (X14_deep b_h), (X14_frontName b_h), (X14_guestName b_h), (X14_value b_h), (X14_now b_h), (X14_kept b_h)) hu26) (st' := [.int u26, .int (10 * v5)]) (q0 := 0) qm_1364 qm_1366 qm_17 qm_79 qm_1367 hd_X14_byteAt ⟨rfl, rfl⟩ ⟨Nat.le_of_ble_eq_true rfl, Nat.le_of_ble_eq_true rfl⟩ rfl rfl (Nat.le_of_ble_eq_true rfl) rfl rfl rfl [0, 1, 2, 3, 4, 5, 6, 7, 8, 9, 10] rfl rfl rfl ⟨Nat.le_of_ble_eq_true rfl, Nat.le_of_ble_eq_true rfl⟩ dX14_read_116 rfl ?_
          refine sx_iadd X dX14_read_119 ?_
          refine sx_bipush X (v := 48) dX14_read_120 rfl ?_
          refine sx_isub X dX14_read_122 ?_
          refine sx_goto X 128 dX14_read_123 rfl ?_
          refine sx_istore X (lv' := [(5, .int (((10 * v5) + u26) - 48)), (0, .ref h), (1, .int v1), (2, .int v2), (4, .int v4)]) dX14_read_128 (by decide) rfl ?_
          refine sx_iinc X (v := (v4 + 1)) (lv' := [(4, .int (v4 + 1)), (5, .int (((10 * v5) + u26) - 48)), (0, .ref h), (1, .int v1), (2, .int v2)]) 4 rfl dX14_read_130 rfl (by decide) rfl ?_
          refine sx_goto X 87 dX14_read_133 rfl ?_
          have hf := ob_k hκ87 hf
          refine sx_lsub [2, 3, 4, 0, 1] rfl ?_
          exact ih87 (v4 + 1) (((10 * v5) + u26) - 48) hf
  have L26 : ∀ (v1 : Int32) (v2 : Int32) (w_h_kind : Nat → Int32) (w_h_number : Nat → Int32) (w_h_position : Nat → Int32) (w_h_length : Nat → Int32) (n0 : Nat) (v4 : Int32), (iter (fun s : Int32 => f_X14_read_L26 n x0 x1 b_h v1 v2 s w_h_kind w_h_number w_h_position w_h_length) n0 v4).bind some = some res → SxG p l e rm_X14_read s m args below meth c D A 6 0 0 (SxE below args s D A (vf_X14_read sd) (wf_X14_read T sd h h_tape h_kind h_number h_position h_length h_frontName h_guestName h_told h_fresh h_value h_now h_kept b_h) res 0 0) [zO h 10 [.int (X14_thrown b_h), .ref h_tape, .int (X14_bytes b_h), .int (X14_errorAt b_h), .ref h_kind, .ref h_number, .ref h_position, .ref h_length, .int (X14_token b_h), .int (X14_isWrong b_h), .int (X14_error b_h), .int (X14_errorToken b_h), .int (X14_deep b_h), .ref h_frontName, .ref h_guestName, .ref h_told, .ref h_fresh, .ref h_value, .ref h_now, .ref h_kept], zI T h_tape 2000 (X14_tape b_h), zI T h_kind 402 w_h_kind, zI T h_number 402 w_h_number, zI T h_position 402 w_h_position, zI T h_length 402 w_h_length, zI T h_frontName 10 (X14_frontName b_h), zI T h_guestName 10 (X14_guestName b_h), zI T h_value 800 (X14_value b_h), zI T h_now 58 (X14_now b_h), zI T h_kept 58 (X14_kept b_h)] [(0, .ref h), (1, .int v1), (2, .int v2), (4, .int v4)] 26 [] := by
    intro v1 v2 w_h_kind w_h_number w_h_position w_h_length n0
    induction n0 with
    | zero =>
      intro v4 hf
      exact (iter_z hf).elim
    | succ n0 ih26 =>
      intro v4 hf
      obtain ⟨κ26, hκ26, hf⟩ := iter_k hf
      have hf : (f_X14_read_L26 n x0 x1 b_h v1 v2 v4 w_h_kind w_h_number w_h_position w_h_length).bind κ26 = some res := hf
      refine sx_aload_n X 0 rfl dX14_read_26 rfl ?_
      refine sx_iload X 3 rfl dX14_read_27 ?_
      obtain ⟨u27, hu27, hf⟩ := ob_c hf
      refine sx_cVr X (c_X14_byteAt (l := l) (D := D) (T := T) (sd := sd) h h_tape h_kind h_number h_position h_length h_frontName h_guestName h_told h_fresh h_value h_now h_kept v4 ((X14_thrown b_h), (X14_tape b_h), (X14_bytes b_h), (X14_errorAt b_h), w_h_kind, w_h_number, w_h_position, w_h_length, (X14_token b_h), (X14_isWrong b_h), (X14_error b_h), (X14_errorToken b_h), (X14_deep b_h), (X14_frontName b_h), (X14_guestName b_h), (X14_value b_h), (X14_now b_h), (X14_kept b_h)) hu27) (st' := [.int u27]) (q0 := 0) qm_1364 qm_1366 qm_17 qm_79 qm_1367 hd_X14_byteAt ⟨rfl, rfl⟩ ⟨Nat.le_of_ble_eq_true rfl, Nat.le_of_ble_eq_true rfl⟩ rfl rfl (Nat.le_of_ble_eq_true rfl) rfl rfl rfl [0, 1, 2, 3, 4, 5, 6, 7, 8, 9, 10] rfl rfl rfl ⟨Nat.le_of_ble_eq_true rfl, Nat.le_of_ble_eq_true rfl⟩ dX14_read_29 rfl ?_
      obtain ⟨u28, hu28, hf⟩ := ob_c hf
      refine sx_cSr X (c_X14_isLetter (l := l) (D := D) (T := T) (sd := sd) u27 hu28) (st' := [.int u28]) qm_1372 qm_1373 qm_79 qm_1374 hd_X14_isLetter ⟨rfl, rfl⟩ ⟨Nat.le_of_ble_eq_true rfl, Nat.le_of_ble_eq_true rfl⟩ rfl rfl (Nat.le_of_ble_eq_true rfl) [] rfl rfl rfl ⟨Nat.le_of_ble_eq_true rfl, Nat.le_of_ble_eq_true rfl⟩ dX14_read_32 rfl ?_
      refine sx_if_ne X 50 dX14_read_35 rfl (fun c29 => ?_) (fun c29 => ?_)
      · have hf := ob_f hf c29
        refine sx_iinc X (v := (v4 + 1)) (lv' := [(4, .int (v4 + 1)), (0, .ref h), (1, .int v1), (2, .int v2)]) 3 rfl dX14_read_50 rfl (by decide) rfl ?_
        refine sx_goto X 26 dX14_read_53 rfl ?_
        have hf := ob_k hκ26 hf
        refine sx_lsub [1, 2, 3, 0] rfl ?_
        exact ih26 (v4 + 1) hf
      · have hf := ob_t hf c29
        refine sx_aload_n X 0 rfl dX14_read_38 rfl ?_
        refine sx_iload X 3 rfl dX14_read_39 ?_
        obtain ⟨u30, hu30, hf⟩ := ob_c hf
        refine sx_cVr X (c_X14_byteAt (l := l) (D := D) (T := T) (sd := sd) h h_tape h_kind h_number h_position h_length h_frontName h_guestName h_told h_fresh h_value h_now h_kept v4 ((X14_thrown b_h), (X14_tape b_h), (X14_bytes b_h), (X14_errorAt b_h), w_h_kind, w_h_number, w_h_position, w_h_length, (X14_token b_h), (X14_isWrong b_h), (X14_error b_h), (X14_errorToken b_h), (X14_deep b_h), (X14_frontName b_h), (X14_guestName b_h), (X14_value b_h), (X14_now b_h), (X14_kept b_h)) hu30) (st' := [.int u30]) (q0 := 0) qm_1364 qm_1366 qm_17 qm_79 qm_1367 hd_X14_byteAt ⟨rfl, rfl⟩ ⟨Nat.le_of_ble_eq_true rfl, Nat.le_of_ble_eq_true rfl⟩ rfl rfl (Nat.le_of_ble_eq_true rfl) rfl rfl rfl [0, 1, 2, 3, 4, 5, 6, 7, 8, 9, 10] rfl rfl rfl ⟨Nat.le_of_ble_eq_true rfl, Nat.le_of_ble_eq_true rfl⟩ dX14_read_41 rfl ?_
        obtain ⟨u31, hu31, hf⟩ := ob_c hf
        refine sx_cSr X (c_X14_isDigit (l := l) (D := D) (T := T) (sd := sd) u30 hu31) (st' := [.int u31]) qm_1375 qm_1376 qm_79 qm_1377 hd_X14_isDigit ⟨rfl, rfl⟩ ⟨Nat.le_of_ble_eq_true rfl, Nat.le_of_ble_eq_true rfl⟩ rfl rfl (Nat.le_of_ble_eq_true rfl) [] rfl rfl rfl ⟨Nat.le_of_ble_eq_true rfl, Nat.le_of_ble_eq_true rfl⟩ dX14_read_44 rfl ?_
        refine sx_if_eq X 56 dX14_read_47 rfl (fun c32 => ?_) (fun c32 => ?_)
        · have hf := ob_t hf c32
          refine sx_aload_n X 0 rfl dX14_read_56 rfl ?_
          refine sx_get X kX14 0 rfl 4 (Nat.le_of_ble_eq_true rfl) qm_1272 rfl dX14_read_57 ?_
          refine sx_iload_n X 2 rfl dX14_read_60 rfl ?_
          refine sx_aload_n X 0 rfl dX14_read_61 rfl ?_
          refine sx_iload_n X 1 rfl dX14_read_62 rfl ?_
          refine sx_iload X 3 rfl dX14_read_63 ?_
          refine sx_iload_n X 1 rfl dX14_read_65 rfl ?_
          refine sx_isub X dX14_read_66 ?_
          obtain ⟨u33, hu33, hf⟩ := ob_c hf
          refine sx_cVr X (c_X14_keyword (l := l) (D := D) (T := T) (sd := sd) h h_tape h_kind h_number h_position h_length h_frontName h_guestName h_told h_fresh h_value h_now h_kept n v1 (v4 - v1) ((X14_thrown b_h), (X14_tape b_h), (X14_bytes b_h), (X14_errorAt b_h), w_h_kind, w_h_number, w_h_position, w_h_length, (X14_token b_h), (X14_isWrong b_h), (X14_error b_h), (X14_errorToken b_h), (X14_deep b_h), (X14_frontName b_h), (X14_guestName b_h), (X14_value b_h), (X14_now b_h), (X14_kept b_h)) hu33) (st' := [.int u33, .int v2, .ref h_kind]) (q0 := 0) qm_1378 qm_1380 qm_19 qm_79 qm_1381 hd_X14_keyword ⟨rfl, rfl⟩ ⟨Nat.le_of_ble_eq_true rfl, Nat.le_of_ble_eq_true rfl⟩ rfl rfl (Nat.le_of_ble_eq_true rfl) rfl rfl rfl [0, 1, 2, 3, 4, 5, 6, 7, 8, 9, 10] rfl rfl rfl ⟨Nat.le_of_ble_eq_true rfl, Nat.le_of_ble_eq_true rfl⟩ dX14_read_67 rfl ?_
          obtain ⟨g34, hf⟩ := ob_g hf
          refine sx_iast X (ws' := [zO h 10 [.int (X14_thrown b_h), .ref h_tape, .int (X14_bytes b_h), .int (X14_errorAt b_h), .ref h_kind, .ref h_number, .ref h_position, .ref h_length, .int (X14_token b_h), .int (X14_isWrong b_h), .int (X14_error b_h), .int (X14_errorToken b_h), .int (X14_deep b_h), .ref h_frontName, .ref h_guestName, .ref h_told, .ref h_fresh, .ref h_value, .ref h_now, .ref h_kept], zI T h_tape 2000 (X14_tape b_h), zI T h_kind 402 (upd w_h_kind v2.toNatClampNeg u33), zI T h_number 402 w_h_number, zI T h_position 402 w_h_position, zI T h_length 402 w_h_length, zI T h_frontName 10 (X14_frontName b_h), zI T h_guestName 10 (X14_guestName b_h), zI T h_value 800 (X14_value b_h), zI T h_now 58 (X14_now b_h), zI T h_kept 58 (X14_kept b_h)]) 2 rfl g34 rfl dX14_read_70 ?_
          refine sx_goto X 239 dX14_read_71 rfl ?_
          have hf := ob_kx hκ26 hf
          exact R239 v1 v2 v4 (upd w_h_kind v2.toNatClampNeg u33) w_h_number w_h_position w_h_length hf
        · have hf := ob_f hf c32
          refine sx_iinc X (v := (v4 + 1)) (lv' := [(4, .int (v4 + 1)), (0, .ref h), (1, .int v1), (2, .int v2)]) 3 rfl dX14_read_50 rfl (by decide) rfl ?_
          refine sx_goto X 26 dX14_read_53 rfl ?_
          have hf := ob_k hκ26 hf
          refine sx_lsub [1, 2, 3, 0] rfl ?_
          exact ih26 (v4 + 1) hf
  refine sx_aload_n X 0 rfl dX14_read_0 rfl ?_
  refine sx_get X kX14 0 rfl 1 (Nat.le_of_ble_eq_true rfl) qm_1269 rfl dX14_read_1 ?_
  refine sx_iload_n X 1 rfl dX14_read_4 rfl ?_
  obtain ⟨g1, hf⟩ := ob_g hf
  refine sx_iald X 1 rfl g1 dX14_read_5 ?_
  refine sx_istore_n X (lv' := [(3, .int ((X14_tape b_h) x0.toNatClampNeg)), (0, .ref h), (1, .int x0), (2, .int x1)]) dX14_read_6 rfl (by decide) rfl ?_
  refine sx_iload_n X 2 rfl dX14_read_7 rfl ?_
  refine sx_iconst X (v := 1) dX14_read_8 rfl ?_
  refine sx_iadd X dX14_read_9 ?_
  refine sx_istore X (lv' := [(4, .int (x0 + 1)), (3, .int ((X14_tape b_h) x0.toNatClampNeg)), (0, .ref h), (1, .int x0), (2, .int x1)]) dX14_read_10 (by decide) rfl ?_
  refine sx_aload_n X 2 rfl dX14_read_12 rfl ?_
  refine sx_get X kX14 0 rfl 6 (Nat.le_of_ble_eq_true rfl) qm_1274 rfl dX14_read_13 ?_
  refine sx_iload_n X 4 rfl dX14_read_16 rfl ?_
  refine sx_iload_n X 3 rfl dX14_read_17 rfl ?_
  obtain ⟨g2, hf⟩ := ob_g hf
  refine sx_iast X (ws' := [zO h 10 [.int (X14_thrown b_h), .ref h_tape, .int (X14_bytes b_h), .int (X14_errorAt b_h), .ref h_kind, .ref h_number, .ref h_position, .ref h_length, .int (X14_token b_h), .int (X14_isWrong b_h), .int (X14_error b_h), .int (X14_errorToken b_h), .int (X14_deep b_h), .ref h_frontName, .ref h_guestName, .ref h_told, .ref h_fresh, .ref h_value, .ref h_now, .ref h_kept], zI T h_tape 2000 (X14_tape b_h), zI T h_kind 402 (X14_kind b_h), zI T h_number 402 (X14_number b_h), zI T h_position 402 (upd (X14_position b_h) x1.toNatClampNeg x0), zI T h_length 402 (X14_length b_h), zI T h_frontName 10 (X14_frontName b_h), zI T h_guestName 10 (X14_guestName b_h), zI T h_value 800 (X14_value b_h), zI T h_now 58 (X14_now b_h), zI T h_kept 58 (X14_kept b_h)]) 4 rfl g2 rfl dX14_read_18 ?_
  refine sx_iload_n X 1 rfl dX14_read_19 rfl ?_
  obtain ⟨u3, hu3, hf⟩ := ob_c hf
  refine sx_cSr X (c_X14_isLetter (l := l) (D := D) (T := T) (sd := sd) ((X14_tape b_h) x0.toNatClampNeg) hu3) (st' := [.int u3]) qm_1372 qm_1373 qm_79 qm_1374 hd_X14_isLetter ⟨rfl, rfl⟩ ⟨Nat.le_of_ble_eq_true rfl, Nat.le_of_ble_eq_true rfl⟩ rfl rfl (Nat.le_of_ble_eq_true rfl) [] rfl rfl rfl ⟨Nat.le_of_ble_eq_true rfl, Nat.le_of_ble_eq_true rfl⟩ dX14_read_20 rfl ?_
  refine sx_if_eq X 74 dX14_read_23 rfl (fun c4 => ?_) (fun c4 => ?_)
  · have hf := ob_t hf c4
    refine sx_iload_n X 1 rfl dX14_read_74 rfl ?_
    obtain ⟨u5, hu5, hf⟩ := ob_c hf
    refine sx_cSr X (c_X14_isDigit (l := l) (D := D) (T := T) (sd := sd) ((X14_tape b_h) x0.toNatClampNeg) hu5) (st' := [.int u5]) qm_1375 qm_1376 qm_79 qm_1377 hd_X14_isDigit ⟨rfl, rfl⟩ ⟨Nat.le_of_ble_eq_true rfl, Nat.le_of_ble_eq_true rfl⟩ rfl rfl (Nat.le_of_ble_eq_true rfl) [] rfl rfl rfl ⟨Nat.le_of_ble_eq_true rfl, Nat.le_of_ble_eq_true rfl⟩ dX14_read_75 rfl ?_
    refine sx_if_eq X 169 dX14_read_78 rfl (fun c6 => ?_) (fun c6 => ?_)
    · have hf := ob_t hf c6
      refine sx_aload_n X 2 rfl dX14_read_169 rfl ?_
      refine sx_get X kX14 0 rfl 4 (Nat.le_of_ble_eq_true rfl) qm_1272 rfl dX14_read_170 ?_
      refine sx_iload_n X 4 rfl dX14_read_173 rfl ?_
      refine sx_iload_n X 1 rfl dX14_read_174 rfl ?_
      obtain ⟨u7, hu7, hf⟩ := ob_c hf
      refine sx_cSr X (c_X14_symbol (l := l) (D := D) (T := T) (sd := sd) ((X14_tape b_h) x0.toNatClampNeg) hu7) (st' := [.int u7, .int x1, .ref h_kind]) qm_1390 qm_1391 qm_79 qm_1392 hd_X14_symbol ⟨rfl, rfl⟩ ⟨Nat.le_of_ble_eq_true rfl, Nat.le_of_ble_eq_true rfl⟩ rfl rfl (Nat.le_of_ble_eq_true rfl) [] rfl rfl rfl ⟨Nat.le_of_ble_eq_true rfl, Nat.le_of_ble_eq_true rfl⟩ dX14_read_175 rfl ?_
      obtain ⟨g8, hf⟩ := ob_g hf
      refine sx_iast X (ws' := [zO h 10 [.int (X14_thrown b_h), .ref h_tape, .int (X14_bytes b_h), .int (X14_errorAt b_h), .ref h_kind, .ref h_number, .ref h_position, .ref h_length, .int (X14_token b_h), .int (X14_isWrong b_h), .int (X14_error b_h), .int (X14_errorToken b_h), .int (X14_deep b_h), .ref h_frontName, .ref h_guestName, .ref h_told, .ref h_fresh, .ref h_value, .ref h_now, .ref h_kept], zI T h_tape 2000 (X14_tape b_h), zI T h_kind 402 (upd (X14_kind b_h) x1.toNatClampNeg u7), zI T h_number 402 (X14_number b_h), zI T h_position 402 (upd (X14_position b_h) x1.toNatClampNeg x0), zI T h_length 402 (X14_length b_h), zI T h_frontName 10 (X14_frontName b_h), zI T h_guestName 10 (X14_guestName b_h), zI T h_value 800 (X14_value b_h), zI T h_now 58 (X14_now b_h), zI T h_kept 58 (X14_kept b_h)]) 2 rfl g8 rfl dX14_read_178 ?_
      refine sx_aload_n X 2 rfl dX14_read_179 rfl ?_
      refine sx_get X kX14 0 rfl 4 (Nat.le_of_ble_eq_true rfl) qm_1272 rfl dX14_read_180 ?_
      refine sx_iload_n X 4 rfl dX14_read_183 rfl ?_
      obtain ⟨g9, hf⟩ := ob_g hf
      refine sx_iald X 2 rfl g9 dX14_read_184 ?_
      refine sx_bipush X (v := 54) dX14_read_185 rfl ?_
      refine sx_icmp_eq X 201 dX14_read_187 rfl (fun c10 => ?_) (fun c10 => ?_)
      · have hf := ob_t hf c10
        refine sx_lsub [2, 3, 4, 0] rfl ?_
        exact R201 x0 x1 (x0 + 1) (upd (X14_kind b_h) x1.toNatClampNeg u7) (X14_number b_h) (upd (X14_position b_h) x1.toNatClampNeg x0) (X14_length b_h) hf
      · have hf := ob_f hf c10
        refine sx_aload_n X 2 rfl dX14_read_190 rfl ?_
        refine sx_get X kX14 0 rfl 4 (Nat.le_of_ble_eq_true rfl) qm_1272 rfl dX14_read_191 ?_
        refine sx_iload_n X 4 rfl dX14_read_194 rfl ?_
        obtain ⟨g17, hf⟩ := ob_g hf
        refine sx_iald X 2 rfl g17 dX14_read_195 ?_
        refine sx_bipush X (v := 55) dX14_read_196 rfl ?_
        refine sx_icmp_ne X 239 dX14_read_198 rfl (fun c18 => ?_) (fun c18 => ?_)
        · have hf := ob_f hf c18
          refine sx_lsub [2, 3, 4, 0] rfl ?_
          exact R239 x0 x1 (x0 + 1) (upd (X14_kind b_h) x1.toNatClampNeg u7) (X14_number b_h) (upd (X14_position b_h) x1.toNatClampNeg x0) (X14_length b_h) hf
        · have hf := ob_t hf c18
          refine sx_lsub [2, 3, 4, 0] rfl ?_
          exact R201 x0 x1 (x0 + 1) (upd (X14_kind b_h) x1.toNatClampNeg u7) (X14_number b_h) (upd (X14_position b_h) x1.toNatClampNeg x0) (X14_length b_h) hf
    · have hf := ob_f hf c6
      refine sx_iload_n X 1 rfl dX14_read_81 rfl ?_
      refine sx_bipush X (v := 48) dX14_read_82 rfl ?_
      refine sx_isub X dX14_read_84 ?_
      refine sx_istore X (lv' := [(5, .int (((X14_tape b_h) x0.toNatClampNeg) - 48)), (4, .int (x0 + 1)), (3, .int ((X14_tape b_h) x0.toNatClampNeg)), (0, .ref h), (1, .int x0), (2, .int x1)]) dX14_read_85 (by decide) rfl ?_
      refine sx_lsub [3, 4, 5, 1, 0] rfl ?_
      exact L87 x0 x1 (X14_kind b_h) (X14_number b_h) (upd (X14_position b_h) x1.toNatClampNeg x0) (X14_length b_h) n (x0 + 1) (((X14_tape b_h) x0.toNatClampNeg) - 48) hf
  · have hf := ob_f hf c4
    refine sx_lsub [2, 3, 4, 0] rfl ?_
    exact L26 x0 x1 (X14_kind b_h) (X14_number b_h) (upd (X14_position b_h) x1.toNatClampNeg x0) (X14_length b_h) n (x0 + 1) hf

abbrev vf_X14_skip (sd : SdT) (r : Int32) : Option Value := some (.int r)
abbrev wc_X14_skip (T : Nat → ClassId) (sd : SdT) (h : Nat) (h_tape : Nat) (h_kind : Nat) (h_number : Nat) (h_position : Nat) (h_length : Nat) (h_frontName : Nat) (h_guestName : Nat) (h_told : Nat) (h_fresh : Nat) (h_value : Nat) (h_now : Nat) (h_kept : Nat) (b_h : bX14) : va_W := [zO h 10 [.int (X14_thrown b_h), .ref h_tape, .int (X14_bytes b_h), .int (X14_errorAt b_h), .ref h_kind, .ref h_number, .ref h_position, .ref h_length, .int (X14_token b_h), .int (X14_isWrong b_h), .int (X14_error b_h), .int (X14_errorToken b_h), .int (X14_deep b_h), .ref h_frontName, .ref h_guestName, .ref h_told, .ref h_fresh, .ref h_value, .ref h_now, .ref h_kept], zI T h_tape 2000 (X14_tape b_h), zI T h_kind 402 (X14_kind b_h), zI T h_number 402 (X14_number b_h), zI T h_position 402 (X14_position b_h), zI T h_length 402 (X14_length b_h), zI T h_frontName 10 (X14_frontName b_h), zI T h_guestName 10 (X14_guestName b_h), zI T h_value 800 (X14_value b_h), zI T h_now 58 (X14_now b_h), zI T h_kept 58 (X14_kept b_h)]
abbrev wf_X14_skip (T : Nat → ClassId) (sd : SdT) (h : Nat) (h_tape : Nat) (h_kind : Nat) (h_number : Nat) (h_position : Nat) (h_length : Nat) (h_frontName : Nat) (h_guestName : Nat) (h_told : Nat) (h_fresh : Nat) (h_value : Nat) (h_now : Nat) (h_kept : Nat) (b_h : bX14) (r : Int32) : va_W := [zO h 10 [.int (X14_thrown b_h), .ref h_tape, .int (X14_bytes b_h), .int (X14_errorAt b_h), .ref h_kind, .ref h_number, .ref h_position, .ref h_length, .int (X14_token b_h), .int (X14_isWrong b_h), .int (X14_error b_h), .int (X14_errorToken b_h), .int (X14_deep b_h), .ref h_frontName, .ref h_guestName, .ref h_told, .ref h_fresh, .ref h_value, .ref h_now, .ref h_kept], zI T h_tape 2000 (X14_tape b_h), zI T h_kind 402 (X14_kind b_h), zI T h_number 402 (X14_number b_h), zI T h_position 402 (X14_position b_h), zI T h_length 402 (X14_length b_h), zI T h_frontName 10 (X14_frontName b_h), zI T h_guestName 10 (X14_guestName b_h), zI T h_value 800 (X14_value b_h), zI T h_now 58 (X14_now b_h), zI T h_kept 58 (X14_kept b_h)]
abbrev rm_X14_skip : Room := { frames := 1, cells := 0, slots := 0, locals := 21 }
theorem hd_X14_skip : yX14_skip.cls ≠ "java/lang/invoke/MethodHandle" ∧ yX14_skip.cls ≠ "java/lang/invoke/VarHandle" ∧ (parseMethodDescriptor yX14_skip.desc).map (fun d => d.parameters.length) = some 1 := ⟨by decide, by decide, by decide +kernel⟩
set_option maxHeartbeats 4000000 in
set_option maxRecDepth 100000 in
theorem c_X14_skip {l : Launch} {D : va_G} {T : Nat → ClassId} {sd : SdT} (h : Nat) (h_tape : Nat) (h_kind : Nat) (h_number : Nat) (h_position : Nat) (h_length : Nat) (h_frontName : Nat) (h_guestName : Nat) (h_told : Nat) (h_fresh : Nat) (h_value : Nat) (h_now : Nat) (h_kept : Nat) (n : Nat) (x0 : Int32) (b_h : bX14) {res : Int32} (hf : f_X14_skip n x0 b_h = some res) : SxK (SFx sd) l D T yX14_skip cX14_skip 3 (some .int) rm_X14_skip [.ref h, .int x0] (wc_X14_skip T sd h h_tape h_kind h_number h_position h_length h_frontName h_guestName h_told h_fresh h_value h_now h_kept b_h) (vf_X14_skip sd) (wf_X14_skip T sd h h_tape h_kind h_number h_position h_length h_frontName h_guestName h_told h_fresh h_value h_now h_kept b_h) res 0 0 := by
  refine sx_start (SFx_ok sd) (by decide +kernel) (Nat.le_of_ble_eq_true rfl) (fun p e s m args below meth c A X hnm => ?_)
  have hf := ob_1 hf
  have L2 : ∀ (n0 : Nat) (v2 : Int32), (iter (fun s : Int32 => f_X14_skip_L2 n x0 b_h s) n0 v2).bind some = some res → SxG p l e rm_X14_skip s m args below meth c D A 3 0 0 (SxE below args s D A (vf_X14_skip sd) (wf_X14_skip T sd h h_tape h_kind h_number h_position h_length h_frontName h_guestName h_told h_fresh h_value h_now h_kept b_h) res 0 0) [zO h 10 [.int (X14_thrown b_h), .ref h_tape, .int (X14_bytes b_h), .int (X14_errorAt b_h), .ref h_kind, .ref h_number, .ref h_position, .ref h_length, .int (X14_token b_h), .int (X14_isWrong b_h), .int (X14_error b_h), .int (X14_errorToken b_h), .int (X14_deep b_h), .ref h_frontName, .ref h_guestName, .ref h_told, .ref h_fresh, .ref h_value, .ref h_now, .ref h_kept], zI T h_tape 2000 (X14_tape b_h), zI T h_kind 402 (X14_kind b_h), zI T h_number 402 (X14_number b_h), zI T h_position 402 (X14_position b_h), zI T h_length 402 (X14_length b_h), zI T h_frontName 10 (X14_frontName b_h), zI T h_guestName 10 (X14_guestName b_h), zI T h_value 800 (X14_value b_h), zI T h_now 58 (X14_now b_h), zI T h_kept 58 (X14_kept b_h)] [(0, .ref h), (2, .int v2)] 2 [] := by
    intro n0
    induction n0 with
    | zero =>
      intro v2 hf
      exact (iter_z hf).elim
    | succ n0 ih2 =>
      intro v2 hf
      obtain ⟨κ2, hκ2, hf⟩ := iter_k hf
      have hf : (f_X14_skip_L2 n x0 b_h v2).bind κ2 = some res := hf
      refine sx_aload_n X 0 rfl dX14_skip_2 rfl ?_
      refine sx_iload_n X 1 rfl dX14_skip_3 rfl ?_
      obtain ⟨u1, hu1, hf⟩ := ob_c hf
      refine sx_cVr X (c_X14_byteAt (l := l) (D := D) (T := T) (sd := sd) h h_tape h_kind h_number h_position h_length h_frontName h_guestName h_told h_fresh h_value h_now h_kept v2 b_h hu1) (st' := [.int u1]) (q0 := 0) qm_1364 qm_1366 qm_17 qm_79 qm_1367 hd_X14_byteAt ⟨rfl, rfl⟩ ⟨Nat.le_of_ble_eq_true rfl, Nat.le_of_ble_eq_true rfl⟩ rfl rfl (Nat.le_of_ble_eq_true rfl) rfl rfl rfl [0, 1, 2, 3, 4, 5, 6, 7, 8, 9, 10] rfl rfl rfl ⟨Nat.le_of_ble_eq_true rfl, Nat.le_of_ble_eq_true rfl⟩ dX14_skip_4 rfl ?_
      refine sx_bipush X (v := 32) dX14_skip_7 rfl ?_
      refine sx_icmp_eq X 22 dX14_skip_9 rfl (fun c2 => ?_) (fun c2 => ?_)
      · have hf := ob_t hf c2
        refine sx_iinc X (v := (v2 + 1)) (lv' := [(2, .int (v2 + 1)), (0, .ref h)]) 1 rfl dX14_skip_22 rfl (by decide) rfl ?_
        refine sx_goto X 2 dX14_skip_25 rfl ?_
        have hf := ob_k hκ2 hf
        refine sx_lsub [1, 0] rfl ?_
        exact ih2 (v2 + 1) hf
      · have hf := ob_f hf c2
        refine sx_aload_n X 0 rfl dX14_skip_12 rfl ?_
        refine sx_iload_n X 1 rfl dX14_skip_13 rfl ?_
        obtain ⟨u3, hu3, hf⟩ := ob_c hf
        refine sx_cVr X (c_X14_byteAt (l := l) (D := D) (T := T) (sd := sd) h h_tape h_kind h_number h_position h_length h_frontName h_guestName h_told h_fresh h_value h_now h_kept v2 b_h hu3) (st' := [.int u3]) (q0 := 0) qm_1364 qm_1366 qm_17 qm_79 qm_1367 hd_X14_byteAt ⟨rfl, rfl⟩ ⟨Nat.le_of_ble_eq_true rfl, Nat.le_of_ble_eq_true rfl⟩ rfl rfl (Nat.le_of_ble_eq_true rfl) rfl rfl rfl [0, 1, 2, 3, 4, 5, 6, 7, 8, 9, 10] rfl rfl rfl ⟨Nat.le_of_ble_eq_true rfl, Nat.le_of_ble_eq_true rfl⟩ dX14_skip_14 rfl ?_
        refine sx_bipush X (v := 10) dX14_skip_17 rfl ?_
        refine sx_icmp_ne X 28 dX14_skip_19 rfl (fun c4 => ?_) (fun c4 => ?_)
        · have hf := ob_f hf c4
          refine sx_iload_n X 1 rfl dX14_skip_28 rfl ?_
          have hf := ob_kr hκ2 hf
          exact sx_iret X rfl dX14_skip_29 (ob_e hf) rfl rfl
        · have hf := ob_t hf c4
          refine sx_iinc X (v := (v2 + 1)) (lv' := [(2, .int (v2 + 1)), (0, .ref h)]) 1 rfl dX14_skip_22 rfl (by decide) rfl ?_
          refine sx_goto X 2 dX14_skip_25 rfl ?_
          have hf := ob_k hκ2 hf
          refine sx_lsub [1, 0] rfl ?_
          exact ih2 (v2 + 1) hf
  refine sx_iload_n X 1 rfl dX14_skip_0 rfl ?_
  refine sx_istore_n X (lv' := [(2, .int x0), (0, .ref h), (1, .int x0)]) dX14_skip_1 rfl (by decide) rfl ?_
  refine sx_lsub [1, 0] rfl ?_
  exact L2 n x0 hf
