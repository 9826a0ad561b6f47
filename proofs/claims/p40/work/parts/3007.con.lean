/-! contracts, part 7 -/
abbrev vf_X12_digest (sd : SdT) (r : Int64) : Option Value := some (.long r)
abbrev wc_X12_digest (T : Nat → ClassId) (sd : SdT) (h : Nat) (h_tape : Nat) (h_tokens : Nat) (h_pot : Nat) (h_trial : Nat) (h_draft : Nat) (h_pot_reckoner : Nat) (h_pot_plan : Nat) (h_pot_frontSteeped : Nat) (h_pot_guestServed : Nat) (h_pot_guestStormed : Nat) (h_pot_plan_fronts : Nat) (h_pot_plan_guests : Nat) (h_pot_plan_orders : Nat) (h_pot_plan_fronts_names : Nat) (h_pot_plan_fronts_warm : Nat) (h_pot_plan_fronts_force : Nat) (h_pot_plan_fronts_from : Nat) (h_pot_plan_fronts_hours : Nat) (h_pot_plan_guests_names : Nat) (h_pot_plan_guests_from : Nat) (h_pot_plan_guests_weakest : Nat) (h_pot_plan_guests_strongest : Nat) (h_pot_plan_guests_nerve : Nat) (b_h : bX12) (b_h_pot : bX8) (b_h_pot_plan_fronts : bX2) (b_h_pot_plan_guests : bX4) : va_W := [zO h 10 [.ref h_tape, .ref h_tokens, .ref h_pot, .ref h_trial, .ref h_draft, .int (X12_errorPosition b_h)], zO h_pot 6 [.ref h_pot_reckoner, .ref h_pot_plan, .int (X8_hour b_h_pot), .int (X8_warmth b_h_pot), .int (X8_strength b_h_pot), .int (X8_charge b_h_pot), .int (X8_lemons b_h_pot), .int (X8_saucers b_h_pot), .int (X8_coins b_h_pot), .int (X8_storms b_h_pot), .ref h_pot_frontSteeped, .ref h_pot_guestServed, .ref h_pot_guestStormed], zZ T h_pot_frontSteeped 10 (X8_frontSteeped b_h_pot), zZ T h_pot_guestServed 10 (X8_guestServed b_h_pot), zZ T h_pot_guestStormed 10 (X8_guestStormed b_h_pot), zO h_pot_plan 5 [.ref h_pot_plan_fronts, .ref h_pot_plan_guests, .ref h_pot_plan_orders], zO h_pot_plan_fronts 2 [.ref h_pot_plan_fronts_names, .ref h_pot_plan_fronts_warm, .ref h_pot_plan_fronts_force, .ref h_pot_plan_fronts_from, .ref h_pot_plan_fronts_hours, .int (X2_count b_h_pot_plan_fronts)], zJ T h_pot_plan_fronts_names 10 (X2_names b_h_pot_plan_fronts), zZ T h_pot_plan_fronts_warm 10 (X2_warm b_h_pot_plan_fronts), zI T h_pot_plan_fronts_force 10 (X2_force b_h_pot_plan_fronts), zI T h_pot_plan_fronts_from 10 (X2_from b_h_pot_plan_fronts), zI T h_pot_plan_fronts_hours 10 (X2_hours b_h_pot_plan_fronts), zO h_pot_plan_guests 3 [.ref h_pot_plan_guests_names, .ref h_pot_plan_guests_from, .ref h_pot_plan_guests_weakest, .ref h_pot_plan_guests_strongest, .ref h_pot_plan_guests_nerve, .int (X4_count b_h_pot_plan_guests)], zJ T h_pot_plan_guests_names 10 (X4_names b_h_pot_plan_guests), zI T h_pot_plan_guests_from 10 (X4_from b_h_pot_plan_guests), zI T h_pot_plan_guests_weakest 10 (X4_weakest b_h_pot_plan_guests), zI T h_pot_plan_guests_strongest 10 (X4_strongest b_h_pot_plan_guests), zI T h_pot_plan_guests_nerve 10 (X4_nerve b_h_pot_plan_guests)]
abbrev wf_X12_digest (T : Nat → ClassId) (sd : SdT) (h : Nat) (h_tape : Nat) (h_tokens : Nat) (h_pot : Nat) (h_trial : Nat) (h_draft : Nat) (h_pot_reckoner : Nat) (h_pot_plan : Nat) (h_pot_frontSteeped : Nat) (h_pot_guestServed : Nat) (h_pot_guestStormed : Nat) (h_pot_plan_fronts : Nat) (h_pot_plan_guests : Nat) (h_pot_plan_orders : Nat) (h_pot_plan_fronts_names : Nat) (h_pot_plan_fronts_warm : Nat) (h_pot_plan_fronts_force : Nat) (h_pot_plan_fronts_from : Nat) (h_pot_plan_fronts_hours : Nat) (h_pot_plan_guests_names : Nat) (h_pot_plan_guests_from : Nat) (h_pot_plan_guests_weakest : Nat) (h_pot_plan_guests_strongest : Nat) (h_pot_plan_guests_nerve : Nat) (b_h : bX12) (b_h_pot : bX8) (b_h_pot_plan_fronts : bX2) (b_h_pot_plan_guests : bX4) (r : Int64) : va_W := [zO h 10 [.ref h_tape, .ref h_tokens, .ref h_pot, .ref h_trial, .ref h_draft, .int (X12_errorPosition b_h)], zO h_pot 6 [.ref h_pot_reckoner, .ref h_pot_plan, .int (X8_hour b_h_pot), .int (X8_warmth b_h_pot), .int (X8_strength b_h_pot), .int (X8_charge b_h_pot), .int (X8_lemons b_h_pot), .int (X8_saucers b_h_pot), .int (X8_coins b_h_pot), .int (X8_storms b_h_pot), .ref h_pot_frontSteeped, .ref h_pot_guestServed, .ref h_pot_guestStormed], zZ T h_pot_frontSteeped 10 (X8_frontSteeped b_h_pot), zZ T h_pot_guestServed 10 (X8_guestServed b_h_pot), zZ T h_pot_guestStormed 10 (X8_guestStormed b_h_pot), zO h_pot_plan 5 [.ref h_pot_plan_fronts, .ref h_pot_plan_guests, .ref h_pot_plan_orders], zO h_pot_plan_fronts 2 [.ref h_pot_plan_fronts_names, .ref h_pot_plan_fronts_warm, .ref h_pot_plan_fronts_force, .ref h_pot_plan_fronts_from, .ref h_pot_plan_fronts_hours, .int (X2_count b_h_pot_plan_fronts)], zJ T h_pot_plan_fronts_names 10 (X2_names b_h_pot_plan_fronts), zZ T h_pot_plan_fronts_warm 10 (X2_warm b_h_pot_plan_fronts), zI T h_pot_plan_fronts_force 10 (X2_force b_h_pot_plan_fronts), zI T h_pot_plan_fronts_from 10 (X2_from b_h_pot_plan_fronts), zI T h_pot_plan_fronts_hours 10 (X2_hours b_h_pot_plan_fronts), zO h_pot_plan_guests 3 [.ref h_pot_plan_guests_names, .ref h_pot_plan_guests_from, .ref h_pot_plan_guests_weakest, .ref h_pot_plan_guests_strongest, .ref h_pot_plan_guests_nerve, .int (X4_count b_h_pot_plan_guests)], zJ T h_pot_plan_guests_names 10 (X4_names b_h_pot_plan_guests), zI T h_pot_plan_guests_from 10 (X4_from b_h_pot_plan_guests), zI T h_pot_plan_guests_weakest 10 (X4_weakest b_h_pot_plan_guests), zI T h_pot_plan_guests_strongest 10 (X4_strongest b_h_pot_plan_guests), zI T h_pot_plan_guests_nerve 10 (X4_nerve b_h_pot_plan_guests)]
abbrev rm_X12_digest : Room := { frames := 5, cells := 0, slots := 0, locals := 113 }
theorem hd_X12_digest : yX12_digest.cls ≠ "java/lang/invoke/MethodHandle" ∧ yX12_digest.cls ≠ "java/lang/invoke/VarHandle" ∧ (parseMethodDescriptor yX12_digest.desc).map (fun d => d.parameters.length) = some 0 := ⟨by decide, by decide, by decide +kernel⟩
set_option maxHeartbeats 4000000 in
set_option maxRecDepth 100000 in
theorem c_X12_digest {l : Launch} {D : va_G} {T : Nat → ClassId} {sd : SdT} (h : Nat) (h_tape : Nat) (h_tokens : Nat) (h_pot : Nat) (h_trial : Nat) (h_draft : Nat) (h_pot_reckoner : Nat) (h_pot_plan : Nat) (h_pot_frontSteeped : Nat) (h_pot_guestServed : Nat) (h_pot_guestStormed : Nat) (h_pot_plan_fronts : Nat) (h_pot_plan_guests : Nat) (h_pot_plan_orders : Nat) (h_pot_plan_fronts_names : Nat) (h_pot_plan_fronts_warm : Nat) (h_pot_plan_fronts_force : Nat) (h_pot_plan_fronts_from : Nat) (h_pot_plan_fronts_hours : Nat) (h_pot_plan_guests_names : Nat) (h_pot_plan_guests_from : Nat) (h_pot_plan_guests_weakest : Nat) (h_pot_plan_guests_strongest : Nat) (h_pot_plan_guests_nerve : Nat) (n : Nat) (b_h : bX12) (b_h_pot : bX8) (b_h_pot_plan_fronts : bX2) (b_h_pot_plan_guests : bX4) {res : Int64} (hf : f_X12_digest n b_h b_h_pot b_h_pot_plan_fronts b_h_pot_plan_guests = some res) : SxK (SFx sd) l D T yX12_digest cX12_digest 4 (some .long) rm_X12_digest [.ref h] (wc_X12_digest T sd h h_tape h_tokens h_pot h_trial h_draft h_pot_reckoner h_pot_plan h_pot_frontSteeped h_pot_guestServed h_pot_guestStormed h_pot_plan_fronts h_pot_plan_guests h_pot_plan_orders h_pot_plan_fronts_names h_pot_plan_fronts_warm h_pot_plan_fronts_force h_pot_plan_fronts_from h_pot_plan_fronts_hours h_pot_plan_guests_names h_pot_plan_guests_from h_pot_plan_guests_weakest h_pot_plan_guests_strongest h_pot_plan_guests_nerve b_h b_h_pot b_h_pot_plan_fronts b_h_pot_plan_guests) (vf_X12_digest sd) (wf_X12_digest T sd h h_tape h_tokens h_pot h_trial h_draft h_pot_reckoner h_pot_plan h_pot_frontSteeped h_pot_guestServed h_pot_guestStormed h_pot_plan_fronts h_pot_plan_guests h_pot_plan_orders h_pot_plan_fronts_names h_pot_plan_fronts_warm h_pot_plan_fronts_force h_pot_plan_fronts_from h_pot_plan_fronts_hours h_pot_plan_guests_names h_pot_plan_guests_from h_pot_plan_guests_weakest h_pot_plan_guests_strongest h_pot_plan_guests_nerve b_h b_h_pot b_h_pot_plan_fronts b_h_pot_plan_guests) res 0 0 := by
  refine sx_start (SFx_ok sd) (by decide +kernel) (Nat.le_of_ble_eq_true rfl) (fun p e s m args below meth c A X hnm => ?_)
  have hf := ob_1 hf
  have L238 : ∀ (n0 : Nat) (v1 : Int64) (v3 : Int32), (iter (fun s : Int64 × Int32 => f_X12_digest_L238 n b_h b_h_pot b_h_pot_plan_fronts b_h_pot_plan_guests s.1 s.2) n0 (v1, v3)).bind some = some res → SxG p l e rm_X12_digest s m args below meth c D A 4 0 0 (SxE below args s D A (vf_X12_digest sd) (wf_X12_digest T sd h h_tape h_tokens h_pot h_trial h_draft h_pot_reckoner h_pot_plan h_pot_frontSteeped h_pot_guestServed h_pot_guestStormed h_pot_plan_fronts h_pot_plan_guests h_pot_plan_orders h_pot_plan_fronts_names h_pot_plan_fronts_warm h_pot_plan_fronts_force h_pot_plan_fronts_from h_pot_plan_fronts_hours h_pot_plan_guests_names h_pot_plan_guests_from h_pot_plan_guests_weakest h_pot_plan_guests_strongest h_pot_plan_guests_nerve b_h b_h_pot b_h_pot_plan_fronts b_h_pot_plan_guests) res 0 0) [zO h 10 [.ref h_tape, .ref h_tokens, .ref h_pot, .ref h_trial, .ref h_draft, .int (X12_errorPosition b_h)], zO h_pot 6 [.ref h_pot_reckoner, .ref h_pot_plan, .int (X8_hour b_h_pot), .int (X8_warmth b_h_pot), .int (X8_strength b_h_pot), .int (X8_charge b_h_pot), .int (X8_lemons b_h_pot), .int (X8_saucers b_h_pot), .int (X8_coins b_h_pot), .int (X8_storms b_h_pot), .ref h_pot_frontSteeped, .ref h_pot_guestServed, .ref h_pot_guestStormed], zZ T h_pot_frontSteeped 10 (X8_frontSteeped b_h_pot), zZ T h_pot_guestServed 10 (X8_guestServed b_h_pot), zZ T h_pot_guestStormed 10 (X8_guestStormed b_h_pot), zO h_pot_plan 5 [.ref h_pot_plan_fronts, .ref h_pot_plan_guests, .ref h_pot_plan_orders], zO h_pot_plan_fronts 2 [.ref h_pot_plan_fronts_names, .ref h_pot_plan_fronts_warm, .ref h_pot_plan_fronts_force, .ref h_pot_plan_fronts_from, .ref h_pot_plan_fronts_hours, .int (X2_count b_h_pot_plan_fronts)], zJ T h_pot_plan_fronts_names 10 (X2_names b_h_pot_plan_fronts), zZ T h_pot_plan_fronts_warm 10 (X2_warm b_h_pot_plan_fronts), zI T h_pot_plan_fronts_force 10 (X2_force b_h_pot_plan_fronts), zI T h_pot_plan_fronts_from 10 (X2_from b_h_pot_plan_fronts), zI T h_pot_plan_fronts_hours 10 (X2_hours b_h_pot_plan_fronts), zO h_pot_plan_guests 3 [.ref h_pot_plan_guests_names, .ref h_pot_plan_guests_from, .ref h_pot_plan_guests_weakest, .ref h_pot_plan_guests_strongest, .ref h_pot_plan_guests_nerve, .int (X4_count b_h_pot_plan_guests)], zJ T h_pot_plan_guests_names 10 (X4_names b_h_pot_plan_guests), zI T h_pot_plan_guests_from 10 (X4_from b_h_pot_plan_guests), zI T h_pot_plan_guests_weakest 10 (X4_weakest b_h_pot_plan_guests), zI T h_pot_plan_guests_strongest 10 (X4_strongest b_h_pot_plan_guests), zI T h_pot_plan_guests_nerve 10 (X4_nerve b_h_pot_plan_guests)] [(0, .ref h), (1, .long v1), (3, .int v3)] 238 [] := by
    intro n0
    induction n0 with
    | zero =>
      intro v1 v3 hf
      exact (iter_z hf).elim
    | succ n0 ih238 =>
      intro v1 v3 hf
      obtain ⟨κ238, hκ238, hf⟩ := iter_k hf
      have hf : (f_X12_digest_L238 n b_h b_h_pot b_h_pot_plan_fronts b_h_pot_plan_guests v1 v3).bind κ238 = some res := hf
      refine sx_iload_n X 2 rfl dX12_digest_238 rfl ?_
      refine sx_aload_n X 0 rfl dX12_digest_239 rfl ?_
      refine sx_get X kX12 0 rfl 2 (Nat.le_of_ble_eq_true rfl) qm_323 rfl dX12_digest_240 ?_
      refine sx_get X kX8 1 rfl 1 (Nat.le_of_ble_eq_true rfl) qm_269 rfl dX12_digest_243 ?_
      refine sx_get X kX7 5 rfl 1 (Nat.le_of_ble_eq_true rfl) qm_256 rfl dX12_digest_246 ?_
      refine sx_get X kX4 12 rfl 5 (Nat.le_of_ble_eq_true rfl) qm_191 rfl dX12_digest_249 ?_
      refine sx_icmp_ge X 346 dX12_digest_252 rfl (fun c16 => ?_) (fun c16 => ?_)
      · have hf := ob_t hf c16
        refine sx_lload_n X 1 rfl dX12_digest_346 rfl ?_
        have hf := ob_kr hκ238 hf
        exact sx_lret X dX12_digest_347 (ob_e hf) rfl rfl
      · have hf := ob_f hf c16
        refine sx_lload_n X 1 rfl dX12_digest_255 rfl ?_
        refine sx_ldc2 X qm_665 dX12_digest_256 ?_
        refine sx_lmul X dX12_digest_259 ?_
        refine sx_aload_n X 0 rfl dX12_digest_260 rfl ?_
        refine sx_get X kX12 0 rfl 2 (Nat.le_of_ble_eq_true rfl) qm_323 rfl dX12_digest_261 ?_
        refine sx_iload_n X 2 rfl dX12_digest_264 rfl ?_
        obtain ⟨u17, hu17, hf⟩ := ob_c hf
        refine sx_cVr X (c_X8_sits (l := l) (D := D) (T := T) (sd := sd) h_pot h_pot_reckoner h_pot_plan h_pot_frontSteeped h_pot_guestServed h_pot_guestStormed h_pot_plan_fronts h_pot_plan_guests h_pot_plan_orders h_pot_plan_guests_names h_pot_plan_guests_from h_pot_plan_guests_weakest h_pot_plan_guests_strongest h_pot_plan_guests_nerve v3 b_h_pot b_h_pot_plan_guests hu17) (st' := [.int u17, .long (v1 * 31)]) (q0 := 1) qm_384 qm_385 qm_386 qm_18 qm_387 hd_X8_sits ⟨rfl, rfl⟩ ⟨Nat.le_of_ble_eq_true rfl, Nat.le_of_ble_eq_true rfl⟩ rfl rfl (Nat.le_of_ble_eq_true rfl) rfl rfl rfl [1, 2, 3, 4, 5, 12, 13, 14, 15, 16, 17] rfl rfl rfl ⟨Nat.le_of_ble_eq_true rfl, Nat.le_of_ble_eq_true rfl⟩ dX12_digest_265 rfl ?_
        obtain ⟨u18, hu18, hf⟩ := ob_c hf
        refine sx_cSr X (c_X12_oneIf (l := l) (D := D) (T := T) (sd := sd) u17 hu18) (st' := [.int u18, .long (v1 * 31)]) qm_392 qm_393 qm_13 qm_394 hd_X12_oneIf ⟨rfl, rfl⟩ ⟨Nat.le_of_ble_eq_true rfl, Nat.le_of_ble_eq_true rfl⟩ rfl rfl (Nat.le_of_ble_eq_true rfl) [] rfl rfl rfl ⟨Nat.le_of_ble_eq_true rfl, Nat.le_of_ble_eq_true rfl⟩ dX12_digest_268 rfl ?_
        refine sx_i2l X dX12_digest_271 ?_
        refine sx_ladd X dX12_digest_272 ?_
        refine sx_lstore_n X (lv' := [(1, .long ((v1 * 31) + (Int32.toInt64 u18))), (0, .ref h), (3, .int v3)]) dX12_digest_273 rfl (by decide) rfl ?_
        refine sx_lload_n X 0 rfl dX12_digest_274 rfl ?_
        refine sx_ldc2 X qm_665 dX12_digest_275 ?_
        refine sx_lmul X dX12_digest_278 ?_
        refine sx_aload_n X 1 rfl dX12_digest_279 rfl ?_
        refine sx_get X kX12 0 rfl 2 (Nat.le_of_ble_eq_true rfl) qm_323 rfl dX12_digest_280 ?_
        refine sx_iload_n X 2 rfl dX12_digest_283 rfl ?_
        refine sx_aload_n X 1 rfl dX12_digest_284 rfl ?_
        refine sx_get X kX12 0 rfl 2 (Nat.le_of_ble_eq_true rfl) qm_323 rfl dX12_digest_285 ?_
        refine sx_get X kX8 1 rfl 4 (Nat.le_of_ble_eq_true rfl) qm_275 rfl dX12_digest_288 ?_
        obtain ⟨u19, hu19, hf⟩ := ob_c hf
        refine sx_cVr X (c_X8_wouldLike (l := l) (D := D) (T := T) (sd := sd) h_pot h_pot_reckoner h_pot_plan h_pot_frontSteeped h_pot_guestServed h_pot_guestStormed h_pot_plan_fronts h_pot_plan_guests h_pot_plan_orders h_pot_plan_guests_names h_pot_plan_guests_from h_pot_plan_guests_weakest h_pot_plan_guests_strongest h_pot_plan_guests_nerve v3 (X8_strength b_h_pot) b_h_pot b_h_pot_plan_guests hu19) (st' := [.int u19, .long (((v1 * 31) + (Int32.toInt64 u18)) * 31)]) (q0 := 1) qm_512 qm_513 qm_514 qm_18 qm_515 hd_X8_wouldLike ⟨rfl, rfl⟩ ⟨Nat.le_of_ble_eq_true rfl, Nat.le_of_ble_eq_true rfl⟩ rfl rfl (Nat.le_of_ble_eq_true rfl) rfl rfl rfl [1, 2, 3, 4, 5, 12, 13, 14, 15, 16, 17] rfl rfl rfl ⟨Nat.le_of_ble_eq_true rfl, Nat.le_of_ble_eq_true rfl⟩ dX12_digest_291 rfl ?_
        obtain ⟨u20, hu20, hf⟩ := ob_c hf
        refine sx_cSr X (c_X12_oneIf (l := l) (D := D) (T := T) (sd := sd) u19 hu20) (st' := [.int u20, .long (((v1 * 31) + (Int32.toInt64 u18)) * 31)]) qm_392 qm_393 qm_13 qm_394 hd_X12_oneIf ⟨rfl, rfl⟩ ⟨Nat.le_of_ble_eq_true rfl, Nat.le_of_ble_eq_true rfl⟩ rfl rfl (Nat.le_of_ble_eq_true rfl) [] rfl rfl rfl ⟨Nat.le_of_ble_eq_true rfl, Nat.le_of_ble_eq_true rfl⟩ dX12_digest_294 rfl ?_
        refine sx_i2l X dX12_digest_297 ?_
        refine sx_ladd X dX12_digest_298 ?_
        refine sx_lstore_n X (lv' := [(1, .long ((((v1 * 31) + (Int32.toInt64 u18)) * 31) + (Int32.toInt64 u20))), (0, .ref h), (3, .int v3)]) dX12_digest_299 rfl (by decide) rfl ?_
        refine sx_lload_n X 0 rfl dX12_digest_300 rfl ?_
        refine sx_ldc2 X qm_665 dX12_digest_301 ?_
        refine sx_lmul X dX12_digest_304 ?_
        refine sx_aload_n X 1 rfl dX12_digest_305 rfl ?_
        refine sx_get X kX12 0 rfl 2 (Nat.le_of_ble_eq_true rfl) qm_323 rfl dX12_digest_306 ?_
        refine sx_get X kX8 1 rfl 11 (Nat.le_of_ble_eq_true rfl) qm_289 rfl dX12_digest_309 ?_
        refine sx_iload_n X 2 rfl dX12_digest_312 rfl ?_
        obtain ⟨g21, hf⟩ := ob_g hf
        refine sx_zald X 3 rfl g21 dX12_digest_313 ?_
        obtain ⟨u22, hu22, hf⟩ := ob_c hf
        refine sx_cSr X (c_X12_oneIf (l := l) (D := D) (T := T) (sd := sd) ((X8_guestServed b_h_pot) v3.toNatClampNeg) hu22) (st' := [.int u22, .long (((((v1 * 31) + (Int32.toInt64 u18)) * 31) + (Int32.toInt64 u20)) * 31)]) qm_392 qm_393 qm_13 qm_394 hd_X12_oneIf ⟨rfl, rfl⟩ ⟨Nat.le_of_ble_eq_true rfl, Nat.le_of_ble_eq_true rfl⟩ rfl rfl (Nat.le_of_ble_eq_true rfl) [] rfl rfl rfl ⟨Nat.le_of_ble_eq_true rfl, Nat.le_of_ble_eq_true rfl⟩ dX12_digest_314 rfl ?_
        refine sx_i2l X dX12_digest_317 ?_
        refine sx_ladd X dX12_digest_318 ?_
        refine sx_lstore_n X (lv' := [(1, .long ((((((v1 * 31) + (Int32.toInt64 u18)) * 31) + (Int32.toInt64 u20)) * 31) + (Int32.toInt64 u22))), (0, .ref h), (3, .int v3)]) dX12_digest_319 rfl (by decide) rfl ?_
        refine sx_lload_n X 0 rfl dX12_digest_320 rfl ?_
        refine sx_ldc2 X qm_665 dX12_digest_321 ?_
        refine sx_lmul X dX12_digest_324 ?_
        refine sx_aload_n X 1 rfl dX12_digest_325 rfl ?_
        refine sx_get X kX12 0 rfl 2 (Nat.le_of_ble_eq_true rfl) qm_323 rfl dX12_digest_326 ?_
        refine sx_get X kX8 1 rfl 12 (Nat.le_of_ble_eq_true rfl) qm_291 rfl dX12_digest_329 ?_
        refine sx_iload_n X 2 rfl dX12_digest_332 rfl ?_
        obtain ⟨g23, hf⟩ := ob_g hf
        refine sx_zald X 4 rfl g23 dX12_digest_333 ?_
        obtain ⟨u24, hu24, hf⟩ := ob_c hf
        refine sx_cSr X (c_X12_oneIf (l := l) (D := D) (T := T) (sd := sd) ((X8_guestStormed b_h_pot) v3.toNatClampNeg) hu24) (st' := [.int u24, .long (((((((v1 * 31) + (Int32.toInt64 u18)) * 31) + (Int32.toInt64 u20)) * 31) + (Int32.toInt64 u22)) * 31)]) qm_392 qm_393 qm_13 qm_394 hd_X12_oneIf ⟨rfl, rfl⟩ ⟨Nat.le_of_ble_eq_true rfl, Nat.le_of_ble_eq_true rfl⟩ rfl rfl (Nat.le_of_ble_eq_true rfl) [] rfl rfl rfl ⟨Nat.le_of_ble_eq_true rfl, Nat.le_of_ble_eq_true rfl⟩ dX12_digest_334 rfl ?_
        refine sx_i2l X dX12_digest_337 ?_
        refine sx_ladd X dX12_digest_338 ?_
        refine sx_lstore_n X (lv' := [(1, .long ((((((((v1 * 31) + (Int32.toInt64 u18)) * 31) + (Int32.toInt64 u20)) * 31) + (Int32.toInt64 u22)) * 31) + (Int32.toInt64 u24))), (0, .ref h), (3, .int v3)]) dX12_digest_339 rfl (by decide) rfl ?_
        refine sx_iinc X (v := (v3 + 1)) (lv' := [(3, .int (v3 + 1)), (1, .long ((((((((v1 * 31) + (Int32.toInt64 u18)) * 31) + (Int32.toInt64 u20)) * 31) + (Int32.toInt64 u22)) * 31) + (Int32.toInt64 u24))), (0, .ref h)]) 2 rfl dX12_digest_340 rfl (by decide) rfl ?_
        refine sx_goto X 238 dX12_digest_343 rfl ?_
        have hf := ob_k hκ238 hf
        refine sx_lsub [2, 1, 0] rfl ?_
        exact ih238 ((((((((v1 * 31) + (Int32.toInt64 u18)) * 31) + (Int32.toInt64 u20)) * 31) + (Int32.toInt64 u22)) * 31) + (Int32.toInt64 u24)) (v3 + 1) hf
  have L174 : ∀ (n0 : Nat) (v1 : Int64) (v3 : Int32), (iter (fun s : Int64 × Int32 => f_X12_digest_L174 n b_h b_h_pot b_h_pot_plan_fronts b_h_pot_plan_guests s.1 s.2) n0 (v1, v3)).bind some = some res → SxG p l e rm_X12_digest s m args below meth c D A 4 0 0 (SxE below args s D A (vf_X12_digest sd) (wf_X12_digest T sd h h_tape h_tokens h_pot h_trial h_draft h_pot_reckoner h_pot_plan h_pot_frontSteeped h_pot_guestServed h_pot_guestStormed h_pot_plan_fronts h_pot_plan_guests h_pot_plan_orders h_pot_plan_fronts_names h_pot_plan_fronts_warm h_pot_plan_fronts_force h_pot_plan_fronts_from h_pot_plan_fronts_hours h_pot_plan_guests_names h_pot_plan_guests_from h_pot_plan_guests_weakest h_pot_plan_guests_strongest h_pot_plan_guests_nerve b_h b_h_pot b_h_pot_plan_fronts b_h_pot_plan_guests) res 0 0) [zO h 10 [.ref h_tape, .ref h_tokens, .ref h_pot, .ref h_trial, .ref h_draft, .int (X12_errorPosition b_h)], zO h_pot 6 [.ref h_pot_reckoner, .ref h_pot_plan, .int (X8_hour b_h_pot), .int (X8_warmth b_h_pot), .int (X8_strength b_h_pot), .int (X8_charge b_h_pot), .int (X8_lemons b_h_pot), .int (X8_saucers b_h_pot), .int (X8_coins b_h_pot), .int (X8_storms b_h_pot), .ref h_pot_frontSteeped, .ref h_pot_guestServed, .ref h_pot_guestStormed], zZ T h_pot_frontSteeped 10 (X8_frontSteeped b_h_pot), zZ T h_pot_guestServed 10 (X8_guestServed b_h_pot), zZ T h_pot_guestStormed 10 (X8_guestStormed b_h_pot), zO h_pot_plan 5 [.ref h_pot_plan_fronts, .ref h_pot_plan_guests, .ref h_pot_plan_orders], zO h_pot_plan_fronts 2 [.ref h_pot_plan_fronts_names, .ref h_pot_plan_fronts_warm, .ref h_pot_plan_fronts_force, .ref h_pot_plan_fronts_from, .ref h_pot_plan_fronts_hours, .int (X2_count b_h_pot_plan_fronts)], zJ T h_pot_plan_fronts_names 10 (X2_names b_h_pot_plan_fronts), zZ T h_pot_plan_fronts_warm 10 (X2_warm b_h_pot_plan_fronts), zI T h_pot_plan_fronts_force 10 (X2_force b_h_pot_plan_fronts), zI T h_pot_plan_fronts_from 10 (X2_from b_h_pot_plan_fronts), zI T h_pot_plan_fronts_hours 10 (X2_hours b_h_pot_plan_fronts), zO h_pot_plan_guests 3 [.ref h_pot_plan_guests_names, .ref h_pot_plan_guests_from, .ref h_pot_plan_guests_weakest, .ref h_pot_plan_guests_strongest, .ref h_pot_plan_guests_nerve, .int (X4_count b_h_pot_plan_guests)], zJ T h_pot_plan_guests_names 10 (X4_names b_h_pot_plan_guests), zI T h_pot_plan_guests_from 10 (X4_from b_h_pot_plan_guests), zI T h_pot_plan_guests_weakest 10 (X4_weakest b_h_pot_plan_guests), zI T h_pot_plan_guests_strongest 10 (X4_strongest b_h_pot_plan_guests), zI T h_pot_plan_guests_nerve 10 (X4_nerve b_h_pot_plan_guests)] [(0, .ref h), (1, .long v1), (3, .int v3)] 174 [] := by
    intro n0
    induction n0 with
    | zero =>
      intro v1 v3 hf
      exact (iter_z hf).elim
    | succ n0 ih174 =>
      intro v1 v3 hf
      obtain ⟨κ174, hκ174, hf⟩ := iter_k hf
      have hf : (f_X12_digest_L174 n b_h b_h_pot b_h_pot_plan_fronts b_h_pot_plan_guests v1 v3).bind κ174 = some res := hf
      refine sx_iload_n X 2 rfl dX12_digest_174 rfl ?_
      refine sx_aload_n X 0 rfl dX12_digest_175 rfl ?_
      refine sx_get X kX12 0 rfl 2 (Nat.le_of_ble_eq_true rfl) qm_323 rfl dX12_digest_176 ?_
      refine sx_get X kX8 1 rfl 1 (Nat.le_of_ble_eq_true rfl) qm_269 rfl dX12_digest_179 ?_
      refine sx_get X kX7 5 rfl 0 (Nat.le_of_ble_eq_true rfl) qm_252 rfl dX12_digest_182 ?_
      refine sx_get X kX2 6 rfl 5 (Nat.le_of_ble_eq_true rfl) qm_157 rfl dX12_digest_185 ?_
      refine sx_icmp_ge X 236 dX12_digest_188 rfl (fun c15 => ?_) (fun c15 => ?_)
      · have hf := ob_t hf c15
        refine sx_iconst X (v := 0) dX12_digest_236 rfl ?_
        refine sx_istore_n X (lv' := [(3, .int 0), (0, .ref h), (1, .long v1)]) dX12_digest_237 rfl (by decide) rfl ?_
        have hf := ob_kx hκ174 hf
        refine sx_lsub [1, 2, 0] rfl ?_
        exact L238 n v1 0 hf
      · have hf := ob_f hf c15
        refine sx_lload_n X 1 rfl dX12_digest_191 rfl ?_
        refine sx_ldc2 X qm_665 dX12_digest_192 ?_
        refine sx_lmul X dX12_digest_195 ?_
        refine sx_aload_n X 0 rfl dX12_digest_196 rfl ?_
        refine sx_get X kX12 0 rfl 2 (Nat.le_of_ble_eq_true rfl) qm_323 rfl dX12_digest_197 ?_
        refine sx_iload_n X 2 rfl dX12_digest_200 rfl ?_
        obtain ⟨u25, hu25, hf⟩ := ob_c hf
        refine sx_cVr X (c_X8_hangsOver (l := l) (D := D) (T := T) (sd := sd) h_pot h_pot_reckoner h_pot_plan h_pot_frontSteeped h_pot_guestServed h_pot_guestStormed h_pot_plan_fronts h_pot_plan_guests h_pot_plan_orders h_pot_plan_fronts_names h_pot_plan_fronts_warm h_pot_plan_fronts_force h_pot_plan_fronts_from h_pot_plan_fronts_hours v3 b_h_pot b_h_pot_plan_fronts hu25) (st' := [.int u25, .long (v1 * 31)]) (q0 := 1) qm_489 qm_490 qm_491 qm_18 qm_492 hd_X8_hangsOver ⟨rfl, rfl⟩ ⟨Nat.le_of_ble_eq_true rfl, Nat.le_of_ble_eq_true rfl⟩ rfl rfl (Nat.le_of_ble_eq_true rfl) rfl rfl rfl [1, 2, 3, 4, 5, 6, 7, 8, 9, 10, 11] rfl rfl rfl ⟨Nat.le_of_ble_eq_true rfl, Nat.le_of_ble_eq_true rfl⟩ dX12_digest_201 rfl ?_
        obtain ⟨u26, hu26, hf⟩ := ob_c hf
        refine sx_cSr X (c_X12_oneIf (l := l) (D := D) (T := T) (sd := sd) u25 hu26) (st' := [.int u26, .long (v1 * 31)]) qm_392 qm_393 qm_13 qm_394 hd_X12_oneIf ⟨rfl, rfl⟩ ⟨Nat.le_of_ble_eq_true rfl, Nat.le_of_ble_eq_true rfl⟩ rfl rfl (Nat.le_of_ble_eq_true rfl) [] rfl rfl rfl ⟨Nat.le_of_ble_eq_true rfl, Nat.le_of_ble_eq_true rfl⟩ dX12_digest_204 rfl ?_
        refine sx_i2l X dX12_digest_207 ?_
        refine sx_ladd X dX12_digest_208 ?_
        refine sx_lstore_n X (lv' := [(1, .long ((v1 * 31) + (Int32.toInt64 u26))), (0, .ref h), (3, .int v3)]) dX12_digest_209 rfl (by decide) rfl ?_
        refine sx_lload_n X 0 rfl dX12_digest_210 rfl ?_
        refine sx_ldc2 X qm_665 dX12_digest_211 ?_
        refine sx_lmul X dX12_digest_214 ?_
        refine sx_aload_n X 1 rfl dX12_digest_215 rfl ?_
        refine sx_get X kX12 0 rfl 2 (Nat.le_of_ble_eq_true rfl) qm_323 rfl dX12_digest_216 ?_
        refine sx_get X kX8 1 rfl 10 (Nat.le_of_ble_eq_true rfl) qm_287 rfl dX12_digest_219 ?_
        refine sx_iload_n X 2 rfl dX12_digest_222 rfl ?_
        obtain ⟨g27, hf⟩ := ob_g hf
        refine sx_zald X 2 rfl g27 dX12_digest_223 ?_
        obtain ⟨u28, hu28, hf⟩ := ob_c hf
        refine sx_cSr X (c_X12_oneIf (l := l) (D := D) (T := T) (sd := sd) ((X8_frontSteeped b_h_pot) v3.toNatClampNeg) hu28) (st' := [.int u28, .long (((v1 * 31) + (Int32.toInt64 u26)) * 31)]) qm_392 qm_393 qm_13 qm_394 hd_X12_oneIf ⟨rfl, rfl⟩ ⟨Nat.le_of_ble_eq_true rfl, Nat.le_of_ble_eq_true rfl⟩ rfl rfl (Nat.le_of_ble_eq_true rfl) [] rfl rfl rfl ⟨Nat.le_of_ble_eq_true rfl, Nat.le_of_ble_eq_true rfl⟩ dX12_digest_224 rfl ?_
        refine sx_i2l X dX12_digest_227 ?_
        refine sx_ladd X dX12_digest_228 ?_
        refine sx_lstore_n X (lv' := [(1, .long ((((v1 * 31) + (Int32.toInt64 u26)) * 31) + (Int32.toInt64 u28))), (0, .ref h), (3, .int v3)]) dX12_digest_229 rfl (by decide) rfl ?_
        refine sx_iinc X (v := (v3 + 1)) (lv' := [(3, .int (v3 + 1)), (1, .long ((((v1 * 31) + (Int32.toInt64 u26)) * 31) + (Int32.toInt64 u28))), (0, .ref h)]) 2 rfl dX12_digest_230 rfl (by decide) rfl ?_
        refine sx_goto X 174 dX12_digest_233 rfl ?_
        have hf := ob_k hκ174 hf
        refine sx_lsub [2, 1, 0] rfl ?_
        exact ih174 ((((v1 * 31) + (Int32.toInt64 u26)) * 31) + (Int32.toInt64 u28)) (v3 + 1) hf
  refine sx_ldc2 X qm_664 dX12_digest_0 ?_
  refine sx_lstore_n X (lv' := [(1, .long 1033), (0, .ref h)]) dX12_digest_3 rfl (by decide) rfl ?_
  refine sx_lload_n X 0 rfl dX12_digest_4 rfl ?_
  refine sx_ldc2 X qm_665 dX12_digest_5 ?_
  refine sx_lmul X dX12_digest_8 ?_
  refine sx_aload_n X 1 rfl dX12_digest_9 rfl ?_
  obtain ⟨u1, hu1, hf⟩ := ob_c hf
  refine sx_cVr X (c_X12_fronts (l := l) (D := D) (T := T) (sd := sd) h h_tape h_tokens h_pot h_trial h_draft h_pot_reckoner h_pot_plan h_pot_frontSteeped h_pot_guestServed h_pot_guestStormed h_pot_plan_fronts h_pot_plan_guests h_pot_plan_orders h_pot_plan_fronts_names h_pot_plan_fronts_warm h_pot_plan_fronts_force h_pot_plan_fronts_from h_pot_plan_fronts_hours b_h b_h_pot b_h_pot_plan_fronts hu1) (st' := [.int u1, .long (1033 * 31)]) (q0 := 0) qm_666 qm_341 qm_342 qm_13 qm_343 hd_X12_fronts ⟨rfl, rfl⟩ ⟨Nat.le_of_ble_eq_true rfl, Nat.le_of_ble_eq_true rfl⟩ rfl rfl (Nat.le_of_ble_eq_true rfl) rfl rfl rfl [0, 1, 2, 3, 4, 5, 6, 7, 8, 9, 10, 11] rfl rfl rfl ⟨Nat.le_of_ble_eq_true rfl, Nat.le_of_ble_eq_true rfl⟩ dX12_digest_10 rfl ?_
  refine sx_i2l X dX12_digest_13 ?_
  refine sx_ladd X dX12_digest_14 ?_
  refine sx_lstore_n X (lv' := [(1, .long ((1033 * 31) + (Int32.toInt64 u1))), (0, .ref h)]) dX12_digest_15 rfl (by decide) rfl ?_
  refine sx_lload_n X 0 rfl dX12_digest_16 rfl ?_
  refine sx_ldc2 X qm_665 dX12_digest_17 ?_
  refine sx_lmul X dX12_digest_20 ?_
  refine sx_aload_n X 1 rfl dX12_digest_21 rfl ?_
  obtain ⟨u2, hu2, hf⟩ := ob_c hf
  refine sx_cVr X (c_X12_guests (l := l) (D := D) (T := T) (sd := sd) h h_tape h_tokens h_pot h_trial h_draft h_pot_reckoner h_pot_plan h_pot_frontSteeped h_pot_guestServed h_pot_guestStormed h_pot_plan_fronts h_pot_plan_guests h_pot_plan_orders h_pot_plan_guests_names h_pot_plan_guests_from h_pot_plan_guests_weakest h_pot_plan_guests_strongest h_pot_plan_guests_nerve b_h b_h_pot b_h_pot_plan_guests hu2) (st' := [.int u2, .long (((1033 * 31) + (Int32.toInt64 u1)) * 31)]) (q0 := 0) qm_667 qm_345 qm_346 qm_13 qm_347 hd_X12_guests ⟨rfl, rfl⟩ ⟨Nat.le_of_ble_eq_true rfl, Nat.le_of_ble_eq_true rfl⟩ rfl rfl (Nat.le_of_ble_eq_true rfl) rfl rfl rfl [0, 1, 2, 3, 4, 5, 12, 13, 14, 15, 16, 17] rfl rfl rfl ⟨Nat.le_of_ble_eq_true rfl, Nat.le_of_ble_eq_true rfl⟩ dX12_digest_22 rfl ?_
  refine sx_i2l X dX12_digest_25 ?_
  refine sx_ladd X dX12_digest_26 ?_
  refine sx_lstore_n X (lv' := [(1, .long ((((1033 * 31) + (Int32.toInt64 u1)) * 31) + (Int32.toInt64 u2))), (0, .ref h)]) dX12_digest_27 rfl (by decide) rfl ?_
  refine sx_lload_n X 0 rfl dX12_digest_28 rfl ?_
  refine sx_ldc2 X qm_665 dX12_digest_29 ?_
  refine sx_lmul X dX12_digest_32 ?_
  refine sx_aload_n X 1 rfl dX12_digest_33 rfl ?_
  obtain ⟨u3, hu3, hf⟩ := ob_c hf
  refine sx_cVr X (c_X12_hour (l := l) (D := D) (T := T) (sd := sd) h h_tape h_tokens h_pot h_trial h_draft h_pot_reckoner h_pot_plan h_pot_frontSteeped h_pot_guestServed h_pot_guestStormed b_h b_h_pot hu3) (st' := [.int u3, .long (((((1033 * 31) + (Int32.toInt64 u1)) * 31) + (Int32.toInt64 u2)) * 31)]) (q0 := 0) qm_668 qm_349 qm_350 qm_13 qm_351 hd_X12_hour ⟨rfl, rfl⟩ ⟨Nat.le_of_ble_eq_true rfl, Nat.le_of_ble_eq_true rfl⟩ rfl rfl (Nat.le_of_ble_eq_true rfl) rfl rfl rfl [0, 1, 2, 3, 4] rfl rfl rfl ⟨Nat.le_of_ble_eq_true rfl, Nat.le_of_ble_eq_true rfl⟩ dX12_digest_34 rfl ?_
  refine sx_i2l X dX12_digest_37 ?_
  refine sx_ladd X dX12_digest_38 ?_
  refine sx_lstore_n X (lv' := [(1, .long ((((((1033 * 31) + (Int32.toInt64 u1)) * 31) + (Int32.toInt64 u2)) * 31) + (Int32.toInt64 u3))), (0, .ref h)]) dX12_digest_39 rfl (by decide) rfl ?_
  refine sx_lload_n X 0 rfl dX12_digest_40 rfl ?_
  refine sx_ldc2 X qm_665 dX12_digest_41 ?_
  refine sx_lmul X dX12_digest_44 ?_
  refine sx_aload_n X 1 rfl dX12_digest_45 rfl ?_
  obtain ⟨u4, hu4, hf⟩ := ob_c hf
  refine sx_cVr X (c_X12_warmth (l := l) (D := D) (T := T) (sd := sd) h h_tape h_tokens h_pot h_trial h_draft h_pot_reckoner h_pot_plan h_pot_frontSteeped h_pot_guestServed h_pot_guestStormed b_h b_h_pot hu4) (st' := [.int u4, .long (((((((1033 * 31) + (Int32.toInt64 u1)) * 31) + (Int32.toInt64 u2)) * 31) + (Int32.toInt64 u3)) * 31)]) (q0 := 0) qm_669 qm_353 qm_354 qm_13 qm_355 hd_X12_warmth ⟨rfl, rfl⟩ ⟨Nat.le_of_ble_eq_true rfl, Nat.le_of_ble_eq_true rfl⟩ rfl rfl (Nat.le_of_ble_eq_true rfl) rfl rfl rfl [0, 1, 2, 3, 4] rfl rfl rfl ⟨Nat.le_of_ble_eq_true rfl, Nat.le_of_ble_eq_true rfl⟩ dX12_digest_46 rfl ?_
  refine sx_i2l X dX12_digest_49 ?_
  refine sx_ladd X dX12_digest_50 ?_
  refine sx_lstore_n X (lv' := [(1, .long ((((((((1033 * 31) + (Int32.toInt64 u1)) * 31) + (Int32.toInt64 u2)) * 31) + (Int32.toInt64 u3)) * 31) + (Int32.toInt64 u4))), (0, .ref h)]) dX12_digest_51 rfl (by decide) rfl ?_
  refine sx_lload_n X 0 rfl dX12_digest_52 rfl ?_
  refine sx_ldc2 X qm_665 dX12_digest_53 ?_
  refine sx_lmul X dX12_digest_56 ?_
  refine sx_aload_n X 1 rfl dX12_digest_57 rfl ?_
  obtain ⟨u5, hu5, hf⟩ := ob_c hf
  refine sx_cVr X (c_X12_strength (l := l) (D := D) (T := T) (sd := sd) h h_tape h_tokens h_pot h_trial h_draft h_pot_reckoner h_pot_plan h_pot_frontSteeped h_pot_guestServed h_pot_guestStormed b_h b_h_pot hu5) (st' := [.int u5, .long (((((((((1033 * 31) + (Int32.toInt64 u1)) * 31) + (Int32.toInt64 u2)) * 31) + (Int32.toInt64 u3)) * 31) + (Int32.toInt64 u4)) * 31)]) (q0 := 0) qm_670 qm_357 qm_358 qm_13 qm_359 hd_X12_strength ⟨rfl, rfl⟩ ⟨Nat.le_of_ble_eq_true rfl, Nat.le_of_ble_eq_true rfl⟩ rfl rfl (Nat.le_of_ble_eq_true rfl) rfl rfl rfl [0, 1, 2, 3, 4] rfl rfl rfl ⟨Nat.le_of_ble_eq_true rfl, Nat.le_of_ble_eq_true rfl⟩ dX12_digest_58 rfl ?_
  refine sx_i2l X dX12_digest_61 ?_
  refine sx_ladd X dX12_digest_62 ?_
  refine sx_lstore_n X (lv' := [(1, .long ((((((((((1033 * 31) + (Int32.toInt64 u1)) * 31) + (Int32.toInt64 u2)) * 31) + (Int32.toInt64 u3)) * 31) + (Int32.toInt64 u4)) * 31) + (Int32.toInt64 u5))), (0, .ref h)]) dX12_digest_63 rfl (by decide) rfl ?_
  refine sx_lload_n X 0 rfl dX12_digest_64 rfl ?_
  refine sx_ldc2 X qm_665 dX12_digest_65 ?_
  refine sx_lmul X dX12_digest_68 ?_
  refine sx_aload_n X 1 rfl dX12_digest_69 rfl ?_
  obtain ⟨u6, hu6, hf⟩ := ob_c hf
  refine sx_cVr X (c_X12_charge (l := l) (D := D) (T := T) (sd := sd) h h_tape h_tokens h_pot h_trial h_draft h_pot_reckoner h_pot_plan h_pot_frontSteeped h_pot_guestServed h_pot_guestStormed b_h b_h_pot hu6) (st' := [.int u6, .long (((((((((((1033 * 31) + (Int32.toInt64 u1)) * 31) + (Int32.toInt64 u2)) * 31) + (Int32.toInt64 u3)) * 31) + (Int32.toInt64 u4)) * 31) + (Int32.toInt64 u5)) * 31)]) (q0 := 0) qm_671 qm_361 qm_362 qm_13 qm_363 hd_X12_charge ⟨rfl, rfl⟩ ⟨Nat.le_of_ble_eq_true rfl, Nat.le_of_ble_eq_true rfl⟩ rfl rfl (Nat.le_of_ble_eq_true rfl) rfl rfl rfl [0, 1, 2, 3, 4] rfl rfl rfl ⟨Nat.le_of_ble_eq_true rfl, Nat.le_of_ble_eq_true rfl⟩ dX12_digest_70 rfl ?_
  refine sx_i2l X dX12_digest_73 ?_
  refine sx_ladd X dX12_digest_74 ?_
  refine sx_lstore_n X (lv' := [(1, .long ((((((((((((1033 * 31) + (Int32.toInt64 u1)) * 31) + (Int32.toInt64 u2)) * 31) + (Int32.toInt64 u3)) * 31) + (Int32.toInt64 u4)) * 31) + (Int32.toInt64 u5)) * 31) + (Int32.toInt64 u6))), (0, .ref h)]) dX12_digest_75 rfl (by decide) rfl ?_
  refine sx_lload_n X 0 rfl dX12_digest_76 rfl ?_
  refine sx_ldc2 X qm_665 dX12_digest_77 ?_
  refine sx_lmul X dX12_digest_80 ?_
  refine sx_aload_n X 1 rfl dX12_digest_81 rfl ?_
  obtain ⟨u7, hu7, hf⟩ := ob_c hf
  refine sx_cVr X (c_X12_lemons (l := l) (D := D) (T := T) (sd := sd) h h_tape h_tokens h_pot h_trial h_draft h_pot_reckoner h_pot_plan h_pot_frontSteeped h_pot_guestServed h_pot_guestStormed b_h b_h_pot hu7) (st' := [.int u7, .long (((((((((((((1033 * 31) + (Int32.toInt64 u1)) * 31) + (Int32.toInt64 u2)) * 31) + (Int32.toInt64 u3)) * 31) + (Int32.toInt64 u4)) * 31) + (Int32.toInt64 u5)) * 31) + (Int32.toInt64 u6)) * 31)]) (q0 := 0) qm_672 qm_365 qm_366 qm_13 qm_367 hd_X12_lemons ⟨rfl, rfl⟩ ⟨Nat.le_of_ble_eq_true rfl, Nat.le_of_ble_eq_true rfl⟩ rfl rfl (Nat.le_of_ble_eq_true rfl) rfl rfl rfl [0, 1, 2, 3, 4] rfl rfl rfl ⟨Nat.le_of_ble_eq_true rfl, Nat.le_of_ble_eq_true rfl⟩ dX12_digest_82 rfl ?_
  refine sx_i2l X dX12_digest_85 ?_
  refine sx_ladd X dX12_digest_86 ?_
  refine sx_lstore_n X (lv' := [(1, .long ((((((((((((((1033 * 31) + (Int32.toInt64 u1)) * 31) + (Int32.toInt64 u2)) * 31) + (Int32.toInt64 u3)) * 31) + (Int32.toInt64 u4)) * 31) + (Int32.toInt64 u5)) * 31) + (Int32.toInt64 u6)) * 31) + (Int32.toInt64 u7))), (0, .ref h)]) dX12_digest_87 rfl (by decide) rfl ?_
  refine sx_lload_n X 0 rfl dX12_digest_88 rfl ?_
  refine sx_ldc2 X qm_665 dX12_digest_89 ?_
  refine sx_lmul X dX12_digest_92 ?_
  refine sx_aload_n X 1 rfl dX12_digest_93 rfl ?_
  obtain ⟨u8, hu8, hf⟩ := ob_c hf
  refine sx_cVr X (c_X12_saucers (l := l) (D := D) (T := T) (sd := sd) h h_tape h_tokens h_pot h_trial h_draft h_pot_reckoner h_pot_plan h_pot_frontSteeped h_pot_guestServed h_pot_guestStormed b_h b_h_pot hu8) (st' := [.int u8, .long (((((((((((((((1033 * 31) + (Int32.toInt64 u1)) * 31) + (Int32.toInt64 u2)) * 31) + (Int32.toInt64 u3)) * 31) + (Int32.toInt64 u4)) * 31) + (Int32.toInt64 u5)) * 31) + (Int32.toInt64 u6)) * 31) + (Int32.toInt64 u7)) * 31)]) (q0 := 0) qm_673 qm_369 qm_370 qm_13 qm_371 hd_X12_saucers ⟨rfl, rfl⟩ ⟨Nat.le_of_ble_eq_true rfl, Nat.le_of_ble_eq_true rfl⟩ rfl rfl (Nat.le_of_ble_eq_true rfl) rfl rfl rfl [0, 1, 2, 3, 4] rfl rfl rfl ⟨Nat.le_of_ble_eq_true rfl, Nat.le_of_ble_eq_true rfl⟩ dX12_digest_94 rfl ?_
  refine sx_i2l X dX12_digest_97 ?_
  refine sx_ladd X dX12_digest_98 ?_
  refine sx_lstore_n X (lv' := [(1, .long ((((((((((((((((1033 * 31) + (Int32.toInt64 u1)) * 31) + (Int32.toInt64 u2)) * 31) + (Int32.toInt64 u3)) * 31) + (Int32.toInt64 u4)) * 31) + (Int32.toInt64 u5)) * 31) + (Int32.toInt64 u6)) * 31) + (Int32.toInt64 u7)) * 31) + (Int32.toInt64 u8))), (0, .ref h)]) dX12_digest_99 rfl (by decide) rfl ?_
  refine sx_lload_n X 0 rfl dX12_digest_100 rfl ?_
  refine sx_ldc2 X qm_665 dX12_digest_101 ?_
  refine sx_lmul X dX12_digest_104 ?_
  refine sx_aload_n X 1 rfl dX12_digest_105 rfl ?_
  obtain ⟨u9, hu9, hf⟩ := ob_c hf
  refine sx_cVr X (c_X12_coins (l := l) (D := D) (T := T) (sd := sd) h h_tape h_tokens h_pot h_trial h_draft h_pot_reckoner h_pot_plan h_pot_frontSteeped h_pot_guestServed h_pot_guestStormed b_h b_h_pot hu9) (st' := [.int u9, .long (((((((((((((((((1033 * 31) + (Int32.toInt64 u1)) * 31) + (Int32.toInt64 u2)) * 31) + (Int32.toInt64 u3)) * 31) + (Int32.toInt64 u4)) * 31) + (Int32.toInt64 u5)) * 31) + (Int32.toInt64 u6)) * 31) + (Int32.toInt64 u7)) * 31) + (Int32.toInt64 u8)) * 31)]) (q0 := 0) qm_674 qm_373 qm_374 qm_13 qm_375 hd_X12_coins ⟨rfl, rfl⟩ ⟨Nat.le_of_ble_eq_true rfl, Nat.le_of_ble_eq_true rfl⟩ rfl rfl (Nat.le_of_ble_eq_true rfl) rfl rfl rfl [0, 1, 2, 3, 4] rfl rfl rfl ⟨Nat.le_of_ble_eq_true rfl, Nat.le_of_ble_eq_true rfl⟩ dX12_digest_106 rfl ?_
  refine sx_i2l X dX12_digest_109 ?_
  refine sx_ladd X dX12_digest_110 ?_
  refine sx_lstore_n X (lv' := [(1, .long ((((((((((((((((((1033 * 31) + (Int32.toInt64 u1)) * 31) + (Int32.toInt64 u2)) * 31) + (Int32.toInt64 u3)) * 31) + (Int32.toInt64 u4)) * 31) + (Int32.toInt64 u5)) * 31) + (Int32.toInt64 u6)) * 31) + (Int32.toInt64 u7)) * 31) + (Int32.toInt64 u8)) * 31) + (Int32.toInt64 u9))), (0, .ref h)]) dX12_digest_111 rfl (by decide) rfl ?_
  refine sx_lload_n X 0 rfl dX12_digest_112 rfl ?_
  refine sx_ldc2 X qm_665 dX12_digest_113 ?_
  refine sx_lmul X dX12_digest_116 ?_
  refine sx_aload_n X 1 rfl dX12_digest_117 rfl ?_
  obtain ⟨u10, hu10, hf⟩ := ob_c hf
  refine sx_cVr X (c_X12_storms (l := l) (D := D) (T := T) (sd := sd) h h_tape h_tokens h_pot h_trial h_draft h_pot_reckoner h_pot_plan h_pot_frontSteeped h_pot_guestServed h_pot_guestStormed b_h b_h_pot hu10) (st' := [.int u10, .long (((((((((((((((((((1033 * 31) + (Int32.toInt64 u1)) * 31) + (Int32.toInt64 u2)) * 31) + (Int32.toInt64 u3)) * 31) + (Int32.toInt64 u4)) * 31) + (Int32.toInt64 u5)) * 31) + (Int32.toInt64 u6)) * 31) + (Int32.toInt64 u7)) * 31) + (Int32.toInt64 u8)) * 31) + (Int32.toInt64 u9)) * 31)]) (q0 := 0) qm_675 qm_377 qm_378 qm_13 qm_379 hd_X12_storms ⟨rfl, rfl⟩ ⟨Nat.le_of_ble_eq_true rfl, Nat.le_of_ble_eq_true rfl⟩ rfl rfl (Nat.le_of_ble_eq_true rfl) rfl rfl rfl [0, 1, 2, 3, 4] rfl rfl rfl ⟨Nat.le_of_ble_eq_true rfl, Nat.le_of_ble_eq_true rfl⟩ dX12_digest_118 rfl ?_
  refine sx_i2l X dX12_digest_121 ?_
  refine sx_ladd X dX12_digest_122 ?_
  refine sx_lstore_n X (lv' := [(1, .long ((((((((((((((((((((1033 * 31) + (Int32.toInt64 u1)) * 31) + (Int32.toInt64 u2)) * 31) + (Int32.toInt64 u3)) * 31) + (Int32.toInt64 u4)) * 31) + (Int32.toInt64 u5)) * 31) + (Int32.toInt64 u6)) * 31) + (Int32.toInt64 u7)) * 31) + (Int32.toInt64 u8)) * 31) + (Int32.toInt64 u9)) * 31) + (Int32.toInt64 u10))), (0, .ref h)]) dX12_digest_123 rfl (by decide) rfl ?_
  refine sx_lload_n X 0 rfl dX12_digest_124 rfl ?_
  refine sx_ldc2 X qm_665 dX12_digest_125 ?_
  refine sx_lmul X dX12_digest_128 ?_
  refine sx_aload_n X 1 rfl dX12_digest_129 rfl ?_
  obtain ⟨u11, hu11, hf⟩ := ob_c hf
  refine sx_cVr X (c_X12_seatedGuests (l := l) (D := D) (T := T) (sd := sd) h h_tape h_tokens h_pot h_trial h_draft h_pot_reckoner h_pot_plan h_pot_frontSteeped h_pot_guestServed h_pot_guestStormed h_pot_plan_fronts h_pot_plan_guests h_pot_plan_orders h_pot_plan_guests_names h_pot_plan_guests_from h_pot_plan_guests_weakest h_pot_plan_guests_strongest h_pot_plan_guests_nerve n b_h b_h_pot b_h_pot_plan_guests hu11) (st' := [.int u11, .long (((((((((((((((((((((1033 * 31) + (Int32.toInt64 u1)) * 31) + (Int32.toInt64 u2)) * 31) + (Int32.toInt64 u3)) * 31) + (Int32.toInt64 u4)) * 31) + (Int32.toInt64 u5)) * 31) + (Int32.toInt64 u6)) * 31) + (Int32.toInt64 u7)) * 31) + (Int32.toInt64 u8)) * 31) + (Int32.toInt64 u9)) * 31) + (Int32.toInt64 u10)) * 31)]) (q0 := 0) qm_676 qm_381 qm_382 qm_13 qm_383 hd_X12_seatedGuests ⟨rfl, rfl⟩ ⟨Nat.le_of_ble_eq_true rfl, Nat.le_of_ble_eq_true rfl⟩ rfl rfl (Nat.le_of_ble_eq_true rfl) rfl rfl rfl [0, 1, 2, 3, 4, 5, 12, 13, 14, 15, 16, 17] rfl rfl rfl ⟨Nat.le_of_ble_eq_true rfl, Nat.le_of_ble_eq_true rfl⟩ dX12_digest_130 rfl ?_
  refine sx_i2l X dX12_digest_133 ?_
  refine sx_ladd X dX12_digest_134 ?_
  refine sx_lstore_n X (lv' := [(1, .long ((((((((((((((((((((((1033 * 31) + (Int32.toInt64 u1)) * 31) + (Int32.toInt64 u2)) * 31) + (Int32.toInt64 u3)) * 31) + (Int32.toInt64 u4)) * 31) + (Int32.toInt64 u5)) * 31) + (Int32.toInt64 u6)) * 31) + (Int32.toInt64 u7)) * 31) + (Int32.toInt64 u8)) * 31) + (Int32.toInt64 u9)) * 31) + (Int32.toInt64 u10)) * 31) + (Int32.toInt64 u11))), (0, .ref h)]) dX12_digest_135 rfl (by decide) rfl ?_
  refine sx_lload_n X 0 rfl dX12_digest_136 rfl ?_
  refine sx_ldc2 X qm_665 dX12_digest_137 ?_
  refine sx_lmul X dX12_digest_140 ?_
  refine sx_aload_n X 1 rfl dX12_digest_141 rfl ?_
  obtain ⟨u12, hu12, hf⟩ := ob_c hf
  refine sx_cVr X (c_X12_served (l := l) (D := D) (T := T) (sd := sd) h h_tape h_tokens h_pot h_trial h_draft h_pot_reckoner h_pot_plan h_pot_frontSteeped h_pot_guestServed h_pot_guestStormed h_pot_plan_fronts h_pot_plan_guests h_pot_plan_orders h_pot_plan_guests_names h_pot_plan_guests_from h_pot_plan_guests_weakest h_pot_plan_guests_strongest h_pot_plan_guests_nerve n b_h b_h_pot b_h_pot_plan_guests hu12) (st' := [.int u12, .long (((((((((((((((((((((((1033 * 31) + (Int32.toInt64 u1)) * 31) + (Int32.toInt64 u2)) * 31) + (Int32.toInt64 u3)) * 31) + (Int32.toInt64 u4)) * 31) + (Int32.toInt64 u5)) * 31) + (Int32.toInt64 u6)) * 31) + (Int32.toInt64 u7)) * 31) + (Int32.toInt64 u8)) * 31) + (Int32.toInt64 u9)) * 31) + (Int32.toInt64 u10)) * 31) + (Int32.toInt64 u11)) * 31)]) (q0 := 0) qm_677 qm_396 qm_397 qm_13 qm_398 hd_X12_served ⟨rfl, rfl⟩ ⟨Nat.le_of_ble_eq_true rfl, Nat.le_of_ble_eq_true rfl⟩ rfl rfl (Nat.le_of_ble_eq_true rfl) rfl rfl rfl [0, 1, 2, 3, 4, 5, 12, 13, 14, 15, 16, 17] rfl rfl rfl ⟨Nat.le_of_ble_eq_true rfl, Nat.le_of_ble_eq_true rfl⟩ dX12_digest_142 rfl ?_
  refine sx_i2l X dX12_digest_145 ?_
  refine sx_ladd X dX12_digest_146 ?_
  refine sx_lstore_n X (lv' := [(1, .long ((((((((((((((((((((((((1033 * 31) + (Int32.toInt64 u1)) * 31) + (Int32.toInt64 u2)) * 31) + (Int32.toInt64 u3)) * 31) + (Int32.toInt64 u4)) * 31) + (Int32.toInt64 u5)) * 31) + (Int32.toInt64 u6)) * 31) + (Int32.toInt64 u7)) * 31) + (Int32.toInt64 u8)) * 31) + (Int32.toInt64 u9)) * 31) + (Int32.toInt64 u10)) * 31) + (Int32.toInt64 u11)) * 31) + (Int32.toInt64 u12))), (0, .ref h)]) dX12_digest_147 rfl (by decide) rfl ?_
  refine sx_lload_n X 0 rfl dX12_digest_148 rfl ?_
  refine sx_ldc2 X qm_665 dX12_digest_149 ?_
  refine sx_lmul X dX12_digest_152 ?_
  refine sx_aload_n X 1 rfl dX12_digest_153 rfl ?_
  obtain ⟨u13, hu13, hf⟩ := ob_c hf
  refine sx_cVr X (c_X12_stormed (l := l) (D := D) (T := T) (sd := sd) h h_tape h_tokens h_pot h_trial h_draft h_pot_reckoner h_pot_plan h_pot_frontSteeped h_pot_guestServed h_pot_guestStormed h_pot_plan_fronts h_pot_plan_guests h_pot_plan_orders h_pot_plan_guests_names h_pot_plan_guests_from h_pot_plan_guests_weakest h_pot_plan_guests_strongest h_pot_plan_guests_nerve n b_h b_h_pot b_h_pot_plan_guests hu13) (st' := [.int u13, .long (((((((((((((((((((((((((1033 * 31) + (Int32.toInt64 u1)) * 31) + (Int32.toInt64 u2)) * 31) + (Int32.toInt64 u3)) * 31) + (Int32.toInt64 u4)) * 31) + (Int32.toInt64 u5)) * 31) + (Int32.toInt64 u6)) * 31) + (Int32.toInt64 u7)) * 31) + (Int32.toInt64 u8)) * 31) + (Int32.toInt64 u9)) * 31) + (Int32.toInt64 u10)) * 31) + (Int32.toInt64 u11)) * 31) + (Int32.toInt64 u12)) * 31)]) (q0 := 0) qm_678 qm_403 qm_404 qm_13 qm_405 hd_X12_stormed ⟨rfl, rfl⟩ ⟨Nat.le_of_ble_eq_true rfl, Nat.le_of_ble_eq_true rfl⟩ rfl rfl (Nat.le_of_ble_eq_true rfl) rfl rfl rfl [0, 1, 2, 3, 4, 5, 12, 13, 14, 15, 16, 17] rfl rfl rfl ⟨Nat.le_of_ble_eq_true rfl, Nat.le_of_ble_eq_true rfl⟩ dX12_digest_154 rfl ?_
  refine sx_i2l X dX12_digest_157 ?_
  refine sx_ladd X dX12_digest_158 ?_
  refine sx_lstore_n X (lv' := [(1, .long ((((((((((((((((((((((((((1033 * 31) + (Int32.toInt64 u1)) * 31) + (Int32.toInt64 u2)) * 31) + (Int32.toInt64 u3)) * 31) + (Int32.toInt64 u4)) * 31) + (Int32.toInt64 u5)) * 31) + (Int32.toInt64 u6)) * 31) + (Int32.toInt64 u7)) * 31) + (Int32.toInt64 u8)) * 31) + (Int32.toInt64 u9)) * 31) + (Int32.toInt64 u10)) * 31) + (Int32.toInt64 u11)) * 31) + (Int32.toInt64 u12)) * 31) + (Int32.toInt64 u13))), (0, .ref h)]) dX12_digest_159 rfl (by decide) rfl ?_
  refine sx_lload_n X 0 rfl dX12_digest_160 rfl ?_
  refine sx_ldc2 X qm_665 dX12_digest_161 ?_
  refine sx_lmul X dX12_digest_164 ?_
  refine sx_aload_n X 1 rfl dX12_digest_165 rfl ?_
  obtain ⟨u14, hu14, hf⟩ := ob_c hf
  refine sx_cVr X (c_X12_bestToSteep (l := l) (D := D) (T := T) (sd := sd) h h_tape h_tokens h_pot h_trial h_draft h_pot_reckoner h_pot_plan h_pot_frontSteeped h_pot_guestServed h_pot_guestStormed h_pot_plan_fronts h_pot_plan_guests h_pot_plan_orders h_pot_plan_fronts_names h_pot_plan_fronts_warm h_pot_plan_fronts_force h_pot_plan_fronts_from h_pot_plan_fronts_hours h_pot_plan_guests_names h_pot_plan_guests_from h_pot_plan_guests_weakest h_pot_plan_guests_strongest h_pot_plan_guests_nerve n b_h b_h_pot b_h_pot_plan_fronts b_h_pot_plan_guests hu14) (st' := [.int u14, .long (((((((((((((((((((((((((((1033 * 31) + (Int32.toInt64 u1)) * 31) + (Int32.toInt64 u2)) * 31) + (Int32.toInt64 u3)) * 31) + (Int32.toInt64 u4)) * 31) + (Int32.toInt64 u5)) * 31) + (Int32.toInt64 u6)) * 31) + (Int32.toInt64 u7)) * 31) + (Int32.toInt64 u8)) * 31) + (Int32.toInt64 u9)) * 31) + (Int32.toInt64 u10)) * 31) + (Int32.toInt64 u11)) * 31) + (Int32.toInt64 u12)) * 31) + (Int32.toInt64 u13)) * 31)]) (q0 := 0) qm_679 qm_653 qm_654 qm_13 qm_655 hd_X12_bestToSteep ⟨rfl, rfl⟩ ⟨Nat.le_of_ble_eq_true rfl, Nat.le_of_ble_eq_true rfl⟩ rfl rfl (Nat.le_of_ble_eq_true rfl) rfl rfl rfl [0, 1, 2, 3, 4, 5, 6, 7, 8, 9, 10, 11, 12, 13, 14, 15, 16, 17] rfl rfl rfl ⟨Nat.le_of_ble_eq_true rfl, Nat.le_of_ble_eq_true rfl⟩ dX12_digest_166 rfl ?_
  refine sx_i2l X dX12_digest_169 ?_
  refine sx_ladd X dX12_digest_170 ?_
  refine sx_lstore_n X (lv' := [(1, .long ((((((((((((((((((((((((((((1033 * 31) + (Int32.toInt64 u1)) * 31) + (Int32.toInt64 u2)) * 31) + (Int32.toInt64 u3)) * 31) + (Int32.toInt64 u4)) * 31) + (Int32.toInt64 u5)) * 31) + (Int32.toInt64 u6)) * 31) + (Int32.toInt64 u7)) * 31) + (Int32.toInt64 u8)) * 31) + (Int32.toInt64 u9)) * 31) + (Int32.toInt64 u10)) * 31) + (Int32.toInt64 u11)) * 31) + (Int32.toInt64 u12)) * 31) + (Int32.toInt64 u13)) * 31) + (Int32.toInt64 u14))), (0, .ref h)]) dX12_digest_171 rfl (by decide) rfl ?_
  refine sx_iconst X (v := 0) dX12_digest_172 rfl ?_
  refine sx_istore_n X (lv' := [(3, .int 0), (1, .long ((((((((((((((((((((((((((((1033 * 31) + (Int32.toInt64 u1)) * 31) + (Int32.toInt64 u2)) * 31) + (Int32.toInt64 u3)) * 31) + (Int32.toInt64 u4)) * 31) + (Int32.toInt64 u5)) * 31) + (Int32.toInt64 u6)) * 31) + (Int32.toInt64 u7)) * 31) + (Int32.toInt64 u8)) * 31) + (Int32.toInt64 u9)) * 31) + (Int32.toInt64 u10)) * 31) + (Int32.toInt64 u11)) * 31) + (Int32.toInt64 u12)) * 31) + (Int32.toInt64 u13)) * 31) + (Int32.toInt64 u14))), (0, .ref h)]) dX12_digest_173 rfl (by decide) rfl ?_
  refine sx_lsub [2, 1, 0] rfl ?_
  exact L174 n ((((((((((((((((((((((((((((1033 * 31) + (Int32.toInt64 u1)) * 31) + (Int32.toInt64 u2)) * 31) + (Int32.toInt64 u3)) * 31) + (Int32.toInt64 u4)) * 31) + (Int32.toInt64 u5)) * 31) + (Int32.toInt64 u6)) * 31) + (Int32.toInt64 u7)) * 31) + (Int32.toInt64 u8)) * 31) + (Int32.toInt64 u9)) * 31) + (Int32.toInt64 u10)) * 31) + (Int32.toInt64 u11)) * 31) + (Int32.toInt64 u12)) * 31) + (Int32.toInt64 u13)) * 31) + (Int32.toInt64 u14)) 0 hf
