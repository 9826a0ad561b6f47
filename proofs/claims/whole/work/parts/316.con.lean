/-! contracts, part 16 -/
abbrev vf_X12_errorAt (sd : SdT) (r : Int32) : Option Value := some (.int r)
abbrev wc_X12_errorAt (T : Nat → ClassId) (sd : SdT) (h : Nat) (h_tape : Nat) (h_tokens : Nat) (h_pot : Nat) (h_trial : Nat) (h_draft : Nat) (b_h : bX12) : va_W := [zO h 8 [.ref h_tape, .ref h_tokens, .ref h_pot, .ref h_trial, .ref h_draft, .int (X12_errorPosition b_h)]]
abbrev wf_X12_errorAt (T : Nat → ClassId) (sd : SdT) (h : Nat) (h_tape : Nat) (h_tokens : Nat) (h_pot : Nat) (h_trial : Nat) (h_draft : Nat) (b_h : bX12) (r : Int32) : va_W := [zO h 8 [.ref h_tape, .ref h_tokens, .ref h_pot, .ref h_trial, .ref h_draft, .int (X12_errorPosition b_h)]]
abbrev rm_X12_errorAt : Room := { frames := 0, cells := 0, slots := 0, locals := 0 }
theorem hd_X12_errorAt : yX12_errorAt.cls ≠ "java/lang/invoke/MethodHandle" ∧ yX12_errorAt.cls ≠ "java/lang/invoke/VarHandle" ∧ (parseMethodDescriptor yX12_errorAt.desc).map (fun d => d.parameters.length) = some 0 := ⟨by decide, by decide, by decide +kernel⟩
set_option maxHeartbeats 4000000 in
set_option maxRecDepth 100000 in
theorem c_X12_errorAt {l : Launch} {D : va_G} {T : Nat → ClassId} {sd : SdT} (h : Nat) (h_tape : Nat) (h_tokens : Nat) (h_pot : Nat) (h_trial : Nat) (h_draft : Nat) (b_h : bX12) {res : Int32} (hf : f_X12_errorAt b_h = some res) : SxK (SFx sd) l D T yX12_errorAt cX12_errorAt 1 (some .int) rm_X12_errorAt [.ref h] (wc_X12_errorAt T sd h h_tape h_tokens h_pot h_trial h_draft b_h) (vf_X12_errorAt sd) (wf_X12_errorAt T sd h h_tape h_tokens h_pot h_trial h_draft b_h) res 0 0 := by
  refine sx_start (SFx_ok sd) (by decide +kernel) (Nat.le_of_ble_eq_true rfl) (fun p e s m args below meth c A X hnm => ?_)
  have hf := ob_1 hf
  refine sx_aload_n X 0 rfl dX12_errorAt_0 rfl ?_
  refine sx_get X kX12 0 rfl 5 (Nat.le_of_ble_eq_true rfl) qm_373 rfl dX12_errorAt_1 ?_
  exact sx_iret X rfl dX12_errorAt_4 (ob_e hf) rfl rfl

abbrev vf_X8_copyFrom (sd : SdT) (_r : Int32 × Int32 × Int32 × Int32 × Int32 × Int32 × Int32 × Int32 × (Nat → Int32) × (Nat → Int32) × (Nat → Int32)) : Option Value := none
abbrev wc_X8_copyFrom (T : Nat → ClassId) (sd : SdT) (h : Nat) (h_reckoner : Nat) (h_plan : Nat) (h_frontSteeped : Nat) (h_guestServed : Nat) (h_guestStormed : Nat) (a0 : Nat) (a0_reckoner : Nat) (a0_plan : Nat) (a0_frontSteeped : Nat) (a0_guestServed : Nat) (a0_guestStormed : Nat) (b_h : bX8) (b_a0 : bX8) : va_W := [zO h 4 [.ref h_reckoner, .ref h_plan, .int (X8_hour b_h), .int (X8_warmth b_h), .int (X8_strength b_h), .int (X8_charge b_h), .int (X8_lemons b_h), .int (X8_saucers b_h), .int (X8_coins b_h), .int (X8_storms b_h), .ref h_frontSteeped, .ref h_guestServed, .ref h_guestStormed], zZ T h_frontSteeped 10 (X8_frontSteeped b_h), zZ T h_guestServed 10 (X8_guestServed b_h), zZ T h_guestStormed 10 (X8_guestStormed b_h), zO a0 4 [.ref a0_reckoner, .ref a0_plan, .int (X8_hour b_a0), .int (X8_warmth b_a0), .int (X8_strength b_a0), .int (X8_charge b_a0), .int (X8_lemons b_a0), .int (X8_saucers b_a0), .int (X8_coins b_a0), .int (X8_storms b_a0), .ref a0_frontSteeped, .ref a0_guestServed, .ref a0_guestStormed], zZ T a0_frontSteeped 10 (X8_frontSteeped b_a0), zZ T a0_guestServed 10 (X8_guestServed b_a0), zZ T a0_guestStormed 10 (X8_guestStormed b_a0)]
abbrev wf_X8_copyFrom (T : Nat → ClassId) (sd : SdT) (h : Nat) (h_reckoner : Nat) (h_plan : Nat) (h_frontSteeped : Nat) (h_guestServed : Nat) (h_guestStormed : Nat) (a0 : Nat) (a0_reckoner : Nat) (a0_plan : Nat) (a0_frontSteeped : Nat) (a0_guestServed : Nat) (a0_guestStormed : Nat) (b_h : bX8) (b_a0 : bX8) (r : Int32 × Int32 × Int32 × Int32 × Int32 × Int32 × Int32 × Int32 × (Nat → Int32) × (Nat → Int32) × (Nat → Int32)) : va_W := [zO h 4 [.ref h_reckoner, .ref a0_plan, .int r.1, .int r.2.1, .int r.2.2.1, .int r.2.2.2.1, .int r.2.2.2.2.1, .int r.2.2.2.2.2.1, .int r.2.2.2.2.2.2.1, .int r.2.2.2.2.2.2.2.1, .ref h_frontSteeped, .ref h_guestServed, .ref h_guestStormed], zZ T h_frontSteeped 10 r.2.2.2.2.2.2.2.2.1, zZ T h_guestServed 10 r.2.2.2.2.2.2.2.2.2.1, zZ T h_guestStormed 10 r.2.2.2.2.2.2.2.2.2.2, zO a0 4 [.ref a0_reckoner, .ref a0_plan, .int (X8_hour b_a0), .int (X8_warmth b_a0), .int (X8_strength b_a0), .int (X8_charge b_a0), .int (X8_lemons b_a0), .int (X8_saucers b_a0), .int (X8_coins b_a0), .int (X8_storms b_a0), .ref a0_frontSteeped, .ref a0_guestServed, .ref a0_guestStormed], zZ T a0_frontSteeped 10 (X8_frontSteeped b_a0), zZ T a0_guestServed 10 (X8_guestServed b_a0), zZ T a0_guestStormed 10 (X8_guestStormed b_a0)]
abbrev rm_X8_copyFrom : Room := { frames := 0, cells := 0, slots := 0, locals := 0 }
theorem hd_X8_copyFrom : yX8_copyFrom.cls ≠ "java/lang/invoke/MethodHandle" ∧ yX8_copyFrom.cls ≠ "java/lang/invoke/VarHandle" ∧ (parseMethodDescriptor yX8_copyFrom.desc).map (fun d => d.parameters.length) = some 1 := ⟨by decide, by decide, by decide +kernel⟩
set_option maxHeartbeats 4000000 in
set_option maxRecDepth 100000 in
theorem c_X8_copyFrom {l : Launch} {D : va_G} {T : Nat → ClassId} {sd : SdT} (h : Nat) (h_reckoner : Nat) (h_plan : Nat) (h_frontSteeped : Nat) (h_guestServed : Nat) (h_guestStormed : Nat) (a0 : Nat) (a0_reckoner : Nat) (a0_plan : Nat) (a0_frontSteeped : Nat) (a0_guestServed : Nat) (a0_guestStormed : Nat) (n : Nat) (b_h : bX8) (b_a0 : bX8) {res : Int32 × Int32 × Int32 × Int32 × Int32 × Int32 × Int32 × Int32 × (Nat → Int32) × (Nat → Int32) × (Nat → Int32)} (hf : f_X8_copyFrom n b_h b_a0 = some res) : SxK (SFx sd) l D T yX8_copyFrom cX8_copyFrom 3 none rm_X8_copyFrom [.ref h, .ref a0] (wc_X8_copyFrom T sd h h_reckoner h_plan h_frontSteeped h_guestServed h_guestStormed a0 a0_reckoner a0_plan a0_frontSteeped a0_guestServed a0_guestStormed b_h b_a0) (vf_X8_copyFrom sd) (wf_X8_copyFrom T sd h h_reckoner h_plan h_frontSteeped h_guestServed h_guestStormed a0 a0_reckoner a0_plan a0_frontSteeped a0_guestServed a0_guestStormed b_h b_a0) res 0 0 := by
  refine sx_start (SFx_ok sd) (by decide +kernel) (Nat.le_of_ble_eq_true rfl) (fun p e s m args below meth c A X hnm => ?_)
  have hf := ob_1 hf
  have L100 : ∀ (w_h_hour : Int32) (w_h_warmth : Int32) (w_h_strength : Int32) (w_h_charge : Int32) (w_h_lemons : Int32) (w_h_saucers : Int32) (w_h_coins : Int32) (w_h_storms : Int32) (w_h_frontSteeped : Nat → Int32) (n0 : Nat) (v2 : Int32) (w_h_guestServed : Nat → Int32) (w_h_guestStormed : Nat → Int32), (iter (fun s : Int32 × (Nat → Int32) × (Nat → Int32) => f_X8_copyFrom_L100 n b_h b_a0 s.1 w_h_hour w_h_warmth w_h_strength w_h_charge w_h_lemons w_h_saucers w_h_coins w_h_storms w_h_frontSteeped s.2.1 s.2.2) n0 (v2, w_h_guestServed, w_h_guestStormed)).bind some = some res → SxG p l e rm_X8_copyFrom s m args below meth c D A 3 0 0 (SxE below args s D A (vf_X8_copyFrom sd) (wf_X8_copyFrom T sd h h_reckoner h_plan h_frontSteeped h_guestServed h_guestStormed a0 a0_reckoner a0_plan a0_frontSteeped a0_guestServed a0_guestStormed b_h b_a0) res 0 0) [zO h 4 [.ref h_reckoner, .ref a0_plan, .int w_h_hour, .int w_h_warmth, .int w_h_strength, .int w_h_charge, .int w_h_lemons, .int w_h_saucers, .int w_h_coins, .int w_h_storms, .ref h_frontSteeped, .ref h_guestServed, .ref h_guestStormed], zZ T h_frontSteeped 10 w_h_frontSteeped, zZ T h_guestServed 10 w_h_guestServed, zZ T h_guestStormed 10 w_h_guestStormed, zO a0 4 [.ref a0_reckoner, .ref a0_plan, .int (X8_hour b_a0), .int (X8_warmth b_a0), .int (X8_strength b_a0), .int (X8_charge b_a0), .int (X8_lemons b_a0), .int (X8_saucers b_a0), .int (X8_coins b_a0), .int (X8_storms b_a0), .ref a0_frontSteeped, .ref a0_guestServed, .ref a0_guestStormed], zZ T a0_frontSteeped 10 (X8_frontSteeped b_a0), zZ T a0_guestServed 10 (X8_guestServed b_a0), zZ T a0_guestStormed 10 (X8_guestStormed b_a0)] [(0, .ref h), (1, .ref a0), (2, .int v2)] 100 [] := by
    intro w_h_hour w_h_warmth w_h_strength w_h_charge w_h_lemons w_h_saucers w_h_coins w_h_storms w_h_frontSteeped n0
    induction n0 with
    | zero =>
      intro v2 w_h_guestServed w_h_guestStormed hf
      exact (iter_z hf).elim
    | succ n0 ih100 =>
      intro v2 w_h_guestServed w_h_guestStormed hf
      obtain ⟨κ100, hκ100, hf⟩ := iter_k hf
      have hf : (f_X8_copyFrom_L100 n b_h b_a0 v2 w_h_hour w_h_warmth w_h_strength w_h_charge w_h_lemons w_h_saucers w_h_coins w_h_storms w_h_frontSteeped w_h_guestServed w_h_guestStormed).bind κ100 = some res := hf
      refine sx_iload_n X 2 rfl dX8_copyFrom_100 rfl ?_
      refine sx_bipush X (v := 10) dX8_copyFrom_101 rfl ?_
      refine sx_icmp_ge X 136 dX8_copyFrom_103 rfl (fun c2 => ?_) (fun c2 => ?_)
      · have hf := ob_t hf c2
        have hf := ob_kr hκ100 hf
        exact sx_vret X dX8_copyFrom_136 (ob_e hf) rfl rfl
      · have hf := ob_f hf c2
        refine sx_aload_n X 0 rfl dX8_copyFrom_106 rfl ?_
        refine sx_get X kX8 0 rfl 11 (Nat.le_of_ble_eq_true rfl) qm_335 rfl dX8_copyFrom_107 ?_
        refine sx_iload_n X 2 rfl dX8_copyFrom_110 rfl ?_
        refine sx_aload_n X 1 rfl dX8_copyFrom_111 rfl ?_
        refine sx_get X kX8 4 rfl 11 (Nat.le_of_ble_eq_true rfl) qm_335 rfl dX8_copyFrom_112 ?_
        refine sx_iload_n X 2 rfl dX8_copyFrom_115 rfl ?_
        obtain ⟨g3, hf⟩ := ob_g hf
        refine sx_zald X 6 rfl g3 dX8_copyFrom_116 ?_
        obtain ⟨g4, hf⟩ := ob_g hf
        refine sx_zast X (ws' := [zO h 4 [.ref h_reckoner, .ref a0_plan, .int w_h_hour, .int w_h_warmth, .int w_h_strength, .int w_h_charge, .int w_h_lemons, .int w_h_saucers, .int w_h_coins, .int w_h_storms, .ref h_frontSteeped, .ref h_guestServed, .ref h_guestStormed], zZ T h_frontSteeped 10 w_h_frontSteeped, zZ T h_guestServed 10 (upd w_h_guestServed v2.toNatClampNeg (vp_nar .boolean ((X8_guestServed b_a0) v2.toNatClampNeg))), zZ T h_guestStormed 10 w_h_guestStormed, zO a0 4 [.ref a0_reckoner, .ref a0_plan, .int (X8_hour b_a0), .int (X8_warmth b_a0), .int (X8_strength b_a0), .int (X8_charge b_a0), .int (X8_lemons b_a0), .int (X8_saucers b_a0), .int (X8_coins b_a0), .int (X8_storms b_a0), .ref a0_frontSteeped, .ref a0_guestServed, .ref a0_guestStormed], zZ T a0_frontSteeped 10 (X8_frontSteeped b_a0), zZ T a0_guestServed 10 (X8_guestServed b_a0), zZ T a0_guestStormed 10 (X8_guestStormed b_a0)]) 2 rfl g4 rfl dX8_copyFrom_117 ?_
        refine sx_aload_n X 0 rfl dX8_copyFrom_118 rfl ?_
        refine sx_get X kX8 0 rfl 12 (Nat.le_of_ble_eq_true rfl) qm_337 rfl dX8_copyFrom_119 ?_
        refine sx_iload_n X 2 rfl dX8_copyFrom_122 rfl ?_
        refine sx_aload_n X 1 rfl dX8_copyFrom_123 rfl ?_
        refine sx_get X kX8 4 rfl 12 (Nat.le_of_ble_eq_true rfl) qm_337 rfl dX8_copyFrom_124 ?_
        refine sx_iload_n X 2 rfl dX8_copyFrom_127 rfl ?_
        obtain ⟨g5, hf⟩ := ob_g hf
        refine sx_zald X 7 rfl g5 dX8_copyFrom_128 ?_
        obtain ⟨g6, hf⟩ := ob_g hf
        refine sx_zast X (ws' := [zO h 4 [.ref h_reckoner, .ref a0_plan, .int w_h_hour, .int w_h_warmth, .int w_h_strength, .int w_h_charge, .int w_h_lemons, .int w_h_saucers, .int w_h_coins, .int w_h_storms, .ref h_frontSteeped, .ref h_guestServed, .ref h_guestStormed], zZ T h_frontSteeped 10 w_h_frontSteeped, zZ T h_guestServed 10 (upd w_h_guestServed v2.toNatClampNeg (vp_nar .boolean ((X8_guestServed b_a0) v2.toNatClampNeg))), zZ T h_guestStormed 10 (upd w_h_guestStormed v2.toNatClampNeg (vp_nar .boolean ((X8_guestStormed b_a0) v2.toNatClampNeg))), zO a0 4 [.ref a0_reckoner, .ref a0_plan, .int (X8_hour b_a0), .int (X8_warmth b_a0), .int (X8_strength b_a0), .int (X8_charge b_a0), .int (X8_lemons b_a0), .int (X8_saucers b_a0), .int (X8_coins b_a0), .int (X8_storms b_a0), .ref a0_frontSteeped, .ref a0_guestServed, .ref a0_guestStormed], zZ T a0_frontSteeped 10 (X8_frontSteeped b_a0), zZ T a0_guestServed 10 (X8_guestServed b_a0), zZ T a0_guestStormed 10 (X8_guestStormed b_a0)]) 3 rfl g6 rfl dX8_copyFrom_129 ?_
        refine sx_iinc X (v := (v2 + 1)) (lv' := [(2, .int (v2 + 1)), (0, .ref h), (1, .ref a0)]) 2 rfl dX8_copyFrom_130 rfl (by decide) rfl ?_
        refine sx_goto X 100 dX8_copyFrom_133 rfl ?_
        have hf := ob_k hκ100 hf
        refine sx_lsub [1, 2, 0] rfl ?_
        exact ih100 (v2 + 1) (upd w_h_guestServed v2.toNatClampNeg (vp_nar .boolean ((X8_guestServed b_a0) v2.toNatClampNeg))) (upd w_h_guestStormed v2.toNatClampNeg (vp_nar .boolean ((X8_guestStormed b_a0) v2.toNatClampNeg))) hf
  have L74 : ∀ (w_h_hour : Int32) (w_h_warmth : Int32) (w_h_strength : Int32) (w_h_charge : Int32) (w_h_lemons : Int32) (w_h_saucers : Int32) (w_h_coins : Int32) (w_h_storms : Int32) (w_h_guestServed : Nat → Int32) (w_h_guestStormed : Nat → Int32) (n0 : Nat) (v2 : Int32) (w_h_frontSteeped : Nat → Int32), (iter (fun s : Int32 × (Nat → Int32) => f_X8_copyFrom_L74 n b_h b_a0 s.1 w_h_hour w_h_warmth w_h_strength w_h_charge w_h_lemons w_h_saucers w_h_coins w_h_storms s.2 w_h_guestServed w_h_guestStormed) n0 (v2, w_h_frontSteeped)).bind some = some res → SxG p l e rm_X8_copyFrom s m args below meth c D A 3 0 0 (SxE below args s D A (vf_X8_copyFrom sd) (wf_X8_copyFrom T sd h h_reckoner h_plan h_frontSteeped h_guestServed h_guestStormed a0 a0_reckoner a0_plan a0_frontSteeped a0_guestServed a0_guestStormed b_h b_a0) res 0 0) [zO h 4 [.ref h_reckoner, .ref a0_plan, .int w_h_hour, .int w_h_warmth, .int w_h_strength, .int w_h_charge, .int w_h_lemons, .int w_h_saucers, .int w_h_coins, .int w_h_storms, .ref h_frontSteeped, .ref h_guestServed, .ref h_guestStormed], zZ T h_frontSteeped 10 w_h_frontSteeped, zZ T h_guestServed 10 w_h_guestServed, zZ T h_guestStormed 10 w_h_guestStormed, zO a0 4 [.ref a0_reckoner, .ref a0_plan, .int (X8_hour b_a0), .int (X8_warmth b_a0), .int (X8_strength b_a0), .int (X8_charge b_a0), .int (X8_lemons b_a0), .int (X8_saucers b_a0), .int (X8_coins b_a0), .int (X8_storms b_a0), .ref a0_frontSteeped, .ref a0_guestServed, .ref a0_guestStormed], zZ T a0_frontSteeped 10 (X8_frontSteeped b_a0), zZ T a0_guestServed 10 (X8_guestServed b_a0), zZ T a0_guestStormed 10 (X8_guestStormed b_a0)] [(0, .ref h), (1, .ref a0), (2, .int v2)] 74 [] := by
    intro w_h_hour w_h_warmth w_h_strength w_h_charge w_h_lemons w_h_saucers w_h_coins w_h_storms w_h_guestServed w_h_guestStormed n0
    induction n0 with
    | zero =>
      intro v2 w_h_frontSteeped hf
      exact (iter_z hf).elim
    | succ n0 ih74 =>
      intro v2 w_h_frontSteeped hf
      obtain ⟨κ74, hκ74, hf⟩ := iter_k hf
      have hf : (f_X8_copyFrom_L74 n b_h b_a0 v2 w_h_hour w_h_warmth w_h_strength w_h_charge w_h_lemons w_h_saucers w_h_coins w_h_storms w_h_frontSteeped w_h_guestServed w_h_guestStormed).bind κ74 = some res := hf
      refine sx_iload_n X 2 rfl dX8_copyFrom_74 rfl ?_
      refine sx_bipush X (v := 10) dX8_copyFrom_75 rfl ?_
      refine sx_icmp_ge X 98 dX8_copyFrom_77 rfl (fun c1 => ?_) (fun c1 => ?_)
      · have hf := ob_t hf c1
        refine sx_iconst X (v := 0) dX8_copyFrom_98 rfl ?_
        refine sx_istore_n X (lv' := [(2, .int 0), (0, .ref h), (1, .ref a0)]) dX8_copyFrom_99 rfl (by decide) rfl ?_
        have hf := ob_kx hκ74 hf
        refine sx_lsub [1, 2, 0] rfl ?_
        exact L100 w_h_hour w_h_warmth w_h_strength w_h_charge w_h_lemons w_h_saucers w_h_coins w_h_storms w_h_frontSteeped n 0 w_h_guestServed w_h_guestStormed hf
      · have hf := ob_f hf c1
        refine sx_aload_n X 0 rfl dX8_copyFrom_80 rfl ?_
        refine sx_get X kX8 0 rfl 10 (Nat.le_of_ble_eq_true rfl) qm_333 rfl dX8_copyFrom_81 ?_
        refine sx_iload_n X 2 rfl dX8_copyFrom_84 rfl ?_
        refine sx_aload_n X 1 rfl dX8_copyFrom_85 rfl ?_
        refine sx_get X kX8 4 rfl 10 (Nat.le_of_ble_eq_true rfl) qm_333 rfl dX8_copyFrom_86 ?_
        refine sx_iload_n X 2 rfl dX8_copyFrom_89 rfl ?_
        obtain ⟨g7, hf⟩ := ob_g hf
        refine sx_zald X 5 rfl g7 dX8_copyFrom_90 ?_
        obtain ⟨g8, hf⟩ := ob_g hf
        refine sx_zast X (ws' := [zO h 4 [.ref h_reckoner, .ref a0_plan, .int w_h_hour, .int w_h_warmth, .int w_h_strength, .int w_h_charge, .int w_h_lemons, .int w_h_saucers, .int w_h_coins, .int w_h_storms, .ref h_frontSteeped, .ref h_guestServed, .ref h_guestStormed], zZ T h_frontSteeped 10 (upd w_h_frontSteeped v2.toNatClampNeg (vp_nar .boolean ((X8_frontSteeped b_a0) v2.toNatClampNeg))), zZ T h_guestServed 10 w_h_guestServed, zZ T h_guestStormed 10 w_h_guestStormed, zO a0 4 [.ref a0_reckoner, .ref a0_plan, .int (X8_hour b_a0), .int (X8_warmth b_a0), .int (X8_strength b_a0), .int (X8_charge b_a0), .int (X8_lemons b_a0), .int (X8_saucers b_a0), .int (X8_coins b_a0), .int (X8_storms b_a0), .ref a0_frontSteeped, .ref a0_guestServed, .ref a0_guestStormed], zZ T a0_frontSteeped 10 (X8_frontSteeped b_a0), zZ T a0_guestServed 10 (X8_guestServed b_a0), zZ T a0_guestStormed 10 (X8_guestStormed b_a0)]) 1 rfl g8 rfl dX8_copyFrom_91 ?_
        refine sx_iinc X (v := (v2 + 1)) (lv' := [(2, .int (v2 + 1)), (0, .ref h), (1, .ref a0)]) 2 rfl dX8_copyFrom_92 rfl (by decide) rfl ?_
        refine sx_goto X 74 dX8_copyFrom_95 rfl ?_
        have hf := ob_k hκ74 hf
        refine sx_lsub [1, 2, 0] rfl ?_
        exact ih74 (v2 + 1) (upd w_h_frontSteeped v2.toNatClampNeg (vp_nar .boolean ((X8_frontSteeped b_a0) v2.toNatClampNeg))) hf
  refine sx_aload_n X 0 rfl dX8_copyFrom_0 rfl ?_
  refine sx_aload_n X 1 rfl dX8_copyFrom_1 rfl ?_
  refine sx_get X kX8 4 rfl 1 (Nat.le_of_ble_eq_true rfl) qm_315 rfl dX8_copyFrom_2 ?_
  refine sx_put X (ws' := [zO h 4 [.ref h_reckoner, .ref a0_plan, .int (X8_hour b_h), .int (X8_warmth b_h), .int (X8_strength b_h), .int (X8_charge b_h), .int (X8_lemons b_h), .int (X8_saucers b_h), .int (X8_coins b_h), .int (X8_storms b_h), .ref h_frontSteeped, .ref h_guestServed, .ref h_guestStormed], zZ T h_frontSteeped 10 (X8_frontSteeped b_h), zZ T h_guestServed 10 (X8_guestServed b_h), zZ T h_guestStormed 10 (X8_guestStormed b_h), zO a0 4 [.ref a0_reckoner, .ref a0_plan, .int (X8_hour b_a0), .int (X8_warmth b_a0), .int (X8_strength b_a0), .int (X8_charge b_a0), .int (X8_lemons b_a0), .int (X8_saucers b_a0), .int (X8_coins b_a0), .int (X8_storms b_a0), .ref a0_frontSteeped, .ref a0_guestServed, .ref a0_guestStormed], zZ T a0_frontSteeped 10 (X8_frontSteeped b_a0), zZ T a0_guestServed 10 (X8_guestServed b_a0), zZ T a0_guestStormed 10 (X8_guestStormed b_a0)]) kX8 0 rfl 1 (Nat.le_of_ble_eq_true rfl) qm_315 rfl rfl rfl (Nat.le_of_ble_eq_true rfl) rfl dX8_copyFrom_5 ?_
  refine sx_aload_n X 0 rfl dX8_copyFrom_8 rfl ?_
  refine sx_aload_n X 1 rfl dX8_copyFrom_9 rfl ?_
  refine sx_get X kX8 4 rfl 2 (Nat.le_of_ble_eq_true rfl) qm_317 rfl dX8_copyFrom_10 ?_
  refine sx_put X (ws' := [zO h 4 [.ref h_reckoner, .ref a0_plan, .int (X8_hour b_a0), .int (X8_warmth b_h), .int (X8_strength b_h), .int (X8_charge b_h), .int (X8_lemons b_h), .int (X8_saucers b_h), .int (X8_coins b_h), .int (X8_storms b_h), .ref h_frontSteeped, .ref h_guestServed, .ref h_guestStormed], zZ T h_frontSteeped 10 (X8_frontSteeped b_h), zZ T h_guestServed 10 (X8_guestServed b_h), zZ T h_guestStormed 10 (X8_guestStormed b_h), zO a0 4 [.ref a0_reckoner, .ref a0_plan, .int (X8_hour b_a0), .int (X8_warmth b_a0), .int (X8_strength b_a0), .int (X8_charge b_a0), .int (X8_lemons b_a0), .int (X8_saucers b_a0), .int (X8_coins b_a0), .int (X8_storms b_a0), .ref a0_frontSteeped, .ref a0_guestServed, .ref a0_guestStormed], zZ T a0_frontSteeped 10 (X8_frontSteeped b_a0), zZ T a0_guestServed 10 (X8_guestServed b_a0), zZ T a0_guestStormed 10 (X8_guestStormed b_a0)]) kX8 0 rfl 2 (Nat.le_of_ble_eq_true rfl) qm_317 rfl rfl rfl (Nat.le_of_ble_eq_true rfl) rfl dX8_copyFrom_13 ?_
  refine sx_aload_n X 0 rfl dX8_copyFrom_16 rfl ?_
  refine sx_aload_n X 1 rfl dX8_copyFrom_17 rfl ?_
  refine sx_get X kX8 4 rfl 3 (Nat.le_of_ble_eq_true rfl) qm_319 rfl dX8_copyFrom_18 ?_
  refine sx_put X (ws' := [zO h 4 [.ref h_reckoner, .ref a0_plan, .int (X8_hour b_a0), .int (X8_warmth b_a0), .int (X8_strength b_h), .int (X8_charge b_h), .int (X8_lemons b_h), .int (X8_saucers b_h), .int (X8_coins b_h), .int (X8_storms b_h), .ref h_frontSteeped, .ref h_guestServed, .ref h_guestStormed], zZ T h_frontSteeped 10 (X8_frontSteeped b_h), zZ T h_guestServed 10 (X8_guestServed b_h), zZ T h_guestStormed 10 (X8_guestStormed b_h), zO a0 4 [.ref a0_reckoner, .ref a0_plan, .int (X8_hour b_a0), .int (X8_warmth b_a0), .int (X8_strength b_a0), .int (X8_charge b_a0), .int (X8_lemons b_a0), .int (X8_saucers b_a0), .int (X8_coins b_a0), .int (X8_storms b_a0), .ref a0_frontSteeped, .ref a0_guestServed, .ref a0_guestStormed], zZ T a0_frontSteeped 10 (X8_frontSteeped b_a0), zZ T a0_guestServed 10 (X8_guestServed b_a0), zZ T a0_guestStormed 10 (X8_guestStormed b_a0)]) kX8 0 rfl 3 (Nat.le_of_ble_eq_true rfl) qm_319 rfl rfl rfl (Nat.le_of_ble_eq_true rfl) rfl dX8_copyFrom_21 ?_
  refine sx_aload_n X 0 rfl dX8_copyFrom_24 rfl ?_
  refine sx_aload_n X 1 rfl dX8_copyFrom_25 rfl ?_
  refine sx_get X kX8 4 rfl 4 (Nat.le_of_ble_eq_true rfl) qm_321 rfl dX8_copyFrom_26 ?_
  refine sx_put X (ws' := [zO h 4 [.ref h_reckoner, .ref a0_plan, .int (X8_hour b_a0), .int (X8_warmth b_a0), .int (X8_strength b_a0), .int (X8_charge b_h), .int (X8_lemons b_h), .int (X8_saucers b_h), .int (X8_coins b_h), .int (X8_storms b_h), .ref h_frontSteeped, .ref h_guestServed, .ref h_guestStormed], zZ T h_frontSteeped 10 (X8_frontSteeped b_h), zZ T h_guestServed 10 (X8_guestServed b_h), zZ T h_guestStormed 10 (X8_guestStormed b_h), zO a0 4 [.ref a0_reckoner, .ref a0_plan, .int (X8_hour b_a0), .int (X8_warmth b_a0), .int (X8_strength b_a0), .int (X8_charge b_a0), .int (X8_lemons b_a0), .int (X8_saucers b_a0), .int (X8_coins b_a0), .int (X8_storms b_a0), .ref a0_frontSteeped, .ref a0_guestServed, .ref a0_guestStormed], zZ T a0_frontSteeped 10 (X8_frontSteeped b_a0), zZ T a0_guestServed 10 (X8_guestServed b_a0), zZ T a0_guestStormed 10 (X8_guestStormed b_a0)]) kX8 0 rfl 4 (Nat.le_of_ble_eq_true rfl) qm_321 rfl rfl rfl (Nat.le_of_ble_eq_true rfl) rfl dX8_copyFrom_29 ?_
  refine sx_aload_n X 0 rfl dX8_copyFrom_32 rfl ?_
  refine sx_aload_n X 1 rfl dX8_copyFrom_33 rfl ?_
  refine sx_get X kX8 4 rfl 5 (Nat.le_of_ble_eq_true rfl) qm_323 rfl dX8_copyFrom_34 ?_
  refine sx_put X (ws' := [zO h 4 [.ref h_reckoner, .ref a0_plan, .int (X8_hour b_a0), .int (X8_warmth b_a0), .int (X8_strength b_a0), .int (X8_charge b_a0), .int (X8_lemons b_h), .int (X8_saucers b_h), .int (X8_coins b_h), .int (X8_storms b_h), .ref h_frontSteeped, .ref h_guestServed, .ref h_guestStormed], zZ T h_frontSteeped 10 (X8_frontSteeped b_h), zZ T h_guestServed 10 (X8_guestServed b_h), zZ T h_guestStormed 10 (X8_guestStormed b_h), zO a0 4 [.ref a0_reckoner, .ref a0_plan, .int (X8_hour b_a0), .int (X8_warmth b_a0), .int (X8_strength b_a0), .int (X8_charge b_a0), .int (X8_lemons b_a0), .int (X8_saucers b_a0), .int (X8_coins b_a0), .int (X8_storms b_a0), .ref a0_frontSteeped, .ref a0_guestServed, .ref a0_guestStormed], zZ T a0_frontSteeped 10 (X8_frontSteeped b_a0), zZ T a0_guestServed 10 (X8_guestServed b_a0), zZ T a0_guestStormed 10 (X8_guestStormed b_a0)]) kX8 0 rfl 5 (Nat.le_of_ble_eq_true rfl) qm_323 rfl rfl rfl (Nat.le_of_ble_eq_true rfl) rfl dX8_copyFrom_37 ?_
  refine sx_aload_n X 0 rfl dX8_copyFrom_40 rfl ?_
  refine sx_aload_n X 1 rfl dX8_copyFrom_41 rfl ?_
  refine sx_get X kX8 4 rfl 6 (Nat.le_of_ble_eq_true rfl) qm_325 rfl dX8_copyFrom_42 ?_
  refine sx_put X (ws' := [zO h 4 [.ref h_reckoner, .ref a0_plan, .int (X8_hour b_a0), .int (X8_warmth b_a0), .int (X8_strength b_a0), .int (X8_charge b_a0), .int (X8_lemons b_a0), .int (X8_saucers b_h), .int (X8_coins b_h), .int (X8_storms b_h), .ref h_frontSteeped, .ref h_guestServed, .ref h_guestStormed], zZ T h_frontSteeped 10 (X8_frontSteeped b_h), zZ T h_guestServed 10 (X8_guestServed b_h), zZ T h_guestStormed 10 (X8_guestStormed b_h), zO a0 4 [.ref a0_reckoner, .ref a0_plan, .int (X8_hour b_a0), .int (X8_warmth b_a0), .int (X8_strength b_a0), .int (X8_charge b_a0), .int (X8_lemons b_a0), .int (X8_saucers b_a0), .int (X8_coins b_a0), .int (X8_storms b_a0), .ref a0_frontSteeped, .ref a0_guestServed, .ref a0_guestStormed], zZ T a0_frontSteeped 10 (X8_frontSteeped b_a0), zZ T a0_guestServed 10 (X8_guestServed b_a0), zZ T a0_guestStormed 10 (X8_guestStormed b_a0)]) kX8 0 rfl 6 (Nat.le_of_ble_eq_true rfl) qm_325 rfl rfl rfl (Nat.le_of_ble_eq_true rfl) rfl dX8_copyFrom_45 ?_
  refine sx_aload_n X 0 rfl dX8_copyFrom_48 rfl ?_
  refine sx_aload_n X 1 rfl dX8_copyFrom_49 rfl ?_
  refine sx_get X kX8 4 rfl 7 (Nat.le_of_ble_eq_true rfl) qm_327 rfl dX8_copyFrom_50 ?_
  refine sx_put X (ws' := [zO h 4 [.ref h_reckoner, .ref a0_plan, .int (X8_hour b_a0), .int (X8_warmth b_a0), .int (X8_strength b_a0), .int (X8_charge b_a0), .int (X8_lemons b_a0), .int (X8_saucers b_a0), .int (X8_coins b_h), .int (X8_storms b_h), .ref h_frontSteeped, .ref h_guestServed, .ref h_guestStormed], zZ T h_frontSteeped 10 (X8_frontSteeped b_h), zZ T h_guestServed 10 (X8_guestServed b_h), zZ T h_guestStormed 10 (X8_guestStormed b_h), zO a0 4 [.ref a0_reckoner, .ref a0_plan, .int (X8_hour b_a0), .int (X8_warmth b_a0), .int (X8_strength b_a0), .int (X8_charge b_a0), .int (X8_lemons b_a0), .int (X8_saucers b_a0), .int (X8_coins b_a0), .int (X8_storms b_a0), .ref a0_frontSteeped, .ref a0_guestServed, .ref a0_guestStormed], zZ T a0_frontSteeped 10 (X8_frontSteeped b_a0), zZ T a0_guestServed 10 (X8_guestServed b_a0), zZ T a0_guestStormed 10 (X8_guestStormed b_a0)]) kX8 0 rfl 7 (Nat.le_of_ble_eq_true rfl) qm_327 rfl rfl rfl (Nat.le_of_ble_eq_true rfl) rfl dX8_copyFrom_53 ?_
  refine sx_aload_n X 0 rfl dX8_copyFrom_56 rfl ?_
  refine sx_aload_n X 1 rfl dX8_copyFrom_57 rfl ?_
  refine sx_get X kX8 4 rfl 8 (Nat.le_of_ble_eq_true rfl) qm_329 rfl dX8_copyFrom_58 ?_
  refine sx_put X (ws' := [zO h 4 [.ref h_reckoner, .ref a0_plan, .int (X8_hour b_a0), .int (X8_warmth b_a0), .int (X8_strength b_a0), .int (X8_charge b_a0), .int (X8_lemons b_a0), .int (X8_saucers b_a0), .int (X8_coins b_a0), .int (X8_storms b_h), .ref h_frontSteeped, .ref h_guestServed, .ref h_guestStormed], zZ T h_frontSteeped 10 (X8_frontSteeped b_h), zZ T h_guestServed 10 (X8_guestServed b_h), zZ T h_guestStormed 10 (X8_guestStormed b_h), zO a0 4 [.ref a0_reckoner, .ref a0_plan, .int (X8_hour b_a0), .int (X8_warmth b_a0), .int (X8_strength b_a0), .int (X8_charge b_a0), .int (X8_lemons b_a0), .int (X8_saucers b_a0), .int (X8_coins b_a0), .int (X8_storms b_a0), .ref a0_frontSteeped, .ref a0_guestServed, .ref a0_guestStormed], zZ T a0_frontSteeped 10 (X8_frontSteeped b_a0), zZ T a0_guestServed 10 (X8_guestServed b_a0), zZ T a0_guestStormed 10 (X8_guestStormed b_a0)]) kX8 0 rfl 8 (Nat.le_of_ble_eq_true rfl) qm_329 rfl rfl rfl (Nat.le_of_ble_eq_true rfl) rfl dX8_copyFrom_61 ?_
  refine sx_aload_n X 0 rfl dX8_copyFrom_64 rfl ?_
  refine sx_aload_n X 1 rfl dX8_copyFrom_65 rfl ?_
  refine sx_get X kX8 4 rfl 9 (Nat.le_of_ble_eq_true rfl) qm_331 rfl dX8_copyFrom_66 ?_
  refine sx_put X (ws' := [zO h 4 [.ref h_reckoner, .ref a0_plan, .int (X8_hour b_a0), .int (X8_warmth b_a0), .int (X8_strength b_a0), .int (X8_charge b_a0), .int (X8_lemons b_a0), .int (X8_saucers b_a0), .int (X8_coins b_a0), .int (X8_storms b_a0), .ref h_frontSteeped, .ref h_guestServed, .ref h_guestStormed], zZ T h_frontSteeped 10 (X8_frontSteeped b_h), zZ T h_guestServed 10 (X8_guestServed b_h), zZ T h_guestStormed 10 (X8_guestStormed b_h), zO a0 4 [.ref a0_reckoner, .ref a0_plan, .int (X8_hour b_a0), .int (X8_warmth b_a0), .int (X8_strength b_a0), .int (X8_charge b_a0), .int (X8_lemons b_a0), .int (X8_saucers b_a0), .int (X8_coins b_a0), .int (X8_storms b_a0), .ref a0_frontSteeped, .ref a0_guestServed, .ref a0_guestStormed], zZ T a0_frontSteeped 10 (X8_frontSteeped b_a0), zZ T a0_guestServed 10 (X8_guestServed b_a0), zZ T a0_guestStormed 10 (X8_guestStormed b_a0)]) kX8 0 rfl 9 (Nat.le_of_ble_eq_true rfl) qm_331 rfl rfl rfl (Nat.le_of_ble_eq_true rfl) rfl dX8_copyFrom_69 ?_
  refine sx_iconst X (v := 0) dX8_copyFrom_72 rfl ?_
  refine sx_istore_n X (lv' := [(2, .int 0), (0, .ref h), (1, .ref a0)]) dX8_copyFrom_73 rfl (by decide) rfl ?_
  refine sx_lsub [1, 2, 0] rfl ?_
  exact L74 (X8_hour b_a0) (X8_warmth b_a0) (X8_strength b_a0) (X8_charge b_a0) (X8_lemons b_a0) (X8_saucers b_a0) (X8_coins b_a0) (X8_storms b_a0) (X8_guestServed b_h) (X8_guestStormed b_h) n 0 (X8_frontSteeped b_h) hf
