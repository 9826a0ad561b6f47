/-! contracts, part 8 -/
abbrev vf_X8_copyFrom (sd : SdT) (_r : Int32 × Int32 × Int32 × Int32 × Int32 × Int32 × Int32 × Int32 × (Nat → Int32) × (Nat → Int32) × (Nat → Int32)) : Option Value := none
abbrev wc_X8_copyFrom (T : Nat → ClassId) (sd : SdT) (h : Nat) (h_reckoner : Nat) (h_plan : Nat) (h_frontSteeped : Nat) (h_guestServed : Nat) (h_guestStormed : Nat) (a0 : Nat) (a0_reckoner : Nat) (a0_plan : Nat) (a0_frontSteeped : Nat) (a0_guestServed : Nat) (a0_guestStormed : Nat) (b_h : bX8) (b_a0 : bX8) : va_W := [zO h 6 [.ref h_reckoner, .ref h_plan, .int (X8_hour b_h), .int (X8_warmth b_h), .int (X8_strength b_h), .int (X8_charge b_h), .int (X8_lemons b_h), .int (X8_saucers b_h), .int (X8_coins b_h), .int (X8_storms b_h), .ref h_frontSteeped, .ref h_guestServed, .ref h_guestStormed], zZ T h_frontSteeped 10 (X8_frontSteeped b_h), zZ T h_guestServed 10 (X8_guestServed b_h), zZ T h_guestStormed 10 (X8_guestStormed b_h), zO a0 6 [.ref a0_reckoner, .ref a0_plan, .int (X8_hour b_a0), .int (X8_warmth b_a0), .int (X8_strength b_a0), .int (X8_charge b_a0), .int (X8_lemons b_a0), .int (X8_saucers b_a0), .int (X8_coins b_a0), .int (X8_storms b_a0), .ref a0_frontSteeped, .ref a0_guestServed, .ref a0_guestStormed], zZ T a0_frontSteeped 10 (X8_frontSteeped b_a0), zZ T a0_guestServed 10 (X8_guestServed b_a0), zZ T a0_guestStormed 10 (X8_guestStormed b_a0)]
abbrev wf_X8_copyFrom (T : Nat → ClassId) (sd : SdT) (h : Nat) (h_reckoner : Nat) (h_plan : Nat) (h_frontSteeped : Nat) (h_guestServed : Nat) (h_guestStormed : Nat) (a0 : Nat) (a0_reckoner : Nat) (a0_plan : Nat) (a0_frontSteeped : Nat) (a0_guestServed : Nat) (a0_guestStormed : Nat) (b_h : bX8) (b_a0 : bX8) (r : Int32 × Int32 × Int32 × Int32 × Int32 × Int32 × Int32 × Int32 × (Nat → Int32) × (Nat → Int32) × (Nat → Int32)) : va_W := [zO h 6 [.ref h_reckoner, .ref a0_plan, .int r.1, .int r.2.1, .int r.2.2.1, .int r.2.2.2.1, .int r.2.2.2.2.1, .int r.2.2.2.2.2.1, .int r.2.2.2.2.2.2.1, .int r.2.2.2.2.2.2.2.1, .ref h_frontSteeped, .ref h_guestServed, .ref h_guestStormed], zZ T h_frontSteeped 10 r.2.2.2.2.2.2.2.2.1, zZ T h_guestServed 10 r.2.2.2.2.2.2.2.2.2.1, zZ T h_guestStormed 10 r.2.2.2.2.2.2.2.2.2.2, zO a0 6 [.ref a0_reckoner, .ref a0_plan, .int (X8_hour b_a0), .int (X8_warmth b_a0), .int (X8_strength b_a0), .int (X8_charge b_a0), .int (X8_lemons b_a0), .int (X8_saucers b_a0), .int (X8_coins b_a0), .int (X8_storms b_a0), .ref a0_frontSteeped, .ref a0_guestServed, .ref a0_guestStormed], zZ T a0_frontSteeped 10 (X8_frontSteeped b_a0), zZ T a0_guestServed 10 (X8_guestServed b_a0), zZ T a0_guestStormed 10 (X8_guestStormed b_a0)]
abbrev rm_X8_copyFrom : Room := { frames := 0, cells := 0, slots := 0, locals := 0 }
theorem hd_X8_copyFrom : yX8_copyFrom.cls ≠ "java/lang/invoke/MethodHandle" ∧ yX8_copyFrom.cls ≠ "java/lang/invoke/VarHandle" ∧ (parseMethodDescriptor yX8_copyFrom.desc).map (fun d => d.parameters.length) = some 1 := ⟨by decide, by decide, by decide +kernel⟩
set_option maxHeartbeats 4000000 in
set_option maxRecDepth 100000 in
theorem c_X8_copyFrom {l : Launch} {D : va_G} {T : Nat → ClassId} {sd : SdT} (h : Nat) (h_reckoner : Nat) (h_plan : Nat) (h_frontSteeped : Nat) (h_guestServed : Nat) (h_guestStormed : Nat) (a0 : Nat) (a0_reckoner : Nat) (a0_plan : Nat) (a0_frontSteeped : Nat) (a0_guestServed : Nat) (a0_guestStormed : Nat) (n : Nat) (b_h : bX8) (b_a0 : bX8) {res : Int32 × Int32 × Int32 × Int32 × Int32 × Int32 × Int32 × Int32 × (Nat → Int32) × (Nat → Int32) × (Nat → Int32)} (hf : f_X8_copyFrom n b_h b_a0 = some res) : SxK (SFx sd) l D T yX8_copyFrom cX8_copyFrom 3 none rm_X8_copyFrom [.ref h, .ref a0] (wc_X8_copyFrom T sd h h_reckoner h_plan h_frontSteeped h_guestServed h_guestStormed a0 a0_reckoner a0_plan a0_frontSteeped a0_guestServed a0_guestStormed b_h b_a0) (vf_X8_copyFrom sd) (wf_X8_copyFrom T sd h h_reckoner h_plan h_frontSteeped h_guestServed h_guestStormed a0 a0_reckoner a0_plan a0_frontSteeped a0_guestServed a0_guestStormed b_h b_a0) res 0 0 := by
  refine sx_start (SFx_ok sd) (by decide +kernel) (Nat.le_of_ble_eq_true rfl) (fun p e s m args below meth c A X hnm => ?_)
  have hf := ob_1 hf
  have L100 : ∀ (w_h_hour : Int32) (w_h_warmth : Int32) (w_h_strength : Int32) (w_h_charge : Int32) (w_h_lemons : Int32) (w_h_saucers : Int32) (w_h_coins : Int32) (w_h_storms : Int32) (w_h_frontSteeped : Nat → Int32) (n0 : Nat) (v2 : Int32) (w_h_guestServed : Nat → Int32) (w_h_guestStormed : Nat → Int32), (iter (fun s : Int32 × (Nat → Int32) × (Nat → Int32) => f_X8_copyFrom_L100 n b_h b_a0 s.1 w_h_hour w_h_warmth w_h_strength w_h_charge w_h_lemons w_h_saucers w_h_coins w_h_storms w_h_frontSteeped s.2.1 s.2.2) n0 (v2, w_h_guestServed, w_h_guestStormed)).bind some = some res → SxG p l e rm_X8_copyFrom s m args below meth c D A 3 0 0 (SxE below args s D A (vf_X8_copyFrom sd) (wf_X8_copyFrom T sd h h_reckoner h_plan h_frontSteeped h_guestServed h_guestStormed a0 a0_reckoner a0_plan a0_frontSteeped a0_guestServed a0_guestStormed b_h b_a0) res 0 0) [zO h 6 [.ref h_reckoner, .ref a0_plan, .int w_h_hour, .int w_h_warmth, .int w_h_strength, .int w_h_charge, .int w_h_lemons, .int w_h_saucers, .int w_h_coins, .int w_h_storms, .ref h_frontSteeped, .ref h_guestServed, .ref h_guestStormed], zZ T h_frontSteeped 10 w_h_frontSteeped, zZ T h_guestServed 10 w_h_guestServed, zZ T h_guestStormed 10 w_h_guestStormed, zO a0 6 [.ref a0_reckoner, .ref a0_plan, .int (X8_hour b_a0), .int (X8_warmth b_a0), .int (X8_strength b_a0), .int (X8_charge b_a0), .int (X8_lemons b_a0), .int (X8_saucers b_a0), .int (X8_coins b_a0), .int (X8_storms b_a0), .ref a0_frontSteeped, .ref a0_guestServed, .ref a0_guestStormed], zZ T a0_frontSteeped 10 (X8_frontSteeped b_a0), zZ T a0_guestServed 10 (X8_guestServed b_a0), zZ T a0_guestStormed 10 (X8_guestStormed b_a0)] [(0, .ref h), (1, .ref a0), (2, .int v2)] 100 [] := by
    intro w_h_hour w_h_warmth w_h_strength w_h_charge w_h_lemons w_h_saucers w_h_coins w_h_storms w_h_frontSteeped n0
    induction n0 with
    | zero =>
      intro v2 w_h_guestServed w_h_guestStormed hf
      exact (iter_z hf).elim
    | succ n0 ih100 =>
      intro v2 w_h_guestServed w_h_guestStormed hf
      obtain ⟨κ100, hκ100, hf⟩ := iter_k hf
      have hf : (f_X8_copyFrom_L100 n b_h b_a0 v2 w_h_hour w_h_warmth w_h_strength w_h_charge w_h_lemons w_h_saucers w_h_coins w_h_storms w_h_frontSteeped w_h_guestServed w_h_guestStormed).bind κ100 = some res := hf
      refine sx_iload_n X 2 rfl dX8_copyFrom_100 rfl ?_
      refine sx_bipush X (v := 10) dX8_copyFrom_101 rfl ?_
      refine sx_icmp_ge X 136 dX8_copyFrom_103 rfl (fun c2 => ?_) (fun c2 => ?_)
      · have hf := ob_t hf c2
        have hf := ob_kr hκ100 hf
        exact sx_vret X dX8_copyFrom_136 (ob_e hf) rfl rfl
      · have hf := ob_f hf c2
        refine sx_aload_n X 0 rfl dX8_copyFrom_106 rfl ?_
        refine sx_get X kX8 0 rfl 11 (Nat.le_of_ble_eq_true rfl) qm_288 rfl dX8_copyFrom_107 ?_
        refine sx_iload_n X 2 rfl dX8_copyFrom_110 rfl ?_
        refine sx_aload_n X 1 rfl dX8_copyFrom_111 rfl ?_
        refine sx_get X kX8 4 rfl 11 (Nat.le_of_ble_eq_true rfl) qm_288 rfl dX8_copyFrom_112 ?_
        refine sx_iload_n X 2 rfl dX8_copyFrom_115 rfl ?_
        obtain ⟨g3, hf⟩ := ob_g hf
        refine sx_zald X 6 rfl g3 dX8_copyFrom_116 ?_
        obtain ⟨g4, hf⟩ := ob_g hf
        refine sx_zast X (ws' := [zO h 6 [.ref h_reckoner, .ref a0_plan, .int w_h_hour, .int w_h_warmth, .int w_h_strength, .int w_h_charge, .int w_h_lemons, .int w_h_saucers, .int w_h_coins, .int w_h_storms, .ref h_frontSteeped, .ref h_guestServed, .ref h_guestStormed], zZ T h_frontSteeped 10 w_h_frontSteeped, zZ T h_guestServed 10 (upd w_h_guestServed v2.toNatClampNeg (vp_nar .boolean ((X8_guestServed b_a0) v2.toNatClampNeg))), zZ T h_guestStormed 10 w_h_guestStormed, zO a0 6 [.ref a0_reckoner, .ref a0_plan, .int (X8_hour b_a0), .int (X8_warmth b_a0), .int (X8_strength b_a0), .int (X8_charge b_a0), .int (X8_lemons b_a0), .int (X8_saucers b_a0), .int (X8_coins b_a0), .int (X8_storms b_a0), .ref a0_frontSteeped, .ref a0_guestServed, .ref a0_guestStormed], zZ T a0_frontSteeped 10 (X8_frontSteeped b_a0), zZ T a0_guestServed 10 (X8_guestServed b_a0), zZ T a0_guestStormed 10 (X8_guestStormed b_a0)]) 2 rfl g4 rfl dX8_copyFrom_117 ?_
        refine sx_aload_n X 0 rfl dX8_copyFrom_118 rfl ?_
        refine sx_get X kX8 0 rfl 12 (Nat.le_of_ble_eq_true rfl) qm_290 rfl dX8_copyFrom_119 ?_
        refine sx_iload_n X 2 rfl dX8_copyFrom_122 rfl ?_
        refine sx_aload_n X 1 rfl dX8_copyFrom_123 rfl ?_
        refine sx_get X kX8 4 rfl 12 (Nat.le_of_ble_eq_true rfl) qm_290 rfl dX8_copyFrom_124 ?_
        refine sx_iload_n X 2 rfl dX8_copyFrom_127 rfl ?_
        obtain ⟨g5, hf⟩ := ob_g hf
        refine sx_zald X 7 rfl g5 dX8_copyFrom_128 ?_
        obtain ⟨g6, hf⟩ := ob_g hf
        refine sx_zast X (ws' := [zO h 6 [.ref h_reckoner, .ref a0_plan, .int w_h_hour, .int w_h_warmth, .int w_h_strength, .int w_h_charge, .int w_h_lemons, .int w_h_saucers, .int w_h_coins, .int w_h_storms, .ref h_frontSteeped, .ref h_guestServed, .ref h_guestStormed], zZ T h_frontSteeped 10 w_h_frontSteeped, zZ T h_guestServed 10 (upd w_h_guestServed v2.toNatClampNeg (vp_nar .boolean ((X8_guestServed b_a0) v2.toNatClampNeg))), zZ T h_guestStormed 10 (upd w_h_guestStormed v2.toNatClampNeg (vp_nar .boolean ((X8_guestStormed b_a0) v2.toNatClampNeg))), zO a0 6 [.ref a0_reckoner, .ref a0_plan, .int (X8_hour b_a0), .int (X8_warmth b_a0), .int (X8_strength b_a0), .int (X8_charge b_a0), .int (X8_lemons b_a0), .int (X8_saucers b_a0), .int (X8_coins b_a0), .int (X8_storms b_a0), .ref a0_frontSteeped, .ref a0_guestServed, .ref a0_guestStormed], zZ T a0_frontSteeped 10 (X8_frontSteeped b_a0), zZ T a0_guestServed 10 (X8_guestServed b_a0), zZ T a0_guestStormed 10 (X8_guestStormed b_a0)]) 3 rfl g6 rfl dX8_copyFrom_129 ?_
        refine sx_iinc X (v := (v2 + 1)) (lv' := [(2, .int (v2 + 1)), (0, .ref h), (1, .ref a0)]) 2 rfl dX8_copyFrom_130 rfl (by decide) rfl ?_
        refine sx_goto X 100 dX8_copyFrom_133 rfl ?_
        have hf := ob_k hκ100 hf
        refine sx_lsub [1, 2, 0] rfl ?_
        exact ih100 (v2 + 1) (upd w_h_guestServed v2.toNatClampNeg (vp_nar .boolean ((X8_guestServed b_a0) v2.toNatClampNeg))) (upd w_h_guestStormed v2.toNatClampNeg (vp_nar .boolean ((X8_guestStormed b_a0) v2.toNatClampNeg))) hf
  have L74 : ∀ (w_h_hour : Int32) (w_h_warmth : Int32) (w_h_strength : Int32) (w_h_charge : Int32) (w_h_lemons : Int32) (w_h_saucers : Int32) (w_h_coins : Int32) (w_h_storms : Int32) (w_h_guestServed : Nat → Int32) (w_h_guestStormed : Nat → Int32) (n0 : Nat) (v2 : Int32) (w_h_frontSteeped : Nat → Int32), (iter (fun s : Int32 × (Nat → Int32) => f_X8_copyFrom_L74 n b_h b_a0 s.1 w_h_hour w_h_warmth w_h_strength w_h_charge w_h_lemons w_h_saucers w_h_coins w_h_storms s.2 w_h_guestServed w_h_guestStormed) n0 (v2, w_h_frontSteeped)).bind some = some res → SxG p l e rm_X8_copyFrom s m args below meth c D A 3 0 0 (SxE below args s D A (vf_X8_copyFrom sd) (wf_X8_copyFrom T sd h h_reckoner h_plan h_frontSteeped h_guestServed h_guestStormed a0 a0_reckoner a0_plan a0_frontSteeped a0_guestServed a0_guestStormed b_h b_a0) res 0 0) [zO h 6 [.ref h_reckoner, .ref a0_plan, .int w_h_hour, .int w_h_warmth, .int w_h_strength, .int w_h_charge, .int w_h_lemons, .int w_h_saucers, .int w_h_coins, .int w_h_storms, .ref h_frontSteeped, .ref h_guestServed, .ref h_guestStormed], zZ T h_frontSteeped 10 w_h_frontSteeped, zZ T h_guestServed 10 w_h_guestServed, zZ T h_guestStormed 10 w_h_guestStormed, zO a0 6 [.ref a0_reckoner, .ref a0_plan, .int (X8_hour b_a0), .int (X8_warmth b_a0), .int (X8_strength b_a0), .int (X8_charge b_a0), .int (X8_lemons b_a0), .int (X8_saucers b_a0), .int (X8_coins b_a0), .int (X8_storms b_a0), .ref a0_frontSteeped, .ref a0_guestServed, .ref a0_guestStormed], zZ T a0_frontSteeped 10 (X8_frontSteeped b_a0), zZ T a0_guestServed 10 (X8_guestServed b_a0), zZ T a0_guestStormed 10 (X8_guestStormed b_a0)] [(0, .ref h), (1, .ref a0), (2, .int v2)] 74 [] := by
    intro w_h_hour w_h_warmth w_h_strength w_h_charge w_h_lemons w_h_saucers w_h_coins w_h_storms w_h_guestServed w_h_guestStormed n0
    induction n0 with
    | zero =>
      intro v2 w_h_frontSteeped hf
      exact (iter_z hf).elim
    | succ n0 ih74 =>
      intro v2 w_h_frontSteeped hf
      obtain ⟨κ74, hκ74, hf⟩ := iter_k hf
      have hf : (f_X8_copyFrom_L74 n b_h b_a0 v2 w_h_hour w_h_warmth w_h_strength w_h_charge w_h_lemons w_h_saucers w_h_coins w_h_storms w_h_frontSteeped w_h_guestServed w_h_guestStormed).bind κ74 = some res := hf
      refine sx_iload_n X 2 rfl dX8_copyFrom_74 rfl ?_
      refine sx_bipush X (v := 10) dX8_copyFrom_75 rfl ?_
      refine sx_icmp_ge X 98 dX8_copyFrom_77 rfl (fun c1 => ?_) (fun c1 => ?_)
      · have hf := ob_t hf c1
        refine sx_iconst X (v := 0) dX8_copyFrom_98 rfl ?_
        refine sx_istore_n X (lv' := [(2, .int 0), (0, .ref h), (1, .ref a0)]) dX8_copyFrom_99 rfl (by decide) rfl ?_
        have hf := ob_kx hκ74 hf
        refine sx_lsub [1, 2, 0] rfl ?_
        exact L100 w_h_hour w_h_warmth w_h_strength w_h_charge w_h_lemons w_h_saucers w_h_coins w_h_storms w_h_frontSteeped n 0 w_h_guestServed w_h_guestStormed hf
      · have hf := ob_f hf c1
        refine sx_aload_n X 0 rfl dX8_copyFrom_80 rfl ?_
        refine sx_get X kX8 0 rfl 10 (Nat.le_of_ble_eq_true rfl) qm_286 rfl dX8_copyFrom_81 ?_
        refine sx_iload_n X 2 rfl dX8_copyFrom_84 rfl ?_
        refine sx_aload_n X 1 rfl dX8_copyFrom_85 rfl ?_
        refine sx_get X kX8 4 rfl 10 (Nat.le_of_ble_eq_true rfl) qm_286 rfl dX8_copyFrom_86 ?_
        refine sx_iload_n X 2 rfl dX8_copyFrom_89 rfl ?_
        obtain ⟨g7, hf⟩ := ob_g hf
        refine sx_zald X 5 rfl g7 dX8_copyFrom_90 ?_
        obtain ⟨g8, hf⟩ := ob_g hf
        refine sx_zast X (ws' := [zO h 6 [.ref h_reckoner, .ref a0_plan, .int w_h_hour, .int w_h_warmth, .int w_h_strength, .int w_h_charge, .int w_h_lemons, .int w_h_saucers, .int w_h_coins, .int w_h_storms, .ref h_frontSteeped, .ref h_guestServed, .ref h_guestStormed], zZ T h_frontSteeped 10 (upd w_h_frontSteeped v2.toNatClampNeg (vp_nar .boolean ((X8_frontSteeped b_a0) v2.toNatClampNeg))), zZ T h_guestServed 10 w_h_guestServed, zZ T h_guestStormed 10 w_h_guestStormed, zO a0 6 [.ref a0_reckoner, .ref a0_plan, .int (X8_hour b_a0), .int (X8_warmth b_a0), .int (X8_strength b_a0), .int (X8_charge b_a0), .int (X8_lemons b_a0), .int (X8_saucers b_a0), .int (X8_coins b_a0), .int (X8_storms b_a0), .ref a0_frontSteeped, .ref a0_guestServed, .ref a0_guestStormed], zZ T a0_frontSteeped 10 (X8_frontSteeped b_a0), zZ T a0_guestServed 10 (X8_guestServed b_a0), zZ T a0_guestStormed 10 (X8_guestStormed b_a0)]) 1 rfl g8 rfl dX8_copyFrom_91 ?_
        refine sx_iinc X (v := (v2 + 1)) (lv' := [(2, .int (v2 + 1)), (0, .ref h), (1, .ref a0)]) 2 rfl dX8_copyFrom_92 rfl (by decide) rfl ?_
        refine sx_goto X 74 dX8_copyFrom_95 rfl ?_
        have hf := ob_k hκ74 hf
        refine sx_lsub [1, 2, 0] rfl ?_
        exact ih74 (v2 + 1) (upd w_h_frontSteeped v2.toNatClampNeg (vp_nar .boolean ((X8_frontSteeped b_a0) v2.toNatClampNeg))) hf
  refine sx_aload_n X 0 rfl dX8_copyFrom_0 rfl ?_
  refine sx_aload_n X 1 rfl dX8_copyFrom_1 rfl ?_
  refine sx_get X kX8 4 rfl 1 (Nat.le_of_ble_eq_true rfl) qm_268 rfl dX8_copyFrom_2 ?_
  refine sx_put X (ws' := [zO h 6 [.ref h_reckoner, .ref a0_plan, .int (X8_hour b_h), .int (X8_warmth b_h), .int (X8_strength b_h), .int (X8_charge b_h), .int (X8_lemons b_h), .int (X8_saucers b_h), .int (X8_coins b_h), .int (X8_storms b_h), .ref h_frontSteeped, .ref h_guestServed, .ref h_guestStormed], zZ T h_frontSteeped 10 (X8_frontSteeped b_h), zZ T h_guestServed 10 (X8_guestServed b_h), zZ T h_guestStormed 10 (X8_guestStormed b_h), zO a0 6 [.ref a0_reckoner, .ref a0_plan, .int (X8_hour b_a0), .int (X8_warmth b_a0), .int (X8_strength b_a0), .int (X8_charge b_a0), .int (X8_lemons b_a0), .int (X8_saucers b_a0), .int (X8_coins b_a0), .int (X8_storms b_a0), .ref a0_frontSteeped, .ref a0_guestServed, .ref a0_guestStormed], zZ T a0_frontSteeped 10 (X8_frontSteeped b_a0), zZ T a0_guestServed 10 (X8_guestServed b_a0), zZ T a0_guestStormed 10 (X8_guestStormed b_a0)]) kX8 0 rfl 1 (Nat.le_of_ble_eq_true rfl) qm_268 rfl rfl rfl (Nat.le_of_ble_eq_true rfl) rfl dX8_copyFrom_5 ?_
  refine sx_aload_n X 0 rfl dX8_copyFrom_8 rfl ?_
  refine sx_aload_n X 1 rfl dX8_copyFrom_9 rfl ?_
  refine sx_get X kX8 4 rfl 2 (Nat.le_of_ble_eq_true rfl) qm_270 rfl dX8_copyFrom_10 ?_
  refine sx_put X (ws' := [zO h 6 [.ref h_reckoner, .ref a0_plan, .int (X8_hour b_a0), .int (X8_warmth b_h), .int (X8_strength b_h), .int (X8_charge b_h), .int (X8_lemons b_h), .int (X8_saucers b_h), .int (X8_coins b_h), .int (X8_storms b_h), .ref h_frontSteeped, .ref h_guestServed, .ref h_guestStormed], zZ T h_frontSteeped 10 (X8_frontSteeped b_h), zZ T h_guestServed 10 (X8_guestServed b_h), zZ T h_guestStormed 10 (X8_guestStormed b_h), zO a0 6 [.ref a0_reckoner, .ref a0_plan, .int (X8_hour b_a0), .int (X8_warmth b_a0), .int (X8_strength b_a0), .int (X8_charge b_a0), .int (X8_lemons b_a0), .int (X8_saucers b_a0), .int (X8_coins b_a0), .int (X8_storms b_a0), .ref a0_frontSteeped, .ref a0_guestServed, .ref a0_guestStormed], zZ T a0_frontSteeped 10 (X8_frontSteeped b_a0), zZ T a0_guestServed 10 (X8_guestServed b_a0), zZ T a0_guestStormed 10 (X8_guestStormed b_a0)]) kX8 0 rfl 2 (Nat.le_of_ble_eq_true rfl) qm_270 rfl rfl rfl (Nat.le_of_ble_eq_true rfl) rfl dX8_copyFrom_13 ?_
  refine sx_aload_n X 0 rfl dX8_copyFrom_16 rfl ?_
  refine sx_aload_n X 1 rfl dX8_copyFrom_17 rfl ?_
  refine sx_get X kX8 4 rfl 3 (Nat.le_of_ble_eq_true rfl) qm_272 rfl dX8_copyFrom_18 ?_
  refine sx_put X (ws' := [zO h 6 [.ref h_reckoner, .ref a0_plan, .int (X8_hour b_a0), .int (X8_warmth b_a0), .int (X8_strength b_h), .int (X8_charge b_h), .int (X8_lemons b_h), .int (X8_saucers b_h), .int (X8_coins b_h), .int (X8_storms b_h), .ref h_frontSteeped, .ref h_guestServed, .ref h_guestStormed], zZ T h_frontSteeped 10 (X8_frontSteeped b_h), zZ T h_guestServed 10 (X8_guestServed b_h), zZ T h_guestStormed 10 (X8_guestStormed b_h), zO a0 6 [.ref a0_reckoner, .ref a0_plan, .int (X8_hour b_a0), .int (X8_warmth b_a0), .int (X8_strength b_a0), .int (X8_charge b_a0), .int (X8_lemons b_a0), .int (X8_saucers b_a0), .int (X8_coins b_a0), .int (X8_storms b_a0), .ref a0_frontSteeped, .ref a0_guestServed, .ref a0_guestStormed], zZ T a0_frontSteeped 10 (X8_frontSteeped b_a0), zZ T a0_guestServed 10 (X8_guestServed b_a0), zZ T a0_guestStormed 10 (X8_guestStormed b_a0)]) kX8 0 rfl 3 (Nat.le_of_ble_eq_true rfl) qm_272 rfl rfl rfl (Nat.le_of_ble_eq_true rfl) rfl dX8_copyFrom_21 ?_
  refine sx_aload_n X 0 rfl dX8_copyFrom_24 rfl ?_
  refine sx_aload_n X 1 rfl dX8_copyFrom_25 rfl ?_
  refine sx_get X kX8 4 rfl 4 (Nat.le_of_ble_eq_true rfl) qm_274 rfl dX8_copyFrom_26 ?_
  refine sx_put X (ws' := [zO h 6 [.ref h_reckoner, .ref a0_plan, .int (X8_hour b_a0), .int (X8_warmth b_a0), .int (X8_strength b_a0), .int (X8_charge b_h), .int (X8_lemons b_h), .int (X8_saucers b_h), .int (X8_coins b_h), .int (X8_storms b_h), .ref h_frontSteeped, .ref h_guestServed, .ref h_guestStormed], zZ T h_frontSteeped 10 (X8_frontSteeped b_h), zZ T h_guestServed 10 (X8_guestServed b_h), zZ T h_guestStormed 10 (X8_guestStormed b_h), zO a0 6 [.ref a0_reckoner, .ref a0_plan, .int (X8_hour b_a0), .int (X8_warmth b_a0), .int (X8_strength b_a0), .int (X8_charge b_a0), .int (X8_lemons b_a0), .int (X8_saucers b_a0), .int (X8_coins b_a0), .int (X8_storms b_a0), .ref a0_frontSteeped, .ref a0_guestServed, .ref a0_guestStormed], zZ T a0_frontSteeped 10 (X8_frontSteeped b_a0), zZ T a0_guestServed 10 (X8_guestServed b_a0), zZ T a0_guestStormed 10 (X8_guestStormed b_a0)]) kX8 0 rfl 4 (Nat.le_of_ble_eq_true rfl) qm_274 rfl rfl rfl (Nat.le_of_ble_eq_true rfl) rfl dX8_copyFrom_29 ?_
  refine sx_aload_n X 0 rfl dX8_copyFrom_32 rfl ?_
  refine sx_aload_n X 1 rfl dX8_copyFrom_33 rfl ?_
  refine sx_get X kX8 4 rfl 5 (Nat.le_of_ble_eq_true rfl) qm_276 rfl dX8_copyFrom_34 ?_
  refine sx_put X (ws' := [zO h 6 [.ref h_reckoner, .ref a0_plan, .int (X8_hour b_a0), .int (X8_warmth b_a0), .int (X8_strength b_a0), .int (X8_charge b_a0), .int (X8_lemons b_h), .int (X8_saucers b_h), .int (X8_coins b_h), .int (X8_storms b_h), .ref h_frontSteeped, .ref h_guestServed, .ref h_guestStormed], zZ T h_frontSteeped 10 (X8_frontSteeped b_h), zZ T h_guestServed 10 (X8_guestServed b_h), zZ T h_guestStormed 10 (X8_guestStormed b_h), zO a0 6 [.ref a0_reckoner, .ref a0_plan, .int (X8_hour b_a0), .int (X8_warmth b_a0), .int (X8_strength b_a0), .int (X8_charge b_a0), .int (X8_lemons b_a0), .int (X8_saucers b_a0), .int (X8_coins b_a0), .int (X8_storms b_a0), .ref a0_frontSteeped, .ref a0_guestServed, .ref a0_guestStormed], zZ T a0_frontSteeped 10 (X8_frontSteeped b_a0), zZ T a0_guestServed 10 (X8_guestServed b_a0), zZ T a0_guestStormed 10 (X8_guestStormed b_a0)]) kX8 0 rfl 5 (Nat.le_of_ble_eq_true rfl) qm_276 rfl rfl rfl (Nat.le_of_ble_eq_true rfl) rfl dX8_copyFrom_37 ?_
  refine sx_aload_n X 0 rfl dX8_copyFrom_40 rfl ?_
  refine sx_aload_n X 1 rfl dX8_copyFrom_41 rfl ?_
  refine sx_get X kX8 4 rfl 6 (Nat.le_of_ble_eq_true rfl) qm_278 rfl dX8_copyFrom_42 ?_
  refine sx_put X (ws' := [zO h 6 [.ref h_reckoner, .ref a0_plan, .int (X8_hour b_a0), .int (X8_warmth b_a0), .int (X8_strength b_a0), .int (X8_charge b_a0), .int (X8_lemons b_a0), .int (X8_saucers b_h), .int (X8_coins b_h), .int (X8_storms b_h), .ref h_frontSteeped, .ref h_guestServed, .ref h_guestStormed], zZ T h_frontSteeped 10 (X8_frontSteeped b_h), zZ T h_guestServed 10 (X8_guestServed b_h), zZ T h_guestStormed 10 (X8_guestStormed b_h), zO a0 6 [.ref a0_reckoner, .ref a0_plan, .int (X8_hour b_a0), .int (X8_warmth b_a0), .int (X8_strength b_a0), .int (X8_charge b_a0), .int (X8_lemons b_a0), .int (X8_saucers b_a0), .int (X8_coins b_a0), .int (X8_storms b_a0), .ref a0_frontSteeped, .ref a0_guestServed, .ref a0_guestStormed], zZ T a0_frontSteeped 10 (X8_frontSteeped b_a0), zZ T a0_guestServed 10 (X8_guestServed b_a0), zZ T a0_guestStormed 10 (X8_guestStormed b_a0)]) kX8 0 rfl 6 (Nat.le_of_ble_eq_true rfl) qm_278 rfl rfl rfl (Nat.le_of_ble_eq_true rfl) rfl dX8_copyFrom_45 ?_
  refine sx_aload_n X 0 rfl dX8_copyFrom_48 rfl ?_
  refine sx_aload_n X 1 rfl dX8_copyFrom_49 rfl ?_
  refine sx_get X kX8 4 rfl 7 (Nat.le_of_ble_eq_true rfl) qm_280 rfl dX8_copyFrom_50 ?_
  refine sx_put X (ws' := [zO h 6 [.ref h_reckoner, .ref a0_plan, .int (X8_hour b_a0), .int (X8_warmth b_a0), .int (X8_strength b_a0), .int (X8_charge b_a0), .int (X8_lemons b_a0), .int (X8_saucers b_a0), .int (X8_coins b_h), .int (X8_storms b_h), .ref h_frontSteeped, .ref h_guestServed, .ref h_guestStormed], zZ T h_frontSteeped 10 (X8_frontSteeped b_h), zZ T h_guestServed 10 (X8_guestServed b_h), zZ T h_guestStormed 10 (X8_guestStormed b_h), zO a0 6 [.ref a0_reckoner, .ref a0_plan, .int (X8_hour b_a0), .int (X8_warmth b_a0), .int (X8_strength b_a0), .int (X8_charge b_a0), .int (X8_lemons b_a0), .int (X8_saucers b_a0), .int (X8_coins b_a0), .int (X8_storms b_a0), .ref a0_frontSteeped, .ref a0_guestServed, .ref a0_guestStormed], zZ T a0_frontSteeped 10 (X8_frontSteeped b_a0), zZ T a0_guestServed 10 (X8_guestServed b_a0), zZ T a0_guestStormed 10 (X8_guestStormed b_a0)]) kX8 0 rfl 7 (Nat.le_of_ble_eq_true rfl) qm_280 rfl rfl rfl (Nat.le_of_ble_eq_true rfl) rfl dX8_copyFrom_53 ?_
  refine sx_aload_n X 0 rfl dX8_copyFrom_56 rfl ?_
  refine sx_aload_n X 1 rfl dX8_copyFrom_57 rfl ?_
  refine sx_get X kX8 4 rfl 8 (Nat.le_of_ble_eq_true rfl) qm_282 rfl dX8_copyFrom_58 ?_
  refine sx_put X (ws' := [zO h 6 [.ref h_reckoner, .ref a0_plan, .int (X8_hour b_a0), .int (X8_warmth b_a0), .int (X8_strength b_a0), .int (X8_charge b_a0), .int (X8_lemons b_a0), .int (X8_saucers b_a0), .int (X8_coins b_a0), .int (X8_storms b_h), .ref h_frontSteeped, .ref h_guestServed, .ref h_guestStormed], zZ T h_frontSteeped 10 (X8_frontSteeped b_h), zZ T h_guestServed 10 (X8_guestServed b_h), zZ T h_guestStormed 10 (X8_guestStormed b_h), zO a0 6 [.ref a0_reckoner, .ref a0_plan, .int (X8_hour b_a0), .int (X8_warmth b_a0), .int (X8_strength b_a0), .int (X8_charge b_a0), .int (X8_lemons b_a0), .int (X8_saucers b_a0), .int (X8_coins b_a0), .int (X8_storms b_a0), .ref a0_frontSteeped, .ref a0_guestServed, .ref a0_guestStormed], zZ T a0_frontSteeped 10 (X8_frontSteeped b_a0), zZ T a0_guestServed 10 (X8_guestServed b_a0), zZ T a0_guestStormed 10 (X8_guestStormed b_a0)]) kX8 0 rfl 8 (Nat.le_of_ble_eq_true rfl) qm_282 rfl rfl rfl (Nat.le_of_ble_eq_true rfl) rfl dX8_copyFrom_61 ?_
  refine sx_aload_n X 0 rfl dX8_copyFrom_64 rfl ?_
  refine sx_aload_n X 1 rfl dX8_copyFrom_65 rfl ?_
  refine sx_get X kX8 4 rfl 9 (Nat.le_of_ble_eq_true rfl) qm_284 rfl dX8_copyFrom_66 ?_
  refine sx_put X (ws' := [zO h 6 [.ref h_reckoner, .ref a0_plan, .int (X8_hour b_a0), .int (X8_warmth b_a0), .int (X8_strength b_a0), .int (X8_charge b_a0), .int (X8_lemons b_a0), .int (X8_saucers b_a0), .int (X8_coins b_a0), .int (X8_storms b_a0), .ref h_frontSteeped, .ref h_guestServed, .ref h_guestStormed], zZ T h_frontSteeped 10 (X8_frontSteeped b_h), zZ T h_guestServed 10 (X8_guestServed b_h), zZ T h_guestStormed 10 (X8_guestStormed b_h), zO a0 6 [.ref a0_reckoner, .ref a0_plan, .int (X8_hour b_a0), .int (X8_warmth b_a0), .int (X8_strength b_a0), .int (X8_charge b_a0), .int (X8_lemons b_a0), .int (X8_saucers b_a0), .int (X8_coins b_a0), .int (X8_storms b_a0), .ref a0_frontSteeped, .ref a0_guestServed, .ref a0_guestStormed], zZ T a0_frontSteeped 10 (X8_frontSteeped b_a0), zZ T a0_guestServed 10 (X8_guestServed b_a0), zZ T a0_guestStormed 10 (X8_guestStormed b_a0)]) kX8 0 rfl 9 (Nat.le_of_ble_eq_true rfl) qm_284 rfl rfl rfl (Nat.le_of_ble_eq_true rfl) rfl dX8_copyFrom_69 ?_
  refine sx_iconst X (v := 0) dX8_copyFrom_72 rfl ?_
  refine sx_istore_n X (lv' := [(2, .int 0), (0, .ref h), (1, .ref a0)]) dX8_copyFrom_73 rfl (by decide) rfl ?_
  refine sx_lsub [1, 2, 0] rfl ?_
  exact L74 (X8_hour b_a0) (X8_warmth b_a0) (X8_strength b_a0) (X8_charge b_a0) (X8_lemons b_a0) (X8_saucers b_a0) (X8_coins b_a0) (X8_storms b_a0) (X8_guestServed b_h) (X8_guestStormed b_h) n 0 (X8_frontSteeped b_h) hf

abbrev vf_X9_push (sd : SdT) (_r : (Nat → Int32) × Int32) : Option Value := none
abbrev wc_X9_push (T : Nat → ClassId) (sd : SdT) (h : Nat) (h_stack : Nat) (b_h : bX9) : va_W := [zO h 7 [.ref h_stack, .int (X9_height b_h)], zI T h_stack 400 (X9_stack b_h)]
abbrev wf_X9_push (T : Nat → ClassId) (sd : SdT) (h : Nat) (h_stack : Nat) (b_h : bX9) (r : (Nat → Int32) × Int32) : va_W := [zO h 7 [.ref h_stack, .int r.2], zI T h_stack 400 r.1]
abbrev rm_X9_push : Room := { frames := 0, cells := 0, slots := 0, locals := 0 }
theorem hd_X9_push : yX9_push.cls ≠ "java/lang/invoke/MethodHandle" ∧ yX9_push.cls ≠ "java/lang/invoke/VarHandle" ∧ (parseMethodDescriptor yX9_push.desc).map (fun d => d.parameters.length) = some 1 := ⟨by decide, by decide, by decide +kernel⟩
set_option maxHeartbeats 4000000 in
set_option maxRecDepth 100000 in
theorem c_X9_push {l : Launch} {D : va_G} {T : Nat → ClassId} {sd : SdT} (h : Nat) (h_stack : Nat) (x0 : Int32) (b_h : bX9) {res : (Nat → Int32) × Int32} (hf : f_X9_push x0 b_h = some res) : SxK (SFx sd) l D T yX9_push cX9_push 2 none rm_X9_push [.ref h, .int x0] (wc_X9_push T sd h h_stack b_h) (vf_X9_push sd) (wf_X9_push T sd h h_stack b_h) res 0 0 := by
  refine sx_start (SFx_ok sd) (by decide +kernel) (Nat.le_of_ble_eq_true rfl) (fun p e s m args below meth c A X hnm => ?_)
  have hf := ob_1 hf
  refine sx_aload_n X 0 rfl dX9_push_0 rfl ?_
  refine sx_get X kX9 0 rfl 1 (Nat.le_of_ble_eq_true rfl) qm_126 rfl dX9_push_1 ?_
  refine sx_sipush X (v := 400) dX9_push_4 rfl ?_
  refine sx_icmp_ge X 30 dX9_push_7 rfl (fun c1 => ?_) (fun c1 => ?_)
  · have hf := ob_t hf c1
    exact sx_vret X dX9_push_30 (ob_e hf) rfl rfl
  · have hf := ob_f hf c1
    refine sx_aload_n X 0 rfl dX9_push_10 rfl ?_
    refine sx_get X kX9 0 rfl 0 (Nat.le_of_ble_eq_true rfl) qm_125 rfl dX9_push_11 ?_
    refine sx_aload_n X 0 rfl dX9_push_14 rfl ?_
    refine sx_get X kX9 0 rfl 1 (Nat.le_of_ble_eq_true rfl) qm_126 rfl dX9_push_15 ?_
    refine sx_iload_n X 1 rfl dX9_push_18 rfl ?_
    obtain ⟨g2, hf⟩ := ob_g hf
    refine sx_iast X (ws' := [zO h 7 [.ref h_stack, .int (X9_height b_h)], zI T h_stack 400 (upd (X9_stack b_h) (X9_height b_h).toNatClampNeg x0)]) 1 rfl g2 rfl dX9_push_19 ?_
    refine sx_aload_n X 0 rfl dX9_push_20 rfl ?_
    refine sx_dup X dX9_push_21 rfl ?_
    refine sx_get X kX9 0 rfl 1 (Nat.le_of_ble_eq_true rfl) qm_126 rfl dX9_push_22 ?_
    refine sx_iconst X (v := 1) dX9_push_25 rfl ?_
    refine sx_iadd X dX9_push_26 ?_
    refine sx_put X (ws' := [zO h 7 [.ref h_stack, .int ((X9_height b_h) + 1)], zI T h_stack 400 (upd (X9_stack b_h) (X9_height b_h).toNatClampNeg x0)]) kX9 0 rfl 1 (Nat.le_of_ble_eq_true rfl) qm_126 rfl rfl rfl (Nat.le_of_ble_eq_true rfl) rfl dX9_push_27 ?_
    exact sx_vret X dX9_push_30 (ob_e hf) rfl rfl

abbrev vf_X8_standsFor (sd : SdT) (r : Int32) : Option Value := some (.int r)
abbrev wc_X8_standsFor (T : Nat → ClassId) (sd : SdT) (h : Nat) (h_reckoner : Nat) (h_plan : Nat) (h_frontSteeped : Nat) (h_guestServed : Nat) (h_guestStormed : Nat) (h_plan_fronts : Nat) (h_plan_guests : Nat) (h_plan_orders : Nat) (h_plan_fronts_names : Nat) (h_plan_fronts_warm : Nat) (h_plan_fronts_force : Nat) (h_plan_fronts_from : Nat) (h_plan_fronts_hours : Nat) (h_plan_guests_names : Nat) (h_plan_guests_from : Nat) (h_plan_guests_weakest : Nat) (h_plan_guests_strongest : Nat) (h_plan_guests_nerve : Nat) (b_h : bX8) (b_h_plan_fronts : bX2) (b_h_plan_guests : bX4) : va_W := [zO h 6 [.ref h_reckoner, .ref h_plan, .int (X8_hour b_h), .int (X8_warmth b_h), .int (X8_strength b_h), .int (X8_charge b_h), .int (X8_lemons b_h), .int (X8_saucers b_h), .int (X8_coins b_h), .int (X8_storms b_h), .ref h_frontSteeped, .ref h_guestServed, .ref h_guestStormed], zZ T h_frontSteeped 10 (X8_frontSteeped b_h), zZ T h_guestServed 10 (X8_guestServed b_h), zZ T h_guestStormed 10 (X8_guestStormed b_h), zO h_plan 5 [.ref h_plan_fronts, .ref h_plan_guests, .ref h_plan_orders], zO h_plan_fronts 2 [.ref h_plan_fronts_names, .ref h_plan_fronts_warm, .ref h_plan_fronts_force, .ref h_plan_fronts_from, .ref h_plan_fronts_hours, .int (X2_count b_h_plan_fronts)], zJ T h_plan_fronts_names 10 (X2_names b_h_plan_fronts), zZ T h_plan_fronts_warm 10 (X2_warm b_h_plan_fronts), zI T h_plan_fronts_force 10 (X2_force b_h_plan_fronts), zI T h_plan_fronts_from 10 (X2_from b_h_plan_fronts), zI T h_plan_fronts_hours 10 (X2_hours b_h_plan_fronts), zO h_plan_guests 3 [.ref h_plan_guests_names, .ref h_plan_guests_from, .ref h_plan_guests_weakest, .ref h_plan_guests_strongest, .ref h_plan_guests_nerve, .int (X4_count b_h_plan_guests)], zJ T h_plan_guests_names 10 (X4_names b_h_plan_guests), zI T h_plan_guests_from 10 (X4_from b_h_plan_guests), zI T h_plan_guests_weakest 10 (X4_weakest b_h_plan_guests), zI T h_plan_guests_strongest 10 (X4_strongest b_h_plan_guests), zI T h_plan_guests_nerve 10 (X4_nerve b_h_plan_guests)]
abbrev wf_X8_standsFor (T : Nat → ClassId) (sd : SdT) (h : Nat) (h_reckoner : Nat) (h_plan : Nat) (h_frontSteeped : Nat) (h_guestServed : Nat) (h_guestStormed : Nat) (h_plan_fronts : Nat) (h_plan_guests : Nat) (h_plan_orders : Nat) (h_plan_fronts_names : Nat) (h_plan_fronts_warm : Nat) (h_plan_fronts_force : Nat) (h_plan_fronts_from : Nat) (h_plan_fronts_hours : Nat) (h_plan_guests_names : Nat) (h_plan_guests_from : Nat) (h_plan_guests_weakest : Nat) (h_plan_guests_strongest : Nat) (h_plan_guests_nerve : Nat) (b_h : bX8) (b_h_plan_fronts : bX2) (b_h_plan_guests : bX4) (r : Int32) : va_W := [zO h 6 [.ref h_reckoner, .ref h_plan, .int (X8_hour b_h), .int (X8_warmth b_h), .int (X8_strength b_h), .int (X8_charge b_h), .int (X8_lemons b_h), .int (X8_saucers b_h), .int (X8_coins b_h), .int (X8_storms b_h), .ref h_frontSteeped, .ref h_guestServed, .ref h_guestStormed], zZ T h_frontSteeped 10 (X8_frontSteeped b_h), zZ T h_guestServed 10 (X8_guestServed b_h), zZ T h_guestStormed 10 (X8_guestStormed b_h), zO h_plan 5 [.ref h_plan_fronts, .ref h_plan_guests, .ref h_plan_orders], zO h_plan_fronts 2 [.ref h_plan_fronts_names, .ref h_plan_fronts_warm, .ref h_plan_fronts_force, .ref h_plan_fronts_from, .ref h_plan_fronts_hours, .int (X2_count b_h_plan_fronts)], zJ T h_plan_fronts_names 10 (X2_names b_h_plan_fronts), zZ T h_plan_fronts_warm 10 (X2_warm b_h_plan_fronts), zI T h_plan_fronts_force 10 (X2_force b_h_plan_fronts), zI T h_plan_fronts_from 10 (X2_from b_h_plan_fronts), zI T h_plan_fronts_hours 10 (X2_hours b_h_plan_fronts), zO h_plan_guests 3 [.ref h_plan_guests_names, .ref h_plan_guests_from, .ref h_plan_guests_weakest, .ref h_plan_guests_strongest, .ref h_plan_guests_nerve, .int (X4_count b_h_plan_guests)], zJ T h_plan_guests_names 10 (X4_names b_h_plan_guests), zI T h_plan_guests_from 10 (X4_from b_h_plan_guests), zI T h_plan_guests_weakest 10 (X4_weakest b_h_plan_guests), zI T h_plan_guests_strongest 10 (X4_strongest b_h_plan_guests), zI T h_plan_guests_nerve 10 (X4_nerve b_h_plan_guests)]
abbrev rm_X8_standsFor : Room := { frames := 3, cells := 0, slots := 0, locals := 65 }
theorem hd_X8_standsFor : yX8_standsFor.cls ≠ "java/lang/invoke/MethodHandle" ∧ yX8_standsFor.cls ≠ "java/lang/invoke/VarHandle" ∧ (parseMethodDescriptor yX8_standsFor.desc).map (fun d => d.parameters.length) = some 2 := ⟨by decide, by decide, by decide +kernel⟩
theorem tin_X8_standsFor_8_0 (x : Int32) (h : x = 3) : SxIn (3) (14) #[130, 139, 148, 161, 64, 69, 74, 79, 84, 89, 94, 99] (130) x := by
  rcases h with rfl <;> exact ⟨by decide, by decide, by decide⟩
theorem tin_X8_standsFor_8_1 (x : Int32) (h : x = 4) : SxIn (3) (14) #[130, 139, 148, 161, 64, 69, 74, 79, 84, 89, 94, 99] (139) x := by
  rcases h with rfl <;> exact ⟨by decide, by decide, by decide⟩
theorem tin_X8_standsFor_8_2 (x : Int32) (h : x = 5) : SxIn (3) (14) #[130, 139, 148, 161, 64, 69, 74, 79, 84, 89, 94, 99] (148) x := by
  rcases h with rfl <;> exact ⟨by decide, by decide, by decide⟩
theorem tin_X8_standsFor_8_3 (x : Int32) (h : x = 7) : SxIn (3) (14) #[130, 139, 148, 161, 64, 69, 74, 79, 84, 89, 94, 99] (64) x := by
  rcases h with rfl <;> exact ⟨by decide, by decide, by decide⟩
theorem tin_X8_standsFor_8_4 (x : Int32) (h : x = 8) : SxIn (3) (14) #[130, 139, 148, 161, 64, 69, 74, 79, 84, 89, 94, 99] (69) x := by
  rcases h with rfl <;> exact ⟨by decide, by decide, by decide⟩
theorem tin_X8_standsFor_8_5 (x : Int32) (h : x = 9) : SxIn (3) (14) #[130, 139, 148, 161, 64, 69, 74, 79, 84, 89, 94, 99] (74) x := by
  rcases h with rfl <;> exact ⟨by decide, by decide, by decide⟩
theorem tin_X8_standsFor_8_6 (x : Int32) (h : x = 10) : SxIn (3) (14) #[130, 139, 148, 161, 64, 69, 74, 79, 84, 89, 94, 99] (79) x := by
  rcases h with rfl <;> exact ⟨by decide, by decide, by decide⟩
theorem tin_X8_standsFor_8_7 (x : Int32) (h : x = 11) : SxIn (3) (14) #[130, 139, 148, 161, 64, 69, 74, 79, 84, 89, 94, 99] (84) x := by
  rcases h with rfl <;> exact ⟨by decide, by decide, by decide⟩
theorem tin_X8_standsFor_8_8 (x : Int32) (h : x = 12) : SxIn (3) (14) #[130, 139, 148, 161, 64, 69, 74, 79, 84, 89, 94, 99] (89) x := by
  rcases h with rfl <;> exact ⟨by decide, by decide, by decide⟩
theorem tin_X8_standsFor_8_9 (x : Int32) (h : x = 13) : SxIn (3) (14) #[130, 139, 148, 161, 64, 69, 74, 79, 84, 89, 94, 99] (94) x := by
  rcases h with rfl <;> exact ⟨by decide, by decide, by decide⟩
theorem tin_X8_standsFor_8_10 (x : Int32) (h : x = 14) : SxIn (3) (14) #[130, 139, 148, 161, 64, 69, 74, 79, 84, 89, 94, 99] (99) x := by
  rcases h with rfl <;> exact ⟨by decide, by decide, by decide⟩
theorem tab_X8_standsFor_8 (x : Int32) (c0 : ¬ (x = 3)) (c1 : ¬ (x = 4)) (c2 : ¬ (x = 5)) (c3 : ¬ (x = 7)) (c4 : ¬ (x = 8)) (c5 : ¬ (x = 9)) (c6 : ¬ (x = 10)) (c7 : ¬ (x = 11)) (c8 : ¬ (x = 12)) (c9 : ¬ (x = 13)) (c10 : ¬ (x = 14)) : SxTab (3) (14) #[130, 139, 148, 161, 64, 69, 74, 79, 84, 89, 94, 99] (161) x := by
  refine sx_tabd [3, 4, 5, 7, 8, 9, 10, 11, 12, 13, 14] x (by decide +kernel) (fun v hv e => ?_)
  simp only [List.mem_cons, List.not_mem_nil, or_false] at hv
  rcases hv with h | h | h | h | h | h | h | h | h | h | h
  · exact c0 (e.trans h)
  · exact c1 (e.trans h)
  · exact c2 (e.trans h)
  · exact c3 (e.trans h)
  · exact c4 (e.trans h)
  · exact c5 (e.trans h)
  · exact c6 (e.trans h)
  · exact c7 (e.trans h)
  · exact c8 (e.trans h)
  · exact c9 (e.trans h)
  · exact c10 (e.trans h)
set_option maxHeartbeats 4000000 in
set_option maxRecDepth 100000 in
theorem c_X8_standsFor {l : Launch} {D : va_G} {T : Nat → ClassId} {sd : SdT} (h : Nat) (h_reckoner : Nat) (h_plan : Nat) (h_frontSteeped : Nat) (h_guestServed : Nat) (h_guestStormed : Nat) (h_plan_fronts : Nat) (h_plan_guests : Nat) (h_plan_orders : Nat) (h_plan_fronts_names : Nat) (h_plan_fronts_warm : Nat) (h_plan_fronts_force : Nat) (h_plan_fronts_from : Nat) (h_plan_fronts_hours : Nat) (h_plan_guests_names : Nat) (h_plan_guests_from : Nat) (h_plan_guests_weakest : Nat) (h_plan_guests_strongest : Nat) (h_plan_guests_nerve : Nat) (x0 : Nat) (x1 : Int32) (b_h : bX8) (b_h_plan_fronts : bX2) (b_h_plan_guests : bX4) {res : Int32} (hf : f_X8_standsFor x0 x1 b_h b_h_plan_fronts b_h_plan_guests = some res) : SxK (SFx sd) l D T yX8_standsFor cX8_standsFor 3 (some .int) rm_X8_standsFor [.ref h, .ref (sd.1 x0), .int x1] (wc_X8_standsFor T sd h h_reckoner h_plan h_frontSteeped h_guestServed h_guestStormed h_plan_fronts h_plan_guests h_plan_orders h_plan_fronts_names h_plan_fronts_warm h_plan_fronts_force h_plan_fronts_from h_plan_fronts_hours h_plan_guests_names h_plan_guests_from h_plan_guests_weakest h_plan_guests_strongest h_plan_guests_nerve b_h b_h_plan_fronts b_h_plan_guests) (vf_X8_standsFor sd) (wf_X8_standsFor T sd h h_reckoner h_plan h_frontSteeped h_guestServed h_guestStormed h_plan_fronts h_plan_guests h_plan_orders h_plan_fronts_names h_plan_fronts_warm h_plan_fronts_force h_plan_fronts_from h_plan_fronts_hours h_plan_guests_names h_plan_guests_from h_plan_guests_weakest h_plan_guests_strongest h_plan_guests_nerve b_h b_h_plan_fronts b_h_plan_guests) res 0 0 := by
  refine sx_start (SFx_ok sd) (by decide +kernel) (Nat.le_of_ble_eq_true rfl) (fun p e s m args below meth c A X hnm => ?_)
  have hf := ob_1 hf
  refine sx_mst X qm_576 dX8_standsFor_0 ?_
  refine sx_aload_n X 1 rfl dX8_standsFor_3 rfl ?_
  obtain ⟨g1, hf⟩ := ob_h hf
  refine sx_ord X x0 g1 qm_577 (Nat.le_of_ble_eq_true rfl) (Nat.le_of_ble_eq_true rfl) (Nat.le_of_ble_eq_true rfl) (Nat.zero_le _) (Nat.zero_le _) dX8_standsFor_4 ?_
  refine sx_mld X x0 g1 dX8_standsFor_7 ?_
  by_cases c2 : (smap x0) = 3
  · have hf := ob_t hf c2
    refine sx_tin X 138 dX8_standsFor_8 rfl (tin_X8_standsFor_8_0 (smap x0) c2) ?_
    refine sx_aload_n X 0 rfl dX8_standsFor_138 rfl ?_
    refine sx_iload_n X 2 rfl dX8_standsFor_139 rfl ?_
    obtain ⟨u3, hu3, hf⟩ := ob_c hf
    refine sx_cVr X (c_X8_hangsOver (l := l) (D := D) (T := T) (sd := sd) h h_reckoner h_plan h_frontSteeped h_guestServed h_guestStormed h_plan_fronts h_plan_guests h_plan_orders h_plan_fronts_names h_plan_fronts_warm h_plan_fronts_force h_plan_fronts_from h_plan_fronts_hours x1 b_h b_h_plan_fronts hu3) (st' := [.int u3]) (q0 := 0) qm_578 qm_490 qm_491 qm_18 qm_492 hd_X8_hangsOver ⟨rfl, rfl⟩ ⟨Nat.le_of_ble_eq_true rfl, Nat.le_of_ble_eq_true rfl⟩ rfl rfl (Nat.le_of_ble_eq_true rfl) rfl rfl rfl [0, 1, 2, 3, 4, 5, 6, 7, 8, 9, 10] rfl rfl rfl ⟨Nat.le_of_ble_eq_true rfl, Nat.le_of_ble_eq_true rfl⟩ dX8_standsFor_140 rfl ?_
    obtain ⟨u4, hu4, hf⟩ := ob_c hf
    refine sx_cNr X (c_X12_oneIf (l := l) (D := D) (T := T) (sd := sd) u3 hu4) (st' := [.int u4]) (X.sf.2.2.1.2.1 _ (List.mem_of_getElem? (i := 0) rfl)) qm_393 qm_13 qm_394 hd_X12_oneIf ⟨rfl, rfl⟩ ⟨Nat.le_of_ble_eq_true rfl, Nat.le_of_ble_eq_true rfl⟩ rfl rfl (Nat.le_of_ble_eq_true rfl) [] rfl rfl rfl ⟨Nat.le_of_ble_eq_true rfl, Nat.le_of_ble_eq_true rfl⟩ dX8_standsFor_143 rfl ?_
    exact sx_iret X rfl dX8_standsFor_146 (ob_e hf) rfl rfl
  · have hf := ob_f hf c2
    by_cases c5 : (smap x0) = 4
    · have hf := ob_t hf c5
      refine sx_tin X 147 dX8_standsFor_8 rfl (tin_X8_standsFor_8_1 (smap x0) c5) ?_
      refine sx_aload_n X 0 rfl dX8_standsFor_147 rfl ?_
      refine sx_iload_n X 2 rfl dX8_standsFor_148 rfl ?_
      obtain ⟨u6, hu6, hf⟩ := ob_c hf
      refine sx_cVr X (c_X8_sits (l := l) (D := D) (T := T) (sd := sd) h h_reckoner h_plan h_frontSteeped h_guestServed h_guestStormed h_plan_fronts h_plan_guests h_plan_orders h_plan_guests_names h_plan_guests_from h_plan_guests_weakest h_plan_guests_strongest h_plan_guests_nerve x1 b_h b_h_plan_guests hu6) (st' := [.int u6]) (q0 := 0) qm_516 qm_385 qm_386 qm_18 qm_387 hd_X8_sits ⟨rfl, rfl⟩ ⟨Nat.le_of_ble_eq_true rfl, Nat.le_of_ble_eq_true rfl⟩ rfl rfl (Nat.le_of_ble_eq_true rfl) rfl rfl rfl [0, 1, 2, 3, 4, 11, 12, 13, 14, 15, 16] rfl rfl rfl ⟨Nat.le_of_ble_eq_true rfl, Nat.le_of_ble_eq_true rfl⟩ dX8_standsFor_149 rfl ?_
      obtain ⟨u7, hu7, hf⟩ := ob_c hf
      refine sx_cNr X (c_X12_oneIf (l := l) (D := D) (T := T) (sd := sd) u6 hu7) (st' := [.int u7]) (X.sf.2.2.1.2.1 _ (List.mem_of_getElem? (i := 0) rfl)) qm_393 qm_13 qm_394 hd_X12_oneIf ⟨rfl, rfl⟩ ⟨Nat.le_of_ble_eq_true rfl, Nat.le_of_ble_eq_true rfl⟩ rfl rfl (Nat.le_of_ble_eq_true rfl) [] rfl rfl rfl ⟨Nat.le_of_ble_eq_true rfl, Nat.le_of_ble_eq_true rfl⟩ dX8_standsFor_152 rfl ?_
      exact sx_iret X rfl dX8_standsFor_155 (ob_e hf) rfl rfl
    · have hf := ob_f hf c5
      by_cases c8 : (smap x0) = 5
      · have hf := ob_t hf c8
        refine sx_tin X 156 dX8_standsFor_8 rfl (tin_X8_standsFor_8_2 (smap x0) c8) ?_
        refine sx_aload_n X 0 rfl dX8_standsFor_156 rfl ?_
        refine sx_iload_n X 2 rfl dX8_standsFor_157 rfl ?_
        refine sx_aload_n X 0 rfl dX8_standsFor_158 rfl ?_
        refine sx_get X kX8 0 rfl 4 (Nat.le_of_ble_eq_true rfl) qm_274 rfl dX8_standsFor_159 ?_
        obtain ⟨u9, hu9, hf⟩ := ob_c hf
        refine sx_cVr X (c_X8_wouldLike (l := l) (D := D) (T := T) (sd := sd) h h_reckoner h_plan h_frontSteeped h_guestServed h_guestStormed h_plan_fronts h_plan_guests h_plan_orders h_plan_guests_names h_plan_guests_from h_plan_guests_weakest h_plan_guests_strongest h_plan_guests_nerve x1 (X8_strength b_h) b_h b_h_plan_guests hu9) (st' := [.int u9]) (q0 := 0) qm_580 qm_513 qm_514 qm_18 qm_515 hd_X8_wouldLike ⟨rfl, rfl⟩ ⟨Nat.le_of_ble_eq_true rfl, Nat.le_of_ble_eq_true rfl⟩ rfl rfl (Nat.le_of_ble_eq_true rfl) rfl rfl rfl [0, 1, 2, 3, 4, 11, 12, 13, 14, 15, 16] rfl rfl rfl ⟨Nat.le_of_ble_eq_true rfl, Nat.le_of_ble_eq_true rfl⟩ dX8_standsFor_162 rfl ?_
        obtain ⟨u10, hu10, hf⟩ := ob_c hf
        refine sx_cNr X (c_X12_oneIf (l := l) (D := D) (T := T) (sd := sd) u9 hu10) (st' := [.int u10]) (X.sf.2.2.1.2.1 _ (List.mem_of_getElem? (i := 0) rfl)) qm_393 qm_13 qm_394 hd_X12_oneIf ⟨rfl, rfl⟩ ⟨Nat.le_of_ble_eq_true rfl, Nat.le_of_ble_eq_true rfl⟩ rfl rfl (Nat.le_of_ble_eq_true rfl) [] rfl rfl rfl ⟨Nat.le_of_ble_eq_true rfl, Nat.le_of_ble_eq_true rfl⟩ dX8_standsFor_165 rfl ?_
        exact sx_iret X rfl dX8_standsFor_168 (ob_e hf) rfl rfl
      · have hf := ob_f hf c8
        by_cases c11 : (smap x0) = 7
        · have hf := ob_t hf c11
          refine sx_tin X 72 dX8_standsFor_8 rfl (tin_X8_standsFor_8_3 (smap x0) c11) ?_
          refine sx_aload_n X 0 rfl dX8_standsFor_72 rfl ?_
          refine sx_get X kX8 0 rfl 2 (Nat.le_of_ble_eq_true rfl) qm_270 rfl dX8_standsFor_73 ?_
          exact sx_iret X rfl dX8_standsFor_76 (ob_e hf) rfl rfl
        · have hf := ob_f hf c11
          by_cases c12 : (smap x0) = 8
          · have hf := ob_t hf c12
            refine sx_tin X 77 dX8_standsFor_8 rfl (tin_X8_standsFor_8_4 (smap x0) c12) ?_
            refine sx_aload_n X 0 rfl dX8_standsFor_77 rfl ?_
            refine sx_get X kX8 0 rfl 3 (Nat.le_of_ble_eq_true rfl) qm_272 rfl dX8_standsFor_78 ?_
            exact sx_iret X rfl dX8_standsFor_81 (ob_e hf) rfl rfl
          · have hf := ob_f hf c12
            by_cases c13 : (smap x0) = 9
            · have hf := ob_t hf c13
              refine sx_tin X 82 dX8_standsFor_8 rfl (tin_X8_standsFor_8_5 (smap x0) c13) ?_
              refine sx_aload_n X 0 rfl dX8_standsFor_82 rfl ?_
              refine sx_get X kX8 0 rfl 4 (Nat.le_of_ble_eq_true rfl) qm_274 rfl dX8_standsFor_83 ?_
              exact sx_iret X rfl dX8_standsFor_86 (ob_e hf) rfl rfl
            · have hf := ob_f hf c13
              by_cases c14 : (smap x0) = 10
              · have hf := ob_t hf c14
                refine sx_tin X 87 dX8_standsFor_8 rfl (tin_X8_standsFor_8_6 (smap x0) c14) ?_
                refine sx_aload_n X 0 rfl dX8_standsFor_87 rfl ?_
                refine sx_get X kX8 0 rfl 5 (Nat.le_of_ble_eq_true rfl) qm_276 rfl dX8_standsFor_88 ?_
                exact sx_iret X rfl dX8_standsFor_91 (ob_e hf) rfl rfl
              · have hf := ob_f hf c14
                by_cases c15 : (smap x0) = 11
                · have hf := ob_t hf c15
                  refine sx_tin X 92 dX8_standsFor_8 rfl (tin_X8_standsFor_8_7 (smap x0) c15) ?_
                  refine sx_aload_n X 0 rfl dX8_standsFor_92 rfl ?_
                  refine sx_get X kX8 0 rfl 6 (Nat.le_of_ble_eq_true rfl) qm_278 rfl dX8_standsFor_93 ?_
                  exact sx_iret X rfl dX8_standsFor_96 (ob_e hf) rfl rfl
                · have hf := ob_f hf c15
                  by_cases c16 : (smap x0) = 12
                  · have hf := ob_t hf c16
                    refine sx_tin X 97 dX8_standsFor_8 rfl (tin_X8_standsFor_8_8 (smap x0) c16) ?_
                    refine sx_aload_n X 0 rfl dX8_standsFor_97 rfl ?_
                    refine sx_get X kX8 0 rfl 7 (Nat.le_of_ble_eq_true rfl) qm_280 rfl dX8_standsFor_98 ?_
                    exact sx_iret X rfl dX8_standsFor_101 (ob_e hf) rfl rfl
                  · have hf := ob_f hf c16
                    by_cases c17 : (smap x0) = 13
                    · have hf := ob_t hf c17
                      refine sx_tin X 102 dX8_standsFor_8 rfl (tin_X8_standsFor_8_9 (smap x0) c17) ?_
                      refine sx_aload_n X 0 rfl dX8_standsFor_102 rfl ?_
                      refine sx_get X kX8 0 rfl 9 (Nat.le_of_ble_eq_true rfl) qm_284 rfl dX8_standsFor_103 ?_
                      exact sx_iret X rfl dX8_standsFor_106 (ob_e hf) rfl rfl
                    · have hf := ob_f hf c17
                      by_cases c18 : (smap x0) = 14
                      · have hf := ob_t hf c18
                        refine sx_tin X 107 dX8_standsFor_8 rfl (tin_X8_standsFor_8_10 (smap x0) c18) ?_
                        refine sx_aload_n X 0 rfl dX8_standsFor_107 rfl ?_
                        refine sx_get X kX8 0 rfl 1 (Nat.le_of_ble_eq_true rfl) qm_268 rfl dX8_standsFor_108 ?_
                        refine sx_get X kX7 4 rfl 0 (Nat.le_of_ble_eq_true rfl) qm_250 rfl dX8_standsFor_111 ?_
                        refine sx_iload_n X 2 rfl dX8_standsFor_114 rfl ?_
                        obtain ⟨u19, hu19, hf⟩ := ob_c hf
                        refine sx_cVr X (c_X2_has (l := l) (D := D) (T := T) (sd := sd) h_plan_fronts h_plan_fronts_names h_plan_fronts_warm h_plan_fronts_force h_plan_fronts_from h_plan_fronts_hours x1 b_h_plan_fronts hu19) (st' := [.int u19]) (q0 := 5) qm_493 qm_415 qm_416 qm_21 qm_417 hd_X2_has ⟨rfl, rfl⟩ ⟨Nat.le_of_ble_eq_true rfl, Nat.le_of_ble_eq_true rfl⟩ rfl rfl (Nat.le_of_ble_eq_true rfl) rfl rfl rfl [5, 6, 7, 8, 9, 10] rfl rfl rfl ⟨Nat.le_of_ble_eq_true rfl, Nat.le_of_ble_eq_true rfl⟩ dX8_standsFor_115 rfl ?_
                        refine sx_if_eq X 136 dX8_standsFor_118 rfl (fun c20 => ?_) (fun c20 => ?_)
                        · have hf := ob_t hf c20
                          refine sx_iconst X (v := 0) dX8_standsFor_136 rfl ?_
                          exact sx_iret X rfl dX8_standsFor_137 (ob_e hf) rfl rfl
                        · have hf := ob_f hf c20
                          refine sx_aload_n X 0 rfl dX8_standsFor_121 rfl ?_
                          refine sx_get X kX8 0 rfl 1 (Nat.le_of_ble_eq_true rfl) qm_268 rfl dX8_standsFor_122 ?_
                          refine sx_get X kX7 4 rfl 0 (Nat.le_of_ble_eq_true rfl) qm_250 rfl dX8_standsFor_125 ?_
                          refine sx_get X kX2 5 rfl 2 (Nat.le_of_ble_eq_true rfl) qm_149 rfl dX8_standsFor_128 ?_
                          refine sx_iload_n X 2 rfl dX8_standsFor_131 rfl ?_
                          obtain ⟨g21, hf⟩ := ob_g hf
                          refine sx_iald X 8 rfl g21 dX8_standsFor_132 ?_
                          refine sx_goto X 137 dX8_standsFor_133 rfl ?_
                          exact sx_iret X rfl dX8_standsFor_137 (ob_e hf) rfl rfl
                      · have hf := ob_f hf c18
                        refine sx_tdef X 169 dX8_standsFor_8 rfl (tab_X8_standsFor_8 (smap x0) c2 c5 c8 c11 c12 c13 c14 c15 c16 c17 c18) ?_
                        refine sx_iconst X (v := 0) dX8_standsFor_169 rfl ?_
                        exact sx_iret X rfl dX8_standsFor_170 (ob_e hf) rfl rfl

abbrev vf_X9_pop (sd : SdT) (r : Int32 × Int32) : Option Value := some (.int r.1)
abbrev wc_X9_pop (T : Nat → ClassId) (sd : SdT) (h : Nat) (h_stack : Nat) (b_h : bX9) : va_W := [zO h 7 [.ref h_stack, .int (X9_height b_h)], zI T h_stack 400 (X9_stack b_h)]
abbrev wf_X9_pop (T : Nat → ClassId) (sd : SdT) (h : Nat) (h_stack : Nat) (b_h : bX9) (r : Int32 × Int32) : va_W := [zO h 7 [.ref h_stack, .int r.2], zI T h_stack 400 (X9_stack b_h)]
abbrev rm_X9_pop : Room := { frames := 0, cells := 0, slots := 0, locals := 0 }
theorem hd_X9_pop : yX9_pop.cls ≠ "java/lang/invoke/MethodHandle" ∧ yX9_pop.cls ≠ "java/lang/invoke/VarHandle" ∧ (parseMethodDescriptor yX9_pop.desc).map (fun d => d.parameters.length) = some 0 := ⟨by decide, by decide, by decide +kernel⟩
set_option maxHeartbeats 4000000 in
set_option maxRecDepth 100000 in
theorem c_X9_pop {l : Launch} {D : va_G} {T : Nat → ClassId} {sd : SdT} (h : Nat) (h_stack : Nat) (b_h : bX9) {res : Int32 × Int32} (hf : f_X9_pop b_h = some res) : SxK (SFx sd) l D T yX9_pop cX9_pop 1 (some .int) rm_X9_pop [.ref h] (wc_X9_pop T sd h h_stack b_h) (vf_X9_pop sd) (wf_X9_pop T sd h h_stack b_h) res 0 0 := by
  refine sx_start (SFx_ok sd) (by decide +kernel) (Nat.le_of_ble_eq_true rfl) (fun p e s m args below meth c A X hnm => ?_)
  have hf := ob_1 hf
  refine sx_aload_n X 0 rfl dX9_pop_0 rfl ?_
  refine sx_get X kX9 0 rfl 1 (Nat.le_of_ble_eq_true rfl) qm_126 rfl dX9_pop_1 ?_
  refine sx_if_gt X 9 dX9_pop_4 rfl (fun c1 => ?_) (fun c1 => ?_)
  · have hf := ob_t hf c1
    refine sx_aload_n X 0 rfl dX9_pop_9 rfl ?_
    refine sx_dup X dX9_pop_10 rfl ?_
    refine sx_get X kX9 0 rfl 1 (Nat.le_of_ble_eq_true rfl) qm_126 rfl dX9_pop_11 ?_
    refine sx_iconst X (v := 1) dX9_pop_14 rfl ?_
    refine sx_isub X dX9_pop_15 ?_
    refine sx_put X (ws' := [zO h 7 [.ref h_stack, .int ((X9_height b_h) - 1)], zI T h_stack 400 (X9_stack b_h)]) kX9 0 rfl 1 (Nat.le_of_ble_eq_true rfl) qm_126 rfl rfl rfl (Nat.le_of_ble_eq_true rfl) rfl dX9_pop_16 ?_
    refine sx_aload_n X 0 rfl dX9_pop_19 rfl ?_
    refine sx_get X kX9 0 rfl 0 (Nat.le_of_ble_eq_true rfl) qm_125 rfl dX9_pop_20 ?_
    refine sx_aload_n X 0 rfl dX9_pop_23 rfl ?_
    refine sx_get X kX9 0 rfl 1 (Nat.le_of_ble_eq_true rfl) qm_126 rfl dX9_pop_24 ?_
    obtain ⟨g2, hf⟩ := ob_g hf
    refine sx_iald X 1 rfl g2 dX9_pop_27 ?_
    exact sx_iret X rfl dX9_pop_28 (ob_e hf) rfl rfl
  · have hf := ob_f hf c1
    refine sx_iconst X (v := 0) dX9_pop_7 rfl ?_
    exact sx_iret X rfl dX9_pop_8 (ob_e hf) rfl rfl
