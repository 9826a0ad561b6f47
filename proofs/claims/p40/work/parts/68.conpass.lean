/-! contracts: pass -/
abbrev vf_X18_pass (sd : SdT) (r : Int32 × Int32 × Int32 × Int32 × Int32 × Int32 × Int32 × Int32 × Int32 × (Nat → Int32) × (Nat → Int32)) : Option Value := some (.int r.1)
abbrev wc_X18_pass (T : Nat → ClassId) (sd : SdT) (h : Nat) (h_fronts : Nat) (h_guests : Nat) (h_orders : Nat) (h_rF : Nat → Nat) (h_rG : Nat → Nat) (b_h : bY18) : va_W := zO h 16 [.ref h_fronts, .ref h_guests, .ref h_orders, .int (Y18_hour b_h), .int (Y18_warmth b_h), .int (Y18_strength b_h), .int (Y18_charge b_h), .int (Y18_lemons b_h), .int (Y18_saucers b_h), .int (Y18_coins b_h), .int (Y18_storms b_h)] :: zR T 5 h_fronts (Y18_nf b_h) h_rF :: zR T 6 h_guests (Y18_ng b_h) h_rG :: zT h_rF h_rG (Y18_nf b_h) (Y18_ng b_h) (Y18_Fw b_h) (Y18_Ff b_h) (Y18_Fa b_h) (Y18_Fs b_h) (Y18_Fp b_h) (Y18_Ga b_h) (Y18_Gl b_h) (Y18_Gh b_h) (Y18_Gn b_h) (Y18_Gp b_h)
abbrev wf_X18_pass (T : Nat → ClassId) (sd : SdT) (h : Nat) (h_fronts : Nat) (h_guests : Nat) (h_orders : Nat) (h_rF : Nat → Nat) (h_rG : Nat → Nat) (b_h : bY18) (r : Int32 × Int32 × Int32 × Int32 × Int32 × Int32 × Int32 × Int32 × Int32 × (Nat → Int32) × (Nat → Int32)) : va_W := zO h 16 [.ref h_fronts, .ref h_guests, .ref h_orders, .int r.2.1, .int r.2.2.1, .int r.2.2.2.1, .int r.2.2.2.2.1, .int r.2.2.2.2.2.1, .int r.2.2.2.2.2.2.1, .int r.2.2.2.2.2.2.2.1, .int r.2.2.2.2.2.2.2.2.1] :: zR T 5 h_fronts (Y18_nf b_h) h_rF :: zR T 6 h_guests (Y18_ng b_h) h_rG :: zT h_rF h_rG (Y18_nf b_h) (Y18_ng b_h) (Y18_Fw b_h) (Y18_Ff b_h) (Y18_Fa b_h) (Y18_Fs b_h) r.2.2.2.2.2.2.2.2.2.1 (Y18_Ga b_h) (Y18_Gl b_h) (Y18_Gh b_h) (Y18_Gn b_h) r.2.2.2.2.2.2.2.2.2.2
abbrev rm_X18_pass : Room := { frames := 15, cells := 0, slots := 0, locals := 721 }
theorem hd_X18_pass : yX18_pass.cls ≠ "java/lang/invoke/MethodHandle" ∧ yX18_pass.cls ≠ "java/lang/invoke/VarHandle" ∧ (parseMethodDescriptor yX18_pass.desc).map (fun d => d.parameters.length) = some 0 := ⟨by decide, by decide, by decide +kernel⟩
set_option maxHeartbeats 4000000 in
set_option maxRecDepth 100000 in
theorem c_X18_pass {l : Launch} {D : va_G} {T : Nat → ClassId} {sd : SdT} {rQ : Nat → Nat} (h : Nat) (h_fronts : Nat) (h_guests : Nat) (h_orders : Nat) (h_rF : Nat → Nat) (h_rG : Nat → Nat) (n : Nat) (os : List Od) (b_h : bY18) {res : Int32 × Int32 × Int32 × Int32 × Int32 × Int32 × Int32 × Int32 × Int32 × (Nat → Int32) × (Nat → Int32)} (hf : f_X18_pass n os b_h = some res) : SxK (SFq sd h_orders rQ os) l D T yX18_pass cX18_pass 9 (some .int) rm_X18_pass [.ref h] (wc_X18_pass T sd h h_fronts h_guests h_orders h_rF h_rG b_h) (vf_X18_pass sd) (wf_X18_pass T sd h h_fronts h_guests h_orders h_rF h_rG b_h) res 0 0 := by
  refine sx_start (SFq_ok sd _ rQ os) (by decide +kernel) (Nat.le_of_ble_eq_true rfl) (fun p e s m args below meth c A X hnm => ?_)
  have XQ := X
  have X := XQ.dn (SFx_ok sd)
  have hf := ob_1 hf
  have L434 : ∀ (v4 : Int32) (v6 : Int32) (w_h_hour : Int32) (w_h_warmth : Int32) (w_h_strength : Int32) (w_h_charge : Int32) (w_h_lemons : Int32) (w_h_saucers : Int32) (w_h_coins : Int32) (w_h_storms : Int32) (w_h_Fp : Nat → Int32) (n0 : Nat) (v7 : Int32) (w_h_Gp : Nat → Int32), (iter (fun s : Int32 × (Nat → Int32) => f_X18_pass_L434 n os b_h v4 v6 s.1 w_h_hour w_h_warmth w_h_strength w_h_charge w_h_lemons w_h_saucers w_h_coins w_h_storms w_h_Fp s.2) n0 (v7, w_h_Gp)).bind some = some res → SxG p l e rm_X18_pass s m args below meth c D A 9 0 0 (SxE below args s D A (vf_X18_pass sd) (wf_X18_pass T sd h h_fronts h_guests h_orders h_rF h_rG b_h) res 0 0) (zO h 16 [.ref h_fronts, .ref h_guests, .ref h_orders, .int w_h_hour, .int w_h_warmth, .int w_h_strength, .int w_h_charge, .int w_h_lemons, .int w_h_saucers, .int w_h_coins, .int w_h_storms] :: zR T 5 h_fronts (Y18_nf b_h) h_rF :: zR T 6 h_guests (Y18_ng b_h) h_rG :: zT h_rF h_rG (Y18_nf b_h) (Y18_ng b_h) (Y18_Fw b_h) (Y18_Ff b_h) (Y18_Fa b_h) (Y18_Fs b_h) w_h_Fp (Y18_Ga b_h) (Y18_Gl b_h) (Y18_Gh b_h) (Y18_Gn b_h) w_h_Gp) [(0, .ref h), (4, .int v4), (5, .ref h_guests), (6, .int v6), (7, .int v7)] 434 [] := by
    intro v4 v6 w_h_hour w_h_warmth w_h_strength w_h_charge w_h_lemons w_h_saucers w_h_coins w_h_storms w_h_Fp n0
    induction n0 with
    | zero =>
      intro v7 w_h_Gp hf
      exact (iter_z hf).elim
    | succ n0 ih434 =>
      intro v7 w_h_Gp hf
      obtain ⟨κ434, hκ434, hf⟩ := iter_k hf
      have hf : (f_X18_pass_L434 n os b_h v4 v6 v7 w_h_hour w_h_warmth w_h_strength w_h_charge w_h_lemons w_h_saucers w_h_coins w_h_storms w_h_Fp w_h_Gp).bind κ434 = some res := hf
      refine sx_iload X 4 rfl dX18_pass_434 ?_
      refine sx_iload X 3 rfl dX18_pass_436 ?_
      refine sx_icmp_ge X 484 dX18_pass_438 rfl (fun c11 => ?_) (fun c11 => ?_)
      · have hf := ob_t hf c11
        refine sx_aload_n X 0 rfl dX18_pass_484 rfl ?_
        obtain ⟨u12, hu12, hf⟩ := ob_c hf
        refine sx_cV X (c_X18_come (l := l) (D := D) (T := T) (sd := sd) h h_fronts h_guests h_orders h_rF h_rG n (w_h_hour, w_h_warmth, w_h_strength, w_h_charge, w_h_lemons, w_h_saucers, w_h_coins, w_h_storms, (Y18_Fw b_h), (Y18_Ff b_h), (Y18_Fa b_h), (Y18_Fs b_h), w_h_Fp, (Y18_Ga b_h), (Y18_Gl b_h), (Y18_Gh b_h), (Y18_Gn b_h), w_h_Gp, (Y18_nf b_h), (Y18_ng b_h)) hu12) (st' := []) (q0 := 0) qm_737 qm_738 qm_739 qm_29 qm_740 hd_X18_come ⟨rfl, rfl⟩ ⟨Nat.le_of_ble_eq_true rfl, Nat.le_of_ble_eq_true rfl⟩ rfl rfl (Nat.le_of_ble_eq_true rfl) rfl rfl rfl ([0, 1, 2] ++ List.range' 3 (zT h_rF h_rG (Y18_nf b_h) (Y18_ng b_h) (Y18_Fw b_h) (Y18_Ff b_h) (Y18_Fa b_h) (Y18_Fs b_h) w_h_Fp (Y18_Ga b_h) (Y18_Gl b_h) (Y18_Gh b_h) (Y18_Gn b_h) w_h_Gp).length) (tc_C (fx := [zO h 16 [.ref h_fronts, .ref h_guests, .ref h_orders, .int w_h_hour, .int w_h_warmth, .int w_h_strength, .int w_h_charge, .int w_h_lemons, .int w_h_saucers, .int w_h_coins, .int w_h_storms], zR T 5 h_fronts (Y18_nf b_h) h_rF, zR T 6 h_guests (Y18_ng b_h) h_rG]) (fc := [zO h 16 [.ref h_fronts, .ref h_guests, .ref h_orders, .int w_h_hour, .int w_h_warmth, .int w_h_strength, .int w_h_charge, .int w_h_lemons, .int w_h_saucers, .int w_h_coins, .int w_h_storms], zR T 5 h_fronts (Y18_nf b_h) h_rF, zR T 6 h_guests (Y18_ng b_h) h_rG]) (tl := zT h_rF h_rG (Y18_nf b_h) (Y18_ng b_h) (Y18_Fw b_h) (Y18_Ff b_h) (Y18_Fa b_h) (Y18_Fs b_h) w_h_Fp (Y18_Ga b_h) (Y18_Gl b_h) (Y18_Gh b_h) (Y18_Gn b_h) w_h_Gp) rfl rfl rfl rfl (by decide)) (tl_nd rfl (by decide)) (ws' := zO h 16 [.ref h_fronts, .ref h_guests, .ref h_orders, .int w_h_hour, .int w_h_warmth, .int w_h_strength, .int w_h_charge, .int w_h_lemons, .int w_h_saucers, .int w_h_coins, .int w_h_storms] :: zR T 5 h_fronts (Y18_nf b_h) h_rF :: zR T 6 h_guests (Y18_ng b_h) h_rG :: zT h_rF h_rG (Y18_nf b_h) (Y18_ng b_h) (Y18_Fw b_h) (Y18_Ff b_h) (Y18_Fa b_h) (Y18_Fs b_h) u12.1 (Y18_Ga b_h) (Y18_Gl b_h) (Y18_Gh b_h) (Y18_Gn b_h) u12.2) (tc_W (fx := [zO h 16 [.ref h_fronts, .ref h_guests, .ref h_orders, .int w_h_hour, .int w_h_warmth, .int w_h_strength, .int w_h_charge, .int w_h_lemons, .int w_h_saucers, .int w_h_coins, .int w_h_storms], zR T 5 h_fronts (Y18_nf b_h) h_rF, zR T 6 h_guests (Y18_ng b_h) h_rG]) (fx' := [zO h 16 [.ref h_fronts, .ref h_guests, .ref h_orders, .int w_h_hour, .int w_h_warmth, .int w_h_strength, .int w_h_charge, .int w_h_lemons, .int w_h_saucers, .int w_h_coins, .int w_h_storms], zR T 5 h_fronts (Y18_nf b_h) h_rF, zR T 6 h_guests (Y18_ng b_h) h_rG]) (fc' := [zO h 16 [.ref h_fronts, .ref h_guests, .ref h_orders, .int w_h_hour, .int w_h_warmth, .int w_h_strength, .int w_h_charge, .int w_h_lemons, .int w_h_saucers, .int w_h_coins, .int w_h_storms], zR T 5 h_fronts (Y18_nf b_h) h_rF, zR T 6 h_guests (Y18_ng b_h) h_rG]) (tl := zT h_rF h_rG (Y18_nf b_h) (Y18_ng b_h) (Y18_Fw b_h) (Y18_Ff b_h) (Y18_Fa b_h) (Y18_Fs b_h) w_h_Fp (Y18_Ga b_h) (Y18_Gl b_h) (Y18_Gh b_h) (Y18_Gn b_h) w_h_Gp) (tl' := zT h_rF h_rG (Y18_nf b_h) (Y18_ng b_h) (Y18_Fw b_h) (Y18_Ff b_h) (Y18_Fa b_h) (Y18_Fs b_h) u12.1 (Y18_Ga b_h) (Y18_Gl b_h) (Y18_Gh b_h) (Y18_Gn b_h) u12.2) rfl rfl rfl rfl zT_ln (by decide) (sxPatch_pk [(true, 0), (true, 1), (true, 2)] (by decide +kernel) rfl rfl rfl) rfl) (tc_a (fc := [zO h 16 [.ref h_fronts, .ref h_guests, .ref h_orders, .int w_h_hour, .int w_h_warmth, .int w_h_strength, .int w_h_charge, .int w_h_lemons, .int w_h_saucers, .int w_h_coins, .int w_h_storms], zR T 5 h_fronts (Y18_nf b_h) h_rF, zR T 6 h_guests (Y18_ng b_h) h_rG]) (fc' := [zO h 16 [.ref h_fronts, .ref h_guests, .ref h_orders, .int w_h_hour, .int w_h_warmth, .int w_h_strength, .int w_h_charge, .int w_h_lemons, .int w_h_saucers, .int w_h_coins, .int w_h_storms], zR T 5 h_fronts (Y18_nf b_h) h_rF, zR T 6 h_guests (Y18_ng b_h) h_rG]) (tl := zT h_rF h_rG (Y18_nf b_h) (Y18_ng b_h) (Y18_Fw b_h) (Y18_Ff b_h) (Y18_Fa b_h) (Y18_Fs b_h) w_h_Fp (Y18_Ga b_h) (Y18_Gl b_h) (Y18_Gh b_h) (Y18_Gn b_h) w_h_Gp) (tl' := zT h_rF h_rG (Y18_nf b_h) (Y18_ng b_h) (Y18_Fw b_h) (Y18_Ff b_h) (Y18_Fa b_h) (Y18_Fs b_h) u12.1 (Y18_Ga b_h) (Y18_Gl b_h) (Y18_Gh b_h) (Y18_Gn b_h) u12.2) rfl rfl rfl zT_fst) ⟨Nat.le_of_ble_eq_true rfl, Nat.le_of_ble_eq_true rfl⟩ dX18_pass_485 rfl ?_
        refine sx_iload X 1 rfl dX18_pass_488 ?_
        refine sx_if_eq X 497 dX18_pass_490 rfl (fun c13 => ?_) (fun c13 => ?_)
        · have hf := ob_t hf c13
          refine sx_iconst X (v := 0) dX18_pass_497 rfl ?_
          have hf := ob_kr hκ434 hf
          exact sx_iret X rfl dX18_pass_498 (ob_e hf) rfl rfl
        · have hf := ob_f hf c13
          refine sx_iconst X (v := 1) dX18_pass_493 rfl ?_
          refine sx_goto X 498 dX18_pass_494 rfl ?_
          have hf := ob_kr hκ434 hf
          exact sx_iret X rfl dX18_pass_498 (ob_e hf) rfl rfl
      · have hf := ob_f hf c11
        refine sx_aload X 2 rfl dX18_pass_441 ?_
        refine sx_iload X 4 rfl dX18_pass_443 ?_
        obtain ⟨g14, hf⟩ := ob_g hf
        refine sx_Rld X (t0 := 6) (f := h_rG) 2 rfl rfl g14 dX18_pass_445 ?_
        refine sx_astore X (lv' := [(8, .ref (h_rG v7.toNatClampNeg)), (0, .ref h), (4, .int v4), (5, .ref h_guests), (6, .int v6), (7, .int v7)]) dX18_pass_446 (by decide) rfl ?_
        refine sx_aload X 0 rfl dX18_pass_448 ?_
        refine sx_get X kX15 ((Y18_nf b_h) + v7.toNatClampNeg + 1 + 1 + 1) (at_s (at_s (at_s (zT_G (fl_lt g14))))) 4 (Nat.le_of_ble_eq_true rfl) qm_1371 rfl dX18_pass_450 ?_
        refine sx_iconst X (v := 1) dX18_pass_453 rfl ?_
        refine sx_icmp_ne X 478 dX18_pass_454 rfl (fun c15 => ?_) (fun c15 => ?_)
        · have hf := ob_f hf c15
          refine sx_iinc X (v := (v7 + 1)) (lv' := [(7, .int (v7 + 1)), (8, .ref (h_rG v7.toNatClampNeg)), (0, .ref h), (4, .int v4), (5, .ref h_guests), (6, .int v6)]) 5 rfl dX18_pass_478 rfl (by decide) rfl ?_
          refine sx_goto X 434 dX18_pass_481 rfl ?_
          have hf := ob_k hκ434 hf
          refine sx_lsub [2, 3, 4, 5, 0] rfl ?_
          exact ih434 (v7 + 1) w_h_Gp hf
        · have hf := ob_t hf c15
          refine sx_aload X 0 rfl dX18_pass_457 ?_
          refine sx_get X kX15 ((Y18_nf b_h) + v7.toNatClampNeg + 1 + 1 + 1) (at_s (at_s (at_s (zT_G (fl_lt g14))))) 0 (Nat.le_of_ble_eq_true rfl) qm_1364 rfl dX18_pass_459 ?_
          refine sx_bipush X (v := 8) dX18_pass_462 rfl ?_
          refine sx_iadd X dX18_pass_464 ?_
          refine sx_aload_n X 1 rfl dX18_pass_465 rfl ?_
          refine sx_get X kX18 0 rfl 3 (Nat.le_of_ble_eq_true rfl) qm_1152 rfl dX18_pass_466 ?_
          refine sx_icmp_gt X 478 dX18_pass_469 rfl (fun c16 => ?_) (fun c16 => ?_)
          · have hf := ob_t hf c16
            refine sx_iinc X (v := (v7 + 1)) (lv' := [(7, .int (v7 + 1)), (8, .ref (h_rG v7.toNatClampNeg)), (0, .ref h), (4, .int v4), (5, .ref h_guests), (6, .int v6)]) 5 rfl dX18_pass_478 rfl (by decide) rfl ?_
            refine sx_goto X 434 dX18_pass_481 rfl ?_
            have hf := ob_k hκ434 hf
            refine sx_lsub [2, 3, 4, 5, 0] rfl ?_
            exact ih434 (v7 + 1) w_h_Gp hf
          · have hf := ob_f hf c16
            refine sx_aload X 0 rfl dX18_pass_472 ?_
            refine sx_iconst X (v := 0) dX18_pass_474 rfl ?_
            refine sx_put X (ws' := zO h 16 [.ref h_fronts, .ref h_guests, .ref h_orders, .int w_h_hour, .int w_h_warmth, .int w_h_strength, .int w_h_charge, .int w_h_lemons, .int w_h_saucers, .int w_h_coins, .int w_h_storms] :: zR T 5 h_fronts (Y18_nf b_h) h_rF :: zR T 6 h_guests (Y18_ng b_h) h_rG :: zT h_rF h_rG (Y18_nf b_h) (Y18_ng b_h) (Y18_Fw b_h) (Y18_Ff b_h) (Y18_Fa b_h) (Y18_Fs b_h) w_h_Fp (Y18_Ga b_h) (Y18_Gl b_h) (Y18_Gh b_h) (Y18_Gn b_h) (upd w_h_Gp v7.toNatClampNeg 0)) kX15 ((Y18_nf b_h) + v7.toNatClampNeg + 1 + 1 + 1) (at_s (at_s (at_s (zT_G (fl_lt g14))))) 4 (Nat.le_of_ble_eq_true rfl) qm_1371 rfl rfl rfl (Nat.le_of_ble_eq_true rfl) (set_s (set_s (set_s (zT_Gs (fl_lt g14))))) dX18_pass_475 ?_
            refine sx_iinc X (v := (v7 + 1)) (lv' := [(7, .int (v7 + 1)), (8, .ref (h_rG v7.toNatClampNeg)), (0, .ref h), (4, .int v4), (5, .ref h_guests), (6, .int v6)]) 5 rfl dX18_pass_478 rfl (by decide) rfl ?_
            refine sx_goto X 434 dX18_pass_481 rfl ?_
            have hf := ob_k hκ434 hf
            refine sx_lsub [2, 3, 4, 5, 0] rfl ?_
            exact ih434 (v7 + 1) (upd w_h_Gp v7.toNatClampNeg 0) hf
  have L367 : ∀ (v4 : Int32) (v6 : Int32) (w_h_hour : Int32) (w_h_warmth : Int32) (w_h_strength : Int32) (w_h_charge : Int32) (w_h_lemons : Int32) (w_h_saucers : Int32) (w_h_coins : Int32) (w_h_storms : Int32) (w_h_Gp : Nat → Int32) (n0 : Nat) (v7 : Int32) (w_h_Fp : Nat → Int32), (iter (fun s : Int32 × (Nat → Int32) => f_X18_pass_L367 n os b_h v4 v6 s.1 w_h_hour w_h_warmth w_h_strength w_h_charge w_h_lemons w_h_saucers w_h_coins w_h_storms s.2 w_h_Gp) n0 (v7, w_h_Fp)).bind some = some res → SxG p l e rm_X18_pass s m args below meth c D A 9 0 0 (SxE below args s D A (vf_X18_pass sd) (wf_X18_pass T sd h h_fronts h_guests h_orders h_rF h_rG b_h) res 0 0) (zO h 16 [.ref h_fronts, .ref h_guests, .ref h_orders, .int w_h_hour, .int w_h_warmth, .int w_h_strength, .int w_h_charge, .int w_h_lemons, .int w_h_saucers, .int w_h_coins, .int w_h_storms] :: zR T 5 h_fronts (Y18_nf b_h) h_rF :: zR T 6 h_guests (Y18_ng b_h) h_rG :: zT h_rF h_rG (Y18_nf b_h) (Y18_ng b_h) (Y18_Fw b_h) (Y18_Ff b_h) (Y18_Fa b_h) (Y18_Fs b_h) w_h_Fp (Y18_Ga b_h) (Y18_Gl b_h) (Y18_Gh b_h) (Y18_Gn b_h) w_h_Gp) [(0, .ref h), (4, .int v4), (5, .ref h_fronts), (6, .int v6), (7, .int v7)] 367 [] := by
    intro v4 v6 w_h_hour w_h_warmth w_h_strength w_h_charge w_h_lemons w_h_saucers w_h_coins w_h_storms w_h_Gp n0
    induction n0 with
    | zero =>
      intro v7 w_h_Fp hf
      exact (iter_z hf).elim
    | succ n0 ih367 =>
      intro v7 w_h_Fp hf
      obtain ⟨κ367, hκ367, hf⟩ := iter_k hf
      have hf : (f_X18_pass_L367 n os b_h v4 v6 v7 w_h_hour w_h_warmth w_h_strength w_h_charge w_h_lemons w_h_saucers w_h_coins w_h_storms w_h_Fp w_h_Gp).bind κ367 = some res := hf
      refine sx_iload X 4 rfl dX18_pass_367 ?_
      refine sx_iload X 3 rfl dX18_pass_369 ?_
      refine sx_icmp_ge X 420 dX18_pass_371 rfl (fun c10 => ?_) (fun c10 => ?_)
      · have hf := ob_t hf c10
        refine sx_aload_n X 0 rfl dX18_pass_420 rfl ?_
        refine sx_get X kX18 0 rfl 1 (Nat.le_of_ble_eq_true rfl) qm_1146 rfl dX18_pass_421 ?_
        refine sx_astore X (lv' := [(5, .ref h_guests), (0, .ref h), (4, .int v4), (6, .int v6), (7, .int v7)]) dX18_pass_424 (by decide) rfl ?_
        refine sx_aload X 0 rfl dX18_pass_426 ?_
        refine sx_alen X (t0 := 6) (v := (nI (Y18_ng b_h))) 2 rfl rfl rfl dX18_pass_428 ?_
        refine sx_istore X (lv' := [(6, .int (nI (Y18_ng b_h))), (5, .ref h_guests), (0, .ref h), (4, .int v4), (7, .int v7)]) dX18_pass_429 (by decide) rfl ?_
        refine sx_iconst X (v := 0) dX18_pass_431 rfl ?_
        refine sx_istore X (lv' := [(7, .int 0), (6, .int (nI (Y18_ng b_h))), (5, .ref h_guests), (0, .ref h), (4, .int v4)]) dX18_pass_432 (by decide) rfl ?_
        have hf := ob_kx hκ367 hf
        refine sx_lsub [3, 4, 2, 1, 0] rfl ?_
        exact L434 v4 (nI (Y18_ng b_h)) w_h_hour w_h_warmth w_h_strength w_h_charge w_h_lemons w_h_saucers w_h_coins w_h_storms w_h_Fp n 0 w_h_Gp hf
      · have hf := ob_f hf c10
        refine sx_aload X 2 rfl dX18_pass_374 ?_
        refine sx_iload X 4 rfl dX18_pass_376 ?_
        obtain ⟨g17, hf⟩ := ob_g hf
        refine sx_Rld X (t0 := 5) (f := h_rF) 1 rfl rfl g17 dX18_pass_378 ?_
        refine sx_astore X (lv' := [(8, .ref (h_rF v7.toNatClampNeg)), (0, .ref h), (4, .int v4), (5, .ref h_fronts), (6, .int v6), (7, .int v7)]) dX18_pass_379 (by decide) rfl ?_
        refine sx_aload X 0 rfl dX18_pass_381 ?_
        refine sx_get X kX14 (v7.toNatClampNeg + 1 + 1 + 1) (at_s (at_s (at_s (zT_F (fl_lt g17))))) 4 (Nat.le_of_ble_eq_true rfl) qm_1208 rfl dX18_pass_383 ?_
        refine sx_iconst X (v := 1) dX18_pass_386 rfl ?_
        refine sx_icmp_ne X 414 dX18_pass_387 rfl (fun c18 => ?_) (fun c18 => ?_)
        · have hf := ob_f hf c18
          refine sx_iinc X (v := (v7 + 1)) (lv' := [(7, .int (v7 + 1)), (8, .ref (h_rF v7.toNatClampNeg)), (0, .ref h), (4, .int v4), (5, .ref h_fronts), (6, .int v6)]) 5 rfl dX18_pass_414 rfl (by decide) rfl ?_
          refine sx_goto X 367 dX18_pass_417 rfl ?_
          have hf := ob_k hκ367 hf
          refine sx_lsub [2, 3, 4, 5, 0] rfl ?_
          exact ih367 (v7 + 1) w_h_Fp hf
        · have hf := ob_t hf c18
          refine sx_aload X 0 rfl dX18_pass_390 ?_
          refine sx_get X kX14 (v7.toNatClampNeg + 1 + 1 + 1) (at_s (at_s (at_s (zT_F (fl_lt g17))))) 2 (Nat.le_of_ble_eq_true rfl) qm_1205 rfl dX18_pass_392 ?_
          refine sx_aload X 0 rfl dX18_pass_395 ?_
          refine sx_get X kX14 (v7.toNatClampNeg + 1 + 1 + 1) (at_s (at_s (at_s (zT_F (fl_lt g17))))) 3 (Nat.le_of_ble_eq_true rfl) qm_1207 rfl dX18_pass_397 ?_
          refine sx_iadd X dX18_pass_400 ?_
          refine sx_aload_n X 1 rfl dX18_pass_401 rfl ?_
          refine sx_get X kX18 0 rfl 3 (Nat.le_of_ble_eq_true rfl) qm_1152 rfl dX18_pass_402 ?_
          refine sx_icmp_gt X 414 dX18_pass_405 rfl (fun c19 => ?_) (fun c19 => ?_)
          · have hf := ob_t hf c19
            refine sx_iinc X (v := (v7 + 1)) (lv' := [(7, .int (v7 + 1)), (8, .ref (h_rF v7.toNatClampNeg)), (0, .ref h), (4, .int v4), (5, .ref h_fronts), (6, .int v6)]) 5 rfl dX18_pass_414 rfl (by decide) rfl ?_
            refine sx_goto X 367 dX18_pass_417 rfl ?_
            have hf := ob_k hκ367 hf
            refine sx_lsub [2, 3, 4, 5, 0] rfl ?_
            exact ih367 (v7 + 1) w_h_Fp hf
          · have hf := ob_f hf c19
            refine sx_aload X 0 rfl dX18_pass_408 ?_
            refine sx_iconst X (v := 0) dX18_pass_410 rfl ?_
            refine sx_put X (ws' := zO h 16 [.ref h_fronts, .ref h_guests, .ref h_orders, .int w_h_hour, .int w_h_warmth, .int w_h_strength, .int w_h_charge, .int w_h_lemons, .int w_h_saucers, .int w_h_coins, .int w_h_storms] :: zR T 5 h_fronts (Y18_nf b_h) h_rF :: zR T 6 h_guests (Y18_ng b_h) h_rG :: zT h_rF h_rG (Y18_nf b_h) (Y18_ng b_h) (Y18_Fw b_h) (Y18_Ff b_h) (Y18_Fa b_h) (Y18_Fs b_h) (upd w_h_Fp v7.toNatClampNeg 0) (Y18_Ga b_h) (Y18_Gl b_h) (Y18_Gh b_h) (Y18_Gn b_h) w_h_Gp) kX14 (v7.toNatClampNeg + 1 + 1 + 1) (at_s (at_s (at_s (zT_F (fl_lt g17))))) 4 (Nat.le_of_ble_eq_true rfl) qm_1208 rfl rfl rfl (Nat.le_of_ble_eq_true rfl) (set_s (set_s (set_s (zT_Fs (fl_lt g17))))) dX18_pass_411 ?_
            refine sx_iinc X (v := (v7 + 1)) (lv' := [(7, .int (v7 + 1)), (8, .ref (h_rF v7.toNatClampNeg)), (0, .ref h), (4, .int v4), (5, .ref h_fronts), (6, .int v6)]) 5 rfl dX18_pass_414 rfl (by decide) rfl ?_
            refine sx_goto X 367 dX18_pass_417 rfl ?_
            have hf := ob_k hκ367 hf
            refine sx_lsub [2, 3, 4, 5, 0] rfl ?_
            exact ih367 (v7 + 1) (upd w_h_Fp v7.toNatClampNeg 0) hf
  have R343 : ∀ (v4 : Int32) (w_h_hour : Int32) (w_h_warmth : Int32) (w_h_strength : Int32) (w_h_charge : Int32) (w_h_lemons : Int32) (w_h_saucers : Int32) (w_h_coins : Int32) (w_h_storms : Int32) (w_h_Fp : Nat → Int32) (w_h_Gp : Nat → Int32), (f_X18_pass_R343 n os b_h v4 w_h_hour w_h_warmth w_h_strength w_h_charge w_h_lemons w_h_saucers w_h_coins w_h_storms w_h_Fp w_h_Gp).bind some = some res → SxG p l e rm_X18_pass s m args below meth c D A 9 0 0 (SxE below args s D A (vf_X18_pass sd) (wf_X18_pass T sd h h_fronts h_guests h_orders h_rF h_rG b_h) res 0 0) (zO h 16 [.ref h_fronts, .ref h_guests, .ref h_orders, .int w_h_hour, .int w_h_warmth, .int w_h_strength, .int w_h_charge, .int w_h_lemons, .int w_h_saucers, .int w_h_coins, .int w_h_storms] :: zR T 5 h_fronts (Y18_nf b_h) h_rF :: zR T 6 h_guests (Y18_ng b_h) h_rG :: zT h_rF h_rG (Y18_nf b_h) (Y18_ng b_h) (Y18_Fw b_h) (Y18_Ff b_h) (Y18_Fa b_h) (Y18_Fs b_h) w_h_Fp (Y18_Ga b_h) (Y18_Gl b_h) (Y18_Gh b_h) (Y18_Gn b_h) w_h_Gp) [(0, .ref h), (4, .int v4)] 343 [] := by
    intro v4 w_h_hour w_h_warmth w_h_strength w_h_charge w_h_lemons w_h_saucers w_h_coins w_h_storms w_h_Fp w_h_Gp hf
    refine sx_aload_n X 0 rfl dX18_pass_343 rfl ?_
    refine sx_dup X dX18_pass_344 rfl ?_
    refine sx_get X kX18 0 rfl 3 (Nat.le_of_ble_eq_true rfl) qm_1152 rfl dX18_pass_345 ?_
    refine sx_iconst X (v := 1) dX18_pass_348 rfl ?_
    refine sx_iadd X dX18_pass_349 ?_
    refine sx_put X (ws' := zO h 16 [.ref h_fronts, .ref h_guests, .ref h_orders, .int (w_h_hour + 1), .int w_h_warmth, .int w_h_strength, .int w_h_charge, .int w_h_lemons, .int w_h_saucers, .int w_h_coins, .int w_h_storms] :: zR T 5 h_fronts (Y18_nf b_h) h_rF :: zR T 6 h_guests (Y18_ng b_h) h_rG :: zT h_rF h_rG (Y18_nf b_h) (Y18_ng b_h) (Y18_Fw b_h) (Y18_Ff b_h) (Y18_Fa b_h) (Y18_Fs b_h) w_h_Fp (Y18_Ga b_h) (Y18_Gl b_h) (Y18_Gh b_h) (Y18_Gn b_h) w_h_Gp) kX18 0 rfl 3 (Nat.le_of_ble_eq_true rfl) qm_1152 rfl rfl rfl (Nat.le_of_ble_eq_true rfl) rfl dX18_pass_350 ?_
    refine sx_aload_n X 0 rfl dX18_pass_353 rfl ?_
    refine sx_get X kX18 0 rfl 0 (Nat.le_of_ble_eq_true rfl) qm_1143 rfl dX18_pass_354 ?_
    refine sx_astore X (lv' := [(5, .ref h_fronts), (0, .ref h), (4, .int v4)]) dX18_pass_357 (by decide) rfl ?_
    refine sx_aload X 0 rfl dX18_pass_359 ?_
    refine sx_alen X (t0 := 5) (v := (nI (Y18_nf b_h))) 1 rfl rfl rfl dX18_pass_361 ?_
    refine sx_istore X (lv' := [(6, .int (nI (Y18_nf b_h))), (5, .ref h_fronts), (0, .ref h), (4, .int v4)]) dX18_pass_362 (by decide) rfl ?_
    refine sx_iconst X (v := 0) dX18_pass_364 rfl ?_
    refine sx_istore X (lv' := [(7, .int 0), (6, .int (nI (Y18_nf b_h))), (5, .ref h_fronts), (0, .ref h), (4, .int v4)]) dX18_pass_365 (by decide) rfl ?_
    refine sx_lsub [3, 4, 2, 1, 0] rfl ?_
    exact L367 v4 (nI (Y18_nf b_h)) (w_h_hour + 1) w_h_warmth w_h_strength w_h_charge w_h_lemons w_h_saucers w_h_coins w_h_storms w_h_Gp n 0 w_h_Fp hf
  have L265 : ∀ (v4 : Int32) (v6 : Int32) (w_h_hour : Int32) (w_h_warmth : Int32) (w_h_strength : Int32) (w_h_charge : Int32) (w_h_lemons : Int32) (w_h_saucers : Int32) (w_h_coins : Int32) (w_h_storms : Int32) (w_h_Fp : Nat → Int32) (n0 : Nat) (v7 : Int32) (w_h_Gp : Nat → Int32), (iter (fun s : Int32 × (Nat → Int32) => f_X18_pass_L265 n os b_h v4 v6 s.1 w_h_hour w_h_warmth w_h_strength w_h_charge w_h_lemons w_h_saucers w_h_coins w_h_storms w_h_Fp s.2) n0 (v7, w_h_Gp)).bind some = some res → SxG p l e rm_X18_pass s m args below meth c D A 9 0 0 (SxE below args s D A (vf_X18_pass sd) (wf_X18_pass T sd h h_fronts h_guests h_orders h_rF h_rG b_h) res 0 0) (zO h 16 [.ref h_fronts, .ref h_guests, .ref h_orders, .int w_h_hour, .int w_h_warmth, .int w_h_strength, .int w_h_charge, .int w_h_lemons, .int w_h_saucers, .int w_h_coins, .int w_h_storms] :: zR T 5 h_fronts (Y18_nf b_h) h_rF :: zR T 6 h_guests (Y18_ng b_h) h_rG :: zT h_rF h_rG (Y18_nf b_h) (Y18_ng b_h) (Y18_Fw b_h) (Y18_Ff b_h) (Y18_Fa b_h) (Y18_Fs b_h) w_h_Fp (Y18_Ga b_h) (Y18_Gl b_h) (Y18_Gh b_h) (Y18_Gn b_h) w_h_Gp) [(0, .ref h), (4, .int v4), (5, .ref h_guests), (6, .int v6), (7, .int v7)] 265 [] := by
    intro v4 v6 w_h_hour w_h_warmth w_h_strength w_h_charge w_h_lemons w_h_saucers w_h_coins w_h_storms w_h_Fp n0
    induction n0 with
    | zero =>
      intro v7 w_h_Gp hf
      exact (iter_z hf).elim
    | succ n0 ih265 =>
      intro v7 w_h_Gp hf
      obtain ⟨κ265, hκ265, hf⟩ := iter_k hf
      have hf : (f_X18_pass_L265 n os b_h v4 v6 v7 w_h_hour w_h_warmth w_h_strength w_h_charge w_h_lemons w_h_saucers w_h_coins w_h_storms w_h_Fp w_h_Gp).bind κ265 = some res := hf
      refine sx_iload X 4 rfl dX18_pass_265 ?_
      refine sx_iload X 3 rfl dX18_pass_267 ?_
      refine sx_icmp_ge X 312 dX18_pass_269 rfl (fun c20 => ?_) (fun c20 => ?_)
      · have hf := ob_t hf c20
        refine sx_aload_n X 0 rfl dX18_pass_312 rfl ?_
        refine sx_aload_n X 0 rfl dX18_pass_313 rfl ?_
        refine sx_get X kX18 0 rfl 5 (Nat.le_of_ble_eq_true rfl) qm_1156 rfl dX18_pass_314 ?_
        refine sx_iconst X (v := 2) dX18_pass_317 rfl ?_
        refine sx_idiv X (by decide) dX18_pass_318 ?_
        refine sx_put X (ws' := zO h 16 [.ref h_fronts, .ref h_guests, .ref h_orders, .int w_h_hour, .int w_h_warmth, .int (w_h_strength / 2), .int w_h_charge, .int w_h_lemons, .int w_h_saucers, .int w_h_coins, .int w_h_storms] :: zR T 5 h_fronts (Y18_nf b_h) h_rF :: zR T 6 h_guests (Y18_ng b_h) h_rG :: zT h_rF h_rG (Y18_nf b_h) (Y18_ng b_h) (Y18_Fw b_h) (Y18_Ff b_h) (Y18_Fa b_h) (Y18_Fs b_h) w_h_Fp (Y18_Ga b_h) (Y18_Gl b_h) (Y18_Gh b_h) (Y18_Gn b_h) w_h_Gp) kX18 0 rfl 5 (Nat.le_of_ble_eq_true rfl) qm_1156 rfl rfl rfl (Nat.le_of_ble_eq_true rfl) rfl dX18_pass_319 ?_
        refine sx_aload_n X 0 rfl dX18_pass_322 rfl ?_
        refine sx_dup X dX18_pass_323 rfl ?_
        refine sx_get X kX18 0 rfl 6 (Nat.le_of_ble_eq_true rfl) qm_1159 rfl dX18_pass_324 ?_
        refine sx_bipush X (v := 12) dX18_pass_327 rfl ?_
        refine sx_isub X dX18_pass_329 ?_
        refine sx_put X (ws' := zO h 16 [.ref h_fronts, .ref h_guests, .ref h_orders, .int w_h_hour, .int w_h_warmth, .int (w_h_strength / 2), .int (w_h_charge - 12), .int w_h_lemons, .int w_h_saucers, .int w_h_coins, .int w_h_storms] :: zR T 5 h_fronts (Y18_nf b_h) h_rF :: zR T 6 h_guests (Y18_ng b_h) h_rG :: zT h_rF h_rG (Y18_nf b_h) (Y18_ng b_h) (Y18_Fw b_h) (Y18_Ff b_h) (Y18_Fa b_h) (Y18_Fs b_h) w_h_Fp (Y18_Ga b_h) (Y18_Gl b_h) (Y18_Gh b_h) (Y18_Gn b_h) w_h_Gp) kX18 0 rfl 6 (Nat.le_of_ble_eq_true rfl) qm_1159 rfl rfl rfl (Nat.le_of_ble_eq_true rfl) rfl dX18_pass_330 ?_
        refine sx_aload_n X 0 rfl dX18_pass_333 rfl ?_
        refine sx_dup X dX18_pass_334 rfl ?_
        refine sx_get X kX18 0 rfl 10 (Nat.le_of_ble_eq_true rfl) qm_1168 rfl dX18_pass_335 ?_
        refine sx_iconst X (v := 1) dX18_pass_338 rfl ?_
        refine sx_iadd X dX18_pass_339 ?_
        refine sx_put X (ws' := zO h 16 [.ref h_fronts, .ref h_guests, .ref h_orders, .int w_h_hour, .int w_h_warmth, .int (w_h_strength / 2), .int (w_h_charge - 12), .int w_h_lemons, .int w_h_saucers, .int w_h_coins, .int (w_h_storms + 1)] :: zR T 5 h_fronts (Y18_nf b_h) h_rF :: zR T 6 h_guests (Y18_ng b_h) h_rG :: zT h_rF h_rG (Y18_nf b_h) (Y18_ng b_h) (Y18_Fw b_h) (Y18_Ff b_h) (Y18_Fa b_h) (Y18_Fs b_h) w_h_Fp (Y18_Ga b_h) (Y18_Gl b_h) (Y18_Gh b_h) (Y18_Gn b_h) w_h_Gp) kX18 0 rfl 10 (Nat.le_of_ble_eq_true rfl) qm_1168 rfl rfl rfl (Nat.le_of_ble_eq_true rfl) rfl dX18_pass_340 ?_
        have hf := ob_kx hκ265 hf
        refine sx_lsub [0, 1] rfl ?_
        exact R343 v4 w_h_hour w_h_warmth (w_h_strength / 2) (w_h_charge - 12) w_h_lemons w_h_saucers w_h_coins (w_h_storms + 1) w_h_Fp w_h_Gp hf
      · have hf := ob_f hf c20
        refine sx_aload X 2 rfl dX18_pass_272 ?_
        refine sx_iload X 4 rfl dX18_pass_274 ?_
        obtain ⟨g22, hf⟩ := ob_g hf
        refine sx_Rld X (t0 := 6) (f := h_rG) 2 rfl rfl g22 dX18_pass_276 ?_
        refine sx_astore X (lv' := [(8, .ref (h_rG v7.toNatClampNeg)), (0, .ref h), (4, .int v4), (5, .ref h_guests), (6, .int v6), (7, .int v7)]) dX18_pass_277 (by decide) rfl ?_
        refine sx_aload X 0 rfl dX18_pass_279 ?_
        refine sx_get X kX15 ((Y18_nf b_h) + v7.toNatClampNeg + 1 + 1 + 1) (at_s (at_s (at_s (zT_G (fl_lt g22))))) 4 (Nat.le_of_ble_eq_true rfl) qm_1371 rfl dX18_pass_281 ?_
        refine sx_iconst X (v := 1) dX18_pass_284 rfl ?_
        refine sx_icmp_ne X 306 dX18_pass_285 rfl (fun c23 => ?_) (fun c23 => ?_)
        · have hf := ob_f hf c23
          refine sx_iinc X (v := (v7 + 1)) (lv' := [(7, .int (v7 + 1)), (8, .ref (h_rG v7.toNatClampNeg)), (0, .ref h), (4, .int v4), (5, .ref h_guests), (6, .int v6)]) 5 rfl dX18_pass_306 rfl (by decide) rfl ?_
          refine sx_goto X 265 dX18_pass_309 rfl ?_
          have hf := ob_k hκ265 hf
          refine sx_lsub [2, 3, 4, 5, 0] rfl ?_
          exact ih265 (v7 + 1) w_h_Gp hf
        · have hf := ob_t hf c23
          refine sx_aload X 0 rfl dX18_pass_288 ?_
          refine sx_get X kX15 ((Y18_nf b_h) + v7.toNatClampNeg + 1 + 1 + 1) (at_s (at_s (at_s (zT_G (fl_lt g22))))) 3 (Nat.le_of_ble_eq_true rfl) qm_1370 rfl dX18_pass_290 ?_
          refine sx_aload_n X 1 rfl dX18_pass_293 rfl ?_
          refine sx_get X kX18 0 rfl 6 (Nat.le_of_ble_eq_true rfl) qm_1159 rfl dX18_pass_294 ?_
          refine sx_icmp_ge X 306 dX18_pass_297 rfl (fun c24 => ?_) (fun c24 => ?_)
          · have hf := ob_t hf c24
            refine sx_iinc X (v := (v7 + 1)) (lv' := [(7, .int (v7 + 1)), (8, .ref (h_rG v7.toNatClampNeg)), (0, .ref h), (4, .int v4), (5, .ref h_guests), (6, .int v6)]) 5 rfl dX18_pass_306 rfl (by decide) rfl ?_
            refine sx_goto X 265 dX18_pass_309 rfl ?_
            have hf := ob_k hκ265 hf
            refine sx_lsub [2, 3, 4, 5, 0] rfl ?_
            exact ih265 (v7 + 1) w_h_Gp hf
          · have hf := ob_f hf c24
            refine sx_aload X 0 rfl dX18_pass_300 ?_
            refine sx_iconst X (v := 3) dX18_pass_302 rfl ?_
            refine sx_put X (ws' := zO h 16 [.ref h_fronts, .ref h_guests, .ref h_orders, .int w_h_hour, .int w_h_warmth, .int w_h_strength, .int w_h_charge, .int w_h_lemons, .int w_h_saucers, .int w_h_coins, .int w_h_storms] :: zR T 5 h_fronts (Y18_nf b_h) h_rF :: zR T 6 h_guests (Y18_ng b_h) h_rG :: zT h_rF h_rG (Y18_nf b_h) (Y18_ng b_h) (Y18_Fw b_h) (Y18_Ff b_h) (Y18_Fa b_h) (Y18_Fs b_h) w_h_Fp (Y18_Ga b_h) (Y18_Gl b_h) (Y18_Gh b_h) (Y18_Gn b_h) (upd w_h_Gp v7.toNatClampNeg 3)) kX15 ((Y18_nf b_h) + v7.toNatClampNeg + 1 + 1 + 1) (at_s (at_s (at_s (zT_G (fl_lt g22))))) 4 (Nat.le_of_ble_eq_true rfl) qm_1371 rfl rfl rfl (Nat.le_of_ble_eq_true rfl) (set_s (set_s (set_s (zT_Gs (fl_lt g22))))) dX18_pass_303 ?_
            refine sx_iinc X (v := (v7 + 1)) (lv' := [(7, .int (v7 + 1)), (8, .ref (h_rG v7.toNatClampNeg)), (0, .ref h), (4, .int v4), (5, .ref h_guests), (6, .int v6)]) 5 rfl dX18_pass_306 rfl (by decide) rfl ?_
            refine sx_goto X 265 dX18_pass_309 rfl ?_
            have hf := ob_k hκ265 hf
            refine sx_lsub [2, 3, 4, 5, 0] rfl ?_
            exact ih265 (v7 + 1) (upd w_h_Gp v7.toNatClampNeg 3) hf
  have R244 : ∀ (w_h_hour : Int32) (w_h_warmth : Int32) (w_h_strength : Int32) (w_h_charge : Int32) (w_h_lemons : Int32) (w_h_saucers : Int32) (w_h_coins : Int32) (w_h_storms : Int32) (w_h_Fp : Nat → Int32) (w_h_Gp : Nat → Int32) (t0 : Int32), (f_X18_pass_R244 n os b_h w_h_hour w_h_warmth w_h_strength w_h_charge w_h_lemons w_h_saucers w_h_coins w_h_storms w_h_Fp w_h_Gp t0).bind some = some res → SxG p l e rm_X18_pass s m args below meth c D A 9 0 0 (SxE below args s D A (vf_X18_pass sd) (wf_X18_pass T sd h h_fronts h_guests h_orders h_rF h_rG b_h) res 0 0) (zO h 16 [.ref h_fronts, .ref h_guests, .ref h_orders, .int w_h_hour, .int w_h_warmth, .int w_h_strength, .int w_h_charge, .int w_h_lemons, .int w_h_saucers, .int w_h_coins, .int w_h_storms] :: zR T 5 h_fronts (Y18_nf b_h) h_rF :: zR T 6 h_guests (Y18_ng b_h) h_rG :: zT h_rF h_rG (Y18_nf b_h) (Y18_ng b_h) (Y18_Fw b_h) (Y18_Ff b_h) (Y18_Fa b_h) (Y18_Fs b_h) w_h_Fp (Y18_Ga b_h) (Y18_Gl b_h) (Y18_Gh b_h) (Y18_Gn b_h) w_h_Gp) [(0, .ref h)] 244 [.int t0] := by
    intro w_h_hour w_h_warmth w_h_strength w_h_charge w_h_lemons w_h_saucers w_h_coins w_h_storms w_h_Fp w_h_Gp t0 hf
    refine sx_istore X (lv' := [(4, .int t0), (0, .ref h)]) dX18_pass_244 (by decide) rfl ?_
    refine sx_iload X 0 rfl dX18_pass_246 ?_
    refine sx_if_eq X 343 dX18_pass_248 rfl (fun c9 => ?_) (fun c9 => ?_)
    · have hf := ob_t hf c9
      refine sx_lsub [1, 0] rfl ?_
      exact R343 t0 w_h_hour w_h_warmth w_h_strength w_h_charge w_h_lemons w_h_saucers w_h_coins w_h_storms w_h_Fp w_h_Gp hf
    · have hf := ob_f hf c9
      refine sx_aload_n X 1 rfl dX18_pass_251 rfl ?_
      refine sx_get X kX18 0 rfl 1 (Nat.le_of_ble_eq_true rfl) qm_1146 rfl dX18_pass_252 ?_
      refine sx_astore X (lv' := [(5, .ref h_guests), (4, .int t0), (0, .ref h)]) dX18_pass_255 (by decide) rfl ?_
      refine sx_aload X 0 rfl dX18_pass_257 ?_
      refine sx_alen X (t0 := 6) (v := (nI (Y18_ng b_h))) 2 rfl rfl rfl dX18_pass_259 ?_
      refine sx_istore X (lv' := [(6, .int (nI (Y18_ng b_h))), (5, .ref h_guests), (4, .int t0), (0, .ref h)]) dX18_pass_260 (by decide) rfl ?_
      refine sx_iconst X (v := 0) dX18_pass_262 rfl ?_
      refine sx_istore X (lv' := [(7, .int 0), (6, .int (nI (Y18_ng b_h))), (5, .ref h_guests), (4, .int t0), (0, .ref h)]) dX18_pass_263 (by decide) rfl ?_
      refine sx_lsub [4, 3, 2, 1, 0] rfl ?_
      exact L265 t0 (nI (Y18_ng b_h)) w_h_hour w_h_warmth w_h_strength w_h_charge w_h_lemons w_h_saucers w_h_coins w_h_storms w_h_Fp n 0 w_h_Gp hf
  have R230 : ∀ (w_h_hour : Int32) (w_h_warmth : Int32) (w_h_strength : Int32) (w_h_charge : Int32) (w_h_lemons : Int32) (w_h_saucers : Int32) (w_h_coins : Int32) (w_h_storms : Int32) (w_h_Fp : Nat → Int32) (w_h_Gp : Nat → Int32), (f_X18_pass_R230 n os b_h w_h_hour w_h_warmth w_h_strength w_h_charge w_h_lemons w_h_saucers w_h_coins w_h_storms w_h_Fp w_h_Gp).bind some = some res → SxG p l e rm_X18_pass s m args below meth c D A 9 0 0 (SxE below args s D A (vf_X18_pass sd) (wf_X18_pass T sd h h_fronts h_guests h_orders h_rF h_rG b_h) res 0 0) (zO h 16 [.ref h_fronts, .ref h_guests, .ref h_orders, .int w_h_hour, .int w_h_warmth, .int w_h_strength, .int w_h_charge, .int w_h_lemons, .int w_h_saucers, .int w_h_coins, .int w_h_storms] :: zR T 5 h_fronts (Y18_nf b_h) h_rF :: zR T 6 h_guests (Y18_ng b_h) h_rG :: zT h_rF h_rG (Y18_nf b_h) (Y18_ng b_h) (Y18_Fw b_h) (Y18_Ff b_h) (Y18_Fa b_h) (Y18_Fs b_h) w_h_Fp (Y18_Ga b_h) (Y18_Gl b_h) (Y18_Gh b_h) (Y18_Gn b_h) w_h_Gp) [(0, .ref h)] 230 [] := by
    intro w_h_hour w_h_warmth w_h_strength w_h_charge w_h_lemons w_h_saucers w_h_coins w_h_storms w_h_Fp w_h_Gp hf
    refine sx_aload_n X 0 rfl dX18_pass_230 rfl ?_
    refine sx_get X kX18 0 rfl 6 (Nat.le_of_ble_eq_true rfl) qm_1159 rfl dX18_pass_231 ?_
    refine sx_bipush X (v := 12) dX18_pass_234 rfl ?_
    refine sx_icmp_lt X 243 dX18_pass_236 rfl (fun c8 => ?_) (fun c8 => ?_)
    · have hf := ob_t hf c8
      refine sx_iconst X (v := 0) dX18_pass_243 rfl ?_
      exact R244 w_h_hour w_h_warmth w_h_strength w_h_charge w_h_lemons w_h_saucers w_h_coins w_h_storms w_h_Fp w_h_Gp 0 hf
    · have hf := ob_f hf c8
      refine sx_iconst X (v := 1) dX18_pass_239 rfl ?_
      refine sx_goto X 244 dX18_pass_240 rfl ?_
      exact R244 w_h_hour w_h_warmth w_h_strength w_h_charge w_h_lemons w_h_saucers w_h_coins w_h_storms w_h_Fp w_h_Gp 1 hf
  have R211 : ∀ (w_h_hour : Int32) (w_h_warmth : Int32) (w_h_strength : Int32) (w_h_charge : Int32) (w_h_lemons : Int32) (w_h_saucers : Int32) (w_h_coins : Int32) (w_h_storms : Int32) (w_h_Fp : Nat → Int32) (w_h_Gp : Nat → Int32) (t0 : Int32) (t1 : Int32), (f_X18_pass_R211 n os b_h w_h_hour w_h_warmth w_h_strength w_h_charge w_h_lemons w_h_saucers w_h_coins w_h_storms w_h_Fp w_h_Gp t0 t1).bind some = some res → SxG p l e rm_X18_pass s m args below meth c D A 9 0 0 (SxE below args s D A (vf_X18_pass sd) (wf_X18_pass T sd h h_fronts h_guests h_orders h_rF h_rG b_h) res 0 0) (zO h 16 [.ref h_fronts, .ref h_guests, .ref h_orders, .int w_h_hour, .int w_h_warmth, .int w_h_strength, .int w_h_charge, .int w_h_lemons, .int w_h_saucers, .int w_h_coins, .int w_h_storms] :: zR T 5 h_fronts (Y18_nf b_h) h_rF :: zR T 6 h_guests (Y18_ng b_h) h_rG :: zT h_rF h_rG (Y18_nf b_h) (Y18_ng b_h) (Y18_Fw b_h) (Y18_Ff b_h) (Y18_Fa b_h) (Y18_Fs b_h) w_h_Fp (Y18_Ga b_h) (Y18_Gl b_h) (Y18_Gh b_h) (Y18_Gn b_h) w_h_Gp) [(0, .ref h)] 211 [.int t0, .int t1, .ref h] := by
    intro w_h_hour w_h_warmth w_h_strength w_h_charge w_h_lemons w_h_saucers w_h_coins w_h_storms w_h_Fp w_h_Gp t0 t1 hf
    refine sx_iadd X dX18_pass_211 ?_
    refine sx_put X (ws' := zO h 16 [.ref h_fronts, .ref h_guests, .ref h_orders, .int w_h_hour, .int w_h_warmth, .int w_h_strength, .int (t1 + t0), .int w_h_lemons, .int w_h_saucers, .int w_h_coins, .int w_h_storms] :: zR T 5 h_fronts (Y18_nf b_h) h_rF :: zR T 6 h_guests (Y18_ng b_h) h_rG :: zT h_rF h_rG (Y18_nf b_h) (Y18_ng b_h) (Y18_Fw b_h) (Y18_Ff b_h) (Y18_Fa b_h) (Y18_Fs b_h) w_h_Fp (Y18_Ga b_h) (Y18_Gl b_h) (Y18_Gh b_h) (Y18_Gn b_h) w_h_Gp) kX18 0 rfl 6 (Nat.le_of_ble_eq_true rfl) qm_1159 rfl rfl rfl (Nat.le_of_ble_eq_true rfl) rfl dX18_pass_212 ?_
    refine sx_aload_n X 0 rfl dX18_pass_215 rfl ?_
    refine sx_get X kX18 0 rfl 6 (Nat.le_of_ble_eq_true rfl) qm_1159 rfl dX18_pass_216 ?_
    refine sx_bipush X (v := 30) dX18_pass_219 rfl ?_
    refine sx_icmp_le X 230 dX18_pass_221 rfl (fun c7 => ?_) (fun c7 => ?_)
    · have hf := ob_t hf c7
      exact R230 w_h_hour w_h_warmth w_h_strength (t1 + t0) w_h_lemons w_h_saucers w_h_coins w_h_storms w_h_Fp w_h_Gp hf
    · have hf := ob_f hf c7
      refine sx_aload_n X 0 rfl dX18_pass_224 rfl ?_
      refine sx_bipush X (v := 30) dX18_pass_225 rfl ?_
      refine sx_put X (ws' := zO h 16 [.ref h_fronts, .ref h_guests, .ref h_orders, .int w_h_hour, .int w_h_warmth, .int w_h_strength, .int 30, .int w_h_lemons, .int w_h_saucers, .int w_h_coins, .int w_h_storms] :: zR T 5 h_fronts (Y18_nf b_h) h_rF :: zR T 6 h_guests (Y18_ng b_h) h_rG :: zT h_rF h_rG (Y18_nf b_h) (Y18_ng b_h) (Y18_Fw b_h) (Y18_Ff b_h) (Y18_Fa b_h) (Y18_Fs b_h) w_h_Fp (Y18_Ga b_h) (Y18_Gl b_h) (Y18_Gh b_h) (Y18_Gn b_h) w_h_Gp) kX18 0 rfl 6 (Nat.le_of_ble_eq_true rfl) qm_1159 rfl rfl rfl (Nat.le_of_ble_eq_true rfl) rfl dX18_pass_227 ?_
      exact R230 w_h_hour w_h_warmth w_h_strength 30 w_h_lemons w_h_saucers w_h_coins w_h_storms w_h_Fp w_h_Gp hf
  have R196 : ∀ (v2 : Int32) (v3 : Int32) (w_h_hour : Int32) (w_h_warmth : Int32) (w_h_strength : Int32) (w_h_charge : Int32) (w_h_lemons : Int32) (w_h_saucers : Int32) (w_h_coins : Int32) (w_h_storms : Int32) (w_h_Fp : Nat → Int32) (w_h_Gp : Nat → Int32), (f_X18_pass_R196 n os b_h v2 v3 w_h_hour w_h_warmth w_h_strength w_h_charge w_h_lemons w_h_saucers w_h_coins w_h_storms w_h_Fp w_h_Gp).bind some = some res → SxG p l e rm_X18_pass s m args below meth c D A 9 0 0 (SxE below args s D A (vf_X18_pass sd) (wf_X18_pass T sd h h_fronts h_guests h_orders h_rF h_rG b_h) res 0 0) (zO h 16 [.ref h_fronts, .ref h_guests, .ref h_orders, .int w_h_hour, .int w_h_warmth, .int w_h_strength, .int w_h_charge, .int w_h_lemons, .int w_h_saucers, .int w_h_coins, .int w_h_storms] :: zR T 5 h_fronts (Y18_nf b_h) h_rF :: zR T 6 h_guests (Y18_ng b_h) h_rG :: zT h_rF h_rG (Y18_nf b_h) (Y18_ng b_h) (Y18_Fw b_h) (Y18_Ff b_h) (Y18_Fa b_h) (Y18_Fs b_h) w_h_Fp (Y18_Ga b_h) (Y18_Gl b_h) (Y18_Gh b_h) (Y18_Gn b_h) w_h_Gp) [(0, .ref h), (2, .int v2), (3, .int v3)] 196 [] := by
    intro v2 v3 w_h_hour w_h_warmth w_h_strength w_h_charge w_h_lemons w_h_saucers w_h_coins w_h_storms w_h_Fp w_h_Gp hf
    refine sx_aload_n X 0 rfl dX18_pass_196 rfl ?_
    refine sx_dup X dX18_pass_197 rfl ?_
    refine sx_get X kX18 0 rfl 6 (Nat.le_of_ble_eq_true rfl) qm_1159 rfl dX18_pass_198 ?_
    refine sx_iload_n X 1 rfl dX18_pass_201 rfl ?_
    refine sx_iload_n X 2 rfl dX18_pass_202 rfl ?_
    refine sx_icmp_ge X 210 dX18_pass_203 rfl (fun c6 => ?_) (fun c6 => ?_)
    · have hf := ob_t hf c6
      refine sx_iload_n X 2 rfl dX18_pass_210 rfl ?_
      refine sx_lsub [0] rfl ?_
      exact R211 w_h_hour w_h_warmth w_h_strength w_h_charge w_h_lemons w_h_saucers w_h_coins w_h_storms w_h_Fp w_h_Gp v3 w_h_charge hf
    · have hf := ob_f hf c6
      refine sx_iload_n X 1 rfl dX18_pass_206 rfl ?_
      refine sx_goto X 211 dX18_pass_207 rfl ?_
      refine sx_lsub [0] rfl ?_
      exact R211 w_h_hour w_h_warmth w_h_strength w_h_charge w_h_lemons w_h_saucers w_h_coins w_h_storms w_h_Fp w_h_Gp v2 w_h_charge hf
  have R181 : ∀ (v2 : Int32) (v3 : Int32) (w_h_hour : Int32) (w_h_warmth : Int32) (w_h_strength : Int32) (w_h_charge : Int32) (w_h_lemons : Int32) (w_h_saucers : Int32) (w_h_coins : Int32) (w_h_storms : Int32) (w_h_Fp : Nat → Int32) (w_h_Gp : Nat → Int32), (f_X18_pass_R181 n os b_h v2 v3 w_h_hour w_h_warmth w_h_strength w_h_charge w_h_lemons w_h_saucers w_h_coins w_h_storms w_h_Fp w_h_Gp).bind some = some res → SxG p l e rm_X18_pass s m args below meth c D A 9 0 0 (SxE below args s D A (vf_X18_pass sd) (wf_X18_pass T sd h h_fronts h_guests h_orders h_rF h_rG b_h) res 0 0) (zO h 16 [.ref h_fronts, .ref h_guests, .ref h_orders, .int w_h_hour, .int w_h_warmth, .int w_h_strength, .int w_h_charge, .int w_h_lemons, .int w_h_saucers, .int w_h_coins, .int w_h_storms] :: zR T 5 h_fronts (Y18_nf b_h) h_rF :: zR T 6 h_guests (Y18_ng b_h) h_rG :: zT h_rF h_rG (Y18_nf b_h) (Y18_ng b_h) (Y18_Fw b_h) (Y18_Ff b_h) (Y18_Fa b_h) (Y18_Fs b_h) w_h_Fp (Y18_Ga b_h) (Y18_Gl b_h) (Y18_Gh b_h) (Y18_Gn b_h) w_h_Gp) [(0, .ref h), (2, .int v2), (3, .int v3)] 181 [] := by
    intro v2 v3 w_h_hour w_h_warmth w_h_strength w_h_charge w_h_lemons w_h_saucers w_h_coins w_h_storms w_h_Fp w_h_Gp hf
    refine sx_aload_n X 0 rfl dX18_pass_181 rfl ?_
    refine sx_get X kX18 0 rfl 4 (Nat.le_of_ble_eq_true rfl) qm_1153 rfl dX18_pass_182 ?_
    refine sx_bipush X (v := 40) dX18_pass_185 rfl ?_
    refine sx_icmp_le X 196 dX18_pass_187 rfl (fun c5 => ?_) (fun c5 => ?_)
    · have hf := ob_t hf c5
      exact R196 v2 v3 w_h_hour w_h_warmth w_h_strength w_h_charge w_h_lemons w_h_saucers w_h_coins w_h_storms w_h_Fp w_h_Gp hf
    · have hf := ob_f hf c5
      refine sx_aload_n X 0 rfl dX18_pass_190 rfl ?_
      refine sx_bipush X (v := 40) dX18_pass_191 rfl ?_
      refine sx_put X (ws' := zO h 16 [.ref h_fronts, .ref h_guests, .ref h_orders, .int w_h_hour, .int 40, .int w_h_strength, .int w_h_charge, .int w_h_lemons, .int w_h_saucers, .int w_h_coins, .int w_h_storms] :: zR T 5 h_fronts (Y18_nf b_h) h_rF :: zR T 6 h_guests (Y18_ng b_h) h_rG :: zT h_rF h_rG (Y18_nf b_h) (Y18_ng b_h) (Y18_Fw b_h) (Y18_Ff b_h) (Y18_Fa b_h) (Y18_Fs b_h) w_h_Fp (Y18_Ga b_h) (Y18_Gl b_h) (Y18_Gh b_h) (Y18_Gn b_h) w_h_Gp) kX18 0 rfl 4 (Nat.le_of_ble_eq_true rfl) qm_1153 rfl rfl rfl (Nat.le_of_ble_eq_true rfl) rfl dX18_pass_193 ?_
      exact R196 v2 v3 w_h_hour 40 w_h_strength w_h_charge w_h_lemons w_h_saucers w_h_coins w_h_storms w_h_Fp w_h_Gp hf
  have R150 : ∀ (v2 : Int32) (v3 : Int32) (w_h_hour : Int32) (w_h_warmth : Int32) (w_h_strength : Int32) (w_h_charge : Int32) (w_h_lemons : Int32) (w_h_saucers : Int32) (w_h_coins : Int32) (w_h_storms : Int32) (w_h_Fp : Nat → Int32) (w_h_Gp : Nat → Int32) (t0 : Int32) (t1 : Int32), (f_X18_pass_R150 n os b_h v2 v3 w_h_hour w_h_warmth w_h_strength w_h_charge w_h_lemons w_h_saucers w_h_coins w_h_storms w_h_Fp w_h_Gp t0 t1).bind some = some res → SxG p l e rm_X18_pass s m args below meth c D A 9 0 0 (SxE below args s D A (vf_X18_pass sd) (wf_X18_pass T sd h h_fronts h_guests h_orders h_rF h_rG b_h) res 0 0) (zO h 16 [.ref h_fronts, .ref h_guests, .ref h_orders, .int w_h_hour, .int w_h_warmth, .int w_h_strength, .int w_h_charge, .int w_h_lemons, .int w_h_saucers, .int w_h_coins, .int w_h_storms] :: zR T 5 h_fronts (Y18_nf b_h) h_rF :: zR T 6 h_guests (Y18_ng b_h) h_rG :: zT h_rF h_rG (Y18_nf b_h) (Y18_ng b_h) (Y18_Fw b_h) (Y18_Ff b_h) (Y18_Fa b_h) (Y18_Fs b_h) w_h_Fp (Y18_Ga b_h) (Y18_Gl b_h) (Y18_Gh b_h) (Y18_Gn b_h) w_h_Gp) [(0, .ref h), (2, .int v2), (3, .int v3)] 150 [.int t0, .int t1, .ref h] := by
    intro v2 v3 w_h_hour w_h_warmth w_h_strength w_h_charge w_h_lemons w_h_saucers w_h_coins w_h_storms w_h_Fp w_h_Gp t0 t1 hf
    refine sx_iadd X dX18_pass_150 ?_
    refine sx_put X (ws' := zO h 16 [.ref h_fronts, .ref h_guests, .ref h_orders, .int w_h_hour, .int (t1 + t0), .int w_h_strength, .int w_h_charge, .int w_h_lemons, .int w_h_saucers, .int w_h_coins, .int w_h_storms] :: zR T 5 h_fronts (Y18_nf b_h) h_rF :: zR T 6 h_guests (Y18_ng b_h) h_rG :: zT h_rF h_rG (Y18_nf b_h) (Y18_ng b_h) (Y18_Fw b_h) (Y18_Ff b_h) (Y18_Fa b_h) (Y18_Fs b_h) w_h_Fp (Y18_Ga b_h) (Y18_Gl b_h) (Y18_Gh b_h) (Y18_Gn b_h) w_h_Gp) kX18 0 rfl 4 (Nat.le_of_ble_eq_true rfl) qm_1153 rfl rfl rfl (Nat.le_of_ble_eq_true rfl) rfl dX18_pass_151 ?_
    refine sx_goto X 196 dX18_pass_154 rfl ?_
    exact R196 v2 v3 w_h_hour (t1 + t0) w_h_strength w_h_charge w_h_lemons w_h_saucers w_h_coins w_h_storms w_h_Fp w_h_Gp hf
  have L52 : ∀ (v5 : Int32) (w_h_hour : Int32) (w_h_warmth : Int32) (w_h_strength : Int32) (w_h_charge : Int32) (w_h_lemons : Int32) (w_h_saucers : Int32) (w_h_coins : Int32) (w_h_storms : Int32) (w_h_Fp : Nat → Int32) (w_h_Gp : Nat → Int32) (n0 : Nat) (v1 : Int32) (v2 : Int32) (v3 : Int32) (v6 : Int32), (iter (fun s : Int32 × Int32 × Int32 × Int32 => f_X18_pass_L52 n os b_h s.1 s.2.1 s.2.2.1 v5 s.2.2.2 w_h_hour w_h_warmth w_h_strength w_h_charge w_h_lemons w_h_saucers w_h_coins w_h_storms w_h_Fp w_h_Gp) n0 (v1, v2, v3, v6)).bind some = some res → SxG p l e rm_X18_pass s m args below meth c D A 9 0 0 (SxE below args s D A (vf_X18_pass sd) (wf_X18_pass T sd h h_fronts h_guests h_orders h_rF h_rG b_h) res 0 0) (zO h 16 [.ref h_fronts, .ref h_guests, .ref h_orders, .int w_h_hour, .int w_h_warmth, .int w_h_strength, .int w_h_charge, .int w_h_lemons, .int w_h_saucers, .int w_h_coins, .int w_h_storms] :: zR T 5 h_fronts (Y18_nf b_h) h_rF :: zR T 6 h_guests (Y18_ng b_h) h_rG :: zT h_rF h_rG (Y18_nf b_h) (Y18_ng b_h) (Y18_Fw b_h) (Y18_Ff b_h) (Y18_Fa b_h) (Y18_Fs b_h) w_h_Fp (Y18_Ga b_h) (Y18_Gl b_h) (Y18_Gh b_h) (Y18_Gn b_h) w_h_Gp) [(0, .ref h), (1, .int v1), (2, .int v2), (3, .int v3), (4, .ref h_fronts), (5, .int v5), (6, .int v6)] 52 [] := by
    intro v5 w_h_hour w_h_warmth w_h_strength w_h_charge w_h_lemons w_h_saucers w_h_coins w_h_storms w_h_Fp w_h_Gp n0
    induction n0 with
    | zero =>
      intro v1 v2 v3 v6 hf
      exact (iter_z hf).elim
    | succ n0 ih52 =>
      intro v1 v2 v3 v6 hf
      obtain ⟨κ52, hκ52, hf⟩ := iter_k hf
      have hf : (f_X18_pass_L52 n os b_h v1 v2 v3 v5 v6 w_h_hour w_h_warmth w_h_strength w_h_charge w_h_lemons w_h_saucers w_h_coins w_h_storms w_h_Fp w_h_Gp).bind κ52 = some res := hf
      refine sx_iload X 6 rfl dX18_pass_52 ?_
      refine sx_iload X 5 rfl dX18_pass_54 ?_
      refine sx_icmp_ge X 114 dX18_pass_56 rfl (fun c2 => ?_) (fun c2 => ?_)
      · have hf := ob_t hf c2
        refine sx_iload_n X 1 rfl dX18_pass_114 rfl ?_
        refine sx_if_ne X 157 dX18_pass_115 rfl (fun c3 => ?_) (fun c3 => ?_)
        · have hf := ob_f hf c3
          refine sx_aload_n X 0 rfl dX18_pass_157 rfl ?_
          refine sx_dup X dX18_pass_158 rfl ?_
          refine sx_get X kX18 0 rfl 4 (Nat.le_of_ble_eq_true rfl) qm_1153 rfl dX18_pass_159 ?_
          refine sx_iload_n X 2 rfl dX18_pass_162 rfl ?_
          refine sx_iload_n X 3 rfl dX18_pass_163 rfl ?_
          refine sx_isub X dX18_pass_164 ?_
          refine sx_iadd X dX18_pass_165 ?_
          refine sx_put X (ws' := zO h 16 [.ref h_fronts, .ref h_guests, .ref h_orders, .int w_h_hour, .int (w_h_warmth + (v2 - v3)), .int w_h_strength, .int w_h_charge, .int w_h_lemons, .int w_h_saucers, .int w_h_coins, .int w_h_storms] :: zR T 5 h_fronts (Y18_nf b_h) h_rF :: zR T 6 h_guests (Y18_ng b_h) h_rG :: zT h_rF h_rG (Y18_nf b_h) (Y18_ng b_h) (Y18_Fw b_h) (Y18_Ff b_h) (Y18_Fa b_h) (Y18_Fs b_h) w_h_Fp (Y18_Ga b_h) (Y18_Gl b_h) (Y18_Gh b_h) (Y18_Gn b_h) w_h_Gp) kX18 0 rfl 4 (Nat.le_of_ble_eq_true rfl) qm_1153 rfl rfl rfl (Nat.le_of_ble_eq_true rfl) rfl dX18_pass_166 ?_
          refine sx_aload_n X 0 rfl dX18_pass_169 rfl ?_
          refine sx_get X kX18 0 rfl 4 (Nat.le_of_ble_eq_true rfl) qm_1153 rfl dX18_pass_170 ?_
          refine sx_if_ge X 181 dX18_pass_173 rfl (fun c4 => ?_) (fun c4 => ?_)
          · have hf := ob_t hf c4
            have hf := ob_kx hκ52 hf
            refine sx_lsub [0, 2, 3] rfl ?_
            exact R181 v2 v3 w_h_hour (w_h_warmth + (v2 - v3)) w_h_strength w_h_charge w_h_lemons w_h_saucers w_h_coins w_h_storms w_h_Fp w_h_Gp hf
          · have hf := ob_f hf c4
            refine sx_aload_n X 0 rfl dX18_pass_176 rfl ?_
            refine sx_iconst X (v := 0) dX18_pass_177 rfl ?_
            refine sx_put X (ws' := zO h 16 [.ref h_fronts, .ref h_guests, .ref h_orders, .int w_h_hour, .int 0, .int w_h_strength, .int w_h_charge, .int w_h_lemons, .int w_h_saucers, .int w_h_coins, .int w_h_storms] :: zR T 5 h_fronts (Y18_nf b_h) h_rF :: zR T 6 h_guests (Y18_ng b_h) h_rG :: zT h_rF h_rG (Y18_nf b_h) (Y18_ng b_h) (Y18_Fw b_h) (Y18_Ff b_h) (Y18_Fa b_h) (Y18_Fs b_h) w_h_Fp (Y18_Ga b_h) (Y18_Gl b_h) (Y18_Gh b_h) (Y18_Gn b_h) w_h_Gp) kX18 0 rfl 4 (Nat.le_of_ble_eq_true rfl) qm_1153 rfl rfl rfl (Nat.le_of_ble_eq_true rfl) rfl dX18_pass_178 ?_
            have hf := ob_kx hκ52 hf
            refine sx_lsub [0, 2, 3] rfl ?_
            exact R181 v2 v3 w_h_hour 0 w_h_strength w_h_charge w_h_lemons w_h_saucers w_h_coins w_h_storms w_h_Fp w_h_Gp hf
        · have hf := ob_t hf c3
          refine sx_aload_n X 0 rfl dX18_pass_118 rfl ?_
          refine sx_dup X dX18_pass_119 rfl ?_
          refine sx_get X kX18 0 rfl 4 (Nat.le_of_ble_eq_true rfl) qm_1153 rfl dX18_pass_120 ?_
          refine sx_aload_n X 0 rfl dX18_pass_123 rfl ?_
          refine sx_get X kX18 0 rfl 4 (Nat.le_of_ble_eq_true rfl) qm_1153 rfl dX18_pass_124 ?_
          refine sx_bipush X (v := 20) dX18_pass_127 rfl ?_
          refine sx_icmp_ge X 136 dX18_pass_129 rfl (fun c25 => ?_) (fun c25 => ?_)
          · have hf := ob_t hf c25
            refine sx_aload_n X 0 rfl dX18_pass_136 rfl ?_
            refine sx_get X kX18 0 rfl 4 (Nat.le_of_ble_eq_true rfl) qm_1153 rfl dX18_pass_137 ?_
            refine sx_bipush X (v := 20) dX18_pass_140 rfl ?_
            refine sx_icmp_le X 149 dX18_pass_142 rfl (fun c26 => ?_) (fun c26 => ?_)
            · have hf := ob_t hf c26
              refine sx_iconst X (v := 0) dX18_pass_149 rfl ?_
              have hf := ob_kx hκ52 hf
              refine sx_lsub [0, 2, 3] rfl ?_
              exact R150 v2 v3 w_h_hour w_h_warmth w_h_strength w_h_charge w_h_lemons w_h_saucers w_h_coins w_h_storms w_h_Fp w_h_Gp 0 w_h_warmth hf
            · have hf := ob_f hf c26
              refine sx_iconst X (v := (-1)) dX18_pass_145 rfl ?_
              refine sx_goto X 150 dX18_pass_146 rfl ?_
              have hf := ob_kx hκ52 hf
              refine sx_lsub [0, 2, 3] rfl ?_
              exact R150 v2 v3 w_h_hour w_h_warmth w_h_strength w_h_charge w_h_lemons w_h_saucers w_h_coins w_h_storms w_h_Fp w_h_Gp (-1) w_h_warmth hf
          · have hf := ob_f hf c25
            refine sx_iconst X (v := 1) dX18_pass_132 rfl ?_
            refine sx_goto X 150 dX18_pass_133 rfl ?_
            have hf := ob_kx hκ52 hf
            refine sx_lsub [0, 2, 3] rfl ?_
            exact R150 v2 v3 w_h_hour w_h_warmth w_h_strength w_h_charge w_h_lemons w_h_saucers w_h_coins w_h_storms w_h_Fp w_h_Gp 1 w_h_warmth hf
      · have hf := ob_f hf c2
        refine sx_aload X 4 rfl dX18_pass_59 ?_
        refine sx_iload X 6 rfl dX18_pass_61 ?_
        obtain ⟨g27, hf⟩ := ob_g hf
        refine sx_Rld X (t0 := 5) (f := h_rF) 1 rfl rfl g27 dX18_pass_63 ?_
        refine sx_astore X (lv' := [(7, .ref (h_rF v6.toNatClampNeg)), (0, .ref h), (1, .int v1), (2, .int v2), (3, .int v3), (4, .ref h_fronts), (5, .int v5), (6, .int v6)]) dX18_pass_64 (by decide) rfl ?_
        refine sx_aload X 0 rfl dX18_pass_66 ?_
        refine sx_get X kX14 (v6.toNatClampNeg + 1 + 1 + 1) (at_s (at_s (at_s (zT_F (fl_lt g27))))) 4 (Nat.le_of_ble_eq_true rfl) qm_1208 rfl dX18_pass_68 ?_
        refine sx_iconst X (v := 1) dX18_pass_71 rfl ?_
        refine sx_icmp_eq X 78 dX18_pass_72 rfl (fun c28 => ?_) (fun c28 => ?_)
        · have hf := ob_t hf c28
          refine sx_iinc X (v := (v1 + 1)) (lv' := [(1, .int (v1 + 1)), (7, .ref (h_rF v6.toNatClampNeg)), (0, .ref h), (2, .int v2), (3, .int v3), (4, .ref h_fronts), (5, .int v5), (6, .int v6)]) 2 rfl dX18_pass_78 rfl (by decide) rfl ?_
          refine sx_aload X 1 rfl dX18_pass_81 ?_
          refine sx_get X kX14 (v6.toNatClampNeg + 1 + 1 + 1) (at_s (at_s (at_s (zT_F (fl_lt g27))))) 0 (Nat.le_of_ble_eq_true rfl) qm_1200 rfl dX18_pass_83 ?_
          refine sx_if_eq X 100 dX18_pass_86 rfl (fun c29 => ?_) (fun c29 => ?_)
          · have hf := ob_t hf c29
            refine sx_iload_n X 4 rfl dX18_pass_100 rfl ?_
            refine sx_aload X 1 rfl dX18_pass_101 ?_
            refine sx_get X kX14 (v6.toNatClampNeg + 1 + 1 + 1) (at_s (at_s (at_s (zT_F (fl_lt g27))))) 1 (Nat.le_of_ble_eq_true rfl) qm_1201 rfl dX18_pass_103 ?_
            refine sx_iadd X dX18_pass_106 ?_
            refine sx_istore_n X (lv' := [(3, .int (v3 + ((Y18_Ff b_h) v6.toNatClampNeg))), (1, .int (v1 + 1)), (7, .ref (h_rF v6.toNatClampNeg)), (0, .ref h), (2, .int v2), (4, .ref h_fronts), (5, .int v5), (6, .int v6)]) dX18_pass_107 rfl (by decide) rfl ?_
            refine sx_iinc X (v := (v6 + 1)) (lv' := [(6, .int (v6 + 1)), (3, .int (v3 + ((Y18_Ff b_h) v6.toNatClampNeg))), (1, .int (v1 + 1)), (7, .ref (h_rF v6.toNatClampNeg)), (0, .ref h), (2, .int v2), (4, .ref h_fronts), (5, .int v5)]) 7 rfl dX18_pass_108 rfl (by decide) rfl ?_
            refine sx_goto X 52 dX18_pass_111 rfl ?_
            have hf := ob_k hκ52 hf
            refine sx_lsub [4, 2, 5, 1, 6, 7, 0] rfl ?_
            exact ih52 (v1 + 1) v2 (v3 + ((Y18_Ff b_h) v6.toNatClampNeg)) (v6 + 1) hf
          · have hf := ob_f hf c29
            refine sx_iload_n X 3 rfl dX18_pass_89 rfl ?_
            refine sx_aload X 1 rfl dX18_pass_90 ?_
            refine sx_get X kX14 (v6.toNatClampNeg + 1 + 1 + 1) (at_s (at_s (at_s (zT_F (fl_lt g27))))) 1 (Nat.le_of_ble_eq_true rfl) qm_1201 rfl dX18_pass_92 ?_
            refine sx_iadd X dX18_pass_95 ?_
            refine sx_istore_n X (lv' := [(2, .int (v2 + ((Y18_Ff b_h) v6.toNatClampNeg))), (1, .int (v1 + 1)), (7, .ref (h_rF v6.toNatClampNeg)), (0, .ref h), (3, .int v3), (4, .ref h_fronts), (5, .int v5), (6, .int v6)]) dX18_pass_96 rfl (by decide) rfl ?_
            refine sx_goto X 108 dX18_pass_97 rfl ?_
            refine sx_iinc X (v := (v6 + 1)) (lv' := [(6, .int (v6 + 1)), (2, .int (v2 + ((Y18_Ff b_h) v6.toNatClampNeg))), (1, .int (v1 + 1)), (7, .ref (h_rF v6.toNatClampNeg)), (0, .ref h), (3, .int v3), (4, .ref h_fronts), (5, .int v5)]) 7 rfl dX18_pass_108 rfl (by decide) rfl ?_
            refine sx_goto X 52 dX18_pass_111 rfl ?_
            have hf := ob_k hκ52 hf
            refine sx_lsub [4, 2, 1, 5, 6, 7, 0] rfl ?_
            exact ih52 (v1 + 1) (v2 + ((Y18_Ff b_h) v6.toNatClampNeg)) v3 (v6 + 1) hf
        · have hf := ob_f hf c28
          refine sx_goto X 108 dX18_pass_75 rfl ?_
          refine sx_iinc X (v := (v6 + 1)) (lv' := [(6, .int (v6 + 1)), (7, .ref (h_rF v6.toNatClampNeg)), (0, .ref h), (1, .int v1), (2, .int v2), (3, .int v3), (4, .ref h_fronts), (5, .int v5)]) 7 rfl dX18_pass_108 rfl (by decide) rfl ?_
          refine sx_goto X 52 dX18_pass_111 rfl ?_
          have hf := ob_k hκ52 hf
          refine sx_lsub [2, 3, 4, 5, 6, 7, 0] rfl ?_
          exact ih52 v1 v2 v3 (v6 + 1) hf
  have L10 : ∀ (v2 : Int32) (w_h_hour : Int32) (w_h_warmth : Int32) (w_h_storms : Int32) (n0 : Nat) (v3 : Int32) (w_h_strength : Int32) (w_h_charge : Int32) (w_h_lemons : Int32) (w_h_saucers : Int32) (w_h_coins : Int32) (w_h_Fp : Nat → Int32) (w_h_Gp : Nat → Int32), (iter (fun s : Int32 × Int32 × Int32 × Int32 × Int32 × Int32 × (Nat → Int32) × (Nat → Int32) => f_X18_pass_L10 n os b_h v2 s.1 w_h_hour w_h_warmth s.2.1 s.2.2.1 s.2.2.2.1 s.2.2.2.2.1 s.2.2.2.2.2.1 w_h_storms s.2.2.2.2.2.2.1 s.2.2.2.2.2.2.2) n0 (v3, w_h_strength, w_h_charge, w_h_lemons, w_h_saucers, w_h_coins, w_h_Fp, w_h_Gp)).bind some = some res → SxG p l e rm_X18_pass s m args below meth c D A 9 0 0 (SxE below args s D A (vf_X18_pass sd) (wf_X18_pass T sd h h_fronts h_guests h_orders h_rF h_rG b_h) res 0 0) (zO h 16 [.ref h_fronts, .ref h_guests, .ref h_orders, .int w_h_hour, .int w_h_warmth, .int w_h_strength, .int w_h_charge, .int w_h_lemons, .int w_h_saucers, .int w_h_coins, .int w_h_storms] :: zR T 5 h_fronts (Y18_nf b_h) h_rF :: zR T 6 h_guests (Y18_ng b_h) h_rG :: zT h_rF h_rG (Y18_nf b_h) (Y18_ng b_h) (Y18_Fw b_h) (Y18_Ff b_h) (Y18_Fa b_h) (Y18_Fs b_h) w_h_Fp (Y18_Ga b_h) (Y18_Gl b_h) (Y18_Gh b_h) (Y18_Gn b_h) w_h_Gp) [(0, .ref h), (1, .ref h_orders), (2, .int v2), (3, .int v3)] 10 [] := by
    intro v2 w_h_hour w_h_warmth w_h_storms n0
    induction n0 with
    | zero =>
      intro v3 w_h_strength w_h_charge w_h_lemons w_h_saucers w_h_coins w_h_Fp w_h_Gp hf
      exact (iter_z hf).elim
    | succ n0 ih10 =>
      intro v3 w_h_strength w_h_charge w_h_lemons w_h_saucers w_h_coins w_h_Fp w_h_Gp hf
      obtain ⟨κ10, hκ10, hf⟩ := iter_k hf
      have hf : (f_X18_pass_L10 n os b_h v2 v3 w_h_hour w_h_warmth w_h_strength w_h_charge w_h_lemons w_h_saucers w_h_coins w_h_storms w_h_Fp w_h_Gp).bind κ10 = some res := hf
      refine sx_iload_n X 3 rfl dX18_pass_10 rfl ?_
      refine sx_iload_n X 2 rfl dX18_pass_11 rfl ?_
      refine sx_icmp_ge X 32 dX18_pass_12 rfl (fun c1 => ?_) (fun c1 => ?_)
      · have hf := ob_t hf c1
        refine sx_iconst X (v := 0) dX18_pass_32 rfl ?_
        refine sx_istore_n X (lv' := [(1, .int 0), (0, .ref h), (2, .int v2), (3, .int v3)]) dX18_pass_33 rfl (by decide) rfl ?_
        refine sx_iconst X (v := 0) dX18_pass_34 rfl ?_
        refine sx_istore_n X (lv' := [(2, .int 0), (1, .int 0), (0, .ref h), (3, .int v3)]) dX18_pass_35 rfl (by decide) rfl ?_
        refine sx_iconst X (v := 0) dX18_pass_36 rfl ?_
        refine sx_istore_n X (lv' := [(3, .int 0), (2, .int 0), (1, .int 0), (0, .ref h)]) dX18_pass_37 rfl (by decide) rfl ?_
        refine sx_aload_n X 3 rfl dX18_pass_38 rfl ?_
        refine sx_get X kX18 0 rfl 0 (Nat.le_of_ble_eq_true rfl) qm_1143 rfl dX18_pass_39 ?_
        refine sx_astore X (lv' := [(4, .ref h_fronts), (3, .int 0), (2, .int 0), (1, .int 0), (0, .ref h)]) dX18_pass_42 (by decide) rfl ?_
        refine sx_aload X 0 rfl dX18_pass_44 ?_
        refine sx_alen X (t0 := 5) (v := (nI (Y18_nf b_h))) 1 rfl rfl rfl dX18_pass_46 ?_
        refine sx_istore X (lv' := [(5, .int (nI (Y18_nf b_h))), (4, .ref h_fronts), (3, .int 0), (2, .int 0), (1, .int 0), (0, .ref h)]) dX18_pass_47 (by decide) rfl ?_
        refine sx_iconst X (v := 0) dX18_pass_49 rfl ?_
        refine sx_istore X (lv' := [(6, .int 0), (5, .int (nI (Y18_nf b_h))), (4, .ref h_fronts), (3, .int 0), (2, .int 0), (1, .int 0), (0, .ref h)]) dX18_pass_50 (by decide) rfl ?_
        have hf := ob_kx hκ10 hf
        refine sx_lsub [6, 5, 4, 3, 2, 1, 0] rfl ?_
        exact L52 (nI (Y18_nf b_h)) w_h_hour w_h_warmth w_h_strength w_h_charge w_h_lemons w_h_saucers w_h_coins w_h_storms w_h_Fp w_h_Gp n 0 0 0 0 hf
      · have hf := ob_f hf c1
        refine sx_aload_n X 1 rfl dX18_pass_15 rfl ?_
        refine sx_iload_n X 3 rfl dX18_pass_16 rfl ?_
        obtain ⟨g30, hf⟩ := ob_g hf
        refine sx_Qld XQ g30 dX18_pass_17 ?_
        refine sx_astore X (lv' := [(4, .ref (rQ v3.toNatClampNeg)), (0, .ref h), (1, .ref h_orders), (2, .int v2), (3, .int v3)]) dX18_pass_18 (by decide) rfl ?_
        refine sx_aload X 0 rfl dX18_pass_20 ?_
        refine sx_aload_n X 1 rfl dX18_pass_22 rfl ?_
        obtain ⟨u31, hu31, hf⟩ := ob_c hf
        refine sx_pV XQ (c_X17_carryOut (l := l) (D := D) (T := T) (sd := sd) (rQ := rQ) h h_fronts h_guests h_orders h_rF h_rG os v3.toNatClampNeg (w_h_hour, w_h_warmth, w_h_strength, w_h_charge, w_h_lemons, w_h_saucers, w_h_coins, w_h_storms, (Y18_Fw b_h), (Y18_Ff b_h), (Y18_Fa b_h), (Y18_Fs b_h), w_h_Fp, (Y18_Ga b_h), (Y18_Gl b_h), (Y18_Gh b_h), (Y18_Gn b_h), w_h_Gp, (Y18_nf b_h), (Y18_ng b_h)) hu31).toP XQ.M (wr := []) (sx_rcvO (sx_ordO XQ (fl_lt g30))) qm_707 qm_708 qm_709 qm_39 qm_710 hd_X17_carryOut ⟨rfl, rfl⟩ ⟨Nat.le_of_ble_eq_true rfl, Nat.le_of_ble_eq_true rfl⟩ rfl rfl (Nat.le_of_ble_eq_true rfl) ⟨Nat.le_of_ble_eq_true rfl, Nat.le_of_ble_eq_true rfl⟩ dX18_pass_23 (List.append_nil _).symm (fun r9 hr9 => ?_)
        replace hr9 := hr9.symm
        subst hr9
        refine sx_chgw (List.append_nil _) ?_
        refine sx_iinc X (v := (v3 + 1)) (lv' := [(3, .int (v3 + 1)), (4, .ref (rQ v3.toNatClampNeg)), (0, .ref h), (1, .ref h_orders), (2, .int v2)]) 4 rfl dX18_pass_26 rfl (by decide) rfl ?_
        refine sx_goto X 10 dX18_pass_29 rfl ?_
        have hf := ob_k hκ10 hf
        refine sx_lsub [2, 3, 4, 0] rfl ?_
        exact ih10 (v3 + 1) u31.1 u31.2.1 u31.2.2.1 u31.2.2.2.1 u31.2.2.2.2.1 u31.2.2.2.2.2.1 u31.2.2.2.2.2.2 hf
  refine sx_aload_n X 0 rfl dX18_pass_0 rfl ?_
  refine sx_get X kX18 0 rfl 2 (Nat.le_of_ble_eq_true rfl) qm_1149 rfl dX18_pass_1 ?_
  refine sx_astore_n X (lv' := [(1, .ref h_orders), (0, .ref h)]) dX18_pass_4 rfl (by decide) rfl ?_
  refine sx_aload_n X 0 rfl dX18_pass_5 rfl ?_
  refine sx_Qlen XQ dX18_pass_6 ?_
  refine sx_istore_n X (lv' := [(2, .int (nI os.length)), (1, .ref h_orders), (0, .ref h)]) dX18_pass_7 rfl (by decide) rfl ?_
  refine sx_iconst X (v := 0) dX18_pass_8 rfl ?_
  refine sx_istore_n X (lv' := [(3, .int 0), (2, .int (nI os.length)), (1, .ref h_orders), (0, .ref h)]) dX18_pass_9 rfl (by decide) rfl ?_
  refine sx_lsub [3, 2, 1, 0] rfl ?_
  exact L10 (nI os.length) (Y18_hour b_h) (Y18_warmth b_h) (Y18_storms b_h) n 0 (Y18_strength b_h) (Y18_charge b_h) (Y18_lemons b_h) (Y18_saucers b_h) (Y18_coins b_h) (Y18_Fp b_h) (Y18_Gp b_h) hf

abbrev vf_X18_pass_ (sd : SdT) (r : Int32 × Int32 × Int32 × Int32 × Int32 × Int32 × Int32 × Int32 × Int32 × (Nat → Int32) × (Nat → Int32)) : Option Value := some (.int r.1)
abbrev wc_X18_pass_ (T : Nat → ClassId) (sd : SdT) (h : Nat) (h_fronts : Nat) (h_guests : Nat) (h_orders : Nat) (h_rF : Nat → Nat) (h_rG : Nat → Nat) (b_h : bY18) : va_W := zO h 16 [.ref h_fronts, .ref h_guests, .ref h_orders, .int (Y18_hour b_h), .int (Y18_warmth b_h), .int (Y18_strength b_h), .int (Y18_charge b_h), .int (Y18_lemons b_h), .int (Y18_saucers b_h), .int (Y18_coins b_h), .int (Y18_storms b_h)] :: zR T 5 h_fronts (Y18_nf b_h) h_rF :: zR T 6 h_guests (Y18_ng b_h) h_rG :: zT h_rF h_rG (Y18_nf b_h) (Y18_ng b_h) (Y18_Fw b_h) (Y18_Ff b_h) (Y18_Fa b_h) (Y18_Fs b_h) (Y18_Fp b_h) (Y18_Ga b_h) (Y18_Gl b_h) (Y18_Gh b_h) (Y18_Gn b_h) (Y18_Gp b_h)
abbrev wf_X18_pass_ (T : Nat → ClassId) (sd : SdT) (h : Nat) (h_fronts : Nat) (h_guests : Nat) (h_orders : Nat) (h_rF : Nat → Nat) (h_rG : Nat → Nat) (b_h : bY18) (r : Int32 × Int32 × Int32 × Int32 × Int32 × Int32 × Int32 × Int32 × Int32 × (Nat → Int32) × (Nat → Int32)) : va_W := zO h 16 [.ref h_fronts, .ref h_guests, .ref h_orders, .int r.2.1, .int r.2.2.1, .int r.2.2.2.1, .int r.2.2.2.2.1, .int r.2.2.2.2.2.1, .int r.2.2.2.2.2.2.1, .int r.2.2.2.2.2.2.2.1, .int r.2.2.2.2.2.2.2.2.1] :: zR T 5 h_fronts (Y18_nf b_h) h_rF :: zR T 6 h_guests (Y18_ng b_h) h_rG :: zT h_rF h_rG (Y18_nf b_h) (Y18_ng b_h) (Y18_Fw b_h) (Y18_Ff b_h) (Y18_Fa b_h) (Y18_Fs b_h) r.2.2.2.2.2.2.2.2.2.1 (Y18_Ga b_h) (Y18_Gl b_h) (Y18_Gh b_h) (Y18_Gn b_h) r.2.2.2.2.2.2.2.2.2.2
abbrev rm_X18_pass_ : Room := { frames := 16, cells := 0, slots := 0, locals := 749 }
theorem hd_X18_pass_ : yX18_pass_.cls ≠ "java/lang/invoke/MethodHandle" ∧ yX18_pass_.cls ≠ "java/lang/invoke/VarHandle" ∧ (parseMethodDescriptor yX18_pass_.desc).map (fun d => d.parameters.length) = some 1 := ⟨by decide, by decide, by decide +kernel⟩
set_option maxHeartbeats 4000000 in
set_option maxRecDepth 100000 in
theorem c_X18_pass_ {l : Launch} {D : va_G} {T : Nat → ClassId} {sd : SdT} {rQ : Nat → Nat} (h : Nat) (h_fronts : Nat) (h_guests : Nat) (h_orders : Nat) (h_rF : Nat → Nat) (h_rG : Nat → Nat) (n : Nat) (os : List Od) (x0 : Int32) (b_h : bY18) {res : Int32 × Int32 × Int32 × Int32 × Int32 × Int32 × Int32 × Int32 × Int32 × (Nat → Int32) × (Nat → Int32)} (hf : f_X18_pass_ n os x0 b_h = some res) : SxK (SFq sd h_orders rQ os) l D T yX18_pass_ cX18_pass_ 4 (some .int) rm_X18_pass_ [.ref h, .int x0] (wc_X18_pass_ T sd h h_fronts h_guests h_orders h_rF h_rG b_h) (vf_X18_pass_ sd) (wf_X18_pass_ T sd h h_fronts h_guests h_orders h_rF h_rG b_h) res 0 0 := by
  refine sx_start (SFq_ok sd _ rQ os) (by decide +kernel) (Nat.le_of_ble_eq_true rfl) (fun p e s m args below meth c A X hnm => ?_)
  have XQ := X
  have X := XQ.dn (SFx_ok sd)
  have hf := ob_1 hf
  have L4 : ∀ (v1 : Int32) (n0 : Nat) (v2 : Int32) (v3 : Int32) (w_h_hour : Int32) (w_h_warmth : Int32) (w_h_strength : Int32) (w_h_charge : Int32) (w_h_lemons : Int32) (w_h_saucers : Int32) (w_h_coins : Int32) (w_h_storms : Int32) (w_h_Fp : Nat → Int32) (w_h_Gp : Nat → Int32), (iter (fun s : Int32 × Int32 × Int32 × Int32 × Int32 × Int32 × Int32 × Int32 × Int32 × Int32 × (Nat → Int32) × (Nat → Int32) => f_X18_pass__L4 n os x0 b_h v1 s.1 s.2.1 s.2.2.1 s.2.2.2.1 s.2.2.2.2.1 s.2.2.2.2.2.1 s.2.2.2.2.2.2.1 s.2.2.2.2.2.2.2.1 s.2.2.2.2.2.2.2.2.1 s.2.2.2.2.2.2.2.2.2.1 s.2.2.2.2.2.2.2.2.2.2.1 s.2.2.2.2.2.2.2.2.2.2.2) n0 (v2, v3, w_h_hour, w_h_warmth, w_h_strength, w_h_charge, w_h_lemons, w_h_saucers, w_h_coins, w_h_storms, w_h_Fp, w_h_Gp)).bind some = some res → SxG p l e rm_X18_pass_ s m args below meth c D A 4 0 0 (SxE below args s D A (vf_X18_pass_ sd) (wf_X18_pass_ T sd h h_fronts h_guests h_orders h_rF h_rG b_h) res 0 0) (zO h 16 [.ref h_fronts, .ref h_guests, .ref h_orders, .int w_h_hour, .int w_h_warmth, .int w_h_strength, .int w_h_charge, .int w_h_lemons, .int w_h_saucers, .int w_h_coins, .int w_h_storms] :: zR T 5 h_fronts (Y18_nf b_h) h_rF :: zR T 6 h_guests (Y18_ng b_h) h_rG :: zT h_rF h_rG (Y18_nf b_h) (Y18_ng b_h) (Y18_Fw b_h) (Y18_Ff b_h) (Y18_Fa b_h) (Y18_Fs b_h) w_h_Fp (Y18_Ga b_h) (Y18_Gl b_h) (Y18_Gh b_h) (Y18_Gn b_h) w_h_Gp) [(0, .ref h), (1, .int v1), (2, .int v2), (3, .int v3)] 4 [] := by
    intro v1 n0
    induction n0 with
    | zero =>
      intro v2 v3 w_h_hour w_h_warmth w_h_strength w_h_charge w_h_lemons w_h_saucers w_h_coins w_h_storms w_h_Fp w_h_Gp hf
      exact (iter_z hf).elim
    | succ n0 ih4 =>
      intro v2 v3 w_h_hour w_h_warmth w_h_strength w_h_charge w_h_lemons w_h_saucers w_h_coins w_h_storms w_h_Fp w_h_Gp hf
      obtain ⟨κ4, hκ4, hf⟩ := iter_k hf
      have hf : (f_X18_pass__L4 n os x0 b_h v1 v2 v3 w_h_hour w_h_warmth w_h_strength w_h_charge w_h_lemons w_h_saucers w_h_coins w_h_storms w_h_Fp w_h_Gp).bind κ4 = some res := hf
      refine sx_iload_n X 3 rfl dX18_pass__4 rfl ?_
      refine sx_iload_n X 1 rfl dX18_pass__5 rfl ?_
      refine sx_icmp_ge X 22 dX18_pass__6 rfl (fun c1 => ?_) (fun c1 => ?_)
      · have hf := ob_t hf c1
        refine sx_iload_n X 2 rfl dX18_pass__22 rfl ?_
        have hf := ob_kr hκ4 hf
        exact sx_iret X rfl dX18_pass__23 (ob_e hf) rfl rfl
      · have hf := ob_f hf c1
        refine sx_iload_n X 2 rfl dX18_pass__9 rfl ?_
        refine sx_aload_n X 0 rfl dX18_pass__10 rfl ?_
        obtain ⟨u2, hu2, hf⟩ := ob_c hf
        refine sx_cV XQ (c_X18_pass (l := l) (D := D) (T := T) (sd := sd) (rQ := rQ) h h_fronts h_guests h_orders h_rF h_rG n os (w_h_hour, w_h_warmth, w_h_strength, w_h_charge, w_h_lemons, w_h_saucers, w_h_coins, w_h_storms, (Y18_Fw b_h), (Y18_Ff b_h), (Y18_Fa b_h), (Y18_Fs b_h), w_h_Fp, (Y18_Ga b_h), (Y18_Gl b_h), (Y18_Gh b_h), (Y18_Gn b_h), w_h_Gp, (Y18_nf b_h), (Y18_ng b_h)) hu2) (st' := [.int u2.1, .int v2]) (q0 := 0) qm_1597 qm_704 qm_705 qm_29 qm_706 hd_X18_pass ⟨rfl, rfl⟩ ⟨Nat.le_of_ble_eq_true rfl, Nat.le_of_ble_eq_true rfl⟩ rfl rfl (Nat.le_of_ble_eq_true rfl) rfl rfl rfl ([0, 1, 2] ++ List.range' 3 (zT h_rF h_rG (Y18_nf b_h) (Y18_ng b_h) (Y18_Fw b_h) (Y18_Ff b_h) (Y18_Fa b_h) (Y18_Fs b_h) w_h_Fp (Y18_Ga b_h) (Y18_Gl b_h) (Y18_Gh b_h) (Y18_Gn b_h) w_h_Gp).length) (tc_C (fx := [zO h 16 [.ref h_fronts, .ref h_guests, .ref h_orders, .int w_h_hour, .int w_h_warmth, .int w_h_strength, .int w_h_charge, .int w_h_lemons, .int w_h_saucers, .int w_h_coins, .int w_h_storms], zR T 5 h_fronts (Y18_nf b_h) h_rF, zR T 6 h_guests (Y18_ng b_h) h_rG]) (fc := [zO h 16 [.ref h_fronts, .ref h_guests, .ref h_orders, .int w_h_hour, .int w_h_warmth, .int w_h_strength, .int w_h_charge, .int w_h_lemons, .int w_h_saucers, .int w_h_coins, .int w_h_storms], zR T 5 h_fronts (Y18_nf b_h) h_rF, zR T 6 h_guests (Y18_ng b_h) h_rG]) (tl := zT h_rF h_rG (Y18_nf b_h) (Y18_ng b_h) (Y18_Fw b_h) (Y18_Ff b_h) (Y18_Fa b_h) (Y18_Fs b_h) w_h_Fp (Y18_Ga b_h) (Y18_Gl b_h) (Y18_Gh b_h) (Y18_Gn b_h) w_h_Gp) rfl rfl rfl rfl (by decide)) (tl_nd rfl (by decide)) (ws' := zO h 16 [.ref h_fronts, .ref h_guests, .ref h_orders, .int u2.2.1, .int u2.2.2.1, .int u2.2.2.2.1, .int u2.2.2.2.2.1, .int u2.2.2.2.2.2.1, .int u2.2.2.2.2.2.2.1, .int u2.2.2.2.2.2.2.2.1, .int u2.2.2.2.2.2.2.2.2.1] :: zR T 5 h_fronts (Y18_nf b_h) h_rF :: zR T 6 h_guests (Y18_ng b_h) h_rG :: zT h_rF h_rG (Y18_nf b_h) (Y18_ng b_h) (Y18_Fw b_h) (Y18_Ff b_h) (Y18_Fa b_h) (Y18_Fs b_h) u2.2.2.2.2.2.2.2.2.2.1 (Y18_Ga b_h) (Y18_Gl b_h) (Y18_Gh b_h) (Y18_Gn b_h) u2.2.2.2.2.2.2.2.2.2.2) (tc_W (fx := [zO h 16 [.ref h_fronts, .ref h_guests, .ref h_orders, .int w_h_hour, .int w_h_warmth, .int w_h_strength, .int w_h_charge, .int w_h_lemons, .int w_h_saucers, .int w_h_coins, .int w_h_storms], zR T 5 h_fronts (Y18_nf b_h) h_rF, zR T 6 h_guests (Y18_ng b_h) h_rG]) (fx' := [zO h 16 [.ref h_fronts, .ref h_guests, .ref h_orders, .int u2.2.1, .int u2.2.2.1, .int u2.2.2.2.1, .int u2.2.2.2.2.1, .int u2.2.2.2.2.2.1, .int u2.2.2.2.2.2.2.1, .int u2.2.2.2.2.2.2.2.1, .int u2.2.2.2.2.2.2.2.2.1], zR T 5 h_fronts (Y18_nf b_h) h_rF, zR T 6 h_guests (Y18_ng b_h) h_rG]) (fc' := [zO h 16 [.ref h_fronts, .ref h_guests, .ref h_orders, .int u2.2.1, .int u2.2.2.1, .int u2.2.2.2.1, .int u2.2.2.2.2.1, .int u2.2.2.2.2.2.1, .int u2.2.2.2.2.2.2.1, .int u2.2.2.2.2.2.2.2.1, .int u2.2.2.2.2.2.2.2.2.1], zR T 5 h_fronts (Y18_nf b_h) h_rF, zR T 6 h_guests (Y18_ng b_h) h_rG]) (tl := zT h_rF h_rG (Y18_nf b_h) (Y18_ng b_h) (Y18_Fw b_h) (Y18_Ff b_h) (Y18_Fa b_h) (Y18_Fs b_h) w_h_Fp (Y18_Ga b_h) (Y18_Gl b_h) (Y18_Gh b_h) (Y18_Gn b_h) w_h_Gp) (tl' := zT h_rF h_rG (Y18_nf b_h) (Y18_ng b_h) (Y18_Fw b_h) (Y18_Ff b_h) (Y18_Fa b_h) (Y18_Fs b_h) u2.2.2.2.2.2.2.2.2.2.1 (Y18_Ga b_h) (Y18_Gl b_h) (Y18_Gh b_h) (Y18_Gn b_h) u2.2.2.2.2.2.2.2.2.2.2) rfl rfl rfl rfl zT_ln (by decide) (sxPatch_pk [(true, 0), (true, 1), (true, 2)] (by decide +kernel) rfl rfl rfl) rfl) (tc_a (fc := [zO h 16 [.ref h_fronts, .ref h_guests, .ref h_orders, .int w_h_hour, .int w_h_warmth, .int w_h_strength, .int w_h_charge, .int w_h_lemons, .int w_h_saucers, .int w_h_coins, .int w_h_storms], zR T 5 h_fronts (Y18_nf b_h) h_rF, zR T 6 h_guests (Y18_ng b_h) h_rG]) (fc' := [zO h 16 [.ref h_fronts, .ref h_guests, .ref h_orders, .int u2.2.1, .int u2.2.2.1, .int u2.2.2.2.1, .int u2.2.2.2.2.1, .int u2.2.2.2.2.2.1, .int u2.2.2.2.2.2.2.1, .int u2.2.2.2.2.2.2.2.1, .int u2.2.2.2.2.2.2.2.2.1], zR T 5 h_fronts (Y18_nf b_h) h_rF, zR T 6 h_guests (Y18_ng b_h) h_rG]) (tl := zT h_rF h_rG (Y18_nf b_h) (Y18_ng b_h) (Y18_Fw b_h) (Y18_Ff b_h) (Y18_Fa b_h) (Y18_Fs b_h) w_h_Fp (Y18_Ga b_h) (Y18_Gl b_h) (Y18_Gh b_h) (Y18_Gn b_h) w_h_Gp) (tl' := zT h_rF h_rG (Y18_nf b_h) (Y18_ng b_h) (Y18_Fw b_h) (Y18_Ff b_h) (Y18_Fa b_h) (Y18_Fs b_h) u2.2.2.2.2.2.2.2.2.2.1 (Y18_Ga b_h) (Y18_Gl b_h) (Y18_Gh b_h) (Y18_Gn b_h) u2.2.2.2.2.2.2.2.2.2.2) rfl rfl rfl zT_fst) ⟨Nat.le_of_ble_eq_true rfl, Nat.le_of_ble_eq_true rfl⟩ dX18_pass__11 rfl ?_
        refine sx_iadd X dX18_pass__14 ?_
        refine sx_istore_n X (lv' := [(2, .int (v2 + u2.1)), (0, .ref h), (1, .int v1), (3, .int v3)]) dX18_pass__15 rfl (by decide) rfl ?_
        refine sx_iinc X (v := (v3 + 1)) (lv' := [(3, .int (v3 + 1)), (2, .int (v2 + u2.1)), (0, .ref h), (1, .int v1)]) 3 rfl dX18_pass__16 rfl (by decide) rfl ?_
        refine sx_goto X 4 dX18_pass__19 rfl ?_
        have hf := ob_k hκ4 hf
        refine sx_lsub [2, 3, 1, 0] rfl ?_
        exact ih4 (v2 + u2.1) (v3 + 1) u2.2.1 u2.2.2.1 u2.2.2.2.1 u2.2.2.2.2.1 u2.2.2.2.2.2.1 u2.2.2.2.2.2.2.1 u2.2.2.2.2.2.2.2.1 u2.2.2.2.2.2.2.2.2.1 u2.2.2.2.2.2.2.2.2.2.1 u2.2.2.2.2.2.2.2.2.2.2 hf
  refine sx_iconst X (v := 0) dX18_pass__0 rfl ?_
  refine sx_istore_n X (lv' := [(2, .int 0), (0, .ref h), (1, .int x0)]) dX18_pass__1 rfl (by decide) rfl ?_
  refine sx_iconst X (v := 0) dX18_pass__2 rfl ?_
  refine sx_istore_n X (lv' := [(3, .int 0), (2, .int 0), (0, .ref h), (1, .int x0)]) dX18_pass__3 rfl (by decide) rfl ?_
  refine sx_lsub [2, 3, 1, 0] rfl ?_
  exact L4 x0 n 0 0 (Y18_hour b_h) (Y18_warmth b_h) (Y18_strength b_h) (Y18_charge b_h) (Y18_lemons b_h) (Y18_saucers b_h) (Y18_coins b_h) (Y18_storms b_h) (Y18_Fp b_h) (Y18_Gp b_h) hf
