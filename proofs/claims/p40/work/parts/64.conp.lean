abbrev vf_L_below (sd : SdT) (r : Int32) : Option Value := some (.int r)
abbrev wc_L_below (T : Nat → ClassId) (sd : SdT)  : va_W := []
abbrev wf_L_below (T : Nat → ClassId) (sd : SdT)  (r : Int32) : va_W := []
abbrev rm_L_below : Room := { frames := 0, cells := 0, slots := 0, locals := 0 }
theorem hd_L_below : yL_below.cls ≠ "java/lang/invoke/MethodHandle" ∧ yL_below.cls ≠ "java/lang/invoke/VarHandle" ∧ (parseMethodDescriptor yL_below.desc).map (fun d => d.parameters.length) = some 2 := ⟨by decide, by decide, by decide +kernel⟩
set_option maxHeartbeats 4000000 in
set_option maxRecDepth 100000 in
theorem c_L_below {l : Launch} {D : va_G} {T : Nat → ClassId} {sd : SdT}  (x0 : Int32) (x1 : Int32) {res : Int32} (hf : f_L_below x0 x1 = some res) : SxK (SFx sd) l D T yL_below cL_below 2 (some .int) rm_L_below [.int x0, .int x1] (wc_L_below T sd ) (vf_L_below sd) (wf_L_below T sd ) res 0 0 := by
  refine sx_start (SFx_ok sd) (by decide +kernel) (Nat.le_of_ble_eq_true rfl) (fun p e s m args below meth c A X hnm => ?_)
  have hf := ob_1 hf
  refine sx_iload_n X 0 rfl dL_below_0 rfl ?_
  refine sx_ldc X qm_698 dL_below_1 ?_
  refine sx_iand X dL_below_3 ?_
  refine sx_iload_n X 1 rfl dL_below_4 rfl ?_
  obtain ⟨g1, hf⟩ := ob_g hf
  refine sx_irem X g1 dL_below_5 ?_
  exact sx_iret X rfl dL_below_6 (ob_e hf) rfl rfl

abbrev vf_X13_next (sd : SdT) (r : Int32 × Int32) : Option Value := some (.int r.1)
abbrev wc_X13_next (T : Nat → ClassId) (sd : SdT) (h : Nat) (b_h : bX13) : va_W := [zO h 11 [.int (X13_state b_h)]]
abbrev wf_X13_next (T : Nat → ClassId) (sd : SdT) (h : Nat) (b_h : bX13) (r : Int32 × Int32) : va_W := [zO h 11 [.int r.2]]
abbrev rm_X13_next : Room := { frames := 1, cells := 0, slots := 0, locals := 21 }
theorem hd_X13_next : yX13_next.cls ≠ "java/lang/invoke/MethodHandle" ∧ yX13_next.cls ≠ "java/lang/invoke/VarHandle" ∧ (parseMethodDescriptor yX13_next.desc).map (fun d => d.parameters.length) = some 1 := ⟨by decide, by decide, by decide +kernel⟩
set_option maxHeartbeats 4000000 in
set_option maxRecDepth 100000 in
theorem c_X13_next {l : Launch} {D : va_G} {T : Nat → ClassId} {sd : SdT} (h : Nat) (x0 : Int32) (b_h : bX13) {res : Int32 × Int32} (hf : f_X13_next x0 b_h = some res) : SxK (SFx sd) l D T yX13_next cX13_next 2 (some .int) rm_X13_next [.ref h, .int x0] (wc_X13_next T sd h b_h) (vf_X13_next sd) (wf_X13_next T sd h b_h) res 0 0 := by
  refine sx_start (SFx_ok sd) (by decide +kernel) (Nat.le_of_ble_eq_true rfl) (fun p e s m args below meth c A X hnm => ?_)
  have hf := ob_1 hf
  refine sx_aload_n X 0 rfl dX13_next_0 rfl ?_
  refine sx_aload_n X 0 rfl dX13_next_1 rfl ?_
  refine sx_get X kX13 0 rfl 0 (Nat.le_of_ble_eq_true rfl) qm_686 rfl dX13_next_2 ?_
  refine sx_ldc X qm_694 dX13_next_5 ?_
  refine sx_imul X dX13_next_7 ?_
  refine sx_sipush X (v := 12345) dX13_next_8 rfl ?_
  refine sx_iadd X dX13_next_11 ?_
  refine sx_put X (ws' := [zO h 11 [.int (((X13_state b_h) * 1103515245) + 12345)]]) kX13 0 rfl 0 (Nat.le_of_ble_eq_true rfl) qm_686 rfl rfl rfl (Nat.le_of_ble_eq_true rfl) rfl dX13_next_12 ?_
  refine sx_aload_n X 0 rfl dX13_next_15 rfl ?_
  refine sx_get X kX13 0 rfl 0 (Nat.le_of_ble_eq_true rfl) qm_686 rfl dX13_next_16 ?_
  refine sx_bipush X (v := 9) dX13_next_19 rfl ?_
  refine sx_ishr X dX13_next_21 ?_
  refine sx_iload_n X 1 rfl dX13_next_22 rfl ?_
  obtain ⟨u1, hu1, hf⟩ := ob_c hf
  refine sx_cNr X (c_L_below (l := l) (D := D) (T := T) (sd := sd) ((((X13_state b_h) * 1103515245) + 12345) >>> (9 &&& 31)) x0 hu1) (st' := [.int u1]) (X.sf.2.2.1.2.1 _ (List.mem_of_getElem? (i := 2) rfl)) qm_696 qm_12 qm_697 hd_L_below ⟨rfl, rfl⟩ ⟨Nat.le_of_ble_eq_true rfl, Nat.le_of_ble_eq_true rfl⟩ rfl rfl (Nat.le_of_ble_eq_true rfl) [] rfl rfl rfl ⟨Nat.le_of_ble_eq_true rfl, Nat.le_of_ble_eq_true rfl⟩ dX13_next_23 rfl ?_
  exact sx_iret X rfl dX13_next_26 (ob_e hf) rfl rfl

abbrev vf_X18_likes (sd : SdT) (r : Int32) : Option Value := some (.int r)
abbrev wc_X18_likes (T : Nat → ClassId) (sd : SdT) (h : Nat) (h_fronts : Nat) (h_guests : Nat) (h_orders : Nat) (h_rF : Nat → Nat) (h_rG : Nat → Nat) (b_h : bY18) : va_W := zO h 16 [.ref h_fronts, .ref h_guests, .ref h_orders, .int (Y18_hour b_h), .int (Y18_warmth b_h), .int (Y18_strength b_h), .int (Y18_charge b_h), .int (Y18_lemons b_h), .int (Y18_saucers b_h), .int (Y18_coins b_h), .int (Y18_storms b_h)] :: zR T 5 h_fronts (Y18_nf b_h) h_rF :: zR T 6 h_guests (Y18_ng b_h) h_rG :: zT h_rF h_rG (Y18_nf b_h) (Y18_ng b_h) (Y18_Fw b_h) (Y18_Ff b_h) (Y18_Fa b_h) (Y18_Fs b_h) (Y18_Fp b_h) (Y18_Ga b_h) (Y18_Gl b_h) (Y18_Gh b_h) (Y18_Gn b_h) (Y18_Gp b_h)
abbrev wf_X18_likes (T : Nat → ClassId) (sd : SdT) (h : Nat) (h_fronts : Nat) (h_guests : Nat) (h_orders : Nat) (h_rF : Nat → Nat) (h_rG : Nat → Nat) (b_h : bY18) (r : Int32) : va_W := zO h 16 [.ref h_fronts, .ref h_guests, .ref h_orders, .int (Y18_hour b_h), .int (Y18_warmth b_h), .int (Y18_strength b_h), .int (Y18_charge b_h), .int (Y18_lemons b_h), .int (Y18_saucers b_h), .int (Y18_coins b_h), .int (Y18_storms b_h)] :: zR T 5 h_fronts (Y18_nf b_h) h_rF :: zR T 6 h_guests (Y18_ng b_h) h_rG :: zT h_rF h_rG (Y18_nf b_h) (Y18_ng b_h) (Y18_Fw b_h) (Y18_Ff b_h) (Y18_Fa b_h) (Y18_Fs b_h) (Y18_Fp b_h) (Y18_Ga b_h) (Y18_Gl b_h) (Y18_Gh b_h) (Y18_Gn b_h) (Y18_Gp b_h)
abbrev rm_X18_likes : Room := { frames := 0, cells := 0, slots := 0, locals := 0 }
theorem hd_X18_likes : yX18_likes.cls ≠ "java/lang/invoke/MethodHandle" ∧ yX18_likes.cls ≠ "java/lang/invoke/VarHandle" ∧ (parseMethodDescriptor yX18_likes.desc).map (fun d => d.parameters.length) = some 2 := ⟨by decide, by decide, by decide +kernel⟩
set_option maxHeartbeats 4000000 in
set_option maxRecDepth 100000 in
theorem c_X18_likes {l : Launch} {D : va_G} {T : Nat → ClassId} {sd : SdT} (h : Nat) (h_fronts : Nat) (h_guests : Nat) (h_orders : Nat) (h_rF : Nat → Nat) (h_rG : Nat → Nat) (x0 : Nat) (x1 : Int32) (b_h : bY18) {res : Int32} (hf : f_X18_likes x0 x1 b_h = some res) : SxK (SFx sd) l D T yX18_likes cX18_likes 3 (some .boolean) rm_X18_likes [.ref h, .ref (h_rG x0), .int x1] (wc_X18_likes T sd h h_fronts h_guests h_orders h_rF h_rG b_h) (vf_X18_likes sd) (wf_X18_likes T sd h h_fronts h_guests h_orders h_rF h_rG b_h) res 0 0 := by
  refine sx_start (SFx_ok sd) (by decide +kernel) (Nat.le_of_ble_eq_true rfl) (fun p e s m args below meth c A X hnm => ?_)
  have hf := ob_1 hf
  refine sx_aload_n X 1 rfl dX18_likes_0 rfl ?_
  obtain ⟨g1, hf⟩ := ob_h hf
  refine sx_get X kX15 ((Y18_nf b_h) + x0 + 1 + 1 + 1) (at_s (at_s (at_s (zT_G g1)))) 4 (Nat.le_of_ble_eq_true rfl) qm_1371 rfl dX18_likes_1 ?_
  refine sx_iconst X (v := 1) dX18_likes_4 rfl ?_
  refine sx_icmp_ne X 37 dX18_likes_5 rfl (fun c2 => ?_) (fun c2 => ?_)
  · have hf := ob_f hf c2
    refine sx_iconst X (v := 0) dX18_likes_37 rfl ?_
    exact sx_iret X rfl dX18_likes_38 (ob_e hf) rfl rfl
  · have hf := ob_t hf c2
    refine sx_iload_n X 2 rfl dX18_likes_8 rfl ?_
    refine sx_aload_n X 1 rfl dX18_likes_9 rfl ?_
    refine sx_get X kX15 ((Y18_nf b_h) + x0 + 1 + 1 + 1) (at_s (at_s (at_s (zT_G g1)))) 1 (Nat.le_of_ble_eq_true rfl) qm_1365 rfl dX18_likes_10 ?_
    refine sx_icmp_lt X 37 dX18_likes_13 rfl (fun c3 => ?_) (fun c3 => ?_)
    · have hf := ob_t hf c3
      refine sx_iconst X (v := 0) dX18_likes_37 rfl ?_
      exact sx_iret X rfl dX18_likes_38 (ob_e hf) rfl rfl
    · have hf := ob_f hf c3
      refine sx_iload_n X 2 rfl dX18_likes_16 rfl ?_
      refine sx_aload_n X 1 rfl dX18_likes_17 rfl ?_
      refine sx_get X kX15 ((Y18_nf b_h) + x0 + 1 + 1 + 1) (at_s (at_s (at_s (zT_G g1)))) 2 (Nat.le_of_ble_eq_true rfl) qm_1367 rfl dX18_likes_18 ?_
      refine sx_icmp_gt X 37 dX18_likes_21 rfl (fun c4 => ?_) (fun c4 => ?_)
      · have hf := ob_t hf c4
        refine sx_iconst X (v := 0) dX18_likes_37 rfl ?_
        exact sx_iret X rfl dX18_likes_38 (ob_e hf) rfl rfl
      · have hf := ob_f hf c4
        refine sx_aload_n X 0 rfl dX18_likes_24 rfl ?_
        refine sx_get X kX18 0 rfl 4 (Nat.le_of_ble_eq_true rfl) qm_1153 rfl dX18_likes_25 ?_
        refine sx_bipush X (v := 14) dX18_likes_28 rfl ?_
        refine sx_icmp_le X 37 dX18_likes_30 rfl (fun c5 => ?_) (fun c5 => ?_)
        · have hf := ob_t hf c5
          refine sx_iconst X (v := 0) dX18_likes_37 rfl ?_
          exact sx_iret X rfl dX18_likes_38 (ob_e hf) rfl rfl
        · have hf := ob_f hf c5
          refine sx_iconst X (v := 1) dX18_likes_33 rfl ?_
          refine sx_goto X 38 dX18_likes_34 rfl ?_
          exact sx_iret X rfl dX18_likes_38 (ob_e hf) rfl rfl

abbrev vf_X18_isSteeped (sd : SdT) (r : Int32 × Int32 × (Nat → Int32)) : Option Value := some (.int r.1)
abbrev wc_X18_isSteeped (T : Nat → ClassId) (sd : SdT) (h : Nat) (h_fronts : Nat) (h_guests : Nat) (h_orders : Nat) (h_rF : Nat → Nat) (h_rG : Nat → Nat) (b_h : bY18) : va_W := zO h 16 [.ref h_fronts, .ref h_guests, .ref h_orders, .int (Y18_hour b_h), .int (Y18_warmth b_h), .int (Y18_strength b_h), .int (Y18_charge b_h), .int (Y18_lemons b_h), .int (Y18_saucers b_h), .int (Y18_coins b_h), .int (Y18_storms b_h)] :: zR T 5 h_fronts (Y18_nf b_h) h_rF :: zR T 6 h_guests (Y18_ng b_h) h_rG :: zT h_rF h_rG (Y18_nf b_h) (Y18_ng b_h) (Y18_Fw b_h) (Y18_Ff b_h) (Y18_Fa b_h) (Y18_Fs b_h) (Y18_Fp b_h) (Y18_Ga b_h) (Y18_Gl b_h) (Y18_Gh b_h) (Y18_Gn b_h) (Y18_Gp b_h)
abbrev wf_X18_isSteeped (T : Nat → ClassId) (sd : SdT) (h : Nat) (h_fronts : Nat) (h_guests : Nat) (h_orders : Nat) (h_rF : Nat → Nat) (h_rG : Nat → Nat) (b_h : bY18) (r : Int32 × Int32 × (Nat → Int32)) : va_W := zO h 16 [.ref h_fronts, .ref h_guests, .ref h_orders, .int (Y18_hour b_h), .int (Y18_warmth b_h), .int r.2.1, .int (Y18_charge b_h), .int (Y18_lemons b_h), .int (Y18_saucers b_h), .int (Y18_coins b_h), .int (Y18_storms b_h)] :: zR T 5 h_fronts (Y18_nf b_h) h_rF :: zR T 6 h_guests (Y18_ng b_h) h_rG :: zT h_rF h_rG (Y18_nf b_h) (Y18_ng b_h) (Y18_Fw b_h) (Y18_Ff b_h) (Y18_Fa b_h) (Y18_Fs b_h) r.2.2 (Y18_Ga b_h) (Y18_Gl b_h) (Y18_Gh b_h) (Y18_Gn b_h) (Y18_Gp b_h)
abbrev rm_X18_isSteeped : Room := { frames := 0, cells := 0, slots := 0, locals := 0 }
theorem hd_X18_isSteeped : yX18_isSteeped.cls ≠ "java/lang/invoke/MethodHandle" ∧ yX18_isSteeped.cls ≠ "java/lang/invoke/VarHandle" ∧ (parseMethodDescriptor yX18_isSteeped.desc).map (fun d => d.parameters.length) = some 1 := ⟨by decide, by decide, by decide +kernel⟩
set_option maxHeartbeats 4000000 in
set_option maxRecDepth 100000 in
theorem c_X18_isSteeped {l : Launch} {D : va_G} {T : Nat → ClassId} {sd : SdT} (h : Nat) (h_fronts : Nat) (h_guests : Nat) (h_orders : Nat) (h_rF : Nat → Nat) (h_rG : Nat → Nat) (x0 : Int32) (b_h : bY18) {res : Int32 × Int32 × (Nat → Int32)} (hf : f_X18_isSteeped x0 b_h = some res) : SxK (SFx sd) l D T yX18_isSteeped cX18_isSteeped 2 (some .boolean) rm_X18_isSteeped [.ref h, .int x0] (wc_X18_isSteeped T sd h h_fronts h_guests h_orders h_rF h_rG b_h) (vf_X18_isSteeped sd) (wf_X18_isSteeped T sd h h_fronts h_guests h_orders h_rF h_rG b_h) res 0 0 := by
  refine sx_start (SFx_ok sd) (by decide +kernel) (Nat.le_of_ble_eq_true rfl) (fun p e s m args below meth c A X hnm => ?_)
  have hf := ob_1 hf
  refine sx_aload_n X 0 rfl dX18_isSteeped_0 rfl ?_
  refine sx_get X kX18 0 rfl 0 (Nat.le_of_ble_eq_true rfl) qm_1143 rfl dX18_isSteeped_1 ?_
  refine sx_iload_n X 1 rfl dX18_isSteeped_4 rfl ?_
  obtain ⟨g1, hf⟩ := ob_g hf
  refine sx_Rld X (t0 := 5) (f := h_rF) 1 rfl rfl g1 dX18_isSteeped_5 ?_
  refine sx_get X kX14 (x0.toNatClampNeg + 1 + 1 + 1) (at_s (at_s (at_s (zT_F (fl_lt g1))))) 4 (Nat.le_of_ble_eq_true rfl) qm_1208 rfl dX18_isSteeped_6 ?_
  refine sx_iconst X (v := 1) dX18_isSteeped_9 rfl ?_
  refine sx_icmp_eq X 15 dX18_isSteeped_10 rfl (fun c2 => ?_) (fun c2 => ?_)
  · have hf := ob_t hf c2
    refine sx_aload_n X 0 rfl dX18_isSteeped_15 rfl ?_
    refine sx_get X kX18 0 rfl 0 (Nat.le_of_ble_eq_true rfl) qm_1143 rfl dX18_isSteeped_16 ?_
    refine sx_iload_n X 1 rfl dX18_isSteeped_19 rfl ?_
    obtain ⟨g3, hf⟩ := ob_g hf
    refine sx_Rld X (t0 := 5) (f := h_rF) 1 rfl rfl g3 dX18_isSteeped_20 ?_
    refine sx_iconst X (v := 2) dX18_isSteeped_21 rfl ?_
    refine sx_put X (ws' := zO h 16 [.ref h_fronts, .ref h_guests, .ref h_orders, .int (Y18_hour b_h), .int (Y18_warmth b_h), .int (Y18_strength b_h), .int (Y18_charge b_h), .int (Y18_lemons b_h), .int (Y18_saucers b_h), .int (Y18_coins b_h), .int (Y18_storms b_h)] :: zR T 5 h_fronts (Y18_nf b_h) h_rF :: zR T 6 h_guests (Y18_ng b_h) h_rG :: zT h_rF h_rG (Y18_nf b_h) (Y18_ng b_h) (Y18_Fw b_h) (Y18_Ff b_h) (Y18_Fa b_h) (Y18_Fs b_h) (upd (Y18_Fp b_h) x0.toNatClampNeg 2) (Y18_Ga b_h) (Y18_Gl b_h) (Y18_Gh b_h) (Y18_Gn b_h) (Y18_Gp b_h)) kX14 (x0.toNatClampNeg + 1 + 1 + 1) (at_s (at_s (at_s (zT_F (fl_lt g3))))) 4 (Nat.le_of_ble_eq_true rfl) qm_1208 rfl rfl rfl (Nat.le_of_ble_eq_true rfl) (set_s (set_s (set_s (zT_Fs (fl_lt g3))))) dX18_isSteeped_22 ?_
    refine sx_aload_n X 0 rfl dX18_isSteeped_25 rfl ?_
    refine sx_aload_n X 0 rfl dX18_isSteeped_26 rfl ?_
    refine sx_get X kX18 0 rfl 5 (Nat.le_of_ble_eq_true rfl) qm_1156 rfl dX18_isSteeped_27 ?_
    refine sx_aload_n X 0 rfl dX18_isSteeped_30 rfl ?_
    refine sx_get X kX18 0 rfl 0 (Nat.le_of_ble_eq_true rfl) qm_1143 rfl dX18_isSteeped_31 ?_
    refine sx_iload_n X 1 rfl dX18_isSteeped_34 rfl ?_
    obtain ⟨g4, hf⟩ := ob_g hf
    refine sx_Rld X (t0 := 5) (f := h_rF) 1 rfl rfl g4 dX18_isSteeped_35 ?_
    refine sx_get X kX14 (x0.toNatClampNeg + 1 + 1 + 1) (at_s (at_s (at_s (zT_F (fl_lt g4))))) 1 (Nat.le_of_ble_eq_true rfl) qm_1201 rfl dX18_isSteeped_36 ?_
    refine sx_iadd X dX18_isSteeped_39 ?_
    refine sx_bipush X (v := 30) dX18_isSteeped_40 rfl ?_
    refine sx_icmp_le X 50 dX18_isSteeped_42 rfl (fun c5 => ?_) (fun c5 => ?_)
    · have hf := ob_t hf c5
      refine sx_aload_n X 0 rfl dX18_isSteeped_50 rfl ?_
      refine sx_get X kX18 0 rfl 5 (Nat.le_of_ble_eq_true rfl) qm_1156 rfl dX18_isSteeped_51 ?_
      refine sx_aload_n X 0 rfl dX18_isSteeped_54 rfl ?_
      refine sx_get X kX18 0 rfl 0 (Nat.le_of_ble_eq_true rfl) qm_1143 rfl dX18_isSteeped_55 ?_
      refine sx_iload_n X 1 rfl dX18_isSteeped_58 rfl ?_
      obtain ⟨g6, hf⟩ := ob_g hf
      refine sx_Rld X (t0 := 5) (f := h_rF) 1 rfl rfl g6 dX18_isSteeped_59 ?_
      refine sx_get X kX14 (x0.toNatClampNeg + 1 + 1 + 1) (at_s (at_s (at_s (zT_F (fl_lt g6))))) 1 (Nat.le_of_ble_eq_true rfl) qm_1201 rfl dX18_isSteeped_60 ?_
      refine sx_iadd X dX18_isSteeped_63 ?_
      refine sx_put X (ws' := zO h 16 [.ref h_fronts, .ref h_guests, .ref h_orders, .int (Y18_hour b_h), .int (Y18_warmth b_h), .int ((Y18_strength b_h) + ((Y18_Ff b_h) x0.toNatClampNeg)), .int (Y18_charge b_h), .int (Y18_lemons b_h), .int (Y18_saucers b_h), .int (Y18_coins b_h), .int (Y18_storms b_h)] :: zR T 5 h_fronts (Y18_nf b_h) h_rF :: zR T 6 h_guests (Y18_ng b_h) h_rG :: zT h_rF h_rG (Y18_nf b_h) (Y18_ng b_h) (Y18_Fw b_h) (Y18_Ff b_h) (Y18_Fa b_h) (Y18_Fs b_h) (upd (Y18_Fp b_h) x0.toNatClampNeg 2) (Y18_Ga b_h) (Y18_Gl b_h) (Y18_Gh b_h) (Y18_Gn b_h) (Y18_Gp b_h)) kX18 0 rfl 5 (Nat.le_of_ble_eq_true rfl) qm_1156 rfl rfl rfl (Nat.le_of_ble_eq_true rfl) rfl dX18_isSteeped_64 ?_
      refine sx_iconst X (v := 1) dX18_isSteeped_67 rfl ?_
      exact sx_iret X rfl dX18_isSteeped_68 (ob_e hf) rfl rfl
    · have hf := ob_f hf c5
      refine sx_bipush X (v := 30) dX18_isSteeped_45 rfl ?_
      refine sx_goto X 64 dX18_isSteeped_47 rfl ?_
      refine sx_put X (ws' := zO h 16 [.ref h_fronts, .ref h_guests, .ref h_orders, .int (Y18_hour b_h), .int (Y18_warmth b_h), .int 30, .int (Y18_charge b_h), .int (Y18_lemons b_h), .int (Y18_saucers b_h), .int (Y18_coins b_h), .int (Y18_storms b_h)] :: zR T 5 h_fronts (Y18_nf b_h) h_rF :: zR T 6 h_guests (Y18_ng b_h) h_rG :: zT h_rF h_rG (Y18_nf b_h) (Y18_ng b_h) (Y18_Fw b_h) (Y18_Ff b_h) (Y18_Fa b_h) (Y18_Fs b_h) (upd (Y18_Fp b_h) x0.toNatClampNeg 2) (Y18_Ga b_h) (Y18_Gl b_h) (Y18_Gh b_h) (Y18_Gn b_h) (Y18_Gp b_h)) kX18 0 rfl 5 (Nat.le_of_ble_eq_true rfl) qm_1156 rfl rfl rfl (Nat.le_of_ble_eq_true rfl) rfl dX18_isSteeped_64 ?_
      refine sx_iconst X (v := 1) dX18_isSteeped_67 rfl ?_
      exact sx_iret X rfl dX18_isSteeped_68 (ob_e hf) rfl rfl
  · have hf := ob_f hf c2
    refine sx_iconst X (v := 0) dX18_isSteeped_13 rfl ?_
    exact sx_iret X rfl dX18_isSteeped_14 (ob_e hf) rfl rfl

abbrev vf_X18_isSqueezed (sd : SdT) (r : Int32 × Int32 × Int32) : Option Value := some (.int r.1)
abbrev wc_X18_isSqueezed (T : Nat → ClassId) (sd : SdT) (h : Nat) (h_fronts : Nat) (h_guests : Nat) (h_orders : Nat) (h_rF : Nat → Nat) (h_rG : Nat → Nat) (b_h : bY18) : va_W := zO h 16 [.ref h_fronts, .ref h_guests, .ref h_orders, .int (Y18_hour b_h), .int (Y18_warmth b_h), .int (Y18_strength b_h), .int (Y18_charge b_h), .int (Y18_lemons b_h), .int (Y18_saucers b_h), .int (Y18_coins b_h), .int (Y18_storms b_h)] :: zR T 5 h_fronts (Y18_nf b_h) h_rF :: zR T 6 h_guests (Y18_ng b_h) h_rG :: zT h_rF h_rG (Y18_nf b_h) (Y18_ng b_h) (Y18_Fw b_h) (Y18_Ff b_h) (Y18_Fa b_h) (Y18_Fs b_h) (Y18_Fp b_h) (Y18_Ga b_h) (Y18_Gl b_h) (Y18_Gh b_h) (Y18_Gn b_h) (Y18_Gp b_h)
abbrev wf_X18_isSqueezed (T : Nat → ClassId) (sd : SdT) (h : Nat) (h_fronts : Nat) (h_guests : Nat) (h_orders : Nat) (h_rF : Nat → Nat) (h_rG : Nat → Nat) (b_h : bY18) (r : Int32 × Int32 × Int32) : va_W := zO h 16 [.ref h_fronts, .ref h_guests, .ref h_orders, .int (Y18_hour b_h), .int (Y18_warmth b_h), .int (Y18_strength b_h), .int r.2.1, .int r.2.2, .int (Y18_saucers b_h), .int (Y18_coins b_h), .int (Y18_storms b_h)] :: zR T 5 h_fronts (Y18_nf b_h) h_rF :: zR T 6 h_guests (Y18_ng b_h) h_rG :: zT h_rF h_rG (Y18_nf b_h) (Y18_ng b_h) (Y18_Fw b_h) (Y18_Ff b_h) (Y18_Fa b_h) (Y18_Fs b_h) (Y18_Fp b_h) (Y18_Ga b_h) (Y18_Gl b_h) (Y18_Gh b_h) (Y18_Gn b_h) (Y18_Gp b_h)
abbrev rm_X18_isSqueezed : Room := { frames := 0, cells := 0, slots := 0, locals := 0 }
theorem hd_X18_isSqueezed : yX18_isSqueezed.cls ≠ "java/lang/invoke/MethodHandle" ∧ yX18_isSqueezed.cls ≠ "java/lang/invoke/VarHandle" ∧ (parseMethodDescriptor yX18_isSqueezed.desc).map (fun d => d.parameters.length) = some 0 := ⟨by decide, by decide, by decide +kernel⟩
set_option maxHeartbeats 4000000 in
set_option maxRecDepth 100000 in
theorem c_X18_isSqueezed {l : Launch} {D : va_G} {T : Nat → ClassId} {sd : SdT} (h : Nat) (h_fronts : Nat) (h_guests : Nat) (h_orders : Nat) (h_rF : Nat → Nat) (h_rG : Nat → Nat) (b_h : bY18) {res : Int32 × Int32 × Int32} (hf : f_X18_isSqueezed b_h = some res) : SxK (SFx sd) l D T yX18_isSqueezed cX18_isSqueezed 1 (some .boolean) rm_X18_isSqueezed [.ref h] (wc_X18_isSqueezed T sd h h_fronts h_guests h_orders h_rF h_rG b_h) (vf_X18_isSqueezed sd) (wf_X18_isSqueezed T sd h h_fronts h_guests h_orders h_rF h_rG b_h) res 0 0 := by
  refine sx_start (SFx_ok sd) (by decide +kernel) (Nat.le_of_ble_eq_true rfl) (fun p e s m args below meth c A X hnm => ?_)
  have hf := ob_1 hf
  refine sx_aload_n X 0 rfl dX18_isSqueezed_0 rfl ?_
  refine sx_get X kX18 0 rfl 7 (Nat.le_of_ble_eq_true rfl) qm_1162 rfl dX18_isSqueezed_1 ?_
  refine sx_if_ne X 9 dX18_isSqueezed_4 rfl (fun c1 => ?_) (fun c1 => ?_)
  · have hf := ob_f hf c1
    refine sx_aload_n X 0 rfl dX18_isSqueezed_9 rfl ?_
    refine sx_dup X dX18_isSqueezed_10 rfl ?_
    refine sx_get X kX18 0 rfl 7 (Nat.le_of_ble_eq_true rfl) qm_1162 rfl dX18_isSqueezed_11 ?_
    refine sx_iconst X (v := 1) dX18_isSqueezed_14 rfl ?_
    refine sx_isub X dX18_isSqueezed_15 ?_
    refine sx_put X (ws' := zO h 16 [.ref h_fronts, .ref h_guests, .ref h_orders, .int (Y18_hour b_h), .int (Y18_warmth b_h), .int (Y18_strength b_h), .int (Y18_charge b_h), .int ((Y18_lemons b_h) - 1), .int (Y18_saucers b_h), .int (Y18_coins b_h), .int (Y18_storms b_h)] :: zR T 5 h_fronts (Y18_nf b_h) h_rF :: zR T 6 h_guests (Y18_ng b_h) h_rG :: zT h_rF h_rG (Y18_nf b_h) (Y18_ng b_h) (Y18_Fw b_h) (Y18_Ff b_h) (Y18_Fa b_h) (Y18_Fs b_h) (Y18_Fp b_h) (Y18_Ga b_h) (Y18_Gl b_h) (Y18_Gh b_h) (Y18_Gn b_h) (Y18_Gp b_h)) kX18 0 rfl 7 (Nat.le_of_ble_eq_true rfl) qm_1162 rfl rfl rfl (Nat.le_of_ble_eq_true rfl) rfl dX18_isSqueezed_16 ?_
    refine sx_aload_n X 0 rfl dX18_isSqueezed_19 rfl ?_
    refine sx_aload_n X 0 rfl dX18_isSqueezed_20 rfl ?_
    refine sx_get X kX18 0 rfl 6 (Nat.le_of_ble_eq_true rfl) qm_1159 rfl dX18_isSqueezed_21 ?_
    refine sx_bipush X (v := 24) dX18_isSqueezed_24 rfl ?_
    refine sx_icmp_le X 34 dX18_isSqueezed_26 rfl (fun c2 => ?_) (fun c2 => ?_)
    · have hf := ob_t hf c2
      refine sx_aload_n X 0 rfl dX18_isSqueezed_34 rfl ?_
      refine sx_get X kX18 0 rfl 6 (Nat.le_of_ble_eq_true rfl) qm_1159 rfl dX18_isSqueezed_35 ?_
      refine sx_bipush X (v := 6) dX18_isSqueezed_38 rfl ?_
      refine sx_iadd X dX18_isSqueezed_40 ?_
      refine sx_put X (ws' := zO h 16 [.ref h_fronts, .ref h_guests, .ref h_orders, .int (Y18_hour b_h), .int (Y18_warmth b_h), .int (Y18_strength b_h), .int ((Y18_charge b_h) + 6), .int ((Y18_lemons b_h) - 1), .int (Y18_saucers b_h), .int (Y18_coins b_h), .int (Y18_storms b_h)] :: zR T 5 h_fronts (Y18_nf b_h) h_rF :: zR T 6 h_guests (Y18_ng b_h) h_rG :: zT h_rF h_rG (Y18_nf b_h) (Y18_ng b_h) (Y18_Fw b_h) (Y18_Ff b_h) (Y18_Fa b_h) (Y18_Fs b_h) (Y18_Fp b_h) (Y18_Ga b_h) (Y18_Gl b_h) (Y18_Gh b_h) (Y18_Gn b_h) (Y18_Gp b_h)) kX18 0 rfl 6 (Nat.le_of_ble_eq_true rfl) qm_1159 rfl rfl rfl (Nat.le_of_ble_eq_true rfl) rfl dX18_isSqueezed_41 ?_
      refine sx_iconst X (v := 1) dX18_isSqueezed_44 rfl ?_
      exact sx_iret X rfl dX18_isSqueezed_45 (ob_e hf) rfl rfl
    · have hf := ob_f hf c2
      refine sx_bipush X (v := 30) dX18_isSqueezed_29 rfl ?_
      refine sx_goto X 41 dX18_isSqueezed_31 rfl ?_
      refine sx_put X (ws' := zO h 16 [.ref h_fronts, .ref h_guests, .ref h_orders, .int (Y18_hour b_h), .int (Y18_warmth b_h), .int (Y18_strength b_h), .int 30, .int ((Y18_lemons b_h) - 1), .int (Y18_saucers b_h), .int (Y18_coins b_h), .int (Y18_storms b_h)] :: zR T 5 h_fronts (Y18_nf b_h) h_rF :: zR T 6 h_guests (Y18_ng b_h) h_rG :: zT h_rF h_rG (Y18_nf b_h) (Y18_ng b_h) (Y18_Fw b_h) (Y18_Ff b_h) (Y18_Fa b_h) (Y18_Fs b_h) (Y18_Fp b_h) (Y18_Ga b_h) (Y18_Gl b_h) (Y18_Gh b_h) (Y18_Gn b_h) (Y18_Gp b_h)) kX18 0 rfl 6 (Nat.le_of_ble_eq_true rfl) qm_1159 rfl rfl rfl (Nat.le_of_ble_eq_true rfl) rfl dX18_isSqueezed_41 ?_
      refine sx_iconst X (v := 1) dX18_isSqueezed_44 rfl ?_
      exact sx_iret X rfl dX18_isSqueezed_45 (ob_e hf) rfl rfl
  · have hf := ob_t hf c1
    refine sx_iconst X (v := 0) dX18_isSqueezed_7 rfl ?_
    exact sx_iret X rfl dX18_isSqueezed_8 (ob_e hf) rfl rfl

abbrev vf_X18_isCalmed (sd : SdT) (r : Int32 × Int32 × Int32) : Option Value := some (.int r.1)
abbrev wc_X18_isCalmed (T : Nat → ClassId) (sd : SdT) (h : Nat) (h_fronts : Nat) (h_guests : Nat) (h_orders : Nat) (h_rF : Nat → Nat) (h_rG : Nat → Nat) (b_h : bY18) : va_W := zO h 16 [.ref h_fronts, .ref h_guests, .ref h_orders, .int (Y18_hour b_h), .int (Y18_warmth b_h), .int (Y18_strength b_h), .int (Y18_charge b_h), .int (Y18_lemons b_h), .int (Y18_saucers b_h), .int (Y18_coins b_h), .int (Y18_storms b_h)] :: zR T 5 h_fronts (Y18_nf b_h) h_rF :: zR T 6 h_guests (Y18_ng b_h) h_rG :: zT h_rF h_rG (Y18_nf b_h) (Y18_ng b_h) (Y18_Fw b_h) (Y18_Ff b_h) (Y18_Fa b_h) (Y18_Fs b_h) (Y18_Fp b_h) (Y18_Ga b_h) (Y18_Gl b_h) (Y18_Gh b_h) (Y18_Gn b_h) (Y18_Gp b_h)
abbrev wf_X18_isCalmed (T : Nat → ClassId) (sd : SdT) (h : Nat) (h_fronts : Nat) (h_guests : Nat) (h_orders : Nat) (h_rF : Nat → Nat) (h_rG : Nat → Nat) (b_h : bY18) (r : Int32 × Int32 × Int32) : va_W := zO h 16 [.ref h_fronts, .ref h_guests, .ref h_orders, .int (Y18_hour b_h), .int (Y18_warmth b_h), .int (Y18_strength b_h), .int r.2.1, .int (Y18_lemons b_h), .int r.2.2, .int (Y18_coins b_h), .int (Y18_storms b_h)] :: zR T 5 h_fronts (Y18_nf b_h) h_rF :: zR T 6 h_guests (Y18_ng b_h) h_rG :: zT h_rF h_rG (Y18_nf b_h) (Y18_ng b_h) (Y18_Fw b_h) (Y18_Ff b_h) (Y18_Fa b_h) (Y18_Fs b_h) (Y18_Fp b_h) (Y18_Ga b_h) (Y18_Gl b_h) (Y18_Gh b_h) (Y18_Gn b_h) (Y18_Gp b_h)
abbrev rm_X18_isCalmed : Room := { frames := 0, cells := 0, slots := 0, locals := 0 }
theorem hd_X18_isCalmed : yX18_isCalmed.cls ≠ "java/lang/invoke/MethodHandle" ∧ yX18_isCalmed.cls ≠ "java/lang/invoke/VarHandle" ∧ (parseMethodDescriptor yX18_isCalmed.desc).map (fun d => d.parameters.length) = some 0 := ⟨by decide, by decide, by decide +kernel⟩
set_option maxHeartbeats 4000000 in
set_option maxRecDepth 100000 in
theorem c_X18_isCalmed {l : Launch} {D : va_G} {T : Nat → ClassId} {sd : SdT} (h : Nat) (h_fronts : Nat) (h_guests : Nat) (h_orders : Nat) (h_rF : Nat → Nat) (h_rG : Nat → Nat) (b_h : bY18) {res : Int32 × Int32 × Int32} (hf : f_X18_isCalmed b_h = some res) : SxK (SFx sd) l D T yX18_isCalmed cX18_isCalmed 1 (some .boolean) rm_X18_isCalmed [.ref h] (wc_X18_isCalmed T sd h h_fronts h_guests h_orders h_rF h_rG b_h) (vf_X18_isCalmed sd) (wf_X18_isCalmed T sd h h_fronts h_guests h_orders h_rF h_rG b_h) res 0 0 := by
  refine sx_start (SFx_ok sd) (by decide +kernel) (Nat.le_of_ble_eq_true rfl) (fun p e s m args below meth c A X hnm => ?_)
  have hf := ob_1 hf
  refine sx_aload_n X 0 rfl dX18_isCalmed_0 rfl ?_
  refine sx_get X kX18 0 rfl 8 (Nat.le_of_ble_eq_true rfl) qm_1164 rfl dX18_isCalmed_1 ?_
  refine sx_if_ne X 9 dX18_isCalmed_4 rfl (fun c1 => ?_) (fun c1 => ?_)
  · have hf := ob_f hf c1
    refine sx_aload_n X 0 rfl dX18_isCalmed_9 rfl ?_
    refine sx_dup X dX18_isCalmed_10 rfl ?_
    refine sx_get X kX18 0 rfl 8 (Nat.le_of_ble_eq_true rfl) qm_1164 rfl dX18_isCalmed_11 ?_
    refine sx_iconst X (v := 1) dX18_isCalmed_14 rfl ?_
    refine sx_isub X dX18_isCalmed_15 ?_
    refine sx_put X (ws' := zO h 16 [.ref h_fronts, .ref h_guests, .ref h_orders, .int (Y18_hour b_h), .int (Y18_warmth b_h), .int (Y18_strength b_h), .int (Y18_charge b_h), .int (Y18_lemons b_h), .int ((Y18_saucers b_h) - 1), .int (Y18_coins b_h), .int (Y18_storms b_h)] :: zR T 5 h_fronts (Y18_nf b_h) h_rF :: zR T 6 h_guests (Y18_ng b_h) h_rG :: zT h_rF h_rG (Y18_nf b_h) (Y18_ng b_h) (Y18_Fw b_h) (Y18_Ff b_h) (Y18_Fa b_h) (Y18_Fs b_h) (Y18_Fp b_h) (Y18_Ga b_h) (Y18_Gl b_h) (Y18_Gh b_h) (Y18_Gn b_h) (Y18_Gp b_h)) kX18 0 rfl 8 (Nat.le_of_ble_eq_true rfl) qm_1164 rfl rfl rfl (Nat.le_of_ble_eq_true rfl) rfl dX18_isCalmed_16 ?_
    refine sx_aload_n X 0 rfl dX18_isCalmed_19 rfl ?_
    refine sx_aload_n X 0 rfl dX18_isCalmed_20 rfl ?_
    refine sx_get X kX18 0 rfl 6 (Nat.le_of_ble_eq_true rfl) qm_1159 rfl dX18_isCalmed_21 ?_
    refine sx_iconst X (v := 5) dX18_isCalmed_24 rfl ?_
    refine sx_icmp_ge X 32 dX18_isCalmed_25 rfl (fun c2 => ?_) (fun c2 => ?_)
    · have hf := ob_t hf c2
      refine sx_aload_n X 0 rfl dX18_isCalmed_32 rfl ?_
      refine sx_get X kX18 0 rfl 6 (Nat.le_of_ble_eq_true rfl) qm_1159 rfl dX18_isCalmed_33 ?_
      refine sx_iconst X (v := 5) dX18_isCalmed_36 rfl ?_
      refine sx_isub X dX18_isCalmed_37 ?_
      refine sx_put X (ws' := zO h 16 [.ref h_fronts, .ref h_guests, .ref h_orders, .int (Y18_hour b_h), .int (Y18_warmth b_h), .int (Y18_strength b_h), .int ((Y18_charge b_h) - 5), .int (Y18_lemons b_h), .int ((Y18_saucers b_h) - 1), .int (Y18_coins b_h), .int (Y18_storms b_h)] :: zR T 5 h_fronts (Y18_nf b_h) h_rF :: zR T 6 h_guests (Y18_ng b_h) h_rG :: zT h_rF h_rG (Y18_nf b_h) (Y18_ng b_h) (Y18_Fw b_h) (Y18_Ff b_h) (Y18_Fa b_h) (Y18_Fs b_h) (Y18_Fp b_h) (Y18_Ga b_h) (Y18_Gl b_h) (Y18_Gh b_h) (Y18_Gn b_h) (Y18_Gp b_h)) kX18 0 rfl 6 (Nat.le_of_ble_eq_true rfl) qm_1159 rfl rfl rfl (Nat.le_of_ble_eq_true rfl) rfl dX18_isCalmed_38 ?_
      refine sx_iconst X (v := 1) dX18_isCalmed_41 rfl ?_
      exact sx_iret X rfl dX18_isCalmed_42 (ob_e hf) rfl rfl
    · have hf := ob_f hf c2
      refine sx_iconst X (v := 0) dX18_isCalmed_28 rfl ?_
      refine sx_goto X 38 dX18_isCalmed_29 rfl ?_
      refine sx_put X (ws' := zO h 16 [.ref h_fronts, .ref h_guests, .ref h_orders, .int (Y18_hour b_h), .int (Y18_warmth b_h), .int (Y18_strength b_h), .int 0, .int (Y18_lemons b_h), .int ((Y18_saucers b_h) - 1), .int (Y18_coins b_h), .int (Y18_storms b_h)] :: zR T 5 h_fronts (Y18_nf b_h) h_rF :: zR T 6 h_guests (Y18_ng b_h) h_rG :: zT h_rF h_rG (Y18_nf b_h) (Y18_ng b_h) (Y18_Fw b_h) (Y18_Ff b_h) (Y18_Fa b_h) (Y18_Fs b_h) (Y18_Fp b_h) (Y18_Ga b_h) (Y18_Gl b_h) (Y18_Gh b_h) (Y18_Gn b_h) (Y18_Gp b_h)) kX18 0 rfl 6 (Nat.le_of_ble_eq_true rfl) qm_1159 rfl rfl rfl (Nat.le_of_ble_eq_true rfl) rfl dX18_isCalmed_38 ?_
      refine sx_iconst X (v := 1) dX18_isCalmed_41 rfl ?_
      exact sx_iret X rfl dX18_isCalmed_42 (ob_e hf) rfl rfl
  · have hf := ob_t hf c1
    refine sx_iconst X (v := 0) dX18_isCalmed_7 rfl ?_
    exact sx_iret X rfl dX18_isCalmed_8 (ob_e hf) rfl rfl

abbrev vf_X18_isServed (sd : SdT) (r : Int32 × Int32 × Int32 × (Nat → Int32)) : Option Value := some (.int r.1)
abbrev wc_X18_isServed (T : Nat → ClassId) (sd : SdT) (h : Nat) (h_fronts : Nat) (h_guests : Nat) (h_orders : Nat) (h_rF : Nat → Nat) (h_rG : Nat → Nat) (b_h : bY18) : va_W := zO h 16 [.ref h_fronts, .ref h_guests, .ref h_orders, .int (Y18_hour b_h), .int (Y18_warmth b_h), .int (Y18_strength b_h), .int (Y18_charge b_h), .int (Y18_lemons b_h), .int (Y18_saucers b_h), .int (Y18_coins b_h), .int (Y18_storms b_h)] :: zR T 5 h_fronts (Y18_nf b_h) h_rF :: zR T 6 h_guests (Y18_ng b_h) h_rG :: zT h_rF h_rG (Y18_nf b_h) (Y18_ng b_h) (Y18_Fw b_h) (Y18_Ff b_h) (Y18_Fa b_h) (Y18_Fs b_h) (Y18_Fp b_h) (Y18_Ga b_h) (Y18_Gl b_h) (Y18_Gh b_h) (Y18_Gn b_h) (Y18_Gp b_h)
abbrev wf_X18_isServed (T : Nat → ClassId) (sd : SdT) (h : Nat) (h_fronts : Nat) (h_guests : Nat) (h_orders : Nat) (h_rF : Nat → Nat) (h_rG : Nat → Nat) (b_h : bY18) (r : Int32 × Int32 × Int32 × (Nat → Int32)) : va_W := zO h 16 [.ref h_fronts, .ref h_guests, .ref h_orders, .int (Y18_hour b_h), .int (Y18_warmth b_h), .int r.2.1, .int (Y18_charge b_h), .int (Y18_lemons b_h), .int (Y18_saucers b_h), .int r.2.2.1, .int (Y18_storms b_h)] :: zR T 5 h_fronts (Y18_nf b_h) h_rF :: zR T 6 h_guests (Y18_ng b_h) h_rG :: zT h_rF h_rG (Y18_nf b_h) (Y18_ng b_h) (Y18_Fw b_h) (Y18_Ff b_h) (Y18_Fa b_h) (Y18_Fs b_h) (Y18_Fp b_h) (Y18_Ga b_h) (Y18_Gl b_h) (Y18_Gh b_h) (Y18_Gn b_h) r.2.2.2
abbrev rm_X18_isServed : Room := { frames := 1, cells := 0, slots := 0, locals := 22 }
theorem hd_X18_isServed : yX18_isServed.cls ≠ "java/lang/invoke/MethodHandle" ∧ yX18_isServed.cls ≠ "java/lang/invoke/VarHandle" ∧ (parseMethodDescriptor yX18_isServed.desc).map (fun d => d.parameters.length) = some 1 := ⟨by decide, by decide, by decide +kernel⟩
set_option maxHeartbeats 4000000 in
set_option maxRecDepth 100000 in
theorem c_X18_isServed {l : Launch} {D : va_G} {T : Nat → ClassId} {sd : SdT} (h : Nat) (h_fronts : Nat) (h_guests : Nat) (h_orders : Nat) (h_rF : Nat → Nat) (h_rG : Nat → Nat) (x0 : Int32) (b_h : bY18) {res : Int32 × Int32 × Int32 × (Nat → Int32)} (hf : f_X18_isServed x0 b_h = some res) : SxK (SFx sd) l D T yX18_isServed cX18_isServed 2 (some .boolean) rm_X18_isServed [.ref h, .int x0] (wc_X18_isServed T sd h h_fronts h_guests h_orders h_rF h_rG b_h) (vf_X18_isServed sd) (wf_X18_isServed T sd h h_fronts h_guests h_orders h_rF h_rG b_h) res 0 0 := by
  refine sx_start (SFx_ok sd) (by decide +kernel) (Nat.le_of_ble_eq_true rfl) (fun p e s m args below meth c A X hnm => ?_)
  have hf := ob_1 hf
  refine sx_aload_n X 0 rfl dX18_isServed_0 rfl ?_
  refine sx_aload_n X 0 rfl dX18_isServed_1 rfl ?_
  refine sx_get X kX18 0 rfl 1 (Nat.le_of_ble_eq_true rfl) qm_1146 rfl dX18_isServed_2 ?_
  refine sx_iload_n X 1 rfl dX18_isServed_5 rfl ?_
  obtain ⟨g1, hf⟩ := ob_g hf
  refine sx_Rld X (t0 := 6) (f := h_rG) 2 rfl rfl g1 dX18_isServed_6 ?_
  refine sx_aload_n X 0 rfl dX18_isServed_7 rfl ?_
  refine sx_get X kX18 0 rfl 5 (Nat.le_of_ble_eq_true rfl) qm_1156 rfl dX18_isServed_8 ?_
  obtain ⟨u2, hu2, hf⟩ := ob_c hf
  refine sx_cVr X (c_X18_likes (l := l) (D := D) (T := T) (sd := sd) h h_fronts h_guests h_orders h_rF h_rG x0.toNatClampNeg (Y18_strength b_h) b_h hu2) (st' := [.int u2]) (q0 := 0) qm_728 qm_700 qm_701 qm_29 qm_702 hd_X18_likes ⟨rfl, rfl⟩ ⟨Nat.le_of_ble_eq_true rfl, Nat.le_of_ble_eq_true rfl⟩ rfl rfl (Nat.le_of_ble_eq_true rfl) rfl rfl rfl ([0, 1, 2] ++ List.range' 3 (zT h_rF h_rG (Y18_nf b_h) (Y18_ng b_h) (Y18_Fw b_h) (Y18_Ff b_h) (Y18_Fa b_h) (Y18_Fs b_h) (Y18_Fp b_h) (Y18_Ga b_h) (Y18_Gl b_h) (Y18_Gh b_h) (Y18_Gn b_h) (Y18_Gp b_h)).length) (tc_C (fx := [zO h 16 [.ref h_fronts, .ref h_guests, .ref h_orders, .int (Y18_hour b_h), .int (Y18_warmth b_h), .int (Y18_strength b_h), .int (Y18_charge b_h), .int (Y18_lemons b_h), .int (Y18_saucers b_h), .int (Y18_coins b_h), .int (Y18_storms b_h)], zR T 5 h_fronts (Y18_nf b_h) h_rF, zR T 6 h_guests (Y18_ng b_h) h_rG]) (fc := [zO h 16 [.ref h_fronts, .ref h_guests, .ref h_orders, .int (Y18_hour b_h), .int (Y18_warmth b_h), .int (Y18_strength b_h), .int (Y18_charge b_h), .int (Y18_lemons b_h), .int (Y18_saucers b_h), .int (Y18_coins b_h), .int (Y18_storms b_h)], zR T 5 h_fronts (Y18_nf b_h) h_rF, zR T 6 h_guests (Y18_ng b_h) h_rG]) (tl := zT h_rF h_rG (Y18_nf b_h) (Y18_ng b_h) (Y18_Fw b_h) (Y18_Ff b_h) (Y18_Fa b_h) (Y18_Fs b_h) (Y18_Fp b_h) (Y18_Ga b_h) (Y18_Gl b_h) (Y18_Gh b_h) (Y18_Gn b_h) (Y18_Gp b_h)) rfl rfl rfl rfl (by decide)) (tl_nd rfl (by decide)) rfl ⟨Nat.le_of_ble_eq_true rfl, Nat.le_of_ble_eq_true rfl⟩ dX18_isServed_11 rfl ?_
  refine sx_if_ne X 19 dX18_isServed_14 rfl (fun c3 => ?_) (fun c3 => ?_)
  · have hf := ob_f hf c3
    refine sx_aload_n X 0 rfl dX18_isServed_19 rfl ?_
    refine sx_get X kX18 0 rfl 1 (Nat.le_of_ble_eq_true rfl) qm_1146 rfl dX18_isServed_20 ?_
    refine sx_iload_n X 1 rfl dX18_isServed_23 rfl ?_
    obtain ⟨g4, hf⟩ := ob_g hf
    refine sx_Rld X (t0 := 6) (f := h_rG) 2 rfl rfl g4 dX18_isServed_24 ?_
    refine sx_iconst X (v := 2) dX18_isServed_25 rfl ?_
    refine sx_put X (ws' := zO h 16 [.ref h_fronts, .ref h_guests, .ref h_orders, .int (Y18_hour b_h), .int (Y18_warmth b_h), .int (Y18_strength b_h), .int (Y18_charge b_h), .int (Y18_lemons b_h), .int (Y18_saucers b_h), .int (Y18_coins b_h), .int (Y18_storms b_h)] :: zR T 5 h_fronts (Y18_nf b_h) h_rF :: zR T 6 h_guests (Y18_ng b_h) h_rG :: zT h_rF h_rG (Y18_nf b_h) (Y18_ng b_h) (Y18_Fw b_h) (Y18_Ff b_h) (Y18_Fa b_h) (Y18_Fs b_h) (Y18_Fp b_h) (Y18_Ga b_h) (Y18_Gl b_h) (Y18_Gh b_h) (Y18_Gn b_h) (upd (Y18_Gp b_h) x0.toNatClampNeg 2)) kX15 ((Y18_nf b_h) + x0.toNatClampNeg + 1 + 1 + 1) (at_s (at_s (at_s (zT_G (fl_lt g4))))) 4 (Nat.le_of_ble_eq_true rfl) qm_1371 rfl rfl rfl (Nat.le_of_ble_eq_true rfl) (set_s (set_s (set_s (zT_Gs (fl_lt g4))))) dX18_isServed_26 ?_
    refine sx_aload_n X 0 rfl dX18_isServed_29 rfl ?_
    refine sx_dup X dX18_isServed_30 rfl ?_
    refine sx_get X kX18 0 rfl 9 (Nat.le_of_ble_eq_true rfl) qm_1166 rfl dX18_isServed_31 ?_
    refine sx_aload_n X 0 rfl dX18_isServed_34 rfl ?_
    refine sx_get X kX18 0 rfl 5 (Nat.le_of_ble_eq_true rfl) qm_1156 rfl dX18_isServed_35 ?_
    refine sx_iadd X dX18_isServed_38 ?_
    refine sx_put X (ws' := zO h 16 [.ref h_fronts, .ref h_guests, .ref h_orders, .int (Y18_hour b_h), .int (Y18_warmth b_h), .int (Y18_strength b_h), .int (Y18_charge b_h), .int (Y18_lemons b_h), .int (Y18_saucers b_h), .int ((Y18_coins b_h) + (Y18_strength b_h)), .int (Y18_storms b_h)] :: zR T 5 h_fronts (Y18_nf b_h) h_rF :: zR T 6 h_guests (Y18_ng b_h) h_rG :: zT h_rF h_rG (Y18_nf b_h) (Y18_ng b_h) (Y18_Fw b_h) (Y18_Ff b_h) (Y18_Fa b_h) (Y18_Fs b_h) (Y18_Fp b_h) (Y18_Ga b_h) (Y18_Gl b_h) (Y18_Gh b_h) (Y18_Gn b_h) (upd (Y18_Gp b_h) x0.toNatClampNeg 2)) kX18 0 rfl 9 (Nat.le_of_ble_eq_true rfl) qm_1166 rfl rfl rfl (Nat.le_of_ble_eq_true rfl) rfl dX18_isServed_39 ?_
    refine sx_aload_n X 0 rfl dX18_isServed_42 rfl ?_
    refine sx_aload_n X 0 rfl dX18_isServed_43 rfl ?_
    refine sx_get X kX18 0 rfl 5 (Nat.le_of_ble_eq_true rfl) qm_1156 rfl dX18_isServed_44 ?_
    refine sx_iconst X (v := 3) dX18_isServed_47 rfl ?_
    refine sx_icmp_ge X 55 dX18_isServed_48 rfl (fun c5 => ?_) (fun c5 => ?_)
    · have hf := ob_t hf c5
      refine sx_aload_n X 0 rfl dX18_isServed_55 rfl ?_
      refine sx_get X kX18 0 rfl 5 (Nat.le_of_ble_eq_true rfl) qm_1156 rfl dX18_isServed_56 ?_
      refine sx_iconst X (v := 3) dX18_isServed_59 rfl ?_
      refine sx_isub X dX18_isServed_60 ?_
      refine sx_put X (ws' := zO h 16 [.ref h_fronts, .ref h_guests, .ref h_orders, .int (Y18_hour b_h), .int (Y18_warmth b_h), .int ((Y18_strength b_h) - 3), .int (Y18_charge b_h), .int (Y18_lemons b_h), .int (Y18_saucers b_h), .int ((Y18_coins b_h) + (Y18_strength b_h)), .int (Y18_storms b_h)] :: zR T 5 h_fronts (Y18_nf b_h) h_rF :: zR T 6 h_guests (Y18_ng b_h) h_rG :: zT h_rF h_rG (Y18_nf b_h) (Y18_ng b_h) (Y18_Fw b_h) (Y18_Ff b_h) (Y18_Fa b_h) (Y18_Fs b_h) (Y18_Fp b_h) (Y18_Ga b_h) (Y18_Gl b_h) (Y18_Gh b_h) (Y18_Gn b_h) (upd (Y18_Gp b_h) x0.toNatClampNeg 2)) kX18 0 rfl 5 (Nat.le_of_ble_eq_true rfl) qm_1156 rfl rfl rfl (Nat.le_of_ble_eq_true rfl) rfl dX18_isServed_61 ?_
      refine sx_iconst X (v := 1) dX18_isServed_64 rfl ?_
      exact sx_iret X rfl dX18_isServed_65 (ob_e hf) rfl rfl
    · have hf := ob_f hf c5
      refine sx_iconst X (v := 0) dX18_isServed_51 rfl ?_
      refine sx_goto X 61 dX18_isServed_52 rfl ?_
      refine sx_put X (ws' := zO h 16 [.ref h_fronts, .ref h_guests, .ref h_orders, .int (Y18_hour b_h), .int (Y18_warmth b_h), .int 0, .int (Y18_charge b_h), .int (Y18_lemons b_h), .int (Y18_saucers b_h), .int ((Y18_coins b_h) + (Y18_strength b_h)), .int (Y18_storms b_h)] :: zR T 5 h_fronts (Y18_nf b_h) h_rF :: zR T 6 h_guests (Y18_ng b_h) h_rG :: zT h_rF h_rG (Y18_nf b_h) (Y18_ng b_h) (Y18_Fw b_h) (Y18_Ff b_h) (Y18_Fa b_h) (Y18_Fs b_h) (Y18_Fp b_h) (Y18_Ga b_h) (Y18_Gl b_h) (Y18_Gh b_h) (Y18_Gn b_h) (upd (Y18_Gp b_h) x0.toNatClampNeg 2)) kX18 0 rfl 5 (Nat.le_of_ble_eq_true rfl) qm_1156 rfl rfl rfl (Nat.le_of_ble_eq_true rfl) rfl dX18_isServed_61 ?_
      refine sx_iconst X (v := 1) dX18_isServed_64 rfl ?_
      exact sx_iret X rfl dX18_isServed_65 (ob_e hf) rfl rfl
  · have hf := ob_t hf c3
    refine sx_iconst X (v := 0) dX18_isServed_17 rfl ?_
    exact sx_iret X rfl dX18_isServed_18 (ob_e hf) rfl rfl

abbrev vf_X18_come (sd : SdT) (_r : (Nat → Int32) × (Nat → Int32)) : Option Value := none
abbrev wc_X18_come (T : Nat → ClassId) (sd : SdT) (h : Nat) (h_fronts : Nat) (h_guests : Nat) (h_orders : Nat) (h_rF : Nat → Nat) (h_rG : Nat → Nat) (b_h : bY18) : va_W := zO h 16 [.ref h_fronts, .ref h_guests, .ref h_orders, .int (Y18_hour b_h), .int (Y18_warmth b_h), .int (Y18_strength b_h), .int (Y18_charge b_h), .int (Y18_lemons b_h), .int (Y18_saucers b_h), .int (Y18_coins b_h), .int (Y18_storms b_h)] :: zR T 5 h_fronts (Y18_nf b_h) h_rF :: zR T 6 h_guests (Y18_ng b_h) h_rG :: zT h_rF h_rG (Y18_nf b_h) (Y18_ng b_h) (Y18_Fw b_h) (Y18_Ff b_h) (Y18_Fa b_h) (Y18_Fs b_h) (Y18_Fp b_h) (Y18_Ga b_h) (Y18_Gl b_h) (Y18_Gh b_h) (Y18_Gn b_h) (Y18_Gp b_h)
abbrev wf_X18_come (T : Nat → ClassId) (sd : SdT) (h : Nat) (h_fronts : Nat) (h_guests : Nat) (h_orders : Nat) (h_rF : Nat → Nat) (h_rG : Nat → Nat) (b_h : bY18) (r : (Nat → Int32) × (Nat → Int32)) : va_W := zO h 16 [.ref h_fronts, .ref h_guests, .ref h_orders, .int (Y18_hour b_h), .int (Y18_warmth b_h), .int (Y18_strength b_h), .int (Y18_charge b_h), .int (Y18_lemons b_h), .int (Y18_saucers b_h), .int (Y18_coins b_h), .int (Y18_storms b_h)] :: zR T 5 h_fronts (Y18_nf b_h) h_rF :: zR T 6 h_guests (Y18_ng b_h) h_rG :: zT h_rF h_rG (Y18_nf b_h) (Y18_ng b_h) (Y18_Fw b_h) (Y18_Ff b_h) (Y18_Fa b_h) (Y18_Fs b_h) r.1 (Y18_Ga b_h) (Y18_Gl b_h) (Y18_Gh b_h) (Y18_Gn b_h) r.2
abbrev rm_X18_come : Room := { frames := 0, cells := 0, slots := 0, locals := 0 }
theorem hd_X18_come : yX18_come.cls ≠ "java/lang/invoke/MethodHandle" ∧ yX18_come.cls ≠ "java/lang/invoke/VarHandle" ∧ (parseMethodDescriptor yX18_come.desc).map (fun d => d.parameters.length) = some 0 := ⟨by decide, by decide, by decide +kernel⟩
set_option maxHeartbeats 4000000 in
set_option maxRecDepth 100000 in
theorem c_X18_come {l : Launch} {D : va_G} {T : Nat → ClassId} {sd : SdT} (h : Nat) (h_fronts : Nat) (h_guests : Nat) (h_orders : Nat) (h_rF : Nat → Nat) (h_rG : Nat → Nat) (n : Nat) (b_h : bY18) {res : (Nat → Int32) × (Nat → Int32)} (hf : f_X18_come n b_h = some res) : SxK (SFx sd) l D T yX18_come cX18_come 5 none rm_X18_come [.ref h] (wc_X18_come T sd h h_fronts h_guests h_orders h_rF h_rG b_h) (vf_X18_come sd) (wf_X18_come T sd h h_fronts h_guests h_orders h_rF h_rG b_h) res 0 0 := by
  refine sx_start (SFx_ok sd) (by decide +kernel) (Nat.le_of_ble_eq_true rfl) (fun p e s m args below meth c A X hnm => ?_)
  have hf := ob_1 hf
  have L54 : ∀ (v2 : Int32) (w_h_Fp : Nat → Int32) (n0 : Nat) (v3 : Int32) (w_h_Gp : Nat → Int32), (iter (fun s : Int32 × (Nat → Int32) => f_X18_come_L54 n b_h v2 s.1 w_h_Fp s.2) n0 (v3, w_h_Gp)).bind some = some res → SxG p l e rm_X18_come s m args below meth c D A 5 0 0 (SxE below args s D A (vf_X18_come sd) (wf_X18_come T sd h h_fronts h_guests h_orders h_rF h_rG b_h) res 0 0) (zO h 16 [.ref h_fronts, .ref h_guests, .ref h_orders, .int (Y18_hour b_h), .int (Y18_warmth b_h), .int (Y18_strength b_h), .int (Y18_charge b_h), .int (Y18_lemons b_h), .int (Y18_saucers b_h), .int (Y18_coins b_h), .int (Y18_storms b_h)] :: zR T 5 h_fronts (Y18_nf b_h) h_rF :: zR T 6 h_guests (Y18_ng b_h) h_rG :: zT h_rF h_rG (Y18_nf b_h) (Y18_ng b_h) (Y18_Fw b_h) (Y18_Ff b_h) (Y18_Fa b_h) (Y18_Fs b_h) w_h_Fp (Y18_Ga b_h) (Y18_Gl b_h) (Y18_Gh b_h) (Y18_Gn b_h) w_h_Gp) [(0, .ref h), (1, .ref h_guests), (2, .int v2), (3, .int v3)] 54 [] := by
    intro v2 w_h_Fp n0
    induction n0 with
    | zero =>
      intro v3 w_h_Gp hf
      exact (iter_z hf).elim
    | succ n0 ih54 =>
      intro v3 w_h_Gp hf
      obtain ⟨κ54, hκ54, hf⟩ := iter_k hf
      have hf : (f_X18_come_L54 n b_h v2 v3 w_h_Fp w_h_Gp).bind κ54 = some res := hf
      refine sx_iload_n X 3 rfl dX18_come_54 rfl ?_
      refine sx_iload_n X 2 rfl dX18_come_55 rfl ?_
      refine sx_icmp_ge X 88 dX18_come_56 rfl (fun c2 => ?_) (fun c2 => ?_)
      · have hf := ob_t hf c2
        have hf := ob_kr hκ54 hf
        exact sx_vret X dX18_come_88 (ob_e hf) rfl rfl
      · have hf := ob_f hf c2
        refine sx_aload_n X 1 rfl dX18_come_59 rfl ?_
        refine sx_iload_n X 3 rfl dX18_come_60 rfl ?_
        obtain ⟨g3, hf⟩ := ob_g hf
        refine sx_Rld X (t0 := 6) (f := h_rG) 2 rfl rfl g3 dX18_come_61 ?_
        refine sx_astore X (lv' := [(4, .ref (h_rG v3.toNatClampNeg)), (0, .ref h), (1, .ref h_guests), (2, .int v2), (3, .int v3)]) dX18_come_62 (by decide) rfl ?_
        refine sx_aload X 0 rfl dX18_come_64 ?_
        refine sx_get X kX15 ((Y18_nf b_h) + v3.toNatClampNeg + 1 + 1 + 1) (at_s (at_s (at_s (zT_G (fl_lt g3))))) 0 (Nat.le_of_ble_eq_true rfl) qm_1364 rfl dX18_come_66 ?_
        refine sx_aload_n X 1 rfl dX18_come_69 rfl ?_
        refine sx_get X kX18 0 rfl 3 (Nat.le_of_ble_eq_true rfl) qm_1152 rfl dX18_come_70 ?_
        refine sx_icmp_ne X 82 dX18_come_73 rfl (fun c4 => ?_) (fun c4 => ?_)
        · have hf := ob_f hf c4
          refine sx_iinc X (v := (v3 + 1)) (lv' := [(3, .int (v3 + 1)), (4, .ref (h_rG v3.toNatClampNeg)), (0, .ref h), (1, .ref h_guests), (2, .int v2)]) 4 rfl dX18_come_82 rfl (by decide) rfl ?_
          refine sx_goto X 54 dX18_come_85 rfl ?_
          have hf := ob_k hκ54 hf
          refine sx_lsub [2, 3, 4, 0] rfl ?_
          exact ih54 (v3 + 1) w_h_Gp hf
        · have hf := ob_t hf c4
          refine sx_aload X 0 rfl dX18_come_76 ?_
          refine sx_iconst X (v := 1) dX18_come_78 rfl ?_
          refine sx_put X (ws' := zO h 16 [.ref h_fronts, .ref h_guests, .ref h_orders, .int (Y18_hour b_h), .int (Y18_warmth b_h), .int (Y18_strength b_h), .int (Y18_charge b_h), .int (Y18_lemons b_h), .int (Y18_saucers b_h), .int (Y18_coins b_h), .int (Y18_storms b_h)] :: zR T 5 h_fronts (Y18_nf b_h) h_rF :: zR T 6 h_guests (Y18_ng b_h) h_rG :: zT h_rF h_rG (Y18_nf b_h) (Y18_ng b_h) (Y18_Fw b_h) (Y18_Ff b_h) (Y18_Fa b_h) (Y18_Fs b_h) w_h_Fp (Y18_Ga b_h) (Y18_Gl b_h) (Y18_Gh b_h) (Y18_Gn b_h) (upd w_h_Gp v3.toNatClampNeg 1)) kX15 ((Y18_nf b_h) + v3.toNatClampNeg + 1 + 1 + 1) (at_s (at_s (at_s (zT_G (fl_lt g3))))) 4 (Nat.le_of_ble_eq_true rfl) qm_1371 rfl rfl rfl (Nat.le_of_ble_eq_true rfl) (set_s (set_s (set_s (zT_Gs (fl_lt g3))))) dX18_come_79 ?_
          refine sx_iinc X (v := (v3 + 1)) (lv' := [(3, .int (v3 + 1)), (4, .ref (h_rG v3.toNatClampNeg)), (0, .ref h), (1, .ref h_guests), (2, .int v2)]) 4 rfl dX18_come_82 rfl (by decide) rfl ?_
          refine sx_goto X 54 dX18_come_85 rfl ?_
          have hf := ob_k hκ54 hf
          refine sx_lsub [2, 3, 4, 0] rfl ?_
          exact ih54 (v3 + 1) (upd w_h_Gp v3.toNatClampNeg 1) hf
  have L10 : ∀ (v2 : Int32) (w_h_Gp : Nat → Int32) (n0 : Nat) (v3 : Int32) (w_h_Fp : Nat → Int32), (iter (fun s : Int32 × (Nat → Int32) => f_X18_come_L10 n b_h v2 s.1 s.2 w_h_Gp) n0 (v3, w_h_Fp)).bind some = some res → SxG p l e rm_X18_come s m args below meth c D A 5 0 0 (SxE below args s D A (vf_X18_come sd) (wf_X18_come T sd h h_fronts h_guests h_orders h_rF h_rG b_h) res 0 0) (zO h 16 [.ref h_fronts, .ref h_guests, .ref h_orders, .int (Y18_hour b_h), .int (Y18_warmth b_h), .int (Y18_strength b_h), .int (Y18_charge b_h), .int (Y18_lemons b_h), .int (Y18_saucers b_h), .int (Y18_coins b_h), .int (Y18_storms b_h)] :: zR T 5 h_fronts (Y18_nf b_h) h_rF :: zR T 6 h_guests (Y18_ng b_h) h_rG :: zT h_rF h_rG (Y18_nf b_h) (Y18_ng b_h) (Y18_Fw b_h) (Y18_Ff b_h) (Y18_Fa b_h) (Y18_Fs b_h) w_h_Fp (Y18_Ga b_h) (Y18_Gl b_h) (Y18_Gh b_h) (Y18_Gn b_h) w_h_Gp) [(0, .ref h), (1, .ref h_fronts), (2, .int v2), (3, .int v3)] 10 [] := by
    intro v2 w_h_Gp n0
    induction n0 with
    | zero =>
      intro v3 w_h_Fp hf
      exact (iter_z hf).elim
    | succ n0 ih10 =>
      intro v3 w_h_Fp hf
      obtain ⟨κ10, hκ10, hf⟩ := iter_k hf
      have hf : (f_X18_come_L10 n b_h v2 v3 w_h_Fp w_h_Gp).bind κ10 = some res := hf
      refine sx_iload_n X 3 rfl dX18_come_10 rfl ?_
      refine sx_iload_n X 2 rfl dX18_come_11 rfl ?_
      refine sx_icmp_ge X 44 dX18_come_12 rfl (fun c1 => ?_) (fun c1 => ?_)
      · have hf := ob_t hf c1
        refine sx_aload_n X 0 rfl dX18_come_44 rfl ?_
        refine sx_get X kX18 0 rfl 1 (Nat.le_of_ble_eq_true rfl) qm_1146 rfl dX18_come_45 ?_
        refine sx_astore_n X (lv' := [(1, .ref h_guests), (0, .ref h), (2, .int v2), (3, .int v3)]) dX18_come_48 rfl (by decide) rfl ?_
        refine sx_aload_n X 0 rfl dX18_come_49 rfl ?_
        refine sx_alen X (t0 := 6) (v := (nI (Y18_ng b_h))) 2 rfl rfl rfl dX18_come_50 ?_
        refine sx_istore_n X (lv' := [(2, .int (nI (Y18_ng b_h))), (1, .ref h_guests), (0, .ref h), (3, .int v3)]) dX18_come_51 rfl (by decide) rfl ?_
        refine sx_iconst X (v := 0) dX18_come_52 rfl ?_
        refine sx_istore_n X (lv' := [(3, .int 0), (2, .int (nI (Y18_ng b_h))), (1, .ref h_guests), (0, .ref h)]) dX18_come_53 rfl (by decide) rfl ?_
        have hf := ob_kx hκ10 hf
        refine sx_lsub [3, 2, 1, 0] rfl ?_
        exact L54 (nI (Y18_ng b_h)) w_h_Fp n 0 w_h_Gp hf
      · have hf := ob_f hf c1
        refine sx_aload_n X 1 rfl dX18_come_15 rfl ?_
        refine sx_iload_n X 3 rfl dX18_come_16 rfl ?_
        obtain ⟨g5, hf⟩ := ob_g hf
        refine sx_Rld X (t0 := 5) (f := h_rF) 1 rfl rfl g5 dX18_come_17 ?_
        refine sx_astore X (lv' := [(4, .ref (h_rF v3.toNatClampNeg)), (0, .ref h), (1, .ref h_fronts), (2, .int v2), (3, .int v3)]) dX18_come_18 (by decide) rfl ?_
        refine sx_aload X 0 rfl dX18_come_20 ?_
        refine sx_get X kX14 (v3.toNatClampNeg + 1 + 1 + 1) (at_s (at_s (at_s (zT_F (fl_lt g5))))) 2 (Nat.le_of_ble_eq_true rfl) qm_1205 rfl dX18_come_22 ?_
        refine sx_aload_n X 1 rfl dX18_come_25 rfl ?_
        refine sx_get X kX18 0 rfl 3 (Nat.le_of_ble_eq_true rfl) qm_1152 rfl dX18_come_26 ?_
        refine sx_icmp_ne X 38 dX18_come_29 rfl (fun c6 => ?_) (fun c6 => ?_)
        · have hf := ob_f hf c6
          refine sx_iinc X (v := (v3 + 1)) (lv' := [(3, .int (v3 + 1)), (4, .ref (h_rF v3.toNatClampNeg)), (0, .ref h), (1, .ref h_fronts), (2, .int v2)]) 4 rfl dX18_come_38 rfl (by decide) rfl ?_
          refine sx_goto X 10 dX18_come_41 rfl ?_
          have hf := ob_k hκ10 hf
          refine sx_lsub [2, 3, 4, 0] rfl ?_
          exact ih10 (v3 + 1) w_h_Fp hf
        · have hf := ob_t hf c6
          refine sx_aload X 0 rfl dX18_come_32 ?_
          refine sx_iconst X (v := 1) dX18_come_34 rfl ?_
          refine sx_put X (ws' := zO h 16 [.ref h_fronts, .ref h_guests, .ref h_orders, .int (Y18_hour b_h), .int (Y18_warmth b_h), .int (Y18_strength b_h), .int (Y18_charge b_h), .int (Y18_lemons b_h), .int (Y18_saucers b_h), .int (Y18_coins b_h), .int (Y18_storms b_h)] :: zR T 5 h_fronts (Y18_nf b_h) h_rF :: zR T 6 h_guests (Y18_ng b_h) h_rG :: zT h_rF h_rG (Y18_nf b_h) (Y18_ng b_h) (Y18_Fw b_h) (Y18_Ff b_h) (Y18_Fa b_h) (Y18_Fs b_h) (upd w_h_Fp v3.toNatClampNeg 1) (Y18_Ga b_h) (Y18_Gl b_h) (Y18_Gh b_h) (Y18_Gn b_h) w_h_Gp) kX14 (v3.toNatClampNeg + 1 + 1 + 1) (at_s (at_s (at_s (zT_F (fl_lt g5))))) 4 (Nat.le_of_ble_eq_true rfl) qm_1208 rfl rfl rfl (Nat.le_of_ble_eq_true rfl) (set_s (set_s (set_s (zT_Fs (fl_lt g5))))) dX18_come_35 ?_
          refine sx_iinc X (v := (v3 + 1)) (lv' := [(3, .int (v3 + 1)), (4, .ref (h_rF v3.toNatClampNeg)), (0, .ref h), (1, .ref h_fronts), (2, .int v2)]) 4 rfl dX18_come_38 rfl (by decide) rfl ?_
          refine sx_goto X 10 dX18_come_41 rfl ?_
          have hf := ob_k hκ10 hf
          refine sx_lsub [2, 3, 4, 0] rfl ?_
          exact ih10 (v3 + 1) (upd w_h_Fp v3.toNatClampNeg 1) hf
  refine sx_aload_n X 0 rfl dX18_come_0 rfl ?_
  refine sx_get X kX18 0 rfl 0 (Nat.le_of_ble_eq_true rfl) qm_1143 rfl dX18_come_1 ?_
  refine sx_astore_n X (lv' := [(1, .ref h_fronts), (0, .ref h)]) dX18_come_4 rfl (by decide) rfl ?_
  refine sx_aload_n X 0 rfl dX18_come_5 rfl ?_
  refine sx_alen X (t0 := 5) (v := (nI (Y18_nf b_h))) 1 rfl rfl rfl dX18_come_6 ?_
  refine sx_istore_n X (lv' := [(2, .int (nI (Y18_nf b_h))), (1, .ref h_fronts), (0, .ref h)]) dX18_come_7 rfl (by decide) rfl ?_
  refine sx_iconst X (v := 0) dX18_come_8 rfl ?_
  refine sx_istore_n X (lv' := [(3, .int 0), (2, .int (nI (Y18_nf b_h))), (1, .ref h_fronts), (0, .ref h)]) dX18_come_9 rfl (by decide) rfl ?_
  refine sx_lsub [3, 2, 1, 0] rfl ?_
  exact L10 (nI (Y18_nf b_h)) (Y18_Gp b_h) n 0 (Y18_Fp b_h) hf

abbrev vf_X18_guestsAt (sd : SdT) (r : Int32) : Option Value := some (.int r)
abbrev wc_X18_guestsAt (T : Nat → ClassId) (sd : SdT) (h : Nat) (h_fronts : Nat) (h_guests : Nat) (h_orders : Nat) (h_rF : Nat → Nat) (h_rG : Nat → Nat) (b_h : bY18) : va_W := zO h 16 [.ref h_fronts, .ref h_guests, .ref h_orders, .int (Y18_hour b_h), .int (Y18_warmth b_h), .int (Y18_strength b_h), .int (Y18_charge b_h), .int (Y18_lemons b_h), .int (Y18_saucers b_h), .int (Y18_coins b_h), .int (Y18_storms b_h)] :: zR T 5 h_fronts (Y18_nf b_h) h_rF :: zR T 6 h_guests (Y18_ng b_h) h_rG :: zT h_rF h_rG (Y18_nf b_h) (Y18_ng b_h) (Y18_Fw b_h) (Y18_Ff b_h) (Y18_Fa b_h) (Y18_Fs b_h) (Y18_Fp b_h) (Y18_Ga b_h) (Y18_Gl b_h) (Y18_Gh b_h) (Y18_Gn b_h) (Y18_Gp b_h)
abbrev wf_X18_guestsAt (T : Nat → ClassId) (sd : SdT) (h : Nat) (h_fronts : Nat) (h_guests : Nat) (h_orders : Nat) (h_rF : Nat → Nat) (h_rG : Nat → Nat) (b_h : bY18) (r : Int32) : va_W := zO h 16 [.ref h_fronts, .ref h_guests, .ref h_orders, .int (Y18_hour b_h), .int (Y18_warmth b_h), .int (Y18_strength b_h), .int (Y18_charge b_h), .int (Y18_lemons b_h), .int (Y18_saucers b_h), .int (Y18_coins b_h), .int (Y18_storms b_h)] :: zR T 5 h_fronts (Y18_nf b_h) h_rF :: zR T 6 h_guests (Y18_ng b_h) h_rG :: zT h_rF h_rG (Y18_nf b_h) (Y18_ng b_h) (Y18_Fw b_h) (Y18_Ff b_h) (Y18_Fa b_h) (Y18_Fs b_h) (Y18_Fp b_h) (Y18_Ga b_h) (Y18_Gl b_h) (Y18_Gh b_h) (Y18_Gn b_h) (Y18_Gp b_h)
abbrev rm_X18_guestsAt : Room := { frames := 0, cells := 0, slots := 0, locals := 0 }
theorem hd_X18_guestsAt : yX18_guestsAt.cls ≠ "java/lang/invoke/MethodHandle" ∧ yX18_guestsAt.cls ≠ "java/lang/invoke/VarHandle" ∧ (parseMethodDescriptor yX18_guestsAt.desc).map (fun d => d.parameters.length) = some 1 := ⟨by decide, by decide, by decide +kernel⟩
set_option maxHeartbeats 4000000 in
set_option maxRecDepth 100000 in
theorem c_X18_guestsAt {l : Launch} {D : va_G} {T : Nat → ClassId} {sd : SdT} (h : Nat) (h_fronts : Nat) (h_guests : Nat) (h_orders : Nat) (h_rF : Nat → Nat) (h_rG : Nat → Nat) (n : Nat) (x0 : Int32) (b_h : bY18) {res : Int32} (hf : f_X18_guestsAt n x0 b_h = some res) : SxK (SFx sd) l D T yX18_guestsAt cX18_guestsAt 7 (some .int) rm_X18_guestsAt [.ref h, .int x0] (wc_X18_guestsAt T sd h h_fronts h_guests h_orders h_rF h_rG b_h) (vf_X18_guestsAt sd) (wf_X18_guestsAt T sd h h_fronts h_guests h_orders h_rF h_rG b_h) res 0 0 := by
  refine sx_start (SFx_ok sd) (by decide +kernel) (Nat.le_of_ble_eq_true rfl) (fun p e s m args below meth c A X hnm => ?_)
  have hf := ob_1 hf
  have L14 : ∀ (v1 : Int32) (v4 : Int32) (n0 : Nat) (v2 : Int32) (v5 : Int32), (iter (fun s : Int32 × Int32 => f_X18_guestsAt_L14 n x0 b_h v1 s.1 v4 s.2) n0 (v2, v5)).bind some = some res → SxG p l e rm_X18_guestsAt s m args below meth c D A 7 0 0 (SxE below args s D A (vf_X18_guestsAt sd) (wf_X18_guestsAt T sd h h_fronts h_guests h_orders h_rF h_rG b_h) res 0 0) (zO h 16 [.ref h_fronts, .ref h_guests, .ref h_orders, .int (Y18_hour b_h), .int (Y18_warmth b_h), .int (Y18_strength b_h), .int (Y18_charge b_h), .int (Y18_lemons b_h), .int (Y18_saucers b_h), .int (Y18_coins b_h), .int (Y18_storms b_h)] :: zR T 5 h_fronts (Y18_nf b_h) h_rF :: zR T 6 h_guests (Y18_ng b_h) h_rG :: zT h_rF h_rG (Y18_nf b_h) (Y18_ng b_h) (Y18_Fw b_h) (Y18_Ff b_h) (Y18_Fa b_h) (Y18_Fs b_h) (Y18_Fp b_h) (Y18_Ga b_h) (Y18_Gl b_h) (Y18_Gh b_h) (Y18_Gn b_h) (Y18_Gp b_h)) [(1, .int v1), (2, .int v2), (3, .ref h_guests), (4, .int v4), (5, .int v5)] 14 [] := by
    intro v1 v4 n0
    induction n0 with
    | zero =>
      intro v2 v5 hf
      exact (iter_z hf).elim
    | succ n0 ih14 =>
      intro v2 v5 hf
      obtain ⟨κ14, hκ14, hf⟩ := iter_k hf
      have hf : (f_X18_guestsAt_L14 n x0 b_h v1 v2 v4 v5).bind κ14 = some res := hf
      refine sx_iload X 4 rfl dX18_guestsAt_14 ?_
      refine sx_iload X 3 rfl dX18_guestsAt_16 ?_
      refine sx_icmp_ge X 50 dX18_guestsAt_18 rfl (fun c1 => ?_) (fun c1 => ?_)
      · have hf := ob_t hf c1
        refine sx_iload_n X 1 rfl dX18_guestsAt_50 rfl ?_
        have hf := ob_kr hκ14 hf
        exact sx_iret X rfl dX18_guestsAt_51 (ob_e hf) rfl rfl
      · have hf := ob_f hf c1
        refine sx_aload_n X 2 rfl dX18_guestsAt_21 rfl ?_
        refine sx_iload X 4 rfl dX18_guestsAt_22 ?_
        obtain ⟨g2, hf⟩ := ob_g hf
        refine sx_Rld X (t0 := 6) (f := h_rG) 2 rfl rfl g2 dX18_guestsAt_24 ?_
        refine sx_astore X (lv' := [(6, .ref (h_rG v5.toNatClampNeg)), (1, .int v1), (2, .int v2), (3, .ref h_guests), (4, .int v4), (5, .int v5)]) dX18_guestsAt_25 (by decide) rfl ?_
        refine sx_iload_n X 2 rfl dX18_guestsAt_27 rfl ?_
        refine sx_aload X 0 rfl dX18_guestsAt_28 ?_
        refine sx_get X kX15 ((Y18_nf b_h) + v5.toNatClampNeg + 1 + 1 + 1) (at_s (at_s (at_s (zT_G (fl_lt g2))))) 4 (Nat.le_of_ble_eq_true rfl) qm_1371 rfl dX18_guestsAt_30 ?_
        refine sx_iload_n X 1 rfl dX18_guestsAt_33 rfl ?_
        refine sx_icmp_ne X 41 dX18_guestsAt_34 rfl (fun c3 => ?_) (fun c3 => ?_)
        · have hf := ob_f hf c3
          refine sx_iconst X (v := 0) dX18_guestsAt_41 rfl ?_
          refine sx_iadd X dX18_guestsAt_42 ?_
          refine sx_istore_n X (lv' := [(2, .int (v2 + 0)), (6, .ref (h_rG v5.toNatClampNeg)), (1, .int v1), (3, .ref h_guests), (4, .int v4), (5, .int v5)]) dX18_guestsAt_43 rfl (by decide) rfl ?_
          refine sx_iinc X (v := (v5 + 1)) (lv' := [(5, .int (v5 + 1)), (2, .int (v2 + 0)), (6, .ref (h_rG v5.toNatClampNeg)), (1, .int v1), (3, .ref h_guests), (4, .int v4)]) 5 rfl dX18_guestsAt_44 rfl (by decide) rfl ?_
          refine sx_goto X 14 dX18_guestsAt_47 rfl ?_
          have hf := ob_k hκ14 hf
          refine sx_lsub [3, 1, 4, 5, 0] rfl ?_
          exact ih14 (v2 + 0) (v5 + 1) hf
        · have hf := ob_t hf c3
          refine sx_iconst X (v := 1) dX18_guestsAt_37 rfl ?_
          refine sx_goto X 42 dX18_guestsAt_38 rfl ?_
          refine sx_iadd X dX18_guestsAt_42 ?_
          refine sx_istore_n X (lv' := [(2, .int (v2 + 1)), (6, .ref (h_rG v5.toNatClampNeg)), (1, .int v1), (3, .ref h_guests), (4, .int v4), (5, .int v5)]) dX18_guestsAt_43 rfl (by decide) rfl ?_
          refine sx_iinc X (v := (v5 + 1)) (lv' := [(5, .int (v5 + 1)), (2, .int (v2 + 1)), (6, .ref (h_rG v5.toNatClampNeg)), (1, .int v1), (3, .ref h_guests), (4, .int v4)]) 5 rfl dX18_guestsAt_44 rfl (by decide) rfl ?_
          refine sx_goto X 14 dX18_guestsAt_47 rfl ?_
          have hf := ob_k hκ14 hf
          refine sx_lsub [3, 1, 4, 5, 0] rfl ?_
          exact ih14 (v2 + 1) (v5 + 1) hf
  refine sx_iconst X (v := 0) dX18_guestsAt_0 rfl ?_
  refine sx_istore_n X (lv' := [(2, .int 0), (0, .ref h), (1, .int x0)]) dX18_guestsAt_1 rfl (by decide) rfl ?_
  refine sx_aload_n X 1 rfl dX18_guestsAt_2 rfl ?_
  refine sx_get X kX18 0 rfl 1 (Nat.le_of_ble_eq_true rfl) qm_1146 rfl dX18_guestsAt_3 ?_
  refine sx_astore_n X (lv' := [(3, .ref h_guests), (2, .int 0), (0, .ref h), (1, .int x0)]) dX18_guestsAt_6 rfl (by decide) rfl ?_
  refine sx_aload_n X 0 rfl dX18_guestsAt_7 rfl ?_
  refine sx_alen X (t0 := 6) (v := (nI (Y18_ng b_h))) 2 rfl rfl rfl dX18_guestsAt_8 ?_
  refine sx_istore X (lv' := [(4, .int (nI (Y18_ng b_h))), (3, .ref h_guests), (2, .int 0), (0, .ref h), (1, .int x0)]) dX18_guestsAt_9 (by decide) rfl ?_
  refine sx_iconst X (v := 0) dX18_guestsAt_11 rfl ?_
  refine sx_istore X (lv' := [(5, .int 0), (4, .int (nI (Y18_ng b_h))), (3, .ref h_guests), (2, .int 0), (0, .ref h), (1, .int x0)]) dX18_guestsAt_12 (by decide) rfl ?_
  refine sx_lsub [5, 3, 2, 1, 0] rfl ?_
  exact L14 x0 (nI (Y18_ng b_h)) n 0 0 hf
