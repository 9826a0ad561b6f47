/-! contracts, part 15 -/
set_option maxHeartbeats 4000000 in
set_option maxRecDepth 100000 in
theorem c_X3_test {l : Launch} {D : va_G} {T : Nat → ClassId} {sd : SdT} (n d : Nat) (rec : Nat → Int32 → bX11 → bX6 → Option (Int32 × Int32 × (Nat → Nat) × (Nat → Int32) × Int32)) (hrec : rcg_X3 l D T sd (rmg_X3 d) rec) (a0 : Nat) (a0_kinds : Nat) (a0_starts : Nat) (a0_values : Nat) (a1 : Nat) (a1_deeds : Nat) (a1_targets : Nat) (a1_firstSteps : Nat) (a1_endSteps : Nat) (a1_stepKinds : Nat) (a1_stepValues : Nat) (x2 : Int32) (b_a0 : bX11) (b_a1 : bX6) (res : Int32 × Int32 × (Nat → Nat) × (Nat → Int32) × Int32) (hf : f_X3_test n rec x2 b_a0 b_a1 = some res) : SxK (SFx sd) l D T yX3_test cX3_test 5 (some .boolean) (rmg_X3 (d + 1)) [.ref a0, .ref a1, .int x2] (wc_X3_test T sd a0 a0_kinds a0_starts a0_values a1 a1_deeds a1_targets a1_firstSteps a1_endSteps a1_stepKinds a1_stepValues b_a0 b_a1) (vf_X3_test sd) (wf_X3_test T sd a0 a0_kinds a0_starts a0_values a1 a1_deeds a1_targets a1_firstSteps a1_endSteps a1_stepKinds a1_stepValues b_a0 b_a1) res 0 0 := by
  refine sx_start (SFx_ok sd) (by decide +kernel) (Nat.le_of_ble_eq_true rfl) (fun p e s m args below meth c A X hnm => ?_)
  have hf := ob_1 hf
  have L10 : ∀ (v2 : Int32) (n0 : Nat) (v3 : Int32) (v4 : Int32) (w_a0_cursor : Int32) (w_a1_stepKinds : Nat → Nat) (w_a1_stepValues : Nat → Int32) (w_a1_steps : Int32), (iter (fun s : Int32 × Int32 × Int32 × (Nat → Nat) × (Nat → Int32) × Int32 => f_X3_test_L10 n rec x2 b_a0 b_a1 v2 s.1 s.2.1 s.2.2.1 s.2.2.2.1 s.2.2.2.2.1 s.2.2.2.2.2) n0 (v3, v4, w_a0_cursor, w_a1_stepKinds, w_a1_stepValues, w_a1_steps)).bind some = some res → SxG p l e (rmg_X3 (d + 1)) s m args below meth c D A 5 0 0 (SxE below args s D A (vf_X3_test sd) (wf_X3_test T sd a0 a0_kinds a0_starts a0_values a1 a1_deeds a1_targets a1_firstSteps a1_endSteps a1_stepKinds a1_stepValues b_a0 b_a1) res 0 0) [zO a0 9 [.ref a0_kinds, .ref a0_starts, .ref a0_values, .int (X11_count b_a0), .int w_a0_cursor, .int (X11_error b_a0), .int (X11_errorToken b_a0)], zK T sd.1 a0_kinds 401 (X11_kinds b_a0), zI T a0_starts 401 (X11_starts b_a0), zJ T a0_values 401 (X11_values b_a0), zO a1 4 [.ref a1_deeds, .ref a1_targets, .ref a1_firstSteps, .ref a1_endSteps, .ref a1_stepKinds, .ref a1_stepValues, .int (X6_count b_a1), .int w_a1_steps], zK T sd.1 a1_deeds 16 (X6_deeds b_a1), zI T a1_targets 16 (X6_targets b_a1), zI T a1_firstSteps 16 (X6_firstSteps b_a1), zI T a1_endSteps 16 (X6_endSteps b_a1), zK T sd.1 a1_stepKinds 400 w_a1_stepKinds, zI T a1_stepValues 400 w_a1_stepValues] [(0, .ref a0), (1, .ref a1), (2, .int v2), (3, .int v3), (4, .int v4)] 10 [] := by
    intro v2 n0
    induction n0 with
    | zero =>
      intro v3 v4 w_a0_cursor w_a1_stepKinds w_a1_stepValues w_a1_steps hf
      exact (iter_z hf).elim
    | succ n0 ih10 =>
      intro v3 v4 w_a0_cursor w_a1_stepKinds w_a1_stepValues w_a1_steps hf
      obtain ⟨κ10, hκ10, hf⟩ := iter_k hf
      have hf : (f_X3_test_L10 n rec x2 b_a0 b_a1 v2 v3 v4 w_a0_cursor w_a1_stepKinds w_a1_stepValues w_a1_steps).bind κ10 = some res := hf
      refine sx_iload X 4 rfl dX3_test_10 ?_
      refine sx_sipush X (v := 400) dX3_test_12 rfl ?_
      refine sx_icmp_ge X 64 dX3_test_15 rfl (fun c2 => ?_) (fun c2 => ?_)
      · have hf := ob_t hf c2
        refine sx_iload_n X 3 rfl dX3_test_64 rfl ?_
        obtain ⟨g3, hf⟩ := ob_h hf
        have hf := ob_kr hκ10 hf
        exact sx_iret X (sx_nz g3) dX3_test_65 (ob_e hf) rfl rfl
      · have hf := ob_f hf c2
        refine sx_iload_n X 3 rfl dX3_test_18 rfl ?_
        refine sx_if_eq X 64 dX3_test_19 rfl (fun c4 => ?_) (fun c4 => ?_)
        · have hf := ob_t hf c4
          refine sx_iload_n X 3 rfl dX3_test_64 rfl ?_
          obtain ⟨g5, hf⟩ := ob_h hf
          have hf := ob_kr hκ10 hf
          exact sx_iret X (sx_nz g5) dX3_test_65 (ob_e hf) rfl rfl
        · have hf := ob_f hf c4
          refine sx_aload_n X 0 rfl dX3_test_22 rfl ?_
          refine sx_kst X 29 (by decide) qm_1042 dX3_test_23 ?_
          obtain ⟨u6, hu6, hf⟩ := ob_c hf
          refine sx_cV X (c_X11_take (l := l) (D := D) (T := T) (sd := sd) a0 a0_kinds a0_starts a0_values 29 ((X11_kinds b_a0), (X11_starts b_a0), (X11_values b_a0), (X11_count b_a0), w_a0_cursor, (X11_error b_a0), (X11_errorToken b_a0)) hu6) (st' := [.int u6.1]) (q0 := 0) qm_932 qm_933 qm_934 qm_15 qm_935 hd_X11_take ⟨rfl, rfl⟩ ⟨rmg_le_X3 (Nat.le_of_ble_eq_true rfl), rmg_ll_X3 (Nat.le_of_ble_eq_true rfl)⟩ rfl rfl (Nat.le_of_ble_eq_true rfl) rfl rfl rfl [0, 1, 2, 3] rfl rfl (ws' := [zO a0 9 [.ref a0_kinds, .ref a0_starts, .ref a0_values, .int (X11_count b_a0), .int u6.2, .int (X11_error b_a0), .int (X11_errorToken b_a0)], zK T sd.1 a0_kinds 401 (X11_kinds b_a0), zI T a0_starts 401 (X11_starts b_a0), zJ T a0_values 401 (X11_values b_a0), zO a1 4 [.ref a1_deeds, .ref a1_targets, .ref a1_firstSteps, .ref a1_endSteps, .ref a1_stepKinds, .ref a1_stepValues, .int (X6_count b_a1), .int w_a1_steps], zK T sd.1 a1_deeds 16 (X6_deeds b_a1), zI T a1_targets 16 (X6_targets b_a1), zI T a1_firstSteps 16 (X6_firstSteps b_a1), zI T a1_endSteps 16 (X6_endSteps b_a1), zK T sd.1 a1_stepKinds 400 w_a1_stepKinds, zI T a1_stepValues 400 w_a1_stepValues]) (sxPatch_pk [(true, 0), (true, 1), (true, 2), (true, 3), (false, 4), (false, 5), (false, 6), (false, 7), (false, 8), (false, 9), (false, 10)] (by decide +kernel) rfl rfl rfl) rfl ⟨Nat.zero_le _, Nat.zero_le _⟩ dX3_test_26 rfl ?_
          refine sx_if_eq X 64 dX3_test_29 rfl (fun c7 => ?_) (fun c7 => ?_)
          · have hf := ob_t hf c7
            refine sx_iload_n X 3 rfl dX3_test_64 rfl ?_
            obtain ⟨g8, hf⟩ := ob_h hf
            have hf := ob_kr hκ10 hf
            exact sx_iret X (sx_nz g8) dX3_test_65 (ob_e hf) rfl rfl
          · have hf := ob_f hf c7
            refine sx_aload_n X 0 rfl dX3_test_32 rfl ?_
            refine sx_aload_n X 1 rfl dX3_test_33 rfl ?_
            refine sx_iload_n X 2 rfl dX3_test_34 rfl ?_
            obtain ⟨u9, hu9, hf⟩ := ob_c hf
            refine sx_cS X (hrec.2.1 a0 a0_kinds a0_starts a0_values a1 a1_deeds a1_targets a1_firstSteps a1_endSteps a1_stepKinds a1_stepValues v2 ((X11_kinds b_a0), (X11_starts b_a0), (X11_values b_a0), (X11_count b_a0), u6.2, (X11_error b_a0), (X11_errorToken b_a0)) ((X6_deeds b_a1), (X6_targets b_a1), (X6_firstSteps b_a1), (X6_endSteps b_a1), w_a1_stepKinds, w_a1_stepValues, (X6_count b_a1), w_a1_steps) _ hu9) (st' := [.int u9.1]) qm_982 qm_983 qm_46 qm_984 hd_X3_both ⟨rfl, rfl⟩ ⟨rmg_f_X3, rmg_l_X3 (Nat.le_of_ble_eq_true rfl)⟩ rfl rfl (Nat.le_of_ble_eq_true rfl) [0, 1, 2, 3, 4, 5, 6, 7, 8, 9, 10] rfl rfl (ws' := [zO a0 9 [.ref a0_kinds, .ref a0_starts, .ref a0_values, .int (X11_count b_a0), .int u9.2.1, .int (X11_error b_a0), .int (X11_errorToken b_a0)], zK T sd.1 a0_kinds 401 (X11_kinds b_a0), zI T a0_starts 401 (X11_starts b_a0), zJ T a0_values 401 (X11_values b_a0), zO a1 4 [.ref a1_deeds, .ref a1_targets, .ref a1_firstSteps, .ref a1_endSteps, .ref a1_stepKinds, .ref a1_stepValues, .int (X6_count b_a1), .int u9.2.2.2.2], zK T sd.1 a1_deeds 16 (X6_deeds b_a1), zI T a1_targets 16 (X6_targets b_a1), zI T a1_firstSteps 16 (X6_firstSteps b_a1), zI T a1_endSteps 16 (X6_endSteps b_a1), zK T sd.1 a1_stepKinds 400 u9.2.2.1, zI T a1_stepValues 400 u9.2.2.2.1]) (sxPatch_pk [(true, 0), (true, 1), (true, 2), (true, 3), (true, 4), (true, 5), (true, 6), (true, 7), (true, 8), (true, 9), (true, 10)] (by decide +kernel) rfl rfl rfl) rfl ⟨Nat.zero_le _, Nat.zero_le _⟩ dX3_test_35 rfl ?_
            refine sx_if_eq X 56 dX3_test_38 rfl (fun c10 => ?_) (fun c10 => ?_)
            · have hf := ob_t hf c10
              refine sx_iconst X (v := 0) dX3_test_56 rfl ?_
              refine sx_istore_n X (lv' := [(3, .int 0), (0, .ref a0), (1, .ref a1), (2, .int v2), (4, .int v4)]) dX3_test_57 rfl (by decide) rfl ?_
              refine sx_iinc X (v := (v4 + 1)) (lv' := [(4, .int (v4 + 1)), (3, .int 0), (0, .ref a0), (1, .ref a1), (2, .int v2)]) 4 rfl dX3_test_58 rfl (by decide) rfl ?_
              refine sx_goto X 10 dX3_test_61 rfl ?_
              have hf := ob_k hκ10 hf
              refine sx_lsub [2, 3, 4, 1, 0] rfl ?_
              exact ih10 0 (v4 + 1) u9.2.1 u9.2.2.1 u9.2.2.2.1 u9.2.2.2.2 hf
            · have hf := ob_f hf c10
              refine sx_aload_n X 1 rfl dX3_test_41 rfl ?_
              refine sx_kst X 29 (by decide) qm_1042 dX3_test_42 ?_
              refine sx_iconst X (v := 0) dX3_test_45 rfl ?_
              obtain ⟨u11, hu11, hf⟩ := ob_c hf
              refine sx_cV X (c_X6_addStep (l := l) (D := D) (T := T) (sd := sd) a1 a1_deeds a1_targets a1_firstSteps a1_endSteps a1_stepKinds a1_stepValues 29 0 ((X6_deeds b_a1), (X6_targets b_a1), (X6_firstSteps b_a1), (X6_endSteps b_a1), u9.2.2.1, u9.2.2.2.1, (X6_count b_a1), u9.2.2.2.2) hu11) (st' := [.int u11.1]) (q0 := 4) qm_992 qm_993 qm_994 qm_23 qm_995 hd_X6_addStep ⟨rfl, rfl⟩ ⟨rmg_le_X3 (Nat.le_of_ble_eq_true rfl), rmg_ll_X3 (Nat.le_of_ble_eq_true rfl)⟩ rfl rfl (Nat.le_of_ble_eq_true rfl) rfl rfl rfl [4, 5, 6, 7, 8, 9, 10] rfl rfl (ws' := [zO a0 9 [.ref a0_kinds, .ref a0_starts, .ref a0_values, .int (X11_count b_a0), .int u9.2.1, .int (X11_error b_a0), .int (X11_errorToken b_a0)], zK T sd.1 a0_kinds 401 (X11_kinds b_a0), zI T a0_starts 401 (X11_starts b_a0), zJ T a0_values 401 (X11_values b_a0), zO a1 4 [.ref a1_deeds, .ref a1_targets, .ref a1_firstSteps, .ref a1_endSteps, .ref a1_stepKinds, .ref a1_stepValues, .int (X6_count b_a1), .int u11.2.2.2], zK T sd.1 a1_deeds 16 (X6_deeds b_a1), zI T a1_targets 16 (X6_targets b_a1), zI T a1_firstSteps 16 (X6_firstSteps b_a1), zI T a1_endSteps 16 (X6_endSteps b_a1), zK T sd.1 a1_stepKinds 400 u11.2.1, zI T a1_stepValues 400 u11.2.2.1]) (sxPatch_pk [(false, 0), (false, 1), (false, 2), (false, 3), (true, 0), (true, 1), (true, 2), (true, 3), (true, 4), (true, 5), (true, 6)] (by decide +kernel) rfl rfl rfl) rfl ⟨Nat.zero_le _, Nat.zero_le _⟩ dX3_test_46 rfl ?_
              refine sx_if_eq X 56 dX3_test_49 rfl (fun c12 => ?_) (fun c12 => ?_)
              · have hf := ob_t hf c12
                refine sx_iconst X (v := 0) dX3_test_56 rfl ?_
                refine sx_istore_n X (lv' := [(3, .int 0), (0, .ref a0), (1, .ref a1), (2, .int v2), (4, .int v4)]) dX3_test_57 rfl (by decide) rfl ?_
                refine sx_iinc X (v := (v4 + 1)) (lv' := [(4, .int (v4 + 1)), (3, .int 0), (0, .ref a0), (1, .ref a1), (2, .int v2)]) 4 rfl dX3_test_58 rfl (by decide) rfl ?_
                refine sx_goto X 10 dX3_test_61 rfl ?_
                have hf := ob_k hκ10 hf
                refine sx_lsub [2, 3, 4, 1, 0] rfl ?_
                exact ih10 0 (v4 + 1) u9.2.1 u11.2.1 u11.2.2.1 u11.2.2.2 hf
              · have hf := ob_f hf c12
                refine sx_iconst X (v := 1) dX3_test_52 rfl ?_
                refine sx_goto X 57 dX3_test_53 rfl ?_
                refine sx_istore_n X (lv' := [(3, .int 1), (0, .ref a0), (1, .ref a1), (2, .int v2), (4, .int v4)]) dX3_test_57 rfl (by decide) rfl ?_
                refine sx_iinc X (v := (v4 + 1)) (lv' := [(4, .int (v4 + 1)), (3, .int 1), (0, .ref a0), (1, .ref a1), (2, .int v2)]) 4 rfl dX3_test_58 rfl (by decide) rfl ?_
                refine sx_goto X 10 dX3_test_61 rfl ?_
                have hf := ob_k hκ10 hf
                refine sx_lsub [2, 3, 4, 1, 0] rfl ?_
                exact ih10 1 (v4 + 1) u9.2.1 u11.2.1 u11.2.2.1 u11.2.2.2 hf
  refine sx_aload_n X 0 rfl dX3_test_0 rfl ?_
  refine sx_aload_n X 1 rfl dX3_test_1 rfl ?_
  refine sx_iload_n X 2 rfl dX3_test_2 rfl ?_
  obtain ⟨u1, hu1, hf⟩ := ob_c hf
  refine sx_cS X (hrec.2.1 a0 a0_kinds a0_starts a0_values a1 a1_deeds a1_targets a1_firstSteps a1_endSteps a1_stepKinds a1_stepValues x2 b_a0 b_a1 _ hu1) (st' := [.int u1.1]) qm_982 qm_983 qm_46 qm_984 hd_X3_both ⟨rfl, rfl⟩ ⟨rmg_f_X3, rmg_l_X3 (Nat.le_of_ble_eq_true rfl)⟩ rfl rfl (Nat.le_of_ble_eq_true rfl) [0, 1, 2, 3, 4, 5, 6, 7, 8, 9, 10] rfl rfl (ws' := [zO a0 9 [.ref a0_kinds, .ref a0_starts, .ref a0_values, .int (X11_count b_a0), .int u1.2.1, .int (X11_error b_a0), .int (X11_errorToken b_a0)], zK T sd.1 a0_kinds 401 (X11_kinds b_a0), zI T a0_starts 401 (X11_starts b_a0), zJ T a0_values 401 (X11_values b_a0), zO a1 4 [.ref a1_deeds, .ref a1_targets, .ref a1_firstSteps, .ref a1_endSteps, .ref a1_stepKinds, .ref a1_stepValues, .int (X6_count b_a1), .int u1.2.2.2.2], zK T sd.1 a1_deeds 16 (X6_deeds b_a1), zI T a1_targets 16 (X6_targets b_a1), zI T a1_firstSteps 16 (X6_firstSteps b_a1), zI T a1_endSteps 16 (X6_endSteps b_a1), zK T sd.1 a1_stepKinds 400 u1.2.2.1, zI T a1_stepValues 400 u1.2.2.2.1]) (sxPatch_pk [(true, 0), (true, 1), (true, 2), (true, 3), (true, 4), (true, 5), (true, 6), (true, 7), (true, 8), (true, 9), (true, 10)] (by decide +kernel) rfl rfl rfl) rfl ⟨Nat.zero_le _, Nat.zero_le _⟩ dX3_test_3 rfl ?_
  refine sx_istore_n X (lv' := [(3, .int u1.1), (0, .ref a0), (1, .ref a1), (2, .int x2)]) dX3_test_6 rfl (by decide) rfl ?_
  refine sx_iconst X (v := 0) dX3_test_7 rfl ?_
  refine sx_istore X (lv' := [(4, .int 0), (3, .int u1.1), (0, .ref a0), (1, .ref a1), (2, .int x2)]) dX3_test_8 (by decide) rfl ?_
  refine sx_lsub [2, 3, 4, 1, 0] rfl ?_
  exact L10 x2 n u1.1 0 u1.2.1 u1.2.2.1 u1.2.2.2.1 u1.2.2.2.2 hf
