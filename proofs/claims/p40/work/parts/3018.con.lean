/-! contracts, part 18 -/
set_option maxHeartbeats 4000000 in
set_option maxRecDepth 100000 in
theorem c_X3_comparison {l : Launch} {D : va_G} {T : Nat → ClassId} {sd : SdT} (n d : Nat) (rec : Nat → Int32 → bX11 → bX6 → Option (Int32 × Int32 × (Nat → Nat) × (Nat → Int32) × Int32)) (hrec : rcg_X3 l D T sd (rmg_X3 d) rec) (a0 : Nat) (a0_kinds : Nat) (a0_starts : Nat) (a0_values : Nat) (a1 : Nat) (a1_deeds : Nat) (a1_targets : Nat) (a1_firstSteps : Nat) (a1_endSteps : Nat) (a1_stepKinds : Nat) (a1_stepValues : Nat) (x2 : Int32) (b_a0 : bX11) (b_a1 : bX6) (res : Int32 × Int32 × (Nat → Nat) × (Nat → Int32) × Int32) (hf : f_X3_comparison n rec x2 b_a0 b_a1 = some res) : SxK (SFx sd) l D T yX3_comparison cX3_comparison 5 (some .boolean) (rmg_X3 (d + 1)) [.ref a0, .ref a1, .int x2] (wc_X3_comparison T sd a0 a0_kinds a0_starts a0_values a1 a1_deeds a1_targets a1_firstSteps a1_endSteps a1_stepKinds a1_stepValues b_a0 b_a1) (vf_X3_comparison sd) (wf_X3_comparison T sd a0 a0_kinds a0_starts a0_values a1 a1_deeds a1_targets a1_firstSteps a1_endSteps a1_stepKinds a1_stepValues b_a0 b_a1) res 0 0 := by
  refine sx_start (SFx_ok sd) (by decide +kernel) (Nat.le_of_ble_eq_true rfl) (fun p e s m args below meth c A X hnm => ?_)
  have hf := ob_1 hf
  have R71 : ∀ (v2 : Int32) (v3 : Nat) (w_a0_cursor : Int32) (w_a1_stepKinds : Nat → Nat) (w_a1_stepValues : Nat → Int32) (w_a1_steps : Int32) (t0 : Int32), (f_X3_comparison_R71 n rec x2 b_a0 b_a1 v2 v3 w_a0_cursor w_a1_stepKinds w_a1_stepValues w_a1_steps t0).bind some = some res → SxG p l e (rmg_X3 (d + 1)) s m args below meth c D A 5 0 0 (SxE below args s D A (vf_X3_comparison sd) (wf_X3_comparison T sd a0 a0_kinds a0_starts a0_values a1 a1_deeds a1_targets a1_firstSteps a1_endSteps a1_stepKinds a1_stepValues b_a0 b_a1) res 0 0) [zO a0 9 [.ref a0_kinds, .ref a0_starts, .ref a0_values, .int (X11_count b_a0), .int w_a0_cursor, .int (X11_error b_a0), .int (X11_errorToken b_a0)], zK T sd.1 a0_kinds 401 (X11_kinds b_a0), zI T a0_starts 401 (X11_starts b_a0), zJ T a0_values 401 (X11_values b_a0), zO a1 4 [.ref a1_deeds, .ref a1_targets, .ref a1_firstSteps, .ref a1_endSteps, .ref a1_stepKinds, .ref a1_stepValues, .int (X6_count b_a1), .int w_a1_steps], zK T sd.1 a1_deeds 16 (X6_deeds b_a1), zI T a1_targets 16 (X6_targets b_a1), zI T a1_firstSteps 16 (X6_firstSteps b_a1), zI T a1_endSteps 16 (X6_endSteps b_a1), zK T sd.1 a1_stepKinds 400 w_a1_stepKinds, zI T a1_stepValues 400 w_a1_stepValues] [(0, .ref a0), (1, .ref a1), (2, .int v2), (3, .ref (sd.1 v3))] 71 [.int t0] := by
    intro v2 v3 w_a0_cursor w_a1_stepKinds w_a1_stepValues w_a1_steps t0 hf
    refine sx_istore X (lv' := [(4, .int t0), (0, .ref a0), (1, .ref a1), (2, .int v2), (3, .ref (sd.1 v3))]) dX3_comparison_71 (by decide) rfl ?_
    refine sx_iload X 0 rfl dX3_comparison_73 ?_
    refine sx_if_eq X 100 dX3_comparison_75 rfl (fun c6 => ?_) (fun c6 => ?_)
    · have hf := ob_t hf c6
      refine sx_iconst X (v := 0) dX3_comparison_100 rfl ?_
      exact sx_iret X rfl dX3_comparison_101 (ob_e hf) rfl rfl
    · have hf := ob_f hf c6
      refine sx_aload_n X 1 rfl dX3_comparison_78 rfl ?_
      refine sx_aload_n X 2 rfl dX3_comparison_79 rfl ?_
      refine sx_iload_n X 3 rfl dX3_comparison_80 rfl ?_
      obtain ⟨u7, hu7, hf⟩ := ob_c hf
      refine sx_cS X (hrec.2.2.2.2.1 a0 a0_kinds a0_starts a0_values a1 a1_deeds a1_targets a1_firstSteps a1_endSteps a1_stepKinds a1_stepValues v2 ((X11_kinds b_a0), (X11_starts b_a0), (X11_values b_a0), (X11_count b_a0), w_a0_cursor, (X11_error b_a0), (X11_errorToken b_a0)) ((X6_deeds b_a1), (X6_targets b_a1), (X6_firstSteps b_a1), (X6_endSteps b_a1), w_a1_stepKinds, w_a1_stepValues, (X6_count b_a1), w_a1_steps) _ hu7) (st' := [.int u7.1]) qm_1003 qm_1004 qm_46 qm_1005 hd_X3_sum ⟨rfl, rfl⟩ ⟨rmg_f_X3, rmg_l_X3 (Nat.le_of_ble_eq_true rfl)⟩ rfl rfl (Nat.le_of_ble_eq_true rfl) [0, 1, 2, 3, 4, 5, 6, 7, 8, 9, 10] rfl rfl (ws' := [zO a0 9 [.ref a0_kinds, .ref a0_starts, .ref a0_values, .int (X11_count b_a0), .int u7.2.1, .int (X11_error b_a0), .int (X11_errorToken b_a0)], zK T sd.1 a0_kinds 401 (X11_kinds b_a0), zI T a0_starts 401 (X11_starts b_a0), zJ T a0_values 401 (X11_values b_a0), zO a1 4 [.ref a1_deeds, .ref a1_targets, .ref a1_firstSteps, .ref a1_endSteps, .ref a1_stepKinds, .ref a1_stepValues, .int (X6_count b_a1), .int u7.2.2.2.2], zK T sd.1 a1_deeds 16 (X6_deeds b_a1), zI T a1_targets 16 (X6_targets b_a1), zI T a1_firstSteps 16 (X6_firstSteps b_a1), zI T a1_endSteps 16 (X6_endSteps b_a1), zK T sd.1 a1_stepKinds 400 u7.2.2.1, zI T a1_stepValues 400 u7.2.2.2.1]) (sxPatch_pk [(true, 0), (true, 1), (true, 2), (true, 3), (true, 4), (true, 5), (true, 6), (true, 7), (true, 8), (true, 9), (true, 10)] (by decide +kernel) rfl rfl rfl) rfl ⟨Nat.zero_le _, Nat.zero_le _⟩ dX3_comparison_81 rfl ?_
      refine sx_if_eq X 100 dX3_comparison_84 rfl (fun c8 => ?_) (fun c8 => ?_)
      · have hf := ob_t hf c8
        refine sx_iconst X (v := 0) dX3_comparison_100 rfl ?_
        exact sx_iret X rfl dX3_comparison_101 (ob_e hf) rfl rfl
      · have hf := ob_f hf c8
        refine sx_aload_n X 2 rfl dX3_comparison_87 rfl ?_
        refine sx_aload_n X 4 rfl dX3_comparison_88 rfl ?_
        refine sx_iconst X (v := 0) dX3_comparison_89 rfl ?_
        obtain ⟨u9, hu9, hf⟩ := ob_c hf
        refine sx_cV X (c_X6_addStep (l := l) (D := D) (T := T) (sd := sd) a1 a1_deeds a1_targets a1_firstSteps a1_endSteps a1_stepKinds a1_stepValues v3 0 ((X6_deeds b_a1), (X6_targets b_a1), (X6_firstSteps b_a1), (X6_endSteps b_a1), u7.2.2.1, u7.2.2.2.1, (X6_count b_a1), u7.2.2.2.2) hu9) (st' := [.int u9.1]) (q0 := 4) qm_992 qm_993 qm_994 qm_23 qm_995 hd_X6_addStep ⟨rfl, rfl⟩ ⟨rmg_le_X3 (Nat.le_of_ble_eq_true rfl), rmg_ll_X3 (Nat.le_of_ble_eq_true rfl)⟩ rfl rfl (Nat.le_of_ble_eq_true rfl) rfl rfl rfl [4, 5, 6, 7, 8, 9, 10] rfl rfl (ws' := [zO a0 9 [.ref a0_kinds, .ref a0_starts, .ref a0_values, .int (X11_count b_a0), .int u7.2.1, .int (X11_error b_a0), .int (X11_errorToken b_a0)], zK T sd.1 a0_kinds 401 (X11_kinds b_a0), zI T a0_starts 401 (X11_starts b_a0), zJ T a0_values 401 (X11_values b_a0), zO a1 4 [.ref a1_deeds, .ref a1_targets, .ref a1_firstSteps, .ref a1_endSteps, .ref a1_stepKinds, .ref a1_stepValues, .int (X6_count b_a1), .int u9.2.2.2], zK T sd.1 a1_deeds 16 (X6_deeds b_a1), zI T a1_targets 16 (X6_targets b_a1), zI T a1_firstSteps 16 (X6_firstSteps b_a1), zI T a1_endSteps 16 (X6_endSteps b_a1), zK T sd.1 a1_stepKinds 400 u9.2.1, zI T a1_stepValues 400 u9.2.2.1]) (sxPatch_pk [(false, 0), (false, 1), (false, 2), (false, 3), (true, 0), (true, 1), (true, 2), (true, 3), (true, 4), (true, 5), (true, 6)] (by decide +kernel) rfl rfl rfl) rfl ⟨Nat.zero_le _, Nat.zero_le _⟩ dX3_comparison_90 rfl ?_
        refine sx_if_eq X 100 dX3_comparison_93 rfl (fun c10 => ?_) (fun c10 => ?_)
        · have hf := ob_t hf c10
          refine sx_iconst X (v := 0) dX3_comparison_100 rfl ?_
          exact sx_iret X rfl dX3_comparison_101 (ob_e hf) rfl rfl
        · have hf := ob_f hf c10
          refine sx_iconst X (v := 1) dX3_comparison_96 rfl ?_
          refine sx_goto X 101 dX3_comparison_97 rfl ?_
          exact sx_iret X rfl dX3_comparison_101 (ob_e hf) rfl rfl
  have R66 : ∀ (v2 : Int32) (v3 : Nat) (w_a0_cursor : Int32) (w_a1_stepKinds : Nat → Nat) (w_a1_stepValues : Nat → Int32) (w_a1_steps : Int32), (f_X3_comparison_R66 n rec x2 b_a0 b_a1 v2 v3 w_a0_cursor w_a1_stepKinds w_a1_stepValues w_a1_steps).bind some = some res → SxG p l e (rmg_X3 (d + 1)) s m args below meth c D A 5 0 0 (SxE below args s D A (vf_X3_comparison sd) (wf_X3_comparison T sd a0 a0_kinds a0_starts a0_values a1 a1_deeds a1_targets a1_firstSteps a1_endSteps a1_stepKinds a1_stepValues b_a0 b_a1) res 0 0) [zO a0 9 [.ref a0_kinds, .ref a0_starts, .ref a0_values, .int (X11_count b_a0), .int w_a0_cursor, .int (X11_error b_a0), .int (X11_errorToken b_a0)], zK T sd.1 a0_kinds 401 (X11_kinds b_a0), zI T a0_starts 401 (X11_starts b_a0), zJ T a0_values 401 (X11_values b_a0), zO a1 4 [.ref a1_deeds, .ref a1_targets, .ref a1_firstSteps, .ref a1_endSteps, .ref a1_stepKinds, .ref a1_stepValues, .int (X6_count b_a1), .int w_a1_steps], zK T sd.1 a1_deeds 16 (X6_deeds b_a1), zI T a1_targets 16 (X6_targets b_a1), zI T a1_firstSteps 16 (X6_firstSteps b_a1), zI T a1_endSteps 16 (X6_endSteps b_a1), zK T sd.1 a1_stepKinds 400 w_a1_stepKinds, zI T a1_stepValues 400 w_a1_stepValues] [(0, .ref a0), (1, .ref a1), (2, .int v2), (3, .ref (sd.1 v3))] 66 [] := by
    intro v2 v3 w_a0_cursor w_a1_stepKinds w_a1_stepValues w_a1_steps hf
    refine sx_iconst X (v := 1) dX3_comparison_66 rfl ?_
    refine sx_goto X 71 dX3_comparison_67 rfl ?_
    exact R71 v2 v3 w_a0_cursor w_a1_stepKinds w_a1_stepValues w_a1_steps 1 hf
  refine sx_aload_n X 0 rfl dX3_comparison_0 rfl ?_
  refine sx_aload_n X 1 rfl dX3_comparison_1 rfl ?_
  refine sx_iload_n X 2 rfl dX3_comparison_2 rfl ?_
  obtain ⟨u1, hu1, hf⟩ := ob_c hf
  refine sx_cS X (hrec.2.2.2.2.1 a0 a0_kinds a0_starts a0_values a1 a1_deeds a1_targets a1_firstSteps a1_endSteps a1_stepKinds a1_stepValues x2 b_a0 b_a1 _ hu1) (st' := [.int u1.1]) qm_1003 qm_1004 qm_46 qm_1005 hd_X3_sum ⟨rfl, rfl⟩ ⟨rmg_f_X3, rmg_l_X3 (Nat.le_of_ble_eq_true rfl)⟩ rfl rfl (Nat.le_of_ble_eq_true rfl) [0, 1, 2, 3, 4, 5, 6, 7, 8, 9, 10] rfl rfl (ws' := [zO a0 9 [.ref a0_kinds, .ref a0_starts, .ref a0_values, .int (X11_count b_a0), .int u1.2.1, .int (X11_error b_a0), .int (X11_errorToken b_a0)], zK T sd.1 a0_kinds 401 (X11_kinds b_a0), zI T a0_starts 401 (X11_starts b_a0), zJ T a0_values 401 (X11_values b_a0), zO a1 4 [.ref a1_deeds, .ref a1_targets, .ref a1_firstSteps, .ref a1_endSteps, .ref a1_stepKinds, .ref a1_stepValues, .int (X6_count b_a1), .int u1.2.2.2.2], zK T sd.1 a1_deeds 16 (X6_deeds b_a1), zI T a1_targets 16 (X6_targets b_a1), zI T a1_firstSteps 16 (X6_firstSteps b_a1), zI T a1_endSteps 16 (X6_endSteps b_a1), zK T sd.1 a1_stepKinds 400 u1.2.2.1, zI T a1_stepValues 400 u1.2.2.2.1]) (sxPatch_pk [(true, 0), (true, 1), (true, 2), (true, 3), (true, 4), (true, 5), (true, 6), (true, 7), (true, 8), (true, 9), (true, 10)] (by decide +kernel) rfl rfl rfl) rfl ⟨Nat.zero_le _, Nat.zero_le _⟩ dX3_comparison_3 rfl ?_
  refine sx_if_ne X 11 dX3_comparison_6 rfl (fun c2 => ?_) (fun c2 => ?_)
  · have hf := ob_f hf c2
    refine sx_aload_n X 0 rfl dX3_comparison_11 rfl ?_
    obtain ⟨u3, hu3, hf⟩ := ob_c hf
    refine sx_cVr X (c_X11_next (l := l) (D := D) (T := T) (sd := sd) a0 a0_kinds a0_starts a0_values ((X11_kinds b_a0), (X11_starts b_a0), (X11_values b_a0), (X11_count b_a0), u1.2.1, (X11_error b_a0), (X11_errorToken b_a0)) hu3) (st' := [.ref (sd.1 u3)]) (q0 := 0) qm_922 qm_923 qm_924 qm_15 qm_925 hd_X11_next ⟨rfl, rfl⟩ ⟨rmg_le_X3 (Nat.le_of_ble_eq_true rfl), rmg_ll_X3 (Nat.le_of_ble_eq_true rfl)⟩ rfl rfl (Nat.le_of_ble_eq_true rfl) rfl rfl rfl [0, 1, 2, 3] rfl rfl rfl ⟨Nat.zero_le _, Nat.zero_le _⟩ dX3_comparison_12 rfl ?_
    refine sx_astore_n X (lv' := [(3, .ref (sd.1 u3)), (0, .ref a0), (1, .ref a1), (2, .int x2)]) dX3_comparison_15 rfl (by decide) rfl ?_
    refine sx_aload_n X 1 rfl dX3_comparison_16 rfl ?_
    refine sx_kst X 42 (by decide) qm_1030 dX3_comparison_17 ?_
    obtain ⟨u4, hu4, hf⟩ := ob_c hf
    refine sx_cV X (c_X11_take (l := l) (D := D) (T := T) (sd := sd) a0 a0_kinds a0_starts a0_values 42 ((X11_kinds b_a0), (X11_starts b_a0), (X11_values b_a0), (X11_count b_a0), u1.2.1, (X11_error b_a0), (X11_errorToken b_a0)) hu4) (st' := [.int u4.1]) (q0 := 0) qm_932 qm_933 qm_934 qm_15 qm_935 hd_X11_take ⟨rfl, rfl⟩ ⟨rmg_le_X3 (Nat.le_of_ble_eq_true rfl), rmg_ll_X3 (Nat.le_of_ble_eq_true rfl)⟩ rfl rfl (Nat.le_of_ble_eq_true rfl) rfl rfl rfl [0, 1, 2, 3] rfl rfl (ws' := [zO a0 9 [.ref a0_kinds, .ref a0_starts, .ref a0_values, .int (X11_count b_a0), .int u4.2, .int (X11_error b_a0), .int (X11_errorToken b_a0)], zK T sd.1 a0_kinds 401 (X11_kinds b_a0), zI T a0_starts 401 (X11_starts b_a0), zJ T a0_values 401 (X11_values b_a0), zO a1 4 [.ref a1_deeds, .ref a1_targets, .ref a1_firstSteps, .ref a1_endSteps, .ref a1_stepKinds, .ref a1_stepValues, .int (X6_count b_a1), .int u1.2.2.2.2], zK T sd.1 a1_deeds 16 (X6_deeds b_a1), zI T a1_targets 16 (X6_targets b_a1), zI T a1_firstSteps 16 (X6_firstSteps b_a1), zI T a1_endSteps 16 (X6_endSteps b_a1), zK T sd.1 a1_stepKinds 400 u1.2.2.1, zI T a1_stepValues 400 u1.2.2.2.1]) (sxPatch_pk [(true, 0), (true, 1), (true, 2), (true, 3), (false, 4), (false, 5), (false, 6), (false, 7), (false, 8), (false, 9), (false, 10)] (by decide +kernel) rfl rfl rfl) rfl ⟨Nat.zero_le _, Nat.zero_le _⟩ dX3_comparison_20 rfl ?_
    refine sx_if_ne X 66 dX3_comparison_23 rfl (fun c5 => ?_) (fun c5 => ?_)
    · have hf := ob_f hf c5
      refine sx_lsub [1, 2, 3, 0] rfl ?_
      exact R66 x2 u3 u4.2 u1.2.2.1 u1.2.2.2.1 u1.2.2.2.2 hf
    · have hf := ob_t hf c5
      refine sx_aload_n X 1 rfl dX3_comparison_26 rfl ?_
      refine sx_kst X 43 (by decide) qm_1032 dX3_comparison_27 ?_
      obtain ⟨u11, hu11, hf⟩ := ob_c hf
      refine sx_cV X (c_X11_take (l := l) (D := D) (T := T) (sd := sd) a0 a0_kinds a0_starts a0_values 43 ((X11_kinds b_a0), (X11_starts b_a0), (X11_values b_a0), (X11_count b_a0), u4.2, (X11_error b_a0), (X11_errorToken b_a0)) hu11) (st' := [.int u11.1]) (q0 := 0) qm_932 qm_933 qm_934 qm_15 qm_935 hd_X11_take ⟨rfl, rfl⟩ ⟨rmg_le_X3 (Nat.le_of_ble_eq_true rfl), rmg_ll_X3 (Nat.le_of_ble_eq_true rfl)⟩ rfl rfl (Nat.le_of_ble_eq_true rfl) rfl rfl rfl [0, 1, 2, 3] rfl rfl (ws' := [zO a0 9 [.ref a0_kinds, .ref a0_starts, .ref a0_values, .int (X11_count b_a0), .int u11.2, .int (X11_error b_a0), .int (X11_errorToken b_a0)], zK T sd.1 a0_kinds 401 (X11_kinds b_a0), zI T a0_starts 401 (X11_starts b_a0), zJ T a0_values 401 (X11_values b_a0), zO a1 4 [.ref a1_deeds, .ref a1_targets, .ref a1_firstSteps, .ref a1_endSteps, .ref a1_stepKinds, .ref a1_stepValues, .int (X6_count b_a1), .int u1.2.2.2.2], zK T sd.1 a1_deeds 16 (X6_deeds b_a1), zI T a1_targets 16 (X6_targets b_a1), zI T a1_firstSteps 16 (X6_firstSteps b_a1), zI T a1_endSteps 16 (X6_endSteps b_a1), zK T sd.1 a1_stepKinds 400 u1.2.2.1, zI T a1_stepValues 400 u1.2.2.2.1]) (sxPatch_pk [(true, 0), (true, 1), (true, 2), (true, 3), (false, 4), (false, 5), (false, 6), (false, 7), (false, 8), (false, 9), (false, 10)] (by decide +kernel) rfl rfl rfl) rfl ⟨Nat.zero_le _, Nat.zero_le _⟩ dX3_comparison_30 rfl ?_
      refine sx_if_ne X 66 dX3_comparison_33 rfl (fun c12 => ?_) (fun c12 => ?_)
      · have hf := ob_f hf c12
        refine sx_lsub [1, 2, 3, 0] rfl ?_
        exact R66 x2 u3 u11.2 u1.2.2.1 u1.2.2.2.1 u1.2.2.2.2 hf
      · have hf := ob_t hf c12
        refine sx_aload_n X 1 rfl dX3_comparison_36 rfl ?_
        refine sx_kst X 44 (by decide) qm_1034 dX3_comparison_37 ?_
        obtain ⟨u13, hu13, hf⟩ := ob_c hf
        refine sx_cV X (c_X11_take (l := l) (D := D) (T := T) (sd := sd) a0 a0_kinds a0_starts a0_values 44 ((X11_kinds b_a0), (X11_starts b_a0), (X11_values b_a0), (X11_count b_a0), u11.2, (X11_error b_a0), (X11_errorToken b_a0)) hu13) (st' := [.int u13.1]) (q0 := 0) qm_932 qm_933 qm_934 qm_15 qm_935 hd_X11_take ⟨rfl, rfl⟩ ⟨rmg_le_X3 (Nat.le_of_ble_eq_true rfl), rmg_ll_X3 (Nat.le_of_ble_eq_true rfl)⟩ rfl rfl (Nat.le_of_ble_eq_true rfl) rfl rfl rfl [0, 1, 2, 3] rfl rfl (ws' := [zO a0 9 [.ref a0_kinds, .ref a0_starts, .ref a0_values, .int (X11_count b_a0), .int u13.2, .int (X11_error b_a0), .int (X11_errorToken b_a0)], zK T sd.1 a0_kinds 401 (X11_kinds b_a0), zI T a0_starts 401 (X11_starts b_a0), zJ T a0_values 401 (X11_values b_a0), zO a1 4 [.ref a1_deeds, .ref a1_targets, .ref a1_firstSteps, .ref a1_endSteps, .ref a1_stepKinds, .ref a1_stepValues, .int (X6_count b_a1), .int u1.2.2.2.2], zK T sd.1 a1_deeds 16 (X6_deeds b_a1), zI T a1_targets 16 (X6_targets b_a1), zI T a1_firstSteps 16 (X6_firstSteps b_a1), zI T a1_endSteps 16 (X6_endSteps b_a1), zK T sd.1 a1_stepKinds 400 u1.2.2.1, zI T a1_stepValues 400 u1.2.2.2.1]) (sxPatch_pk [(true, 0), (true, 1), (true, 2), (true, 3), (false, 4), (false, 5), (false, 6), (false, 7), (false, 8), (false, 9), (false, 10)] (by decide +kernel) rfl rfl rfl) rfl ⟨Nat.zero_le _, Nat.zero_le _⟩ dX3_comparison_40 rfl ?_
        refine sx_if_ne X 66 dX3_comparison_43 rfl (fun c14 => ?_) (fun c14 => ?_)
        · have hf := ob_f hf c14
          refine sx_lsub [1, 2, 3, 0] rfl ?_
          exact R66 x2 u3 u13.2 u1.2.2.1 u1.2.2.2.1 u1.2.2.2.2 hf
        · have hf := ob_t hf c14
          refine sx_aload_n X 1 rfl dX3_comparison_46 rfl ?_
          refine sx_kst X 45 (by decide) qm_1036 dX3_comparison_47 ?_
          obtain ⟨u15, hu15, hf⟩ := ob_c hf
          refine sx_cV X (c_X11_take (l := l) (D := D) (T := T) (sd := sd) a0 a0_kinds a0_starts a0_values 45 ((X11_kinds b_a0), (X11_starts b_a0), (X11_values b_a0), (X11_count b_a0), u13.2, (X11_error b_a0), (X11_errorToken b_a0)) hu15) (st' := [.int u15.1]) (q0 := 0) qm_932 qm_933 qm_934 qm_15 qm_935 hd_X11_take ⟨rfl, rfl⟩ ⟨rmg_le_X3 (Nat.le_of_ble_eq_true rfl), rmg_ll_X3 (Nat.le_of_ble_eq_true rfl)⟩ rfl rfl (Nat.le_of_ble_eq_true rfl) rfl rfl rfl [0, 1, 2, 3] rfl rfl (ws' := [zO a0 9 [.ref a0_kinds, .ref a0_starts, .ref a0_values, .int (X11_count b_a0), .int u15.2, .int (X11_error b_a0), .int (X11_errorToken b_a0)], zK T sd.1 a0_kinds 401 (X11_kinds b_a0), zI T a0_starts 401 (X11_starts b_a0), zJ T a0_values 401 (X11_values b_a0), zO a1 4 [.ref a1_deeds, .ref a1_targets, .ref a1_firstSteps, .ref a1_endSteps, .ref a1_stepKinds, .ref a1_stepValues, .int (X6_count b_a1), .int u1.2.2.2.2], zK T sd.1 a1_deeds 16 (X6_deeds b_a1), zI T a1_targets 16 (X6_targets b_a1), zI T a1_firstSteps 16 (X6_firstSteps b_a1), zI T a1_endSteps 16 (X6_endSteps b_a1), zK T sd.1 a1_stepKinds 400 u1.2.2.1, zI T a1_stepValues 400 u1.2.2.2.1]) (sxPatch_pk [(true, 0), (true, 1), (true, 2), (true, 3), (false, 4), (false, 5), (false, 6), (false, 7), (false, 8), (false, 9), (false, 10)] (by decide +kernel) rfl rfl rfl) rfl ⟨Nat.zero_le _, Nat.zero_le _⟩ dX3_comparison_50 rfl ?_
          refine sx_if_ne X 66 dX3_comparison_53 rfl (fun c16 => ?_) (fun c16 => ?_)
          · have hf := ob_f hf c16
            refine sx_lsub [1, 2, 3, 0] rfl ?_
            exact R66 x2 u3 u15.2 u1.2.2.1 u1.2.2.2.1 u1.2.2.2.2 hf
          · have hf := ob_t hf c16
            refine sx_aload_n X 1 rfl dX3_comparison_56 rfl ?_
            refine sx_kst X 46 (by decide) qm_1038 dX3_comparison_57 ?_
            obtain ⟨u17, hu17, hf⟩ := ob_c hf
            refine sx_cV X (c_X11_take (l := l) (D := D) (T := T) (sd := sd) a0 a0_kinds a0_starts a0_values 46 ((X11_kinds b_a0), (X11_starts b_a0), (X11_values b_a0), (X11_count b_a0), u15.2, (X11_error b_a0), (X11_errorToken b_a0)) hu17) (st' := [.int u17.1]) (q0 := 0) qm_932 qm_933 qm_934 qm_15 qm_935 hd_X11_take ⟨rfl, rfl⟩ ⟨rmg_le_X3 (Nat.le_of_ble_eq_true rfl), rmg_ll_X3 (Nat.le_of_ble_eq_true rfl)⟩ rfl rfl (Nat.le_of_ble_eq_true rfl) rfl rfl rfl [0, 1, 2, 3] rfl rfl (ws' := [zO a0 9 [.ref a0_kinds, .ref a0_starts, .ref a0_values, .int (X11_count b_a0), .int u17.2, .int (X11_error b_a0), .int (X11_errorToken b_a0)], zK T sd.1 a0_kinds 401 (X11_kinds b_a0), zI T a0_starts 401 (X11_starts b_a0), zJ T a0_values 401 (X11_values b_a0), zO a1 4 [.ref a1_deeds, .ref a1_targets, .ref a1_firstSteps, .ref a1_endSteps, .ref a1_stepKinds, .ref a1_stepValues, .int (X6_count b_a1), .int u1.2.2.2.2], zK T sd.1 a1_deeds 16 (X6_deeds b_a1), zI T a1_targets 16 (X6_targets b_a1), zI T a1_firstSteps 16 (X6_firstSteps b_a1), zI T a1_endSteps 16 (X6_endSteps b_a1), zK T sd.1 a1_stepKinds 400 u1.2.2.1, zI T a1_stepValues 400 u1.2.2.2.1]) (sxPatch_pk [(true, 0), (true, 1), (true, 2), (true, 3), (false, 4), (false, 5), (false, 6), (false, 7), (false, 8), (false, 9), (false, 10)] (by decide +kernel) rfl rfl rfl) rfl ⟨Nat.zero_le _, Nat.zero_le _⟩ dX3_comparison_60 rfl ?_
            refine sx_if_eq X 70 dX3_comparison_63 rfl (fun c18 => ?_) (fun c18 => ?_)
            · have hf := ob_t hf c18
              refine sx_iconst X (v := 0) dX3_comparison_70 rfl ?_
              refine sx_lsub [1, 2, 3, 0] rfl ?_
              exact R71 x2 u3 u17.2 u1.2.2.1 u1.2.2.2.1 u1.2.2.2.2 0 hf
            · have hf := ob_f hf c18
              refine sx_lsub [1, 2, 3, 0] rfl ?_
              exact R66 x2 u3 u17.2 u1.2.2.1 u1.2.2.2.1 u1.2.2.2.2 hf
  · have hf := ob_t hf c2
    refine sx_iconst X (v := 0) dX3_comparison_9 rfl ?_
    exact sx_iret X rfl dX3_comparison_10 (ob_e hf) rfl rfl
