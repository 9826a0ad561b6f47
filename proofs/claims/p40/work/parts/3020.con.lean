/-! contracts, part 20 -/
set_option maxHeartbeats 4000000 in
set_option maxRecDepth 100000 in
theorem c_X3_product {l : Launch} {D : va_G} {T : Nat → ClassId} {sd : SdT} (n d : Nat) (rec : Nat → Int32 → bX11 → bX6 → Option (Int32 × Int32 × (Nat → Nat) × (Nat → Int32) × Int32)) (hrec : rcg_X3 l D T sd (rmg_X3 d) rec) (a0 : Nat) (a0_kinds : Nat) (a0_starts : Nat) (a0_values : Nat) (a1 : Nat) (a1_deeds : Nat) (a1_targets : Nat) (a1_firstSteps : Nat) (a1_endSteps : Nat) (a1_stepKinds : Nat) (a1_stepValues : Nat) (x2 : Int32) (b_a0 : bX11) (b_a1 : bX6) (res : Int32 × Int32 × (Nat → Nat) × (Nat → Int32) × Int32) (hf : f_X3_product n rec x2 b_a0 b_a1 = some res) : SxK (SFx sd) l D T yX3_product cX3_product 6 (some .boolean) (rmg_X3 (d + 1)) [.ref a0, .ref a1, .int x2] (wc_X3_product T sd a0 a0_kinds a0_starts a0_values a1 a1_deeds a1_targets a1_firstSteps a1_endSteps a1_stepKinds a1_stepValues b_a0 b_a1) (vf_X3_product sd) (wf_X3_product T sd a0 a0_kinds a0_starts a0_values a1 a1_deeds a1_targets a1_firstSteps a1_endSteps a1_stepKinds a1_stepValues b_a0 b_a1) res 0 0 := by
  refine sx_start (SFx_ok sd) (by decide +kernel) (Nat.le_of_ble_eq_true rfl) (fun p e s m args below meth c A X hnm => ?_)
  have hf := ob_1 hf
  have L16 : ∀ (v2 : Int32) (n0 : Nat) (v3 : Int32) (v4 : Nat) (v5 : Int32) (w_a0_cursor : Int32) (w_a1_stepKinds : Nat → Nat) (w_a1_stepValues : Nat → Int32) (w_a1_steps : Int32), (iter (fun s : Int32 × Nat × Int32 × Int32 × (Nat → Nat) × (Nat → Int32) × Int32 => f_X3_product_L16 n rec x2 b_a0 b_a1 v2 s.1 s.2.1 s.2.2.1 s.2.2.2.1 s.2.2.2.2.1 s.2.2.2.2.2.1 s.2.2.2.2.2.2) n0 (v3, v4, v5, w_a0_cursor, w_a1_stepKinds, w_a1_stepValues, w_a1_steps)).bind some = some res → SxG p l e (rmg_X3 (d + 1)) s m args below meth c D A 6 0 0 (SxE below args s D A (vf_X3_product sd) (wf_X3_product T sd a0 a0_kinds a0_starts a0_values a1 a1_deeds a1_targets a1_firstSteps a1_endSteps a1_stepKinds a1_stepValues b_a0 b_a1) res 0 0) [zO a0 9 [.ref a0_kinds, .ref a0_starts, .ref a0_values, .int (X11_count b_a0), .int w_a0_cursor, .int (X11_error b_a0), .int (X11_errorToken b_a0)], zK T sd.1 a0_kinds 401 (X11_kinds b_a0), zI T a0_starts 401 (X11_starts b_a0), zJ T a0_values 401 (X11_values b_a0), zO a1 4 [.ref a1_deeds, .ref a1_targets, .ref a1_firstSteps, .ref a1_endSteps, .ref a1_stepKinds, .ref a1_stepValues, .int (X6_count b_a1), .int w_a1_steps], zK T sd.1 a1_deeds 16 (X6_deeds b_a1), zI T a1_targets 16 (X6_targets b_a1), zI T a1_firstSteps 16 (X6_firstSteps b_a1), zI T a1_endSteps 16 (X6_endSteps b_a1), zK T sd.1 a1_stepKinds 400 w_a1_stepKinds, zI T a1_stepValues 400 w_a1_stepValues] [(0, .ref a0), (1, .ref a1), (2, .int v2), (3, .int v3), (4, .ref (sd.1 v4)), (5, .int v5)] 16 [] := by
    intro v2 n0
    induction n0 with
    | zero =>
      intro v3 v4 v5 w_a0_cursor w_a1_stepKinds w_a1_stepValues w_a1_steps hf
      exact (iter_z hf).elim
    | succ n0 ih16 =>
      intro v3 v4 v5 w_a0_cursor w_a1_stepKinds w_a1_stepValues w_a1_steps hf
      obtain ⟨κ16, hκ16, hf⟩ := iter_k hf
      have hf : (f_X3_product_L16 n rec x2 b_a0 b_a1 v2 v3 v4 v5 w_a0_cursor w_a1_stepKinds w_a1_stepValues w_a1_steps).bind κ16 = some res := hf
      have R72 : ∀ (v5 : Int32) (w_a0_cursor : Int32) (w_a1_stepKinds : Nat → Nat) (w_a1_stepValues : Nat → Int32) (w_a1_steps : Int32) (t0 : Int32), (f_X3_product_R72 n rec x2 b_a0 b_a1 v2 v5 w_a0_cursor w_a1_stepKinds w_a1_stepValues w_a1_steps t0).bind κ16 = some res → SxG p l e (rmg_X3 (d + 1)) s m args below meth c D A 6 0 0 (SxE below args s D A (vf_X3_product sd) (wf_X3_product T sd a0 a0_kinds a0_starts a0_values a1 a1_deeds a1_targets a1_firstSteps a1_endSteps a1_stepKinds a1_stepValues b_a0 b_a1) res 0 0) [zO a0 9 [.ref a0_kinds, .ref a0_starts, .ref a0_values, .int (X11_count b_a0), .int w_a0_cursor, .int (X11_error b_a0), .int (X11_errorToken b_a0)], zK T sd.1 a0_kinds 401 (X11_kinds b_a0), zI T a0_starts 401 (X11_starts b_a0), zJ T a0_values 401 (X11_values b_a0), zO a1 4 [.ref a1_deeds, .ref a1_targets, .ref a1_firstSteps, .ref a1_endSteps, .ref a1_stepKinds, .ref a1_stepValues, .int (X6_count b_a1), .int w_a1_steps], zK T sd.1 a1_deeds 16 (X6_deeds b_a1), zI T a1_targets 16 (X6_targets b_a1), zI T a1_firstSteps 16 (X6_firstSteps b_a1), zI T a1_endSteps 16 (X6_endSteps b_a1), zK T sd.1 a1_stepKinds 400 w_a1_stepKinds, zI T a1_stepValues 400 w_a1_stepValues] [(0, .ref a0), (1, .ref a1), (2, .int v2), (5, .int v5)] 72 [.int t0] := by
        intro v5 w_a0_cursor w_a1_stepKinds w_a1_stepValues w_a1_steps t0 hf
        refine sx_istore_n X (lv' := [(3, .int t0), (0, .ref a0), (1, .ref a1), (2, .int v2), (5, .int v5)]) dX3_product_72 rfl (by decide) rfl ?_
        refine sx_aload_n X 1 rfl dX3_product_73 rfl ?_
        obtain ⟨u11, hu11, hf⟩ := ob_c hf
        refine sx_cVr X (c_X11_next (l := l) (D := D) (T := T) (sd := sd) a0 a0_kinds a0_starts a0_values ((X11_kinds b_a0), (X11_starts b_a0), (X11_values b_a0), (X11_count b_a0), w_a0_cursor, (X11_error b_a0), (X11_errorToken b_a0)) hu11) (st' := [.ref (sd.1 u11)]) (q0 := 0) qm_922 qm_923 qm_924 qm_15 qm_925 hd_X11_next ⟨rfl, rfl⟩ ⟨rmg_le_X3 (Nat.le_of_ble_eq_true rfl), rmg_ll_X3 (Nat.le_of_ble_eq_true rfl)⟩ rfl rfl (Nat.le_of_ble_eq_true rfl) rfl rfl rfl [0, 1, 2, 3] rfl rfl rfl ⟨Nat.zero_le _, Nat.zero_le _⟩ dX3_product_74 rfl ?_
        refine sx_astore X (lv' := [(4, .ref (sd.1 u11)), (3, .int t0), (0, .ref a0), (1, .ref a1), (2, .int v2), (5, .int v5)]) dX3_product_77 (by decide) rfl ?_
        refine sx_iinc X (v := (v5 + 1)) (lv' := [(5, .int (v5 + 1)), (4, .ref (sd.1 u11)), (3, .int t0), (0, .ref a0), (1, .ref a1), (2, .int v2)]) 5 rfl dX3_product_79 rfl (by decide) rfl ?_
        refine sx_goto X 16 dX3_product_82 rfl ?_
        have hf := ob_k hκ16 hf
        refine sx_lsub [3, 4, 5, 2, 1, 0] rfl ?_
        exact ih16 t0 u11 (v5 + 1) w_a0_cursor w_a1_stepKinds w_a1_stepValues w_a1_steps hf
      have R71 : ∀ (v5 : Int32) (w_a0_cursor : Int32) (w_a1_stepKinds : Nat → Nat) (w_a1_stepValues : Nat → Int32) (w_a1_steps : Int32), (f_X3_product_R71 n rec x2 b_a0 b_a1 v2 v5 w_a0_cursor w_a1_stepKinds w_a1_stepValues w_a1_steps).bind κ16 = some res → SxG p l e (rmg_X3 (d + 1)) s m args below meth c D A 6 0 0 (SxE below args s D A (vf_X3_product sd) (wf_X3_product T sd a0 a0_kinds a0_starts a0_values a1 a1_deeds a1_targets a1_firstSteps a1_endSteps a1_stepKinds a1_stepValues b_a0 b_a1) res 0 0) [zO a0 9 [.ref a0_kinds, .ref a0_starts, .ref a0_values, .int (X11_count b_a0), .int w_a0_cursor, .int (X11_error b_a0), .int (X11_errorToken b_a0)], zK T sd.1 a0_kinds 401 (X11_kinds b_a0), zI T a0_starts 401 (X11_starts b_a0), zJ T a0_values 401 (X11_values b_a0), zO a1 4 [.ref a1_deeds, .ref a1_targets, .ref a1_firstSteps, .ref a1_endSteps, .ref a1_stepKinds, .ref a1_stepValues, .int (X6_count b_a1), .int w_a1_steps], zK T sd.1 a1_deeds 16 (X6_deeds b_a1), zI T a1_targets 16 (X6_targets b_a1), zI T a1_firstSteps 16 (X6_firstSteps b_a1), zI T a1_endSteps 16 (X6_endSteps b_a1), zK T sd.1 a1_stepKinds 400 w_a1_stepKinds, zI T a1_stepValues 400 w_a1_stepValues] [(0, .ref a0), (1, .ref a1), (2, .int v2), (5, .int v5)] 71 [] := by
        intro v5 w_a0_cursor w_a1_stepKinds w_a1_stepValues w_a1_steps hf
        refine sx_iconst X (v := 0) dX3_product_71 rfl ?_
        exact R72 v5 w_a0_cursor w_a1_stepKinds w_a1_stepValues w_a1_steps 0 hf
      have R48 : ∀ (v4 : Nat) (v5 : Int32) (w_a0_cursor : Int32) (w_a1_stepKinds : Nat → Nat) (w_a1_stepValues : Nat → Int32) (w_a1_steps : Int32), (f_X3_product_R48 n rec x2 b_a0 b_a1 v2 v4 v5 w_a0_cursor w_a1_stepKinds w_a1_stepValues w_a1_steps).bind κ16 = some res → SxG p l e (rmg_X3 (d + 1)) s m args below meth c D A 6 0 0 (SxE below args s D A (vf_X3_product sd) (wf_X3_product T sd a0 a0_kinds a0_starts a0_values a1 a1_deeds a1_targets a1_firstSteps a1_endSteps a1_stepKinds a1_stepValues b_a0 b_a1) res 0 0) [zO a0 9 [.ref a0_kinds, .ref a0_starts, .ref a0_values, .int (X11_count b_a0), .int w_a0_cursor, .int (X11_error b_a0), .int (X11_errorToken b_a0)], zK T sd.1 a0_kinds 401 (X11_kinds b_a0), zI T a0_starts 401 (X11_starts b_a0), zJ T a0_values 401 (X11_values b_a0), zO a1 4 [.ref a1_deeds, .ref a1_targets, .ref a1_firstSteps, .ref a1_endSteps, .ref a1_stepKinds, .ref a1_stepValues, .int (X6_count b_a1), .int w_a1_steps], zK T sd.1 a1_deeds 16 (X6_deeds b_a1), zI T a1_targets 16 (X6_targets b_a1), zI T a1_firstSteps 16 (X6_firstSteps b_a1), zI T a1_endSteps 16 (X6_endSteps b_a1), zK T sd.1 a1_stepKinds 400 w_a1_stepKinds, zI T a1_stepValues 400 w_a1_stepValues] [(0, .ref a0), (1, .ref a1), (2, .int v2), (4, .ref (sd.1 v4)), (5, .int v5)] 48 [] := by
        intro v4 v5 w_a0_cursor w_a1_stepKinds w_a1_stepValues w_a1_steps hf
        refine sx_aload_n X 0 rfl dX3_product_48 rfl ?_
        refine sx_aload_n X 1 rfl dX3_product_49 rfl ?_
        refine sx_iload_n X 2 rfl dX3_product_50 rfl ?_
        obtain ⟨u9, hu9, hf⟩ := ob_c hf
        refine sx_cS X (hrec.2.2.2.2.2.2 a0 a0_kinds a0_starts a0_values a1 a1_deeds a1_targets a1_firstSteps a1_endSteps a1_stepKinds a1_stepValues v2 ((X11_kinds b_a0), (X11_starts b_a0), (X11_values b_a0), (X11_count b_a0), w_a0_cursor, (X11_error b_a0), (X11_errorToken b_a0)) ((X6_deeds b_a1), (X6_targets b_a1), (X6_firstSteps b_a1), (X6_endSteps b_a1), w_a1_stepKinds, w_a1_stepValues, (X6_count b_a1), w_a1_steps) _ hu9) (st' := [.int u9.1]) qm_1009 qm_1010 qm_46 qm_1011 hd_X3_value ⟨rfl, rfl⟩ ⟨rmg_f_X3, rmg_l_X3 (Nat.le_of_ble_eq_true rfl)⟩ rfl rfl (Nat.le_of_ble_eq_true rfl) [0, 1, 2, 3, 4, 5, 6, 7, 8, 9, 10] rfl rfl (ws' := [zO a0 9 [.ref a0_kinds, .ref a0_starts, .ref a0_values, .int (X11_count b_a0), .int u9.2.1, .int (X11_error b_a0), .int (X11_errorToken b_a0)], zK T sd.1 a0_kinds 401 (X11_kinds b_a0), zI T a0_starts 401 (X11_starts b_a0), zJ T a0_values 401 (X11_values b_a0), zO a1 4 [.ref a1_deeds, .ref a1_targets, .ref a1_firstSteps, .ref a1_endSteps, .ref a1_stepKinds, .ref a1_stepValues, .int (X6_count b_a1), .int u9.2.2.2.2], zK T sd.1 a1_deeds 16 (X6_deeds b_a1), zI T a1_targets 16 (X6_targets b_a1), zI T a1_firstSteps 16 (X6_firstSteps b_a1), zI T a1_endSteps 16 (X6_endSteps b_a1), zK T sd.1 a1_stepKinds 400 u9.2.2.1, zI T a1_stepValues 400 u9.2.2.2.1]) (sxPatch_pk [(true, 0), (true, 1), (true, 2), (true, 3), (true, 4), (true, 5), (true, 6), (true, 7), (true, 8), (true, 9), (true, 10)] (by decide +kernel) rfl rfl rfl) rfl ⟨Nat.zero_le _, Nat.zero_le _⟩ dX3_product_51 rfl ?_
        refine sx_if_eq X 71 dX3_product_54 rfl (fun c10 => ?_) (fun c10 => ?_)
        · have hf := ob_t hf c10
          refine sx_lsub [0, 1, 2, 4] rfl ?_
          exact R71 v5 u9.2.1 u9.2.2.1 u9.2.2.2.1 u9.2.2.2.2 hf
        · have hf := ob_f hf c10
          refine sx_aload_n X 1 rfl dX3_product_57 rfl ?_
          refine sx_aload X 3 rfl dX3_product_58 ?_
          refine sx_iconst X (v := 0) dX3_product_60 rfl ?_
          obtain ⟨u12, hu12, hf⟩ := ob_c hf
          refine sx_cV X (c_X6_addStep (l := l) (D := D) (T := T) (sd := sd) a1 a1_deeds a1_targets a1_firstSteps a1_endSteps a1_stepKinds a1_stepValues v4 0 ((X6_deeds b_a1), (X6_targets b_a1), (X6_firstSteps b_a1), (X6_endSteps b_a1), u9.2.2.1, u9.2.2.2.1, (X6_count b_a1), u9.2.2.2.2) hu12) (st' := [.int u12.1]) (q0 := 4) qm_992 qm_993 qm_994 qm_23 qm_995 hd_X6_addStep ⟨rfl, rfl⟩ ⟨rmg_le_X3 (Nat.le_of_ble_eq_true rfl), rmg_ll_X3 (Nat.le_of_ble_eq_true rfl)⟩ rfl rfl (Nat.le_of_ble_eq_true rfl) rfl rfl rfl [4, 5, 6, 7, 8, 9, 10] rfl rfl (ws' := [zO a0 9 [.ref a0_kinds, .ref a0_starts, .ref a0_values, .int (X11_count b_a0), .int u9.2.1, .int (X11_error b_a0), .int (X11_errorToken b_a0)], zK T sd.1 a0_kinds 401 (X11_kinds b_a0), zI T a0_starts 401 (X11_starts b_a0), zJ T a0_values 401 (X11_values b_a0), zO a1 4 [.ref a1_deeds, .ref a1_targets, .ref a1_firstSteps, .ref a1_endSteps, .ref a1_stepKinds, .ref a1_stepValues, .int (X6_count b_a1), .int u12.2.2.2], zK T sd.1 a1_deeds 16 (X6_deeds b_a1), zI T a1_targets 16 (X6_targets b_a1), zI T a1_firstSteps 16 (X6_firstSteps b_a1), zI T a1_endSteps 16 (X6_endSteps b_a1), zK T sd.1 a1_stepKinds 400 u12.2.1, zI T a1_stepValues 400 u12.2.2.1]) (sxPatch_pk [(false, 0), (false, 1), (false, 2), (false, 3), (true, 0), (true, 1), (true, 2), (true, 3), (true, 4), (true, 5), (true, 6)] (by decide +kernel) rfl rfl rfl) rfl ⟨Nat.zero_le _, Nat.zero_le _⟩ dX3_product_61 rfl ?_
          refine sx_if_eq X 71 dX3_product_64 rfl (fun c13 => ?_) (fun c13 => ?_)
          · have hf := ob_t hf c13
            refine sx_lsub [0, 1, 2, 4] rfl ?_
            exact R71 v5 u9.2.1 u12.2.1 u12.2.2.1 u12.2.2.2 hf
          · have hf := ob_f hf c13
            refine sx_iconst X (v := 1) dX3_product_67 rfl ?_
            refine sx_goto X 72 dX3_product_68 rfl ?_
            refine sx_lsub [0, 1, 2, 4] rfl ?_
            exact R72 v5 u9.2.1 u12.2.1 u12.2.2.1 u12.2.2.2 1 hf
      refine sx_iload X 5 rfl dX3_product_16 ?_
      refine sx_sipush X (v := 400) dX3_product_18 rfl ?_
      refine sx_icmp_ge X 85 dX3_product_21 rfl (fun c3 => ?_) (fun c3 => ?_)
      · have hf := ob_t hf c3
        refine sx_iload_n X 3 rfl dX3_product_85 rfl ?_
        obtain ⟨g4, hf⟩ := ob_h hf
        have hf := ob_kr hκ16 hf
        exact sx_iret X (sx_nz g4) dX3_product_86 (ob_e hf) rfl rfl
      · have hf := ob_f hf c3
        refine sx_iload_n X 3 rfl dX3_product_24 rfl ?_
        refine sx_if_eq X 85 dX3_product_25 rfl (fun c5 => ?_) (fun c5 => ?_)
        · have hf := ob_t hf c5
          refine sx_iload_n X 3 rfl dX3_product_85 rfl ?_
          obtain ⟨g6, hf⟩ := ob_h hf
          have hf := ob_kr hκ16 hf
          exact sx_iret X (sx_nz g6) dX3_product_86 (ob_e hf) rfl rfl
        · have hf := ob_f hf c5
          refine sx_aload_n X 0 rfl dX3_product_28 rfl ?_
          refine sx_kst X 40 (by decide) qm_1024 dX3_product_29 ?_
          obtain ⟨u7, hu7, hf⟩ := ob_c hf
          refine sx_cV X (c_X11_take (l := l) (D := D) (T := T) (sd := sd) a0 a0_kinds a0_starts a0_values 40 ((X11_kinds b_a0), (X11_starts b_a0), (X11_values b_a0), (X11_count b_a0), w_a0_cursor, (X11_error b_a0), (X11_errorToken b_a0)) hu7) (st' := [.int u7.1]) (q0 := 0) qm_932 qm_933 qm_934 qm_15 qm_935 hd_X11_take ⟨rfl, rfl⟩ ⟨rmg_le_X3 (Nat.le_of_ble_eq_true rfl), rmg_ll_X3 (Nat.le_of_ble_eq_true rfl)⟩ rfl rfl (Nat.le_of_ble_eq_true rfl) rfl rfl rfl [0, 1, 2, 3] rfl rfl (ws' := [zO a0 9 [.ref a0_kinds, .ref a0_starts, .ref a0_values, .int (X11_count b_a0), .int u7.2, .int (X11_error b_a0), .int (X11_errorToken b_a0)], zK T sd.1 a0_kinds 401 (X11_kinds b_a0), zI T a0_starts 401 (X11_starts b_a0), zJ T a0_values 401 (X11_values b_a0), zO a1 4 [.ref a1_deeds, .ref a1_targets, .ref a1_firstSteps, .ref a1_endSteps, .ref a1_stepKinds, .ref a1_stepValues, .int (X6_count b_a1), .int w_a1_steps], zK T sd.1 a1_deeds 16 (X6_deeds b_a1), zI T a1_targets 16 (X6_targets b_a1), zI T a1_firstSteps 16 (X6_firstSteps b_a1), zI T a1_endSteps 16 (X6_endSteps b_a1), zK T sd.1 a1_stepKinds 400 w_a1_stepKinds, zI T a1_stepValues 400 w_a1_stepValues]) (sxPatch_pk [(true, 0), (true, 1), (true, 2), (true, 3), (false, 4), (false, 5), (false, 6), (false, 7), (false, 8), (false, 9), (false, 10)] (by decide +kernel) rfl rfl rfl) rfl ⟨Nat.zero_le _, Nat.zero_le _⟩ dX3_product_32 rfl ?_
          refine sx_if_ne X 48 dX3_product_35 rfl (fun c8 => ?_) (fun c8 => ?_)
          · have hf := ob_f hf c8
            refine sx_lsub [0, 1, 2, 4, 5] rfl ?_
            exact R48 v4 v5 u7.2 w_a1_stepKinds w_a1_stepValues w_a1_steps hf
          · have hf := ob_t hf c8
            refine sx_aload_n X 0 rfl dX3_product_38 rfl ?_
            refine sx_kst X 41 (by decide) qm_1026 dX3_product_39 ?_
            obtain ⟨u14, hu14, hf⟩ := ob_c hf
            refine sx_cV X (c_X11_take (l := l) (D := D) (T := T) (sd := sd) a0 a0_kinds a0_starts a0_values 41 ((X11_kinds b_a0), (X11_starts b_a0), (X11_values b_a0), (X11_count b_a0), u7.2, (X11_error b_a0), (X11_errorToken b_a0)) hu14) (st' := [.int u14.1]) (q0 := 0) qm_932 qm_933 qm_934 qm_15 qm_935 hd_X11_take ⟨rfl, rfl⟩ ⟨rmg_le_X3 (Nat.le_of_ble_eq_true rfl), rmg_ll_X3 (Nat.le_of_ble_eq_true rfl)⟩ rfl rfl (Nat.le_of_ble_eq_true rfl) rfl rfl rfl [0, 1, 2, 3] rfl rfl (ws' := [zO a0 9 [.ref a0_kinds, .ref a0_starts, .ref a0_values, .int (X11_count b_a0), .int u14.2, .int (X11_error b_a0), .int (X11_errorToken b_a0)], zK T sd.1 a0_kinds 401 (X11_kinds b_a0), zI T a0_starts 401 (X11_starts b_a0), zJ T a0_values 401 (X11_values b_a0), zO a1 4 [.ref a1_deeds, .ref a1_targets, .ref a1_firstSteps, .ref a1_endSteps, .ref a1_stepKinds, .ref a1_stepValues, .int (X6_count b_a1), .int w_a1_steps], zK T sd.1 a1_deeds 16 (X6_deeds b_a1), zI T a1_targets 16 (X6_targets b_a1), zI T a1_firstSteps 16 (X6_firstSteps b_a1), zI T a1_endSteps 16 (X6_endSteps b_a1), zK T sd.1 a1_stepKinds 400 w_a1_stepKinds, zI T a1_stepValues 400 w_a1_stepValues]) (sxPatch_pk [(true, 0), (true, 1), (true, 2), (true, 3), (false, 4), (false, 5), (false, 6), (false, 7), (false, 8), (false, 9), (false, 10)] (by decide +kernel) rfl rfl rfl) rfl ⟨Nat.zero_le _, Nat.zero_le _⟩ dX3_product_42 rfl ?_
            refine sx_if_eq X 85 dX3_product_45 rfl (fun c15 => ?_) (fun c15 => ?_)
            · have hf := ob_t hf c15
              refine sx_iload_n X 3 rfl dX3_product_85 rfl ?_
              obtain ⟨g16, hf⟩ := ob_h hf
              have hf := ob_kr hκ16 hf
              exact sx_iret X (sx_nz g16) dX3_product_86 (ob_e hf) rfl rfl
            · have hf := ob_f hf c15
              refine sx_lsub [0, 1, 2, 4, 5] rfl ?_
              exact R48 v4 v5 u14.2 w_a1_stepKinds w_a1_stepValues w_a1_steps hf
  refine sx_aload_n X 0 rfl dX3_product_0 rfl ?_
  refine sx_aload_n X 1 rfl dX3_product_1 rfl ?_
  refine sx_iload_n X 2 rfl dX3_product_2 rfl ?_
  obtain ⟨u1, hu1, hf⟩ := ob_c hf
  refine sx_cS X (hrec.2.2.2.2.2.2 a0 a0_kinds a0_starts a0_values a1 a1_deeds a1_targets a1_firstSteps a1_endSteps a1_stepKinds a1_stepValues x2 b_a0 b_a1 _ hu1) (st' := [.int u1.1]) qm_1009 qm_1010 qm_46 qm_1011 hd_X3_value ⟨rfl, rfl⟩ ⟨rmg_f_X3, rmg_l_X3 (Nat.le_of_ble_eq_true rfl)⟩ rfl rfl (Nat.le_of_ble_eq_true rfl) [0, 1, 2, 3, 4, 5, 6, 7, 8, 9, 10] rfl rfl (ws' := [zO a0 9 [.ref a0_kinds, .ref a0_starts, .ref a0_values, .int (X11_count b_a0), .int u1.2.1, .int (X11_error b_a0), .int (X11_errorToken b_a0)], zK T sd.1 a0_kinds 401 (X11_kinds b_a0), zI T a0_starts 401 (X11_starts b_a0), zJ T a0_values 401 (X11_values b_a0), zO a1 4 [.ref a1_deeds, .ref a1_targets, .ref a1_firstSteps, .ref a1_endSteps, .ref a1_stepKinds, .ref a1_stepValues, .int (X6_count b_a1), .int u1.2.2.2.2], zK T sd.1 a1_deeds 16 (X6_deeds b_a1), zI T a1_targets 16 (X6_targets b_a1), zI T a1_firstSteps 16 (X6_firstSteps b_a1), zI T a1_endSteps 16 (X6_endSteps b_a1), zK T sd.1 a1_stepKinds 400 u1.2.2.1, zI T a1_stepValues 400 u1.2.2.2.1]) (sxPatch_pk [(true, 0), (true, 1), (true, 2), (true, 3), (true, 4), (true, 5), (true, 6), (true, 7), (true, 8), (true, 9), (true, 10)] (by decide +kernel) rfl rfl rfl) rfl ⟨Nat.zero_le _, Nat.zero_le _⟩ dX3_product_3 rfl ?_
  refine sx_istore_n X (lv' := [(3, .int u1.1), (0, .ref a0), (1, .ref a1), (2, .int x2)]) dX3_product_6 rfl (by decide) rfl ?_
  refine sx_aload_n X 1 rfl dX3_product_7 rfl ?_
  obtain ⟨u2, hu2, hf⟩ := ob_c hf
  refine sx_cVr X (c_X11_next (l := l) (D := D) (T := T) (sd := sd) a0 a0_kinds a0_starts a0_values ((X11_kinds b_a0), (X11_starts b_a0), (X11_values b_a0), (X11_count b_a0), u1.2.1, (X11_error b_a0), (X11_errorToken b_a0)) hu2) (st' := [.ref (sd.1 u2)]) (q0 := 0) qm_922 qm_923 qm_924 qm_15 qm_925 hd_X11_next ⟨rfl, rfl⟩ ⟨rmg_le_X3 (Nat.le_of_ble_eq_true rfl), rmg_ll_X3 (Nat.le_of_ble_eq_true rfl)⟩ rfl rfl (Nat.le_of_ble_eq_true rfl) rfl rfl rfl [0, 1, 2, 3] rfl rfl rfl ⟨Nat.zero_le _, Nat.zero_le _⟩ dX3_product_8 rfl ?_
  refine sx_astore X (lv' := [(4, .ref (sd.1 u2)), (3, .int u1.1), (0, .ref a0), (1, .ref a1), (2, .int x2)]) dX3_product_11 (by decide) rfl ?_
  refine sx_iconst X (v := 0) dX3_product_13 rfl ?_
  refine sx_istore X (lv' := [(5, .int 0), (4, .ref (sd.1 u2)), (3, .int u1.1), (0, .ref a0), (1, .ref a1), (2, .int x2)]) dX3_product_14 (by decide) rfl ?_
  refine sx_lsub [3, 4, 5, 2, 1, 0] rfl ?_
  exact L16 x2 n u1.1 u2 0 u1.2.1 u1.2.2.1 u1.2.2.2.1 u1.2.2.2.2 hf
