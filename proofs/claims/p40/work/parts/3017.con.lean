/-! contracts, part 17 -/
theorem tin_X3_single_13_0 (x : Int32) (h : x = 1) : SxIn (1) (5) #[35, 79, 122, 122, 122] (35) x := by
  rcases h with rfl <;> exact ⟨by decide, by decide, by decide⟩
theorem tin_X3_single_13_1 (x : Int32) (h : x = 2) : SxIn (1) (5) #[35, 79, 122, 122, 122] (79) x := by
  rcases h with rfl <;> exact ⟨by decide, by decide, by decide⟩
theorem tin_X3_single_13_2 (x : Int32) (h : x = 3 ∨ x = 4 ∨ x = 5) : SxIn (1) (5) #[35, 79, 122, 122, 122] (122) x := by
  rcases h with rfl | rfl | rfl <;> exact ⟨by decide, by decide, by decide⟩
theorem tab_X3_single_13 (x : Int32) (c0 : ¬ (x = 1)) (c1 : ¬ (x = 2)) (c2 : ¬ (x = 3 ∨ x = 4 ∨ x = 5)) : SxTab (1) (5) #[35, 79, 122, 122, 122] (158) x := by
  refine sx_tabd [1, 2, 3, 4, 5] x (by decide +kernel) (fun v hv e => ?_)
  simp only [List.mem_cons, List.not_mem_nil, or_false] at hv
  rcases hv with h | h | h | h | h
  · exact c0 (e.trans h)
  · exact c1 (e.trans h)
  · exact c2 (Or.inl (e.trans h))
  · exact c2 (Or.inr (Or.inl (e.trans h)))
  · exact c2 (Or.inr (Or.inr (e.trans h)))
set_option maxHeartbeats 4000000 in
set_option maxRecDepth 100000 in
theorem c_X3_single {l : Launch} {D : va_G} {T : Nat → ClassId} {sd : SdT} (n d : Nat) (rec : Nat → Int32 → bX11 → bX6 → Option (Int32 × Int32 × (Nat → Nat) × (Nat → Int32) × Int32)) (hrec : rcg_X3 l D T sd (rmg_X3 d) rec) (a0 : Nat) (a0_kinds : Nat) (a0_starts : Nat) (a0_values : Nat) (a1 : Nat) (a1_deeds : Nat) (a1_targets : Nat) (a1_firstSteps : Nat) (a1_endSteps : Nat) (a1_stepKinds : Nat) (a1_stepValues : Nat) (x2 : Int32) (b_a0 : bX11) (b_a1 : bX6) (res : Int32 × Int32 × (Nat → Nat) × (Nat → Int32) × Int32) (hf : f_X3_single n rec x2 b_a0 b_a1 = some res) : SxK (SFx sd) l D T yX3_single cX3_single 4 (some .boolean) (rmg_X3 (d + 1)) [.ref a0, .ref a1, .int x2] (wc_X3_single T sd a0 a0_kinds a0_starts a0_values a1 a1_deeds a1_targets a1_firstSteps a1_endSteps a1_stepKinds a1_stepValues b_a0 b_a1) (vf_X3_single sd) (wf_X3_single T sd a0 a0_kinds a0_starts a0_values a1 a1_deeds a1_targets a1_firstSteps a1_endSteps a1_stepKinds a1_stepValues b_a0 b_a1) res 0 0 := by
  refine sx_start (SFx_ok sd) (by decide +kernel) (Nat.le_of_ble_eq_true rfl) (fun p e s m args below meth c A X hnm => ?_)
  have hf := ob_1 hf
  refine sx_aload_n X 0 rfl dX3_single_0 rfl ?_
  obtain ⟨u1, hu1, hf⟩ := ob_c hf
  refine sx_cVr X (c_X11_next (l := l) (D := D) (T := T) (sd := sd) a0 a0_kinds a0_starts a0_values b_a0 hu1) (st' := [.ref (sd.1 u1)]) (q0 := 0) qm_922 qm_923 qm_924 qm_15 qm_925 hd_X11_next ⟨rfl, rfl⟩ ⟨rmg_le_X3 (Nat.le_of_ble_eq_true rfl), rmg_ll_X3 (Nat.le_of_ble_eq_true rfl)⟩ rfl rfl (Nat.le_of_ble_eq_true rfl) rfl rfl rfl [0, 1, 2, 3] rfl rfl rfl ⟨Nat.zero_le _, Nat.zero_le _⟩ dX3_single_1 rfl ?_
  refine sx_astore_n X (lv' := [(3, .ref (sd.1 u1)), (0, .ref a0), (1, .ref a1), (2, .int x2)]) dX3_single_4 rfl (by decide) rfl ?_
  refine sx_mst X qm_988 dX3_single_5 ?_
  refine sx_aload_n X 0 rfl dX3_single_8 rfl ?_
  obtain ⟨g2, hf⟩ := ob_h hf
  refine sx_ord X u1 g2 qm_989 (rmg_le_X3 (Nat.le_of_ble_eq_true rfl)) (rmg_ll_X3 (Nat.le_of_ble_eq_true rfl)) (Nat.le_of_ble_eq_true rfl) (Nat.zero_le _) (Nat.zero_le _) dX3_single_9 ?_
  refine sx_mld X u1 g2 dX3_single_12 ?_
  by_cases c3 : (smap u1) = 1
  · have hf := ob_t hf c3
    refine sx_tin X 48 dX3_single_13 rfl (tin_X3_single_13_0 (smap u1) c3) ?_
    refine sx_iload_n X 3 rfl dX3_single_48 rfl ?_
    refine sx_bipush X (v := 8) dX3_single_49 rfl ?_
    refine sx_icmp_ge X 90 dX3_single_51 rfl (fun c4 => ?_) (fun c4 => ?_)
    · have hf := ob_t hf c4
      refine sx_iconst X (v := 0) dX3_single_90 rfl ?_
      exact sx_iret X rfl dX3_single_91 (ob_e hf) rfl rfl
    · have hf := ob_f hf c4
      refine sx_aload_n X 1 rfl dX3_single_54 rfl ?_
      refine sx_kst X 27 (by decide) qm_990 dX3_single_55 ?_
      obtain ⟨u5, hu5, hf⟩ := ob_c hf
      refine sx_cV X (c_X11_take (l := l) (D := D) (T := T) (sd := sd) a0 a0_kinds a0_starts a0_values 27 b_a0 hu5) (st' := [.int u5.1]) (q0 := 0) qm_932 qm_933 qm_934 qm_15 qm_935 hd_X11_take ⟨rfl, rfl⟩ ⟨rmg_le_X3 (Nat.le_of_ble_eq_true rfl), rmg_ll_X3 (Nat.le_of_ble_eq_true rfl)⟩ rfl rfl (Nat.le_of_ble_eq_true rfl) rfl rfl rfl [0, 1, 2, 3] rfl rfl (ws' := [zO a0 9 [.ref a0_kinds, .ref a0_starts, .ref a0_values, .int (X11_count b_a0), .int u5.2, .int (X11_error b_a0), .int (X11_errorToken b_a0)], zK T sd.1 a0_kinds 401 (X11_kinds b_a0), zI T a0_starts 401 (X11_starts b_a0), zJ T a0_values 401 (X11_values b_a0), zO a1 4 [.ref a1_deeds, .ref a1_targets, .ref a1_firstSteps, .ref a1_endSteps, .ref a1_stepKinds, .ref a1_stepValues, .int (X6_count b_a1), .int (X6_steps b_a1)], zK T sd.1 a1_deeds 16 (X6_deeds b_a1), zI T a1_targets 16 (X6_targets b_a1), zI T a1_firstSteps 16 (X6_firstSteps b_a1), zI T a1_endSteps 16 (X6_endSteps b_a1), zK T sd.1 a1_stepKinds 400 (X6_stepKinds b_a1), zI T a1_stepValues 400 (X6_stepValues b_a1)]) (sxPatch_pk [(true, 0), (true, 1), (true, 2), (true, 3), (false, 4), (false, 5), (false, 6), (false, 7), (false, 8), (false, 9), (false, 10)] (by decide +kernel) rfl rfl rfl) rfl ⟨Nat.zero_le _, Nat.zero_le _⟩ dX3_single_58 rfl ?_
      refine sx_if_eq X 90 dX3_single_61 rfl (fun c6 => ?_) (fun c6 => ?_)
      · have hf := ob_t hf c6
        refine sx_iconst X (v := 0) dX3_single_90 rfl ?_
        exact sx_iret X rfl dX3_single_91 (ob_e hf) rfl rfl
      · have hf := ob_f hf c6
        refine sx_aload_n X 1 rfl dX3_single_64 rfl ?_
        refine sx_aload_n X 2 rfl dX3_single_65 rfl ?_
        refine sx_iload_n X 3 rfl dX3_single_66 rfl ?_
        refine sx_iconst X (v := 1) dX3_single_67 rfl ?_
        refine sx_iadd X dX3_single_68 ?_
        obtain ⟨u7, hu7, hf⟩ := ob_c hf
        refine sx_cS X (hrec.2.2.1 a0 a0_kinds a0_starts a0_values a1 a1_deeds a1_targets a1_firstSteps a1_endSteps a1_stepKinds a1_stepValues (x2 + 1) ((X11_kinds b_a0), (X11_starts b_a0), (X11_values b_a0), (X11_count b_a0), u5.2, (X11_error b_a0), (X11_errorToken b_a0)) b_a1 _ hu7) (st' := [.int u7.1]) qm_985 qm_986 qm_46 qm_987 hd_X3_single ⟨rfl, rfl⟩ ⟨rmg_f_X3, rmg_l_X3 (Nat.le_of_ble_eq_true rfl)⟩ rfl rfl (Nat.le_of_ble_eq_true rfl) [0, 1, 2, 3, 4, 5, 6, 7, 8, 9, 10] rfl rfl (ws' := [zO a0 9 [.ref a0_kinds, .ref a0_starts, .ref a0_values, .int (X11_count b_a0), .int u7.2.1, .int (X11_error b_a0), .int (X11_errorToken b_a0)], zK T sd.1 a0_kinds 401 (X11_kinds b_a0), zI T a0_starts 401 (X11_starts b_a0), zJ T a0_values 401 (X11_values b_a0), zO a1 4 [.ref a1_deeds, .ref a1_targets, .ref a1_firstSteps, .ref a1_endSteps, .ref a1_stepKinds, .ref a1_stepValues, .int (X6_count b_a1), .int u7.2.2.2.2], zK T sd.1 a1_deeds 16 (X6_deeds b_a1), zI T a1_targets 16 (X6_targets b_a1), zI T a1_firstSteps 16 (X6_firstSteps b_a1), zI T a1_endSteps 16 (X6_endSteps b_a1), zK T sd.1 a1_stepKinds 400 u7.2.2.1, zI T a1_stepValues 400 u7.2.2.2.1]) (sxPatch_pk [(true, 0), (true, 1), (true, 2), (true, 3), (true, 4), (true, 5), (true, 6), (true, 7), (true, 8), (true, 9), (true, 10)] (by decide +kernel) rfl rfl rfl) rfl ⟨Nat.zero_le _, Nat.zero_le _⟩ dX3_single_69 rfl ?_
        refine sx_if_eq X 90 dX3_single_72 rfl (fun c8 => ?_) (fun c8 => ?_)
        · have hf := ob_t hf c8
          refine sx_iconst X (v := 0) dX3_single_90 rfl ?_
          exact sx_iret X rfl dX3_single_91 (ob_e hf) rfl rfl
        · have hf := ob_f hf c8
          refine sx_aload_n X 2 rfl dX3_single_75 rfl ?_
          refine sx_kst X 27 (by decide) qm_990 dX3_single_76 ?_
          refine sx_iconst X (v := 0) dX3_single_79 rfl ?_
          obtain ⟨u9, hu9, hf⟩ := ob_c hf
          refine sx_cV X (c_X6_addStep (l := l) (D := D) (T := T) (sd := sd) a1 a1_deeds a1_targets a1_firstSteps a1_endSteps a1_stepKinds a1_stepValues 27 0 ((X6_deeds b_a1), (X6_targets b_a1), (X6_firstSteps b_a1), (X6_endSteps b_a1), u7.2.2.1, u7.2.2.2.1, (X6_count b_a1), u7.2.2.2.2) hu9) (st' := [.int u9.1]) (q0 := 4) qm_992 qm_993 qm_994 qm_23 qm_995 hd_X6_addStep ⟨rfl, rfl⟩ ⟨rmg_le_X3 (Nat.le_of_ble_eq_true rfl), rmg_ll_X3 (Nat.le_of_ble_eq_true rfl)⟩ rfl rfl (Nat.le_of_ble_eq_true rfl) rfl rfl rfl [4, 5, 6, 7, 8, 9, 10] rfl rfl (ws' := [zO a0 9 [.ref a0_kinds, .ref a0_starts, .ref a0_values, .int (X11_count b_a0), .int u7.2.1, .int (X11_error b_a0), .int (X11_errorToken b_a0)], zK T sd.1 a0_kinds 401 (X11_kinds b_a0), zI T a0_starts 401 (X11_starts b_a0), zJ T a0_values 401 (X11_values b_a0), zO a1 4 [.ref a1_deeds, .ref a1_targets, .ref a1_firstSteps, .ref a1_endSteps, .ref a1_stepKinds, .ref a1_stepValues, .int (X6_count b_a1), .int u9.2.2.2], zK T sd.1 a1_deeds 16 (X6_deeds b_a1), zI T a1_targets 16 (X6_targets b_a1), zI T a1_firstSteps 16 (X6_firstSteps b_a1), zI T a1_endSteps 16 (X6_endSteps b_a1), zK T sd.1 a1_stepKinds 400 u9.2.1, zI T a1_stepValues 400 u9.2.2.1]) (sxPatch_pk [(false, 0), (false, 1), (false, 2), (false, 3), (true, 0), (true, 1), (true, 2), (true, 3), (true, 4), (true, 5), (true, 6)] (by decide +kernel) rfl rfl rfl) rfl ⟨Nat.zero_le _, Nat.zero_le _⟩ dX3_single_80 rfl ?_
          refine sx_if_eq X 90 dX3_single_83 rfl (fun c10 => ?_) (fun c10 => ?_)
          · have hf := ob_t hf c10
            refine sx_iconst X (v := 0) dX3_single_90 rfl ?_
            exact sx_iret X rfl dX3_single_91 (ob_e hf) rfl rfl
          · have hf := ob_f hf c10
            refine sx_iconst X (v := 1) dX3_single_86 rfl ?_
            refine sx_goto X 91 dX3_single_87 rfl ?_
            exact sx_iret X rfl dX3_single_91 (ob_e hf) rfl rfl
  · have hf := ob_f hf c3
    by_cases c11 : (smap u1) = 2
    · have hf := ob_t hf c11
      refine sx_tin X 92 dX3_single_13 rfl (tin_X3_single_13_1 (smap u1) c11) ?_
      refine sx_iload_n X 3 rfl dX3_single_92 rfl ?_
      refine sx_bipush X (v := 8) dX3_single_93 rfl ?_
      refine sx_icmp_ge X 133 dX3_single_95 rfl (fun c12 => ?_) (fun c12 => ?_)
      · have hf := ob_t hf c12
        refine sx_iconst X (v := 0) dX3_single_133 rfl ?_
        exact sx_iret X rfl dX3_single_134 (ob_e hf) rfl rfl
      · have hf := ob_f hf c12
        refine sx_aload_n X 1 rfl dX3_single_98 rfl ?_
        refine sx_kst X 34 (by decide) qm_996 dX3_single_99 ?_
        obtain ⟨u13, hu13, hf⟩ := ob_c hf
        refine sx_cV X (c_X11_take (l := l) (D := D) (T := T) (sd := sd) a0 a0_kinds a0_starts a0_values 34 b_a0 hu13) (st' := [.int u13.1]) (q0 := 0) qm_932 qm_933 qm_934 qm_15 qm_935 hd_X11_take ⟨rfl, rfl⟩ ⟨rmg_le_X3 (Nat.le_of_ble_eq_true rfl), rmg_ll_X3 (Nat.le_of_ble_eq_true rfl)⟩ rfl rfl (Nat.le_of_ble_eq_true rfl) rfl rfl rfl [0, 1, 2, 3] rfl rfl (ws' := [zO a0 9 [.ref a0_kinds, .ref a0_starts, .ref a0_values, .int (X11_count b_a0), .int u13.2, .int (X11_error b_a0), .int (X11_errorToken b_a0)], zK T sd.1 a0_kinds 401 (X11_kinds b_a0), zI T a0_starts 401 (X11_starts b_a0), zJ T a0_values 401 (X11_values b_a0), zO a1 4 [.ref a1_deeds, .ref a1_targets, .ref a1_firstSteps, .ref a1_endSteps, .ref a1_stepKinds, .ref a1_stepValues, .int (X6_count b_a1), .int (X6_steps b_a1)], zK T sd.1 a1_deeds 16 (X6_deeds b_a1), zI T a1_targets 16 (X6_targets b_a1), zI T a1_firstSteps 16 (X6_firstSteps b_a1), zI T a1_endSteps 16 (X6_endSteps b_a1), zK T sd.1 a1_stepKinds 400 (X6_stepKinds b_a1), zI T a1_stepValues 400 (X6_stepValues b_a1)]) (sxPatch_pk [(true, 0), (true, 1), (true, 2), (true, 3), (false, 4), (false, 5), (false, 6), (false, 7), (false, 8), (false, 9), (false, 10)] (by decide +kernel) rfl rfl rfl) rfl ⟨Nat.zero_le _, Nat.zero_le _⟩ dX3_single_102 rfl ?_
        refine sx_if_eq X 133 dX3_single_105 rfl (fun c14 => ?_) (fun c14 => ?_)
        · have hf := ob_t hf c14
          refine sx_iconst X (v := 0) dX3_single_133 rfl ?_
          exact sx_iret X rfl dX3_single_134 (ob_e hf) rfl rfl
        · have hf := ob_f hf c14
          refine sx_aload_n X 1 rfl dX3_single_108 rfl ?_
          refine sx_aload_n X 2 rfl dX3_single_109 rfl ?_
          refine sx_iload_n X 3 rfl dX3_single_110 rfl ?_
          refine sx_iconst X (v := 1) dX3_single_111 rfl ?_
          refine sx_iadd X dX3_single_112 ?_
          obtain ⟨u15, hu15, hf⟩ := ob_c hf
          refine sx_cS X (hrec.1 a0 a0_kinds a0_starts a0_values a1 a1_deeds a1_targets a1_firstSteps a1_endSteps a1_stepKinds a1_stepValues (x2 + 1) ((X11_kinds b_a0), (X11_starts b_a0), (X11_values b_a0), (X11_count b_a0), u13.2, (X11_error b_a0), (X11_errorToken b_a0)) b_a1 _ hu15) (st' := [.int u15.1]) qm_979 qm_980 qm_46 qm_981 hd_X3_test ⟨rfl, rfl⟩ ⟨rmg_f_X3, rmg_l_X3 (Nat.le_of_ble_eq_true rfl)⟩ rfl rfl (Nat.le_of_ble_eq_true rfl) [0, 1, 2, 3, 4, 5, 6, 7, 8, 9, 10] rfl rfl (ws' := [zO a0 9 [.ref a0_kinds, .ref a0_starts, .ref a0_values, .int (X11_count b_a0), .int u15.2.1, .int (X11_error b_a0), .int (X11_errorToken b_a0)], zK T sd.1 a0_kinds 401 (X11_kinds b_a0), zI T a0_starts 401 (X11_starts b_a0), zJ T a0_values 401 (X11_values b_a0), zO a1 4 [.ref a1_deeds, .ref a1_targets, .ref a1_firstSteps, .ref a1_endSteps, .ref a1_stepKinds, .ref a1_stepValues, .int (X6_count b_a1), .int u15.2.2.2.2], zK T sd.1 a1_deeds 16 (X6_deeds b_a1), zI T a1_targets 16 (X6_targets b_a1), zI T a1_firstSteps 16 (X6_firstSteps b_a1), zI T a1_endSteps 16 (X6_endSteps b_a1), zK T sd.1 a1_stepKinds 400 u15.2.2.1, zI T a1_stepValues 400 u15.2.2.2.1]) (sxPatch_pk [(true, 0), (true, 1), (true, 2), (true, 3), (true, 4), (true, 5), (true, 6), (true, 7), (true, 8), (true, 9), (true, 10)] (by decide +kernel) rfl rfl rfl) rfl ⟨Nat.zero_le _, Nat.zero_le _⟩ dX3_single_113 rfl ?_
          refine sx_if_eq X 133 dX3_single_116 rfl (fun c16 => ?_) (fun c16 => ?_)
          · have hf := ob_t hf c16
            refine sx_iconst X (v := 0) dX3_single_133 rfl ?_
            exact sx_iret X rfl dX3_single_134 (ob_e hf) rfl rfl
          · have hf := ob_f hf c16
            refine sx_aload_n X 1 rfl dX3_single_119 rfl ?_
            refine sx_kst X 35 (by decide) qm_998 dX3_single_120 ?_
            obtain ⟨u17, hu17, hf⟩ := ob_c hf
            refine sx_cV X (c_X11_take (l := l) (D := D) (T := T) (sd := sd) a0 a0_kinds a0_starts a0_values 35 ((X11_kinds b_a0), (X11_starts b_a0), (X11_values b_a0), (X11_count b_a0), u15.2.1, (X11_error b_a0), (X11_errorToken b_a0)) hu17) (st' := [.int u17.1]) (q0 := 0) qm_932 qm_933 qm_934 qm_15 qm_935 hd_X11_take ⟨rfl, rfl⟩ ⟨rmg_le_X3 (Nat.le_of_ble_eq_true rfl), rmg_ll_X3 (Nat.le_of_ble_eq_true rfl)⟩ rfl rfl (Nat.le_of_ble_eq_true rfl) rfl rfl rfl [0, 1, 2, 3] rfl rfl (ws' := [zO a0 9 [.ref a0_kinds, .ref a0_starts, .ref a0_values, .int (X11_count b_a0), .int u17.2, .int (X11_error b_a0), .int (X11_errorToken b_a0)], zK T sd.1 a0_kinds 401 (X11_kinds b_a0), zI T a0_starts 401 (X11_starts b_a0), zJ T a0_values 401 (X11_values b_a0), zO a1 4 [.ref a1_deeds, .ref a1_targets, .ref a1_firstSteps, .ref a1_endSteps, .ref a1_stepKinds, .ref a1_stepValues, .int (X6_count b_a1), .int u15.2.2.2.2], zK T sd.1 a1_deeds 16 (X6_deeds b_a1), zI T a1_targets 16 (X6_targets b_a1), zI T a1_firstSteps 16 (X6_firstSteps b_a1), zI T a1_endSteps 16 (X6_endSteps b_a1), zK T sd.1 a1_stepKinds 400 u15.2.2.1, zI T a1_stepValues 400 u15.2.2.2.1]) (sxPatch_pk [(true, 0), (true, 1), (true, 2), (true, 3), (false, 4), (false, 5), (false, 6), (false, 7), (false, 8), (false, 9), (false, 10)] (by decide +kernel) rfl rfl rfl) rfl ⟨Nat.zero_le _, Nat.zero_le _⟩ dX3_single_123 rfl ?_
            refine sx_if_eq X 133 dX3_single_126 rfl (fun c18 => ?_) (fun c18 => ?_)
            · have hf := ob_t hf c18
              refine sx_iconst X (v := 0) dX3_single_133 rfl ?_
              exact sx_iret X rfl dX3_single_134 (ob_e hf) rfl rfl
            · have hf := ob_f hf c18
              refine sx_iconst X (v := 1) dX3_single_129 rfl ?_
              refine sx_goto X 134 dX3_single_130 rfl ?_
              exact sx_iret X rfl dX3_single_134 (ob_e hf) rfl rfl
    · have hf := ob_f hf c11
      by_cases c19 : (smap u1) = 3 ∨ (smap u1) = 4 ∨ (smap u1) = 5
      · have hf := ob_t hf c19
        refine sx_tin X 135 dX3_single_13 rfl (tin_X3_single_13_2 (smap u1) c19) ?_
        refine sx_aload_n X 1 rfl dX3_single_135 rfl ?_
        refine sx_aload_n X 0 rfl dX3_single_136 rfl ?_
        obtain ⟨u20, hu20, hf⟩ := ob_c hf
        refine sx_cV X (c_X11_take (l := l) (D := D) (T := T) (sd := sd) a0 a0_kinds a0_starts a0_values u1 b_a0 hu20) (st' := [.int u20.1]) (q0 := 0) qm_932 qm_933 qm_934 qm_15 qm_935 hd_X11_take ⟨rfl, rfl⟩ ⟨rmg_le_X3 (Nat.le_of_ble_eq_true rfl), rmg_ll_X3 (Nat.le_of_ble_eq_true rfl)⟩ rfl rfl (Nat.le_of_ble_eq_true rfl) rfl rfl rfl [0, 1, 2, 3] rfl rfl (ws' := [zO a0 9 [.ref a0_kinds, .ref a0_starts, .ref a0_values, .int (X11_count b_a0), .int u20.2, .int (X11_error b_a0), .int (X11_errorToken b_a0)], zK T sd.1 a0_kinds 401 (X11_kinds b_a0), zI T a0_starts 401 (X11_starts b_a0), zJ T a0_values 401 (X11_values b_a0), zO a1 4 [.ref a1_deeds, .ref a1_targets, .ref a1_firstSteps, .ref a1_endSteps, .ref a1_stepKinds, .ref a1_stepValues, .int (X6_count b_a1), .int (X6_steps b_a1)], zK T sd.1 a1_deeds 16 (X6_deeds b_a1), zI T a1_targets 16 (X6_targets b_a1), zI T a1_firstSteps 16 (X6_firstSteps b_a1), zI T a1_endSteps 16 (X6_endSteps b_a1), zK T sd.1 a1_stepKinds 400 (X6_stepKinds b_a1), zI T a1_stepValues 400 (X6_stepValues b_a1)]) (sxPatch_pk [(true, 0), (true, 1), (true, 2), (true, 3), (false, 4), (false, 5), (false, 6), (false, 7), (false, 8), (false, 9), (false, 10)] (by decide +kernel) rfl rfl rfl) rfl ⟨Nat.zero_le _, Nat.zero_le _⟩ dX3_single_137 rfl ?_
        refine sx_if_eq X 169 dX3_single_140 rfl (fun c21 => ?_) (fun c21 => ?_)
        · have hf := ob_t hf c21
          refine sx_iconst X (v := 0) dX3_single_169 rfl ?_
          exact sx_iret X rfl dX3_single_170 (ob_e hf) rfl rfl
        · have hf := ob_f hf c21
          refine sx_aload_n X 2 rfl dX3_single_143 rfl ?_
          refine sx_aload_n X 0 rfl dX3_single_144 rfl ?_
          refine sx_aload_n X 1 rfl dX3_single_145 rfl ?_
          refine sx_get X kX11 0 rfl 4 (Nat.le_of_ble_eq_true rfl) qm_90 rfl dX3_single_146 ?_
          obtain ⟨u22, hu22, hf⟩ := ob_c hf
          refine sx_cV X (c_X6_addStep (l := l) (D := D) (T := T) (sd := sd) a1 a1_deeds a1_targets a1_firstSteps a1_endSteps a1_stepKinds a1_stepValues u1 u20.2 b_a1 hu22) (st' := [.int u22.1]) (q0 := 4) qm_992 qm_993 qm_994 qm_23 qm_995 hd_X6_addStep ⟨rfl, rfl⟩ ⟨rmg_le_X3 (Nat.le_of_ble_eq_true rfl), rmg_ll_X3 (Nat.le_of_ble_eq_true rfl)⟩ rfl rfl (Nat.le_of_ble_eq_true rfl) rfl rfl rfl [4, 5, 6, 7, 8, 9, 10] rfl rfl (ws' := [zO a0 9 [.ref a0_kinds, .ref a0_starts, .ref a0_values, .int (X11_count b_a0), .int u20.2, .int (X11_error b_a0), .int (X11_errorToken b_a0)], zK T sd.1 a0_kinds 401 (X11_kinds b_a0), zI T a0_starts 401 (X11_starts b_a0), zJ T a0_values 401 (X11_values b_a0), zO a1 4 [.ref a1_deeds, .ref a1_targets, .ref a1_firstSteps, .ref a1_endSteps, .ref a1_stepKinds, .ref a1_stepValues, .int (X6_count b_a1), .int u22.2.2.2], zK T sd.1 a1_deeds 16 (X6_deeds b_a1), zI T a1_targets 16 (X6_targets b_a1), zI T a1_firstSteps 16 (X6_firstSteps b_a1), zI T a1_endSteps 16 (X6_endSteps b_a1), zK T sd.1 a1_stepKinds 400 u22.2.1, zI T a1_stepValues 400 u22.2.2.1]) (sxPatch_pk [(false, 0), (false, 1), (false, 2), (false, 3), (true, 0), (true, 1), (true, 2), (true, 3), (true, 4), (true, 5), (true, 6)] (by decide +kernel) rfl rfl rfl) rfl ⟨Nat.zero_le _, Nat.zero_le _⟩ dX3_single_149 rfl ?_
          refine sx_if_eq X 169 dX3_single_152 rfl (fun c23 => ?_) (fun c23 => ?_)
          · have hf := ob_t hf c23
            refine sx_iconst X (v := 0) dX3_single_169 rfl ?_
            exact sx_iret X rfl dX3_single_170 (ob_e hf) rfl rfl
          · have hf := ob_f hf c23
            refine sx_aload_n X 1 rfl dX3_single_155 rfl ?_
            refine sx_kst X 47 (by decide) qm_936 dX3_single_156 ?_
            obtain ⟨u24, hu24, hf⟩ := ob_c hf
            refine sx_cV X (c_X11_take (l := l) (D := D) (T := T) (sd := sd) a0 a0_kinds a0_starts a0_values 47 ((X11_kinds b_a0), (X11_starts b_a0), (X11_values b_a0), (X11_count b_a0), u20.2, (X11_error b_a0), (X11_errorToken b_a0)) hu24) (st' := [.int u24.1]) (q0 := 0) qm_932 qm_933 qm_934 qm_15 qm_935 hd_X11_take ⟨rfl, rfl⟩ ⟨rmg_le_X3 (Nat.le_of_ble_eq_true rfl), rmg_ll_X3 (Nat.le_of_ble_eq_true rfl)⟩ rfl rfl (Nat.le_of_ble_eq_true rfl) rfl rfl rfl [0, 1, 2, 3] rfl rfl (ws' := [zO a0 9 [.ref a0_kinds, .ref a0_starts, .ref a0_values, .int (X11_count b_a0), .int u24.2, .int (X11_error b_a0), .int (X11_errorToken b_a0)], zK T sd.1 a0_kinds 401 (X11_kinds b_a0), zI T a0_starts 401 (X11_starts b_a0), zJ T a0_values 401 (X11_values b_a0), zO a1 4 [.ref a1_deeds, .ref a1_targets, .ref a1_firstSteps, .ref a1_endSteps, .ref a1_stepKinds, .ref a1_stepValues, .int (X6_count b_a1), .int u22.2.2.2], zK T sd.1 a1_deeds 16 (X6_deeds b_a1), zI T a1_targets 16 (X6_targets b_a1), zI T a1_firstSteps 16 (X6_firstSteps b_a1), zI T a1_endSteps 16 (X6_endSteps b_a1), zK T sd.1 a1_stepKinds 400 u22.2.1, zI T a1_stepValues 400 u22.2.2.1]) (sxPatch_pk [(true, 0), (true, 1), (true, 2), (true, 3), (false, 4), (false, 5), (false, 6), (false, 7), (false, 8), (false, 9), (false, 10)] (by decide +kernel) rfl rfl rfl) rfl ⟨Nat.zero_le _, Nat.zero_le _⟩ dX3_single_159 rfl ?_
            refine sx_if_eq X 169 dX3_single_162 rfl (fun c25 => ?_) (fun c25 => ?_)
            · have hf := ob_t hf c25
              refine sx_iconst X (v := 0) dX3_single_169 rfl ?_
              exact sx_iret X rfl dX3_single_170 (ob_e hf) rfl rfl
            · have hf := ob_f hf c25
              refine sx_iconst X (v := 1) dX3_single_165 rfl ?_
              refine sx_goto X 170 dX3_single_166 rfl ?_
              exact sx_iret X rfl dX3_single_170 (ob_e hf) rfl rfl
      · have hf := ob_f hf c19
        refine sx_tdef X 171 dX3_single_13 rfl (tab_X3_single_13 (smap u1) c3 c11 c19) ?_
        refine sx_aload_n X 1 rfl dX3_single_171 rfl ?_
        refine sx_aload_n X 2 rfl dX3_single_172 rfl ?_
        refine sx_iload_n X 3 rfl dX3_single_173 rfl ?_
        obtain ⟨u26, hu26, hf⟩ := ob_c hf
        refine sx_cS X (hrec.2.2.2.1 a0 a0_kinds a0_starts a0_values a1 a1_deeds a1_targets a1_firstSteps a1_endSteps a1_stepKinds a1_stepValues x2 b_a0 b_a1 _ hu26) (st' := [.int u26.1]) qm_1000 qm_1001 qm_46 qm_1002 hd_X3_comparison ⟨rfl, rfl⟩ ⟨rmg_f_X3, rmg_l_X3 (Nat.le_of_ble_eq_true rfl)⟩ rfl rfl (Nat.le_of_ble_eq_true rfl) [0, 1, 2, 3, 4, 5, 6, 7, 8, 9, 10] rfl rfl (ws' := [zO a0 9 [.ref a0_kinds, .ref a0_starts, .ref a0_values, .int (X11_count b_a0), .int u26.2.1, .int (X11_error b_a0), .int (X11_errorToken b_a0)], zK T sd.1 a0_kinds 401 (X11_kinds b_a0), zI T a0_starts 401 (X11_starts b_a0), zJ T a0_values 401 (X11_values b_a0), zO a1 4 [.ref a1_deeds, .ref a1_targets, .ref a1_firstSteps, .ref a1_endSteps, .ref a1_stepKinds, .ref a1_stepValues, .int (X6_count b_a1), .int u26.2.2.2.2], zK T sd.1 a1_deeds 16 (X6_deeds b_a1), zI T a1_targets 16 (X6_targets b_a1), zI T a1_firstSteps 16 (X6_firstSteps b_a1), zI T a1_endSteps 16 (X6_endSteps b_a1), zK T sd.1 a1_stepKinds 400 u26.2.2.1, zI T a1_stepValues 400 u26.2.2.2.1]) (sxPatch_pk [(true, 0), (true, 1), (true, 2), (true, 3), (true, 4), (true, 5), (true, 6), (true, 7), (true, 8), (true, 9), (true, 10)] (by decide +kernel) rfl rfl rfl) rfl ⟨Nat.zero_le _, Nat.zero_le _⟩ dX3_single_174 rfl ?_
        obtain ⟨g27, hf⟩ := ob_h hf
        exact sx_iret X (sx_nz g27) dX3_single_177 (ob_e hf) rfl rfl
