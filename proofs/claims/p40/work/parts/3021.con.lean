/-! contracts, part 21 -/
theorem tin_X3_value_13_0 (x : Int32) (h : x = 6 ∨ x = 7 ∨ x = 8 ∨ x = 9 ∨ x = 10 ∨ x = 11 ∨ x = 12 ∨ x = 13) : SxIn (6) (18) #[67, 67, 67, 67, 67, 67, 67, 67, 93, 143, 187, 230, 230] (67) x := by
  rcases h with rfl | rfl | rfl | rfl | rfl | rfl | rfl | rfl <;> exact ⟨by decide, by decide, by decide⟩
theorem tin_X3_value_13_1 (x : Int32) (h : x = 14) : SxIn (6) (18) #[67, 67, 67, 67, 67, 67, 67, 67, 93, 143, 187, 230, 230] (93) x := by
  rcases h with rfl <;> exact ⟨by decide, by decide, by decide⟩
theorem tin_X3_value_13_2 (x : Int32) (h : x = 15) : SxIn (6) (18) #[67, 67, 67, 67, 67, 67, 67, 67, 93, 143, 187, 230, 230] (143) x := by
  rcases h with rfl <;> exact ⟨by decide, by decide, by decide⟩
theorem tin_X3_value_13_3 (x : Int32) (h : x = 16) : SxIn (6) (18) #[67, 67, 67, 67, 67, 67, 67, 67, 93, 143, 187, 230, 230] (187) x := by
  rcases h with rfl <;> exact ⟨by decide, by decide, by decide⟩
theorem tin_X3_value_13_4 (x : Int32) (h : x = 17 ∨ x = 18) : SxIn (6) (18) #[67, 67, 67, 67, 67, 67, 67, 67, 93, 143, 187, 230, 230] (230) x := by
  rcases h with rfl | rfl <;> exact ⟨by decide, by decide, by decide⟩
theorem tab_X3_value_13 (x : Int32) (c0 : ¬ (x = 6 ∨ x = 7 ∨ x = 8 ∨ x = 9 ∨ x = 10 ∨ x = 11 ∨ x = 12 ∨ x = 13)) (c1 : ¬ (x = 14)) (c2 : ¬ (x = 15)) (c3 : ¬ (x = 16)) (c4 : ¬ (x = 17 ∨ x = 18)) : SxTab (6) (18) #[67, 67, 67, 67, 67, 67, 67, 67, 93, 143, 187, 230, 230] (311) x := by
  refine sx_tabd [6, 7, 8, 9, 10, 11, 12, 13, 14, 15, 16, 17, 18] x (by decide +kernel) (fun v hv e => ?_)
  simp only [List.mem_cons, List.not_mem_nil, or_false] at hv
  rcases hv with h | h | h | h | h | h | h | h | h | h | h | h | h
  · exact c0 (Or.inl (e.trans h))
  · exact c0 (Or.inr (Or.inl (e.trans h)))
  · exact c0 (Or.inr (Or.inr (Or.inl (e.trans h))))
  · exact c0 (Or.inr (Or.inr (Or.inr (Or.inl (e.trans h)))))
  · exact c0 (Or.inr (Or.inr (Or.inr (Or.inr (Or.inl (e.trans h))))))
  · exact c0 (Or.inr (Or.inr (Or.inr (Or.inr (Or.inr (Or.inl (e.trans h)))))))
  · exact c0 (Or.inr (Or.inr (Or.inr (Or.inr (Or.inr (Or.inr (Or.inl (e.trans h))))))))
  · exact c0 (Or.inr (Or.inr (Or.inr (Or.inr (Or.inr (Or.inr (Or.inr (e.trans h))))))))
  · exact c1 (e.trans h)
  · exact c2 (e.trans h)
  · exact c3 (e.trans h)
  · exact c4 (Or.inl (e.trans h))
  · exact c4 (Or.inr (e.trans h))
set_option maxHeartbeats 4000000 in
set_option maxRecDepth 100000 in
theorem c_X3_value {l : Launch} {D : va_G} {T : Nat → ClassId} {sd : SdT} (n d : Nat) (rec : Nat → Int32 → bX11 → bX6 → Option (Int32 × Int32 × (Nat → Nat) × (Nat → Int32) × Int32)) (hrec : rcg_X3 l D T sd (rmg_X3 d) rec) (a0 : Nat) (a0_kinds : Nat) (a0_starts : Nat) (a0_values : Nat) (a1 : Nat) (a1_deeds : Nat) (a1_targets : Nat) (a1_firstSteps : Nat) (a1_endSteps : Nat) (a1_stepKinds : Nat) (a1_stepValues : Nat) (x2 : Int32) (b_a0 : bX11) (b_a1 : bX6) (res : Int32 × Int32 × (Nat → Nat) × (Nat → Int32) × Int32) (hf : f_X3_value n rec x2 b_a0 b_a1 = some res) : SxK (SFx sd) l D T yX3_value cX3_value 4 (some .boolean) (rmg_X3 (d + 1)) [.ref a0, .ref a1, .int x2] (wc_X3_value T sd a0 a0_kinds a0_starts a0_values a1 a1_deeds a1_targets a1_firstSteps a1_endSteps a1_stepKinds a1_stepValues b_a0 b_a1) (vf_X3_value sd) (wf_X3_value T sd a0 a0_kinds a0_starts a0_values a1 a1_deeds a1_targets a1_firstSteps a1_endSteps a1_stepKinds a1_stepValues b_a0 b_a1) res 0 0 := by
  refine sx_start (SFx_ok sd) (by decide +kernel) (Nat.le_of_ble_eq_true rfl) (fun p e s m args below meth c A X hnm => ?_)
  have hf := ob_1 hf
  refine sx_aload_n X 0 rfl dX3_value_0 rfl ?_
  obtain ⟨u1, hu1, hf⟩ := ob_c hf
  refine sx_cVr X (c_X11_next (l := l) (D := D) (T := T) (sd := sd) a0 a0_kinds a0_starts a0_values b_a0 hu1) (st' := [.ref (sd.1 u1)]) (q0 := 0) qm_922 qm_923 qm_924 qm_15 qm_925 hd_X11_next ⟨rfl, rfl⟩ ⟨rmg_le_X3 (Nat.le_of_ble_eq_true rfl), rmg_ll_X3 (Nat.le_of_ble_eq_true rfl)⟩ rfl rfl (Nat.le_of_ble_eq_true rfl) rfl rfl rfl [0, 1, 2, 3] rfl rfl rfl ⟨Nat.zero_le _, Nat.zero_le _⟩ dX3_value_1 rfl ?_
  refine sx_astore_n X (lv' := [(3, .ref (sd.1 u1)), (0, .ref a0), (1, .ref a1), (2, .int x2)]) dX3_value_4 rfl (by decide) rfl ?_
  refine sx_mst X qm_988 dX3_value_5 ?_
  refine sx_aload_n X 0 rfl dX3_value_8 rfl ?_
  obtain ⟨g2, hf⟩ := ob_h hf
  refine sx_ord X u1 g2 qm_989 (rmg_le_X3 (Nat.le_of_ble_eq_true rfl)) (rmg_ll_X3 (Nat.le_of_ble_eq_true rfl)) (Nat.le_of_ble_eq_true rfl) (Nat.zero_le _) (Nat.zero_le _) dX3_value_9 ?_
  refine sx_mld X u1 g2 dX3_value_12 ?_
  by_cases c3 : (smap u1) = 6 ∨ (smap u1) = 7 ∨ (smap u1) = 8 ∨ (smap u1) = 9 ∨ (smap u1) = 10 ∨ (smap u1) = 11 ∨ (smap u1) = 12 ∨ (smap u1) = 13
  · have hf := ob_t hf c3
    refine sx_tin X 80 dX3_value_13 rfl (tin_X3_value_13_0 (smap u1) c3) ?_
    refine sx_aload_n X 2 rfl dX3_value_80 rfl ?_
    refine sx_aload_n X 0 rfl dX3_value_81 rfl ?_
    refine sx_aload_n X 1 rfl dX3_value_82 rfl ?_
    refine sx_get X kX11 0 rfl 4 (Nat.le_of_ble_eq_true rfl) qm_90 rfl dX3_value_83 ?_
    obtain ⟨u4, hu4, hf⟩ := ob_c hf
    refine sx_cV X (c_X6_addStep (l := l) (D := D) (T := T) (sd := sd) a1 a1_deeds a1_targets a1_firstSteps a1_endSteps a1_stepKinds a1_stepValues u1 (X11_cursor b_a0) b_a1 hu4) (st' := [.int u4.1]) (q0 := 4) qm_992 qm_993 qm_994 qm_23 qm_995 hd_X6_addStep ⟨rfl, rfl⟩ ⟨rmg_le_X3 (Nat.le_of_ble_eq_true rfl), rmg_ll_X3 (Nat.le_of_ble_eq_true rfl)⟩ rfl rfl (Nat.le_of_ble_eq_true rfl) rfl rfl rfl [4, 5, 6, 7, 8, 9, 10] rfl rfl (ws' := [zO a0 9 [.ref a0_kinds, .ref a0_starts, .ref a0_values, .int (X11_count b_a0), .int (X11_cursor b_a0), .int (X11_error b_a0), .int (X11_errorToken b_a0)], zK T sd.1 a0_kinds 401 (X11_kinds b_a0), zI T a0_starts 401 (X11_starts b_a0), zJ T a0_values 401 (X11_values b_a0), zO a1 4 [.ref a1_deeds, .ref a1_targets, .ref a1_firstSteps, .ref a1_endSteps, .ref a1_stepKinds, .ref a1_stepValues, .int (X6_count b_a1), .int u4.2.2.2], zK T sd.1 a1_deeds 16 (X6_deeds b_a1), zI T a1_targets 16 (X6_targets b_a1), zI T a1_firstSteps 16 (X6_firstSteps b_a1), zI T a1_endSteps 16 (X6_endSteps b_a1), zK T sd.1 a1_stepKinds 400 u4.2.1, zI T a1_stepValues 400 u4.2.2.1]) (sxPatch_pk [(false, 0), (false, 1), (false, 2), (false, 3), (true, 0), (true, 1), (true, 2), (true, 3), (true, 4), (true, 5), (true, 6)] (by decide +kernel) rfl rfl rfl) rfl ⟨Nat.zero_le _, Nat.zero_le _⟩ dX3_value_86 rfl ?_
    refine sx_if_eq X 104 dX3_value_89 rfl (fun c5 => ?_) (fun c5 => ?_)
    · have hf := ob_t hf c5
      refine sx_iconst X (v := 0) dX3_value_104 rfl ?_
      exact sx_iret X rfl dX3_value_105 (ob_e hf) rfl rfl
    · have hf := ob_f hf c5
      refine sx_aload_n X 1 rfl dX3_value_92 rfl ?_
      refine sx_aload_n X 0 rfl dX3_value_93 rfl ?_
      obtain ⟨u6, hu6, hf⟩ := ob_c hf
      refine sx_cV X (c_X11_take (l := l) (D := D) (T := T) (sd := sd) a0 a0_kinds a0_starts a0_values u1 b_a0 hu6) (st' := [.int u6.1]) (q0 := 0) qm_932 qm_933 qm_934 qm_15 qm_935 hd_X11_take ⟨rfl, rfl⟩ ⟨rmg_le_X3 (Nat.le_of_ble_eq_true rfl), rmg_ll_X3 (Nat.le_of_ble_eq_true rfl)⟩ rfl rfl (Nat.le_of_ble_eq_true rfl) rfl rfl rfl [0, 1, 2, 3] rfl rfl (ws' := [zO a0 9 [.ref a0_kinds, .ref a0_starts, .ref a0_values, .int (X11_count b_a0), .int u6.2, .int (X11_error b_a0), .int (X11_errorToken b_a0)], zK T sd.1 a0_kinds 401 (X11_kinds b_a0), zI T a0_starts 401 (X11_starts b_a0), zJ T a0_values 401 (X11_values b_a0), zO a1 4 [.ref a1_deeds, .ref a1_targets, .ref a1_firstSteps, .ref a1_endSteps, .ref a1_stepKinds, .ref a1_stepValues, .int (X6_count b_a1), .int u4.2.2.2], zK T sd.1 a1_deeds 16 (X6_deeds b_a1), zI T a1_targets 16 (X6_targets b_a1), zI T a1_firstSteps 16 (X6_firstSteps b_a1), zI T a1_endSteps 16 (X6_endSteps b_a1), zK T sd.1 a1_stepKinds 400 u4.2.1, zI T a1_stepValues 400 u4.2.2.1]) (sxPatch_pk [(true, 0), (true, 1), (true, 2), (true, 3), (false, 4), (false, 5), (false, 6), (false, 7), (false, 8), (false, 9), (false, 10)] (by decide +kernel) rfl rfl rfl) rfl ⟨Nat.zero_le _, Nat.zero_le _⟩ dX3_value_94 rfl ?_
      refine sx_if_eq X 104 dX3_value_97 rfl (fun c7 => ?_) (fun c7 => ?_)
      · have hf := ob_t hf c7
        refine sx_iconst X (v := 0) dX3_value_104 rfl ?_
        exact sx_iret X rfl dX3_value_105 (ob_e hf) rfl rfl
      · have hf := ob_f hf c7
        refine sx_iconst X (v := 1) dX3_value_100 rfl ?_
        refine sx_goto X 105 dX3_value_101 rfl ?_
        exact sx_iret X rfl dX3_value_105 (ob_e hf) rfl rfl
  · have hf := ob_f hf c3
    by_cases c8 : (smap u1) = 14
    · have hf := ob_t hf c8
      refine sx_tin X 106 dX3_value_13 rfl (tin_X3_value_13_1 (smap u1) c8) ?_
      refine sx_aload_n X 1 rfl dX3_value_106 rfl ?_
      refine sx_kst X 6 (by decide) qm_943 dX3_value_107 ?_
      obtain ⟨u9, hu9, hf⟩ := ob_c hf
      refine sx_cV X (c_X11_take (l := l) (D := D) (T := T) (sd := sd) a0 a0_kinds a0_starts a0_values 6 b_a0 hu9) (st' := [.int u9.1]) (q0 := 0) qm_932 qm_933 qm_934 qm_15 qm_935 hd_X11_take ⟨rfl, rfl⟩ ⟨rmg_le_X3 (Nat.le_of_ble_eq_true rfl), rmg_ll_X3 (Nat.le_of_ble_eq_true rfl)⟩ rfl rfl (Nat.le_of_ble_eq_true rfl) rfl rfl rfl [0, 1, 2, 3] rfl rfl (ws' := [zO a0 9 [.ref a0_kinds, .ref a0_starts, .ref a0_values, .int (X11_count b_a0), .int u9.2, .int (X11_error b_a0), .int (X11_errorToken b_a0)], zK T sd.1 a0_kinds 401 (X11_kinds b_a0), zI T a0_starts 401 (X11_starts b_a0), zJ T a0_values 401 (X11_values b_a0), zO a1 4 [.ref a1_deeds, .ref a1_targets, .ref a1_firstSteps, .ref a1_endSteps, .ref a1_stepKinds, .ref a1_stepValues, .int (X6_count b_a1), .int (X6_steps b_a1)], zK T sd.1 a1_deeds 16 (X6_deeds b_a1), zI T a1_targets 16 (X6_targets b_a1), zI T a1_firstSteps 16 (X6_firstSteps b_a1), zI T a1_endSteps 16 (X6_endSteps b_a1), zK T sd.1 a1_stepKinds 400 (X6_stepKinds b_a1), zI T a1_stepValues 400 (X6_stepValues b_a1)]) (sxPatch_pk [(true, 0), (true, 1), (true, 2), (true, 3), (false, 4), (false, 5), (false, 6), (false, 7), (false, 8), (false, 9), (false, 10)] (by decide +kernel) rfl rfl rfl) rfl ⟨Nat.zero_le _, Nat.zero_le _⟩ dX3_value_110 rfl ?_
      refine sx_if_eq X 154 dX3_value_113 rfl (fun c10 => ?_) (fun c10 => ?_)
      · have hf := ob_t hf c10
        refine sx_iconst X (v := 0) dX3_value_154 rfl ?_
        exact sx_iret X rfl dX3_value_155 (ob_e hf) rfl rfl
      · have hf := ob_f hf c10
        refine sx_aload_n X 1 rfl dX3_value_116 rfl ?_
        refine sx_kst X 26 (by decide) qm_1012 dX3_value_117 ?_
        obtain ⟨u11, hu11, hf⟩ := ob_c hf
        refine sx_cV X (c_X11_take (l := l) (D := D) (T := T) (sd := sd) a0 a0_kinds a0_starts a0_values 26 ((X11_kinds b_a0), (X11_starts b_a0), (X11_values b_a0), (X11_count b_a0), u9.2, (X11_error b_a0), (X11_errorToken b_a0)) hu11) (st' := [.int u11.1]) (q0 := 0) qm_932 qm_933 qm_934 qm_15 qm_935 hd_X11_take ⟨rfl, rfl⟩ ⟨rmg_le_X3 (Nat.le_of_ble_eq_true rfl), rmg_ll_X3 (Nat.le_of_ble_eq_true rfl)⟩ rfl rfl (Nat.le_of_ble_eq_true rfl) rfl rfl rfl [0, 1, 2, 3] rfl rfl (ws' := [zO a0 9 [.ref a0_kinds, .ref a0_starts, .ref a0_values, .int (X11_count b_a0), .int u11.2, .int (X11_error b_a0), .int (X11_errorToken b_a0)], zK T sd.1 a0_kinds 401 (X11_kinds b_a0), zI T a0_starts 401 (X11_starts b_a0), zJ T a0_values 401 (X11_values b_a0), zO a1 4 [.ref a1_deeds, .ref a1_targets, .ref a1_firstSteps, .ref a1_endSteps, .ref a1_stepKinds, .ref a1_stepValues, .int (X6_count b_a1), .int (X6_steps b_a1)], zK T sd.1 a1_deeds 16 (X6_deeds b_a1), zI T a1_targets 16 (X6_targets b_a1), zI T a1_firstSteps 16 (X6_firstSteps b_a1), zI T a1_endSteps 16 (X6_endSteps b_a1), zK T sd.1 a1_stepKinds 400 (X6_stepKinds b_a1), zI T a1_stepValues 400 (X6_stepValues b_a1)]) (sxPatch_pk [(true, 0), (true, 1), (true, 2), (true, 3), (false, 4), (false, 5), (false, 6), (false, 7), (false, 8), (false, 9), (false, 10)] (by decide +kernel) rfl rfl rfl) rfl ⟨Nat.zero_le _, Nat.zero_le _⟩ dX3_value_120 rfl ?_
        refine sx_if_eq X 154 dX3_value_123 rfl (fun c12 => ?_) (fun c12 => ?_)
        · have hf := ob_t hf c12
          refine sx_iconst X (v := 0) dX3_value_154 rfl ?_
          exact sx_iret X rfl dX3_value_155 (ob_e hf) rfl rfl
        · have hf := ob_f hf c12
          refine sx_aload_n X 2 rfl dX3_value_126 rfl ?_
          refine sx_kst X 6 (by decide) qm_943 dX3_value_127 ?_
          refine sx_aload_n X 1 rfl dX3_value_130 rfl ?_
          refine sx_get X kX11 0 rfl 4 (Nat.le_of_ble_eq_true rfl) qm_90 rfl dX3_value_131 ?_
          obtain ⟨u13, hu13, hf⟩ := ob_c hf
          refine sx_cV X (c_X6_addStep (l := l) (D := D) (T := T) (sd := sd) a1 a1_deeds a1_targets a1_firstSteps a1_endSteps a1_stepKinds a1_stepValues 6 u11.2 b_a1 hu13) (st' := [.int u13.1]) (q0 := 4) qm_992 qm_993 qm_994 qm_23 qm_995 hd_X6_addStep ⟨rfl, rfl⟩ ⟨rmg_le_X3 (Nat.le_of_ble_eq_true rfl), rmg_ll_X3 (Nat.le_of_ble_eq_true rfl)⟩ rfl rfl (Nat.le_of_ble_eq_true rfl) rfl rfl rfl [4, 5, 6, 7, 8, 9, 10] rfl rfl (ws' := [zO a0 9 [.ref a0_kinds, .ref a0_starts, .ref a0_values, .int (X11_count b_a0), .int u11.2, .int (X11_error b_a0), .int (X11_errorToken b_a0)], zK T sd.1 a0_kinds 401 (X11_kinds b_a0), zI T a0_starts 401 (X11_starts b_a0), zJ T a0_values 401 (X11_values b_a0), zO a1 4 [.ref a1_deeds, .ref a1_targets, .ref a1_firstSteps, .ref a1_endSteps, .ref a1_stepKinds, .ref a1_stepValues, .int (X6_count b_a1), .int u13.2.2.2], zK T sd.1 a1_deeds 16 (X6_deeds b_a1), zI T a1_targets 16 (X6_targets b_a1), zI T a1_firstSteps 16 (X6_firstSteps b_a1), zI T a1_endSteps 16 (X6_endSteps b_a1), zK T sd.1 a1_stepKinds 400 u13.2.1, zI T a1_stepValues 400 u13.2.2.1]) (sxPatch_pk [(false, 0), (false, 1), (false, 2), (false, 3), (true, 0), (true, 1), (true, 2), (true, 3), (true, 4), (true, 5), (true, 6)] (by decide +kernel) rfl rfl rfl) rfl ⟨Nat.zero_le _, Nat.zero_le _⟩ dX3_value_134 rfl ?_
          refine sx_if_eq X 154 dX3_value_137 rfl (fun c14 => ?_) (fun c14 => ?_)
          · have hf := ob_t hf c14
            refine sx_iconst X (v := 0) dX3_value_154 rfl ?_
            exact sx_iret X rfl dX3_value_155 (ob_e hf) rfl rfl
          · have hf := ob_f hf c14
            refine sx_aload_n X 1 rfl dX3_value_140 rfl ?_
            refine sx_kst X 47 (by decide) qm_936 dX3_value_141 ?_
            obtain ⟨u15, hu15, hf⟩ := ob_c hf
            refine sx_cV X (c_X11_take (l := l) (D := D) (T := T) (sd := sd) a0 a0_kinds a0_starts a0_values 47 ((X11_kinds b_a0), (X11_starts b_a0), (X11_values b_a0), (X11_count b_a0), u11.2, (X11_error b_a0), (X11_errorToken b_a0)) hu15) (st' := [.int u15.1]) (q0 := 0) qm_932 qm_933 qm_934 qm_15 qm_935 hd_X11_take ⟨rfl, rfl⟩ ⟨rmg_le_X3 (Nat.le_of_ble_eq_true rfl), rmg_ll_X3 (Nat.le_of_ble_eq_true rfl)⟩ rfl rfl (Nat.le_of_ble_eq_true rfl) rfl rfl rfl [0, 1, 2, 3] rfl rfl (ws' := [zO a0 9 [.ref a0_kinds, .ref a0_starts, .ref a0_values, .int (X11_count b_a0), .int u15.2, .int (X11_error b_a0), .int (X11_errorToken b_a0)], zK T sd.1 a0_kinds 401 (X11_kinds b_a0), zI T a0_starts 401 (X11_starts b_a0), zJ T a0_values 401 (X11_values b_a0), zO a1 4 [.ref a1_deeds, .ref a1_targets, .ref a1_firstSteps, .ref a1_endSteps, .ref a1_stepKinds, .ref a1_stepValues, .int (X6_count b_a1), .int u13.2.2.2], zK T sd.1 a1_deeds 16 (X6_deeds b_a1), zI T a1_targets 16 (X6_targets b_a1), zI T a1_firstSteps 16 (X6_firstSteps b_a1), zI T a1_endSteps 16 (X6_endSteps b_a1), zK T sd.1 a1_stepKinds 400 u13.2.1, zI T a1_stepValues 400 u13.2.2.1]) (sxPatch_pk [(true, 0), (true, 1), (true, 2), (true, 3), (false, 4), (false, 5), (false, 6), (false, 7), (false, 8), (false, 9), (false, 10)] (by decide +kernel) rfl rfl rfl) rfl ⟨Nat.zero_le _, Nat.zero_le _⟩ dX3_value_144 rfl ?_
            refine sx_if_eq X 154 dX3_value_147 rfl (fun c16 => ?_) (fun c16 => ?_)
            · have hf := ob_t hf c16
              refine sx_iconst X (v := 0) dX3_value_154 rfl ?_
              exact sx_iret X rfl dX3_value_155 (ob_e hf) rfl rfl
            · have hf := ob_f hf c16
              refine sx_iconst X (v := 1) dX3_value_150 rfl ?_
              refine sx_goto X 155 dX3_value_151 rfl ?_
              exact sx_iret X rfl dX3_value_155 (ob_e hf) rfl rfl
    · have hf := ob_f hf c8
      by_cases c17 : (smap u1) = 15
      · have hf := ob_t hf c17
        refine sx_tin X 156 dX3_value_13 rfl (tin_X3_value_13_2 (smap u1) c17) ?_
        refine sx_iload_n X 3 rfl dX3_value_156 rfl ?_
        refine sx_bipush X (v := 8) dX3_value_157 rfl ?_
        refine sx_icmp_ge X 198 dX3_value_159 rfl (fun c18 => ?_) (fun c18 => ?_)
        · have hf := ob_t hf c18
          refine sx_iconst X (v := 0) dX3_value_198 rfl ?_
          exact sx_iret X rfl dX3_value_199 (ob_e hf) rfl rfl
        · have hf := ob_f hf c18
          refine sx_aload_n X 1 rfl dX3_value_162 rfl ?_
          refine sx_kst X 39 (by decide) qm_1014 dX3_value_163 ?_
          obtain ⟨u19, hu19, hf⟩ := ob_c hf
          refine sx_cV X (c_X11_take (l := l) (D := D) (T := T) (sd := sd) a0 a0_kinds a0_starts a0_values 39 b_a0 hu19) (st' := [.int u19.1]) (q0 := 0) qm_932 qm_933 qm_934 qm_15 qm_935 hd_X11_take ⟨rfl, rfl⟩ ⟨rmg_le_X3 (Nat.le_of_ble_eq_true rfl), rmg_ll_X3 (Nat.le_of_ble_eq_true rfl)⟩ rfl rfl (Nat.le_of_ble_eq_true rfl) rfl rfl rfl [0, 1, 2, 3] rfl rfl (ws' := [zO a0 9 [.ref a0_kinds, .ref a0_starts, .ref a0_values, .int (X11_count b_a0), .int u19.2, .int (X11_error b_a0), .int (X11_errorToken b_a0)], zK T sd.1 a0_kinds 401 (X11_kinds b_a0), zI T a0_starts 401 (X11_starts b_a0), zJ T a0_values 401 (X11_values b_a0), zO a1 4 [.ref a1_deeds, .ref a1_targets, .ref a1_firstSteps, .ref a1_endSteps, .ref a1_stepKinds, .ref a1_stepValues, .int (X6_count b_a1), .int (X6_steps b_a1)], zK T sd.1 a1_deeds 16 (X6_deeds b_a1), zI T a1_targets 16 (X6_targets b_a1), zI T a1_firstSteps 16 (X6_firstSteps b_a1), zI T a1_endSteps 16 (X6_endSteps b_a1), zK T sd.1 a1_stepKinds 400 (X6_stepKinds b_a1), zI T a1_stepValues 400 (X6_stepValues b_a1)]) (sxPatch_pk [(true, 0), (true, 1), (true, 2), (true, 3), (false, 4), (false, 5), (false, 6), (false, 7), (false, 8), (false, 9), (false, 10)] (by decide +kernel) rfl rfl rfl) rfl ⟨Nat.zero_le _, Nat.zero_le _⟩ dX3_value_166 rfl ?_
          refine sx_if_eq X 198 dX3_value_169 rfl (fun c20 => ?_) (fun c20 => ?_)
          · have hf := ob_t hf c20
            refine sx_iconst X (v := 0) dX3_value_198 rfl ?_
            exact sx_iret X rfl dX3_value_199 (ob_e hf) rfl rfl
          · have hf := ob_f hf c20
            refine sx_aload_n X 1 rfl dX3_value_172 rfl ?_
            refine sx_aload_n X 2 rfl dX3_value_173 rfl ?_
            refine sx_iload_n X 3 rfl dX3_value_174 rfl ?_
            refine sx_iconst X (v := 1) dX3_value_175 rfl ?_
            refine sx_iadd X dX3_value_176 ?_
            obtain ⟨u21, hu21, hf⟩ := ob_c hf
            refine sx_cS X (hrec.2.2.2.2.2.2 a0 a0_kinds a0_starts a0_values a1 a1_deeds a1_targets a1_firstSteps a1_endSteps a1_stepKinds a1_stepValues (x2 + 1) ((X11_kinds b_a0), (X11_starts b_a0), (X11_values b_a0), (X11_count b_a0), u19.2, (X11_error b_a0), (X11_errorToken b_a0)) b_a1 _ hu21) (st' := [.int u21.1]) qm_1009 qm_1010 qm_46 qm_1011 hd_X3_value ⟨rfl, rfl⟩ ⟨rmg_f_X3, rmg_l_X3 (Nat.le_of_ble_eq_true rfl)⟩ rfl rfl (Nat.le_of_ble_eq_true rfl) [0, 1, 2, 3, 4, 5, 6, 7, 8, 9, 10] rfl rfl (ws' := [zO a0 9 [.ref a0_kinds, .ref a0_starts, .ref a0_values, .int (X11_count b_a0), .int u21.2.1, .int (X11_error b_a0), .int (X11_errorToken b_a0)], zK T sd.1 a0_kinds 401 (X11_kinds b_a0), zI T a0_starts 401 (X11_starts b_a0), zJ T a0_values 401 (X11_values b_a0), zO a1 4 [.ref a1_deeds, .ref a1_targets, .ref a1_firstSteps, .ref a1_endSteps, .ref a1_stepKinds, .ref a1_stepValues, .int (X6_count b_a1), .int u21.2.2.2.2], zK T sd.1 a1_deeds 16 (X6_deeds b_a1), zI T a1_targets 16 (X6_targets b_a1), zI T a1_firstSteps 16 (X6_firstSteps b_a1), zI T a1_endSteps 16 (X6_endSteps b_a1), zK T sd.1 a1_stepKinds 400 u21.2.2.1, zI T a1_stepValues 400 u21.2.2.2.1]) (sxPatch_pk [(true, 0), (true, 1), (true, 2), (true, 3), (true, 4), (true, 5), (true, 6), (true, 7), (true, 8), (true, 9), (true, 10)] (by decide +kernel) rfl rfl rfl) rfl ⟨Nat.zero_le _, Nat.zero_le _⟩ dX3_value_177 rfl ?_
            refine sx_if_eq X 198 dX3_value_180 rfl (fun c22 => ?_) (fun c22 => ?_)
            · have hf := ob_t hf c22
              refine sx_iconst X (v := 0) dX3_value_198 rfl ?_
              exact sx_iret X rfl dX3_value_199 (ob_e hf) rfl rfl
            · have hf := ob_f hf c22
              refine sx_aload_n X 2 rfl dX3_value_183 rfl ?_
              refine sx_kst X 51 (by decide) qm_1016 dX3_value_184 ?_
              refine sx_iconst X (v := 0) dX3_value_187 rfl ?_
              obtain ⟨u23, hu23, hf⟩ := ob_c hf
              refine sx_cV X (c_X6_addStep (l := l) (D := D) (T := T) (sd := sd) a1 a1_deeds a1_targets a1_firstSteps a1_endSteps a1_stepKinds a1_stepValues 51 0 ((X6_deeds b_a1), (X6_targets b_a1), (X6_firstSteps b_a1), (X6_endSteps b_a1), u21.2.2.1, u21.2.2.2.1, (X6_count b_a1), u21.2.2.2.2) hu23) (st' := [.int u23.1]) (q0 := 4) qm_992 qm_993 qm_994 qm_23 qm_995 hd_X6_addStep ⟨rfl, rfl⟩ ⟨rmg_le_X3 (Nat.le_of_ble_eq_true rfl), rmg_ll_X3 (Nat.le_of_ble_eq_true rfl)⟩ rfl rfl (Nat.le_of_ble_eq_true rfl) rfl rfl rfl [4, 5, 6, 7, 8, 9, 10] rfl rfl (ws' := [zO a0 9 [.ref a0_kinds, .ref a0_starts, .ref a0_values, .int (X11_count b_a0), .int u21.2.1, .int (X11_error b_a0), .int (X11_errorToken b_a0)], zK T sd.1 a0_kinds 401 (X11_kinds b_a0), zI T a0_starts 401 (X11_starts b_a0), zJ T a0_values 401 (X11_values b_a0), zO a1 4 [.ref a1_deeds, .ref a1_targets, .ref a1_firstSteps, .ref a1_endSteps, .ref a1_stepKinds, .ref a1_stepValues, .int (X6_count b_a1), .int u23.2.2.2], zK T sd.1 a1_deeds 16 (X6_deeds b_a1), zI T a1_targets 16 (X6_targets b_a1), zI T a1_firstSteps 16 (X6_firstSteps b_a1), zI T a1_endSteps 16 (X6_endSteps b_a1), zK T sd.1 a1_stepKinds 400 u23.2.1, zI T a1_stepValues 400 u23.2.2.1]) (sxPatch_pk [(false, 0), (false, 1), (false, 2), (false, 3), (true, 0), (true, 1), (true, 2), (true, 3), (true, 4), (true, 5), (true, 6)] (by decide +kernel) rfl rfl rfl) rfl ⟨Nat.zero_le _, Nat.zero_le _⟩ dX3_value_188 rfl ?_
              refine sx_if_eq X 198 dX3_value_191 rfl (fun c24 => ?_) (fun c24 => ?_)
              · have hf := ob_t hf c24
                refine sx_iconst X (v := 0) dX3_value_198 rfl ?_
                exact sx_iret X rfl dX3_value_199 (ob_e hf) rfl rfl
              · have hf := ob_f hf c24
                refine sx_iconst X (v := 1) dX3_value_194 rfl ?_
                refine sx_goto X 199 dX3_value_195 rfl ?_
                exact sx_iret X rfl dX3_value_199 (ob_e hf) rfl rfl
      · have hf := ob_f hf c17
        by_cases c25 : (smap u1) = 16
        · have hf := ob_t hf c25
          refine sx_tin X 200 dX3_value_13 rfl (tin_X3_value_13_3 (smap u1) c25) ?_
          refine sx_iload_n X 3 rfl dX3_value_200 rfl ?_
          refine sx_bipush X (v := 8) dX3_value_201 rfl ?_
          refine sx_icmp_ge X 241 dX3_value_203 rfl (fun c26 => ?_) (fun c26 => ?_)
          · have hf := ob_t hf c26
            refine sx_iconst X (v := 0) dX3_value_241 rfl ?_
            exact sx_iret X rfl dX3_value_242 (ob_e hf) rfl rfl
          · have hf := ob_f hf c26
            refine sx_aload_n X 1 rfl dX3_value_206 rfl ?_
            refine sx_kst X 32 (by decide) qm_1018 dX3_value_207 ?_
            obtain ⟨u27, hu27, hf⟩ := ob_c hf
            refine sx_cV X (c_X11_take (l := l) (D := D) (T := T) (sd := sd) a0 a0_kinds a0_starts a0_values 32 b_a0 hu27) (st' := [.int u27.1]) (q0 := 0) qm_932 qm_933 qm_934 qm_15 qm_935 hd_X11_take ⟨rfl, rfl⟩ ⟨rmg_le_X3 (Nat.le_of_ble_eq_true rfl), rmg_ll_X3 (Nat.le_of_ble_eq_true rfl)⟩ rfl rfl (Nat.le_of_ble_eq_true rfl) rfl rfl rfl [0, 1, 2, 3] rfl rfl (ws' := [zO a0 9 [.ref a0_kinds, .ref a0_starts, .ref a0_values, .int (X11_count b_a0), .int u27.2, .int (X11_error b_a0), .int (X11_errorToken b_a0)], zK T sd.1 a0_kinds 401 (X11_kinds b_a0), zI T a0_starts 401 (X11_starts b_a0), zJ T a0_values 401 (X11_values b_a0), zO a1 4 [.ref a1_deeds, .ref a1_targets, .ref a1_firstSteps, .ref a1_endSteps, .ref a1_stepKinds, .ref a1_stepValues, .int (X6_count b_a1), .int (X6_steps b_a1)], zK T sd.1 a1_deeds 16 (X6_deeds b_a1), zI T a1_targets 16 (X6_targets b_a1), zI T a1_firstSteps 16 (X6_firstSteps b_a1), zI T a1_endSteps 16 (X6_endSteps b_a1), zK T sd.1 a1_stepKinds 400 (X6_stepKinds b_a1), zI T a1_stepValues 400 (X6_stepValues b_a1)]) (sxPatch_pk [(true, 0), (true, 1), (true, 2), (true, 3), (false, 4), (false, 5), (false, 6), (false, 7), (false, 8), (false, 9), (false, 10)] (by decide +kernel) rfl rfl rfl) rfl ⟨Nat.zero_le _, Nat.zero_le _⟩ dX3_value_210 rfl ?_
            refine sx_if_eq X 241 dX3_value_213 rfl (fun c28 => ?_) (fun c28 => ?_)
            · have hf := ob_t hf c28
              refine sx_iconst X (v := 0) dX3_value_241 rfl ?_
              exact sx_iret X rfl dX3_value_242 (ob_e hf) rfl rfl
            · have hf := ob_f hf c28
              refine sx_aload_n X 1 rfl dX3_value_216 rfl ?_
              refine sx_aload_n X 2 rfl dX3_value_217 rfl ?_
              refine sx_iload_n X 3 rfl dX3_value_218 rfl ?_
              refine sx_iconst X (v := 1) dX3_value_219 rfl ?_
              refine sx_iadd X dX3_value_220 ?_
              obtain ⟨u29, hu29, hf⟩ := ob_c hf
              refine sx_cS X (hrec.2.2.2.2.1 a0 a0_kinds a0_starts a0_values a1 a1_deeds a1_targets a1_firstSteps a1_endSteps a1_stepKinds a1_stepValues (x2 + 1) ((X11_kinds b_a0), (X11_starts b_a0), (X11_values b_a0), (X11_count b_a0), u27.2, (X11_error b_a0), (X11_errorToken b_a0)) b_a1 _ hu29) (st' := [.int u29.1]) qm_1003 qm_1004 qm_46 qm_1005 hd_X3_sum ⟨rfl, rfl⟩ ⟨rmg_f_X3, rmg_l_X3 (Nat.le_of_ble_eq_true rfl)⟩ rfl rfl (Nat.le_of_ble_eq_true rfl) [0, 1, 2, 3, 4, 5, 6, 7, 8, 9, 10] rfl rfl (ws' := [zO a0 9 [.ref a0_kinds, .ref a0_starts, .ref a0_values, .int (X11_count b_a0), .int u29.2.1, .int (X11_error b_a0), .int (X11_errorToken b_a0)], zK T sd.1 a0_kinds 401 (X11_kinds b_a0), zI T a0_starts 401 (X11_starts b_a0), zJ T a0_values 401 (X11_values b_a0), zO a1 4 [.ref a1_deeds, .ref a1_targets, .ref a1_firstSteps, .ref a1_endSteps, .ref a1_stepKinds, .ref a1_stepValues, .int (X6_count b_a1), .int u29.2.2.2.2], zK T sd.1 a1_deeds 16 (X6_deeds b_a1), zI T a1_targets 16 (X6_targets b_a1), zI T a1_firstSteps 16 (X6_firstSteps b_a1), zI T a1_endSteps 16 (X6_endSteps b_a1), zK T sd.1 a1_stepKinds 400 u29.2.2.1, zI T a1_stepValues 400 u29.2.2.2.1]) (sxPatch_pk [(true, 0), (true, 1), (true, 2), (true, 3), (true, 4), (true, 5), (true, 6), (true, 7), (true, 8), (true, 9), (true, 10)] (by decide +kernel) rfl rfl rfl) rfl ⟨Nat.zero_le _, Nat.zero_le _⟩ dX3_value_221 rfl ?_
              refine sx_if_eq X 241 dX3_value_224 rfl (fun c30 => ?_) (fun c30 => ?_)
              · have hf := ob_t hf c30
                refine sx_iconst X (v := 0) dX3_value_241 rfl ?_
                exact sx_iret X rfl dX3_value_242 (ob_e hf) rfl rfl
              · have hf := ob_f hf c30
                refine sx_aload_n X 1 rfl dX3_value_227 rfl ?_
                refine sx_kst X 33 (by decide) qm_1020 dX3_value_228 ?_
                obtain ⟨u31, hu31, hf⟩ := ob_c hf
                refine sx_cV X (c_X11_take (l := l) (D := D) (T := T) (sd := sd) a0 a0_kinds a0_starts a0_values 33 ((X11_kinds b_a0), (X11_starts b_a0), (X11_values b_a0), (X11_count b_a0), u29.2.1, (X11_error b_a0), (X11_errorToken b_a0)) hu31) (st' := [.int u31.1]) (q0 := 0) qm_932 qm_933 qm_934 qm_15 qm_935 hd_X11_take ⟨rfl, rfl⟩ ⟨rmg_le_X3 (Nat.le_of_ble_eq_true rfl), rmg_ll_X3 (Nat.le_of_ble_eq_true rfl)⟩ rfl rfl (Nat.le_of_ble_eq_true rfl) rfl rfl rfl [0, 1, 2, 3] rfl rfl (ws' := [zO a0 9 [.ref a0_kinds, .ref a0_starts, .ref a0_values, .int (X11_count b_a0), .int u31.2, .int (X11_error b_a0), .int (X11_errorToken b_a0)], zK T sd.1 a0_kinds 401 (X11_kinds b_a0), zI T a0_starts 401 (X11_starts b_a0), zJ T a0_values 401 (X11_values b_a0), zO a1 4 [.ref a1_deeds, .ref a1_targets, .ref a1_firstSteps, .ref a1_endSteps, .ref a1_stepKinds, .ref a1_stepValues, .int (X6_count b_a1), .int u29.2.2.2.2], zK T sd.1 a1_deeds 16 (X6_deeds b_a1), zI T a1_targets 16 (X6_targets b_a1), zI T a1_firstSteps 16 (X6_firstSteps b_a1), zI T a1_endSteps 16 (X6_endSteps b_a1), zK T sd.1 a1_stepKinds 400 u29.2.2.1, zI T a1_stepValues 400 u29.2.2.2.1]) (sxPatch_pk [(true, 0), (true, 1), (true, 2), (true, 3), (false, 4), (false, 5), (false, 6), (false, 7), (false, 8), (false, 9), (false, 10)] (by decide +kernel) rfl rfl rfl) rfl ⟨Nat.zero_le _, Nat.zero_le _⟩ dX3_value_231 rfl ?_
                refine sx_if_eq X 241 dX3_value_234 rfl (fun c32 => ?_) (fun c32 => ?_)
                · have hf := ob_t hf c32
                  refine sx_iconst X (v := 0) dX3_value_241 rfl ?_
                  exact sx_iret X rfl dX3_value_242 (ob_e hf) rfl rfl
                · have hf := ob_f hf c32
                  refine sx_iconst X (v := 1) dX3_value_237 rfl ?_
                  refine sx_goto X 242 dX3_value_238 rfl ?_
                  exact sx_iret X rfl dX3_value_242 (ob_e hf) rfl rfl
        · have hf := ob_f hf c25
          by_cases c33 : (smap u1) = 17 ∨ (smap u1) = 18
          · have hf := ob_t hf c33
            refine sx_tin X 243 dX3_value_13 rfl (tin_X3_value_13_4 (smap u1) c33) ?_
            refine sx_aload_n X 1 rfl dX3_value_243 rfl ?_
            refine sx_aload_n X 0 rfl dX3_value_244 rfl ?_
            obtain ⟨u34, hu34, hf⟩ := ob_c hf
            refine sx_cV X (c_X11_take (l := l) (D := D) (T := T) (sd := sd) a0 a0_kinds a0_starts a0_values u1 b_a0 hu34) (st' := [.int u34.1]) (q0 := 0) qm_932 qm_933 qm_934 qm_15 qm_935 hd_X11_take ⟨rfl, rfl⟩ ⟨rmg_le_X3 (Nat.le_of_ble_eq_true rfl), rmg_ll_X3 (Nat.le_of_ble_eq_true rfl)⟩ rfl rfl (Nat.le_of_ble_eq_true rfl) rfl rfl rfl [0, 1, 2, 3] rfl rfl (ws' := [zO a0 9 [.ref a0_kinds, .ref a0_starts, .ref a0_values, .int (X11_count b_a0), .int u34.2, .int (X11_error b_a0), .int (X11_errorToken b_a0)], zK T sd.1 a0_kinds 401 (X11_kinds b_a0), zI T a0_starts 401 (X11_starts b_a0), zJ T a0_values 401 (X11_values b_a0), zO a1 4 [.ref a1_deeds, .ref a1_targets, .ref a1_firstSteps, .ref a1_endSteps, .ref a1_stepKinds, .ref a1_stepValues, .int (X6_count b_a1), .int (X6_steps b_a1)], zK T sd.1 a1_deeds 16 (X6_deeds b_a1), zI T a1_targets 16 (X6_targets b_a1), zI T a1_firstSteps 16 (X6_firstSteps b_a1), zI T a1_endSteps 16 (X6_endSteps b_a1), zK T sd.1 a1_stepKinds 400 (X6_stepKinds b_a1), zI T a1_stepValues 400 (X6_stepValues b_a1)]) (sxPatch_pk [(true, 0), (true, 1), (true, 2), (true, 3), (false, 4), (false, 5), (false, 6), (false, 7), (false, 8), (false, 9), (false, 10)] (by decide +kernel) rfl rfl rfl) rfl ⟨Nat.zero_le _, Nat.zero_le _⟩ dX3_value_245 rfl ?_
            refine sx_if_eq X 322 dX3_value_248 rfl (fun c35 => ?_) (fun c35 => ?_)
            · have hf := ob_t hf c35
              refine sx_iconst X (v := 0) dX3_value_322 rfl ?_
              exact sx_iret X rfl dX3_value_323 (ob_e hf) rfl rfl
            · have hf := ob_f hf c35
              refine sx_iload_n X 3 rfl dX3_value_251 rfl ?_
              refine sx_bipush X (v := 8) dX3_value_252 rfl ?_
              refine sx_icmp_ge X 322 dX3_value_254 rfl (fun c36 => ?_) (fun c36 => ?_)
              · have hf := ob_t hf c36
                refine sx_iconst X (v := 0) dX3_value_322 rfl ?_
                exact sx_iret X rfl dX3_value_323 (ob_e hf) rfl rfl
              · have hf := ob_f hf c36
                refine sx_aload_n X 1 rfl dX3_value_257 rfl ?_
                refine sx_kst X 32 (by decide) qm_1018 dX3_value_258 ?_
                obtain ⟨u37, hu37, hf⟩ := ob_c hf
                refine sx_cV X (c_X11_take (l := l) (D := D) (T := T) (sd := sd) a0 a0_kinds a0_starts a0_values 32 ((X11_kinds b_a0), (X11_starts b_a0), (X11_values b_a0), (X11_count b_a0), u34.2, (X11_error b_a0), (X11_errorToken b_a0)) hu37) (st' := [.int u37.1]) (q0 := 0) qm_932 qm_933 qm_934 qm_15 qm_935 hd_X11_take ⟨rfl, rfl⟩ ⟨rmg_le_X3 (Nat.le_of_ble_eq_true rfl), rmg_ll_X3 (Nat.le_of_ble_eq_true rfl)⟩ rfl rfl (Nat.le_of_ble_eq_true rfl) rfl rfl rfl [0, 1, 2, 3] rfl rfl (ws' := [zO a0 9 [.ref a0_kinds, .ref a0_starts, .ref a0_values, .int (X11_count b_a0), .int u37.2, .int (X11_error b_a0), .int (X11_errorToken b_a0)], zK T sd.1 a0_kinds 401 (X11_kinds b_a0), zI T a0_starts 401 (X11_starts b_a0), zJ T a0_values 401 (X11_values b_a0), zO a1 4 [.ref a1_deeds, .ref a1_targets, .ref a1_firstSteps, .ref a1_endSteps, .ref a1_stepKinds, .ref a1_stepValues, .int (X6_count b_a1), .int (X6_steps b_a1)], zK T sd.1 a1_deeds 16 (X6_deeds b_a1), zI T a1_targets 16 (X6_targets b_a1), zI T a1_firstSteps 16 (X6_firstSteps b_a1), zI T a1_endSteps 16 (X6_endSteps b_a1), zK T sd.1 a1_stepKinds 400 (X6_stepKinds b_a1), zI T a1_stepValues 400 (X6_stepValues b_a1)]) (sxPatch_pk [(true, 0), (true, 1), (true, 2), (true, 3), (false, 4), (false, 5), (false, 6), (false, 7), (false, 8), (false, 9), (false, 10)] (by decide +kernel) rfl rfl rfl) rfl ⟨Nat.zero_le _, Nat.zero_le _⟩ dX3_value_261 rfl ?_
                refine sx_if_eq X 322 dX3_value_264 rfl (fun c38 => ?_) (fun c38 => ?_)
                · have hf := ob_t hf c38
                  refine sx_iconst X (v := 0) dX3_value_322 rfl ?_
                  exact sx_iret X rfl dX3_value_323 (ob_e hf) rfl rfl
                · have hf := ob_f hf c38
                  refine sx_aload_n X 1 rfl dX3_value_267 rfl ?_
                  refine sx_aload_n X 2 rfl dX3_value_268 rfl ?_
                  refine sx_iload_n X 3 rfl dX3_value_269 rfl ?_
                  refine sx_iconst X (v := 1) dX3_value_270 rfl ?_
                  refine sx_iadd X dX3_value_271 ?_
                  obtain ⟨u39, hu39, hf⟩ := ob_c hf
                  refine sx_cS X (hrec.2.2.2.2.1 a0 a0_kinds a0_starts a0_values a1 a1_deeds a1_targets a1_firstSteps a1_endSteps a1_stepKinds a1_stepValues (x2 + 1) ((X11_kinds b_a0), (X11_starts b_a0), (X11_values b_a0), (X11_count b_a0), u37.2, (X11_error b_a0), (X11_errorToken b_a0)) b_a1 _ hu39) (st' := [.int u39.1]) qm_1003 qm_1004 qm_46 qm_1005 hd_X3_sum ⟨rfl, rfl⟩ ⟨rmg_f_X3, rmg_l_X3 (Nat.le_of_ble_eq_true rfl)⟩ rfl rfl (Nat.le_of_ble_eq_true rfl) [0, 1, 2, 3, 4, 5, 6, 7, 8, 9, 10] rfl rfl (ws' := [zO a0 9 [.ref a0_kinds, .ref a0_starts, .ref a0_values, .int (X11_count b_a0), .int u39.2.1, .int (X11_error b_a0), .int (X11_errorToken b_a0)], zK T sd.1 a0_kinds 401 (X11_kinds b_a0), zI T a0_starts 401 (X11_starts b_a0), zJ T a0_values 401 (X11_values b_a0), zO a1 4 [.ref a1_deeds, .ref a1_targets, .ref a1_firstSteps, .ref a1_endSteps, .ref a1_stepKinds, .ref a1_stepValues, .int (X6_count b_a1), .int u39.2.2.2.2], zK T sd.1 a1_deeds 16 (X6_deeds b_a1), zI T a1_targets 16 (X6_targets b_a1), zI T a1_firstSteps 16 (X6_firstSteps b_a1), zI T a1_endSteps 16 (X6_endSteps b_a1), zK T sd.1 a1_stepKinds 400 u39.2.2.1, zI T a1_stepValues 400 u39.2.2.2.1]) (sxPatch_pk [(true, 0), (true, 1), (true, 2), (true, 3), (true, 4), (true, 5), (true, 6), (true, 7), (true, 8), (true, 9), (true, 10)] (by decide +kernel) rfl rfl rfl) rfl ⟨Nat.zero_le _, Nat.zero_le _⟩ dX3_value_272 rfl ?_
                  refine sx_if_eq X 322 dX3_value_275 rfl (fun c40 => ?_) (fun c40 => ?_)
                  · have hf := ob_t hf c40
                    refine sx_iconst X (v := 0) dX3_value_322 rfl ?_
                    exact sx_iret X rfl dX3_value_323 (ob_e hf) rfl rfl
                  · have hf := ob_f hf c40
                    refine sx_aload_n X 1 rfl dX3_value_278 rfl ?_
                    refine sx_kst X 37 (by decide) qm_1022 dX3_value_279 ?_
                    obtain ⟨u41, hu41, hf⟩ := ob_c hf
                    refine sx_cV X (c_X11_take (l := l) (D := D) (T := T) (sd := sd) a0 a0_kinds a0_starts a0_values 37 ((X11_kinds b_a0), (X11_starts b_a0), (X11_values b_a0), (X11_count b_a0), u39.2.1, (X11_error b_a0), (X11_errorToken b_a0)) hu41) (st' := [.int u41.1]) (q0 := 0) qm_932 qm_933 qm_934 qm_15 qm_935 hd_X11_take ⟨rfl, rfl⟩ ⟨rmg_le_X3 (Nat.le_of_ble_eq_true rfl), rmg_ll_X3 (Nat.le_of_ble_eq_true rfl)⟩ rfl rfl (Nat.le_of_ble_eq_true rfl) rfl rfl rfl [0, 1, 2, 3] rfl rfl (ws' := [zO a0 9 [.ref a0_kinds, .ref a0_starts, .ref a0_values, .int (X11_count b_a0), .int u41.2, .int (X11_error b_a0), .int (X11_errorToken b_a0)], zK T sd.1 a0_kinds 401 (X11_kinds b_a0), zI T a0_starts 401 (X11_starts b_a0), zJ T a0_values 401 (X11_values b_a0), zO a1 4 [.ref a1_deeds, .ref a1_targets, .ref a1_firstSteps, .ref a1_endSteps, .ref a1_stepKinds, .ref a1_stepValues, .int (X6_count b_a1), .int u39.2.2.2.2], zK T sd.1 a1_deeds 16 (X6_deeds b_a1), zI T a1_targets 16 (X6_targets b_a1), zI T a1_firstSteps 16 (X6_firstSteps b_a1), zI T a1_endSteps 16 (X6_endSteps b_a1), zK T sd.1 a1_stepKinds 400 u39.2.2.1, zI T a1_stepValues 400 u39.2.2.2.1]) (sxPatch_pk [(true, 0), (true, 1), (true, 2), (true, 3), (false, 4), (false, 5), (false, 6), (false, 7), (false, 8), (false, 9), (false, 10)] (by decide +kernel) rfl rfl rfl) rfl ⟨Nat.zero_le _, Nat.zero_le _⟩ dX3_value_282 rfl ?_
                    refine sx_if_eq X 322 dX3_value_285 rfl (fun c42 => ?_) (fun c42 => ?_)
                    · have hf := ob_t hf c42
                      refine sx_iconst X (v := 0) dX3_value_322 rfl ?_
                      exact sx_iret X rfl dX3_value_323 (ob_e hf) rfl rfl
                    · have hf := ob_f hf c42
                      refine sx_aload_n X 1 rfl dX3_value_288 rfl ?_
                      refine sx_aload_n X 2 rfl dX3_value_289 rfl ?_
                      refine sx_iload_n X 3 rfl dX3_value_290 rfl ?_
                      refine sx_iconst X (v := 1) dX3_value_291 rfl ?_
                      refine sx_iadd X dX3_value_292 ?_
                      obtain ⟨u43, hu43, hf⟩ := ob_c hf
                      refine sx_cS X (hrec.2.2.2.2.1 a0 a0_kinds a0_starts a0_values a1 a1_deeds a1_targets a1_firstSteps a1_endSteps a1_stepKinds a1_stepValues (x2 + 1) ((X11_kinds b_a0), (X11_starts b_a0), (X11_values b_a0), (X11_count b_a0), u41.2, (X11_error b_a0), (X11_errorToken b_a0)) ((X6_deeds b_a1), (X6_targets b_a1), (X6_firstSteps b_a1), (X6_endSteps b_a1), u39.2.2.1, u39.2.2.2.1, (X6_count b_a1), u39.2.2.2.2) _ hu43) (st' := [.int u43.1]) qm_1003 qm_1004 qm_46 qm_1005 hd_X3_sum ⟨rfl, rfl⟩ ⟨rmg_f_X3, rmg_l_X3 (Nat.le_of_ble_eq_true rfl)⟩ rfl rfl (Nat.le_of_ble_eq_true rfl) [0, 1, 2, 3, 4, 5, 6, 7, 8, 9, 10] rfl rfl (ws' := [zO a0 9 [.ref a0_kinds, .ref a0_starts, .ref a0_values, .int (X11_count b_a0), .int u43.2.1, .int (X11_error b_a0), .int (X11_errorToken b_a0)], zK T sd.1 a0_kinds 401 (X11_kinds b_a0), zI T a0_starts 401 (X11_starts b_a0), zJ T a0_values 401 (X11_values b_a0), zO a1 4 [.ref a1_deeds, .ref a1_targets, .ref a1_firstSteps, .ref a1_endSteps, .ref a1_stepKinds, .ref a1_stepValues, .int (X6_count b_a1), .int u43.2.2.2.2], zK T sd.1 a1_deeds 16 (X6_deeds b_a1), zI T a1_targets 16 (X6_targets b_a1), zI T a1_firstSteps 16 (X6_firstSteps b_a1), zI T a1_endSteps 16 (X6_endSteps b_a1), zK T sd.1 a1_stepKinds 400 u43.2.2.1, zI T a1_stepValues 400 u43.2.2.2.1]) (sxPatch_pk [(true, 0), (true, 1), (true, 2), (true, 3), (true, 4), (true, 5), (true, 6), (true, 7), (true, 8), (true, 9), (true, 10)] (by decide +kernel) rfl rfl rfl) rfl ⟨Nat.zero_le _, Nat.zero_le _⟩ dX3_value_293 rfl ?_
                      refine sx_if_eq X 322 dX3_value_296 rfl (fun c44 => ?_) (fun c44 => ?_)
                      · have hf := ob_t hf c44
                        refine sx_iconst X (v := 0) dX3_value_322 rfl ?_
                        exact sx_iret X rfl dX3_value_323 (ob_e hf) rfl rfl
                      · have hf := ob_f hf c44
                        refine sx_aload_n X 1 rfl dX3_value_299 rfl ?_
                        refine sx_kst X 33 (by decide) qm_1020 dX3_value_300 ?_
                        obtain ⟨u45, hu45, hf⟩ := ob_c hf
                        refine sx_cV X (c_X11_take (l := l) (D := D) (T := T) (sd := sd) a0 a0_kinds a0_starts a0_values 33 ((X11_kinds b_a0), (X11_starts b_a0), (X11_values b_a0), (X11_count b_a0), u43.2.1, (X11_error b_a0), (X11_errorToken b_a0)) hu45) (st' := [.int u45.1]) (q0 := 0) qm_932 qm_933 qm_934 qm_15 qm_935 hd_X11_take ⟨rfl, rfl⟩ ⟨rmg_le_X3 (Nat.le_of_ble_eq_true rfl), rmg_ll_X3 (Nat.le_of_ble_eq_true rfl)⟩ rfl rfl (Nat.le_of_ble_eq_true rfl) rfl rfl rfl [0, 1, 2, 3] rfl rfl (ws' := [zO a0 9 [.ref a0_kinds, .ref a0_starts, .ref a0_values, .int (X11_count b_a0), .int u45.2, .int (X11_error b_a0), .int (X11_errorToken b_a0)], zK T sd.1 a0_kinds 401 (X11_kinds b_a0), zI T a0_starts 401 (X11_starts b_a0), zJ T a0_values 401 (X11_values b_a0), zO a1 4 [.ref a1_deeds, .ref a1_targets, .ref a1_firstSteps, .ref a1_endSteps, .ref a1_stepKinds, .ref a1_stepValues, .int (X6_count b_a1), .int u43.2.2.2.2], zK T sd.1 a1_deeds 16 (X6_deeds b_a1), zI T a1_targets 16 (X6_targets b_a1), zI T a1_firstSteps 16 (X6_firstSteps b_a1), zI T a1_endSteps 16 (X6_endSteps b_a1), zK T sd.1 a1_stepKinds 400 u43.2.2.1, zI T a1_stepValues 400 u43.2.2.2.1]) (sxPatch_pk [(true, 0), (true, 1), (true, 2), (true, 3), (false, 4), (false, 5), (false, 6), (false, 7), (false, 8), (false, 9), (false, 10)] (by decide +kernel) rfl rfl rfl) rfl ⟨Nat.zero_le _, Nat.zero_le _⟩ dX3_value_303 rfl ?_
                        refine sx_if_eq X 322 dX3_value_306 rfl (fun c46 => ?_) (fun c46 => ?_)
                        · have hf := ob_t hf c46
                          refine sx_iconst X (v := 0) dX3_value_322 rfl ?_
                          exact sx_iret X rfl dX3_value_323 (ob_e hf) rfl rfl
                        · have hf := ob_f hf c46
                          refine sx_aload_n X 2 rfl dX3_value_309 rfl ?_
                          refine sx_aload_n X 0 rfl dX3_value_310 rfl ?_
                          refine sx_iconst X (v := 0) dX3_value_311 rfl ?_
                          obtain ⟨u47, hu47, hf⟩ := ob_c hf
                          refine sx_cV X (c_X6_addStep (l := l) (D := D) (T := T) (sd := sd) a1 a1_deeds a1_targets a1_firstSteps a1_endSteps a1_stepKinds a1_stepValues u1 0 ((X6_deeds b_a1), (X6_targets b_a1), (X6_firstSteps b_a1), (X6_endSteps b_a1), u43.2.2.1, u43.2.2.2.1, (X6_count b_a1), u43.2.2.2.2) hu47) (st' := [.int u47.1]) (q0 := 4) qm_992 qm_993 qm_994 qm_23 qm_995 hd_X6_addStep ⟨rfl, rfl⟩ ⟨rmg_le_X3 (Nat.le_of_ble_eq_true rfl), rmg_ll_X3 (Nat.le_of_ble_eq_true rfl)⟩ rfl rfl (Nat.le_of_ble_eq_true rfl) rfl rfl rfl [4, 5, 6, 7, 8, 9, 10] rfl rfl (ws' := [zO a0 9 [.ref a0_kinds, .ref a0_starts, .ref a0_values, .int (X11_count b_a0), .int u45.2, .int (X11_error b_a0), .int (X11_errorToken b_a0)], zK T sd.1 a0_kinds 401 (X11_kinds b_a0), zI T a0_starts 401 (X11_starts b_a0), zJ T a0_values 401 (X11_values b_a0), zO a1 4 [.ref a1_deeds, .ref a1_targets, .ref a1_firstSteps, .ref a1_endSteps, .ref a1_stepKinds, .ref a1_stepValues, .int (X6_count b_a1), .int u47.2.2.2], zK T sd.1 a1_deeds 16 (X6_deeds b_a1), zI T a1_targets 16 (X6_targets b_a1), zI T a1_firstSteps 16 (X6_firstSteps b_a1), zI T a1_endSteps 16 (X6_endSteps b_a1), zK T sd.1 a1_stepKinds 400 u47.2.1, zI T a1_stepValues 400 u47.2.2.1]) (sxPatch_pk [(false, 0), (false, 1), (false, 2), (false, 3), (true, 0), (true, 1), (true, 2), (true, 3), (true, 4), (true, 5), (true, 6)] (by decide +kernel) rfl rfl rfl) rfl ⟨Nat.zero_le _, Nat.zero_le _⟩ dX3_value_312 rfl ?_
                          refine sx_if_eq X 322 dX3_value_315 rfl (fun c48 => ?_) (fun c48 => ?_)
                          · have hf := ob_t hf c48
                            refine sx_iconst X (v := 0) dX3_value_322 rfl ?_
                            exact sx_iret X rfl dX3_value_323 (ob_e hf) rfl rfl
                          · have hf := ob_f hf c48
                            refine sx_iconst X (v := 1) dX3_value_318 rfl ?_
                            refine sx_goto X 323 dX3_value_319 rfl ?_
                            exact sx_iret X rfl dX3_value_323 (ob_e hf) rfl rfl
          · have hf := ob_f hf c33
            refine sx_tdef X 324 dX3_value_13 rfl (tab_X3_value_13 (smap u1) c3 c8 c17 c25 c33) ?_
            refine sx_iconst X (v := 0) dX3_value_324 rfl ?_
            exact sx_iret X rfl dX3_value_325 (ob_e hf) rfl rfl
