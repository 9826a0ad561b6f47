/-! contracts, part 4 -/
abbrev vf_X1_checkBehind (sd : SdT) (_r : (Nat → Int64) × Int32 × Int32 × (Nat → Int64) × (Nat → Int32) × (Nat → Int32) × (Nat → Int32) × (Nat → Int32) × Int32 × (Nat → Int64) × (Nat → Int32) × (Nat → Int32) × (Nat → Int32) × (Nat → Int32) × Int32) : Option Value := none
abbrev wc_X1_checkBehind (T : Nat → ClassId) (sd : SdT) (a0 : Nat) (a0_kinds : Nat) (a0_starts : Nat) (a0_values : Nat) (a2 : Nat) (a2_fronts : Nat) (a2_guests : Nat) (a2_orders : Nat) (a2_fronts_names : Nat) (a2_fronts_warm : Nat) (a2_fronts_force : Nat) (a2_fronts_from : Nat) (a2_fronts_hours : Nat) (a2_guests_names : Nat) (a2_guests_from : Nat) (a2_guests_weakest : Nat) (a2_guests_strongest : Nat) (a2_guests_nerve : Nat) (b_a0 : bX11) (b_a2_fronts : bX2) (b_a2_guests : bX4) : va_W := [zO a0 7 [.ref a0_kinds, .ref a0_starts, .ref a0_values, .int (X11_count b_a0), .int (X11_cursor b_a0), .int (X11_error b_a0), .int (X11_errorToken b_a0)], zK T sd.1 a0_kinds 401 (X11_kinds b_a0), zI T a0_starts 401 (X11_starts b_a0), zJ T a0_values 401 (X11_values b_a0), zO a2 3 [.ref a2_fronts, .ref a2_guests, .ref a2_orders], zO a2_fronts 0 [.ref a2_fronts_names, .ref a2_fronts_warm, .ref a2_fronts_force, .ref a2_fronts_from, .ref a2_fronts_hours, .int (X2_count b_a2_fronts)], zJ T a2_fronts_names 10 (X2_names b_a2_fronts), zZ T a2_fronts_warm 10 (X2_warm b_a2_fronts), zI T a2_fronts_force 10 (X2_force b_a2_fronts), zI T a2_fronts_from 10 (X2_from b_a2_fronts), zI T a2_fronts_hours 10 (X2_hours b_a2_fronts), zO a2_guests 1 [.ref a2_guests_names, .ref a2_guests_from, .ref a2_guests_weakest, .ref a2_guests_strongest, .ref a2_guests_nerve, .int (X4_count b_a2_guests)], zJ T a2_guests_names 10 (X4_names b_a2_guests), zI T a2_guests_from 10 (X4_from b_a2_guests), zI T a2_guests_weakest 10 (X4_weakest b_a2_guests), zI T a2_guests_strongest 10 (X4_strongest b_a2_guests), zI T a2_guests_nerve 10 (X4_nerve b_a2_guests)]
abbrev wf_X1_checkBehind (T : Nat → ClassId) (sd : SdT) (a0 : Nat) (a0_kinds : Nat) (a0_starts : Nat) (a0_values : Nat) (a2 : Nat) (a2_fronts : Nat) (a2_guests : Nat) (a2_orders : Nat) (a2_fronts_names : Nat) (a2_fronts_warm : Nat) (a2_fronts_force : Nat) (a2_fronts_from : Nat) (a2_fronts_hours : Nat) (a2_guests_names : Nat) (a2_guests_from : Nat) (a2_guests_weakest : Nat) (a2_guests_strongest : Nat) (a2_guests_nerve : Nat) (b_a0 : bX11) (b_a2_fronts : bX2) (b_a2_guests : bX4) (r : (Nat → Int64) × Int32 × Int32 × (Nat → Int64) × (Nat → Int32) × (Nat → Int32) × (Nat → Int32) × (Nat → Int32) × Int32 × (Nat → Int64) × (Nat → Int32) × (Nat → Int32) × (Nat → Int32) × (Nat → Int32) × Int32) : va_W := [zO a0 7 [.ref a0_kinds, .ref a0_starts, .ref a0_values, .int (X11_count b_a0), .int (X11_cursor b_a0), .int r.2.1, .int r.2.2.1], zK T sd.1 a0_kinds 401 (X11_kinds b_a0), zI T a0_starts 401 (X11_starts b_a0), zJ T a0_values 401 r.1, zO a2 3 [.ref a2_fronts, .ref a2_guests, .ref a2_orders], zO a2_fronts 0 [.ref a2_fronts_names, .ref a2_fronts_warm, .ref a2_fronts_force, .ref a2_fronts_from, .ref a2_fronts_hours, .int r.2.2.2.2.2.2.2.2.1], zJ T a2_fronts_names 10 r.2.2.2.1, zZ T a2_fronts_warm 10 r.2.2.2.2.1, zI T a2_fronts_force 10 r.2.2.2.2.2.1, zI T a2_fronts_from 10 r.2.2.2.2.2.2.1, zI T a2_fronts_hours 10 r.2.2.2.2.2.2.2.1, zO a2_guests 1 [.ref a2_guests_names, .ref a2_guests_from, .ref a2_guests_weakest, .ref a2_guests_strongest, .ref a2_guests_nerve, .int r.2.2.2.2.2.2.2.2.2.2.2.2.2.2], zJ T a2_guests_names 10 r.2.2.2.2.2.2.2.2.2.1, zI T a2_guests_from 10 r.2.2.2.2.2.2.2.2.2.2.1, zI T a2_guests_weakest 10 r.2.2.2.2.2.2.2.2.2.2.2.1, zI T a2_guests_strongest 10 r.2.2.2.2.2.2.2.2.2.2.2.2.1, zI T a2_guests_nerve 10 r.2.2.2.2.2.2.2.2.2.2.2.2.2.1]
abbrev rm_X1_checkBehind : Room := { frames := 4, cells := 0, slots := 0, locals := 94 }
theorem hd_X1_checkBehind : yX1_checkBehind.cls ≠ "java/lang/invoke/MethodHandle" ∧ yX1_checkBehind.cls ≠ "java/lang/invoke/VarHandle" ∧ (parseMethodDescriptor yX1_checkBehind.desc).map (fun d => d.parameters.length) = some 3 := ⟨by decide, by decide, by decide +kernel⟩
theorem tin_X1_checkBehind_12_0 (x : Int32) (h : x = 3 ∨ x = 21 ∨ x = 22) : SxIn (3) (23) #[128, 152, 152, 176, 176, 176, 176, 176, 176, 176, 176, 176, 176, 176, 176, 176, 100, 114, 128, 128, 152] (128) x := by
  rcases h with rfl | rfl | rfl <;> exact ⟨by decide, by decide, by decide⟩
theorem tin_X1_checkBehind_12_1 (x : Int32) (h : x = 4 ∨ x = 5 ∨ x = 23) : SxIn (3) (23) #[128, 152, 152, 176, 176, 176, 176, 176, 176, 176, 176, 176, 176, 176, 176, 176, 100, 114, 128, 128, 152] (152) x := by
  rcases h with rfl | rfl | rfl <;> exact ⟨by decide, by decide, by decide⟩
theorem tin_X1_checkBehind_12_2 (x : Int32) (h : x = 19) : SxIn (3) (23) #[128, 152, 152, 176, 176, 176, 176, 176, 176, 176, 176, 176, 176, 176, 176, 176, 100, 114, 128, 128, 152] (100) x := by
  rcases h with rfl <;> exact ⟨by decide, by decide, by decide⟩
theorem tin_X1_checkBehind_12_3 (x : Int32) (h : x = 20) : SxIn (3) (23) #[128, 152, 152, 176, 176, 176, 176, 176, 176, 176, 176, 176, 176, 176, 176, 176, 100, 114, 128, 128, 152] (114) x := by
  rcases h with rfl <;> exact ⟨by decide, by decide, by decide⟩
theorem tab_X1_checkBehind_12 (x : Int32) (c0 : ¬ (x = 3 ∨ x = 21 ∨ x = 22)) (c1 : ¬ (x = 4 ∨ x = 5 ∨ x = 23)) (c2 : ¬ (x = 19)) (c3 : ¬ (x = 20)) : SxTab (3) (23) #[128, 152, 152, 176, 176, 176, 176, 176, 176, 176, 176, 176, 176, 176, 176, 176, 100, 114, 128, 128, 152] (176) x := by
  rcases sx_rng (3) 21 x with h | ⟨j, hj, h⟩
  · exact Or.inl (by omega)
  · rcases (show j = 0 ∨ j = 1 ∨ j = 2 ∨ j = 3 ∨ j = 4 ∨ j = 5 ∨ j = 6 ∨ j = 7 ∨ j = 8 ∨ j = 9 ∨ j = 10 ∨ j = 11 ∨ j = 12 ∨ j = 13 ∨ j = 14 ∨ j = 15 ∨ j = 16 ∨ j = 17 ∨ j = 18 ∨ j = 19 ∨ j = 20 by omega) with rfl | rfl | rfl | rfl | rfl | rfl | rfl | rfl | rfl | rfl | rfl | rfl | rfl | rfl | rfl | rfl | rfl | rfl | rfl | rfl | rfl
    · exact absurd (Int32.toInt_inj.mp (h.trans (by decide : (3 : Int) + ((0 : Nat) : Int) = Int32.toInt 3))) (fun q => c0 (by rw [q]; first | done | decide))
    · exact absurd (Int32.toInt_inj.mp (h.trans (by decide : (3 : Int) + ((1 : Nat) : Int) = Int32.toInt 4))) (fun q => c1 (by rw [q]; first | done | decide))
    · exact absurd (Int32.toInt_inj.mp (h.trans (by decide : (3 : Int) + ((2 : Nat) : Int) = Int32.toInt 5))) (fun q => c1 (by rw [q]; first | done | decide))
    · exact Or.inr ⟨by rw [h]; decide, by rw [h]; decide, by rw [h]; decide⟩
    · exact Or.inr ⟨by rw [h]; decide, by rw [h]; decide, by rw [h]; decide⟩
    · exact Or.inr ⟨by rw [h]; decide, by rw [h]; decide, by rw [h]; decide⟩
    · exact Or.inr ⟨by rw [h]; decide, by rw [h]; decide, by rw [h]; decide⟩
    · exact Or.inr ⟨by rw [h]; decide, by rw [h]; decide, by rw [h]; decide⟩
    · exact Or.inr ⟨by rw [h]; decide, by rw [h]; decide, by rw [h]; decide⟩
    · exact Or.inr ⟨by rw [h]; decide, by rw [h]; decide, by rw [h]; decide⟩
    · exact Or.inr ⟨by rw [h]; decide, by rw [h]; decide, by rw [h]; decide⟩
    · exact Or.inr ⟨by rw [h]; decide, by rw [h]; decide, by rw [h]; decide⟩
    · exact Or.inr ⟨by rw [h]; decide, by rw [h]; decide, by rw [h]; decide⟩
    · exact Or.inr ⟨by rw [h]; decide, by rw [h]; decide, by rw [h]; decide⟩
    · exact Or.inr ⟨by rw [h]; decide, by rw [h]; decide, by rw [h]; decide⟩
    · exact Or.inr ⟨by rw [h]; decide, by rw [h]; decide, by rw [h]; decide⟩
    · exact absurd (Int32.toInt_inj.mp (h.trans (by decide : (3 : Int) + ((16 : Nat) : Int) = Int32.toInt 19))) (fun q => c2 (by rw [q]; first | done | decide))
    · exact absurd (Int32.toInt_inj.mp (h.trans (by decide : (3 : Int) + ((17 : Nat) : Int) = Int32.toInt 20))) (fun q => c3 (by rw [q]; first | done | decide))
    · exact absurd (Int32.toInt_inj.mp (h.trans (by decide : (3 : Int) + ((18 : Nat) : Int) = Int32.toInt 21))) (fun q => c0 (by rw [q]; first | done | decide))
    · exact absurd (Int32.toInt_inj.mp (h.trans (by decide : (3 : Int) + ((19 : Nat) : Int) = Int32.toInt 22))) (fun q => c0 (by rw [q]; first | done | decide))
    · exact absurd (Int32.toInt_inj.mp (h.trans (by decide : (3 : Int) + ((20 : Nat) : Int) = Int32.toInt 23))) (fun q => c1 (by rw [q]; first | done | decide))
set_option maxHeartbeats 4000000 in
set_option maxRecDepth 100000 in
theorem c_X1_checkBehind {l : Launch} {D : va_G} {T : Nat → ClassId} {sd : SdT} (a0 : Nat) (a0_kinds : Nat) (a0_starts : Nat) (a0_values : Nat) (a2 : Nat) (a2_fronts : Nat) (a2_guests : Nat) (a2_orders : Nat) (a2_fronts_names : Nat) (a2_fronts_warm : Nat) (a2_fronts_force : Nat) (a2_fronts_from : Nat) (a2_fronts_hours : Nat) (a2_guests_names : Nat) (a2_guests_from : Nat) (a2_guests_weakest : Nat) (a2_guests_strongest : Nat) (a2_guests_nerve : Nat) (n : Nat) (x1 : Int32) (b_a0 : bX11) (b_a2_fronts : bX2) (b_a2_guests : bX4) {res : (Nat → Int64) × Int32 × Int32 × (Nat → Int64) × (Nat → Int32) × (Nat → Int32) × (Nat → Int32) × (Nat → Int32) × Int32 × (Nat → Int64) × (Nat → Int32) × (Nat → Int32) × (Nat → Int32) × (Nat → Int32) × Int32} (hf : f_X1_checkBehind n x1 b_a0 b_a2_fronts b_a2_guests = some res) : SxK (SFx sd) l D T yX1_checkBehind cX1_checkBehind 3 none rm_X1_checkBehind [.ref a0, .int x1, .ref a2] (wc_X1_checkBehind T sd a0 a0_kinds a0_starts a0_values a2 a2_fronts a2_guests a2_orders a2_fronts_names a2_fronts_warm a2_fronts_force a2_fronts_from a2_fronts_hours a2_guests_names a2_guests_from a2_guests_weakest a2_guests_strongest a2_guests_nerve b_a0 b_a2_fronts b_a2_guests) (vf_X1_checkBehind sd) (wf_X1_checkBehind T sd a0 a0_kinds a0_starts a0_values a2 a2_fronts a2_guests a2_orders a2_fronts_names a2_fronts_warm a2_fronts_force a2_fronts_from a2_fronts_hours a2_guests_names a2_guests_from a2_guests_weakest a2_guests_strongest a2_guests_nerve b_a0 b_a2_fronts b_a2_guests) res 0 0 := by
  refine sx_start (SFx_ok sd) (by decide +kernel) (Nat.le_of_ble_eq_true rfl) (fun p e s m args below meth c A X hnm => ?_)
  have hf := ob_1 hf
  refine sx_mst X qm_654 dX1_checkBehind_0 ?_
  refine sx_aload_n X 0 rfl dX1_checkBehind_3 rfl ?_
  refine sx_iload_n X 1 rfl dX1_checkBehind_4 rfl ?_
  obtain ⟨u1, hu1, hf⟩ := ob_c hf
  refine sx_cVr X (c_X11_kindAt (l := l) (D := D) (T := T) (sd := sd) a0 a0_kinds a0_starts a0_values x1 b_a0 hu1) (st' := [.ref (sd.1 u1), .ref sd.2.2.2.2.1]) (q0 := 0) qm_635 qm_636 qm_637 qm_70 qm_638 hd_X11_kindAt ⟨rfl, rfl⟩ ⟨Nat.le_of_ble_eq_true rfl, Nat.le_of_ble_eq_true rfl⟩ rfl rfl (Nat.le_of_ble_eq_true rfl) rfl rfl rfl [0, 1, 2, 3] rfl rfl rfl ⟨Nat.le_of_ble_eq_true rfl, Nat.le_of_ble_eq_true rfl⟩ dX1_checkBehind_5 rfl ?_
  obtain ⟨g2, hf⟩ := ob_h hf
  refine sx_ord X u1 g2 qm_655 (Nat.le_of_ble_eq_true rfl) (Nat.le_of_ble_eq_true rfl) (Nat.le_of_ble_eq_true rfl) (Nat.zero_le _) (Nat.zero_le _) dX1_checkBehind_8 ?_
  refine sx_mld X u1 g2 dX1_checkBehind_11 ?_
  by_cases c3 : (smap u1) = 3 ∨ (smap u1) = 21 ∨ (smap u1) = 22
  · have hf := ob_t hf c3
    refine sx_tin X 140 dX1_checkBehind_12 rfl (tin_X1_checkBehind_12_0 (smap u1) c3) ?_
    refine sx_aload_n X 0 rfl dX1_checkBehind_140 rfl ?_
    refine sx_iload_n X 1 rfl dX1_checkBehind_141 rfl ?_
    refine sx_iconst X (v := 1) dX1_checkBehind_142 rfl ?_
    refine sx_iadd X dX1_checkBehind_143 ?_
    refine sx_aload_n X 2 rfl dX1_checkBehind_144 rfl ?_
    refine sx_get X kX7 4 rfl 0 (Nat.le_of_ble_eq_true rfl) qm_298 rfl dX1_checkBehind_145 ?_
    refine sx_aload_n X 0 rfl dX1_checkBehind_148 rfl ?_
    refine sx_iload_n X 1 rfl dX1_checkBehind_149 rfl ?_
    refine sx_iconst X (v := 1) dX1_checkBehind_150 rfl ?_
    refine sx_iadd X dX1_checkBehind_151 ?_
    obtain ⟨u4, hu4, hf⟩ := ob_c hf
    refine sx_cVr X (c_X11_valueAt (l := l) (D := D) (T := T) (sd := sd) a0 a0_kinds a0_starts a0_values (x1 + 1) b_a0 hu4) (st' := [.long u4, .ref a2_fronts, .int (x1 + 1), .ref a0]) (q0 := 0) qm_659 qm_660 qm_661 qm_70 qm_662 hd_X11_valueAt ⟨rfl, rfl⟩ ⟨Nat.le_of_ble_eq_true rfl, Nat.le_of_ble_eq_true rfl⟩ rfl rfl (Nat.le_of_ble_eq_true rfl) rfl rfl rfl [0, 1, 2, 3] rfl rfl rfl ⟨Nat.le_of_ble_eq_true rfl, Nat.le_of_ble_eq_true rfl⟩ dX1_checkBehind_152 rfl ?_
    obtain ⟨u5, hu5, hf⟩ := ob_c hf
    refine sx_cVr X (c_X2_find (l := l) (D := D) (T := T) (sd := sd) a2_fronts a2_fronts_names a2_fronts_warm a2_fronts_force a2_fronts_from a2_fronts_hours n u4 b_a2_fronts hu5) (st' := [.int u5, .int (x1 + 1), .ref a0]) (q0 := 5) qm_663 qm_664 qm_665 qm_76 qm_666 hd_X2_find ⟨rfl, rfl⟩ ⟨Nat.le_of_ble_eq_true rfl, Nat.le_of_ble_eq_true rfl⟩ rfl rfl (Nat.le_of_ble_eq_true rfl) rfl rfl rfl [5, 6, 7, 8, 9, 10] rfl rfl rfl ⟨Nat.le_of_ble_eq_true rfl, Nat.le_of_ble_eq_true rfl⟩ dX1_checkBehind_155 rfl ?_
    obtain ⟨u6, hu6, hf⟩ := ob_c hf
    refine sx_cS X (c_X1_checkNamed (l := l) (D := D) (T := T) (sd := sd) a0 a0_kinds a0_starts a0_values (x1 + 1) u5 b_a0 hu6) (st' := []) qm_686 qm_687 qm_92 qm_688 hd_X1_checkNamed ⟨rfl, rfl⟩ ⟨Nat.le_of_ble_eq_true rfl, Nat.le_of_ble_eq_true rfl⟩ rfl rfl (Nat.le_of_ble_eq_true rfl) [0, 1, 2, 3] rfl rfl (ws' := [zO a0 7 [.ref a0_kinds, .ref a0_starts, .ref a0_values, .int (X11_count b_a0), .int (X11_cursor b_a0), .int u6.2.1, .int u6.2.2], zK T sd.1 a0_kinds 401 (X11_kinds b_a0), zI T a0_starts 401 (X11_starts b_a0), zJ T a0_values 401 u6.1, zO a2 3 [.ref a2_fronts, .ref a2_guests, .ref a2_orders], zO a2_fronts 0 [.ref a2_fronts_names, .ref a2_fronts_warm, .ref a2_fronts_force, .ref a2_fronts_from, .ref a2_fronts_hours, .int (X2_count b_a2_fronts)], zJ T a2_fronts_names 10 (X2_names b_a2_fronts), zZ T a2_fronts_warm 10 (X2_warm b_a2_fronts), zI T a2_fronts_force 10 (X2_force b_a2_fronts), zI T a2_fronts_from 10 (X2_from b_a2_fronts), zI T a2_fronts_hours 10 (X2_hours b_a2_fronts), zO a2_guests 1 [.ref a2_guests_names, .ref a2_guests_from, .ref a2_guests_weakest, .ref a2_guests_strongest, .ref a2_guests_nerve, .int (X4_count b_a2_guests)], zJ T a2_guests_names 10 (X4_names b_a2_guests), zI T a2_guests_from 10 (X4_from b_a2_guests), zI T a2_guests_weakest 10 (X4_weakest b_a2_guests), zI T a2_guests_strongest 10 (X4_strongest b_a2_guests), zI T a2_guests_nerve 10 (X4_nerve b_a2_guests)]) rfl rfl ⟨Nat.le_of_ble_eq_true rfl, Nat.le_of_ble_eq_true rfl⟩ dX1_checkBehind_158 rfl ?_
    refine sx_goto X 188 dX1_checkBehind_161 rfl ?_
    exact sx_vret X dX1_checkBehind_188 (ob_e hf) rfl rfl
  · have hf := ob_f hf c3
    by_cases c7 : (smap u1) = 4 ∨ (smap u1) = 5 ∨ (smap u1) = 23
    · have hf := ob_t hf c7
      refine sx_tin X 164 dX1_checkBehind_12 rfl (tin_X1_checkBehind_12_1 (smap u1) c7) ?_
      refine sx_aload_n X 0 rfl dX1_checkBehind_164 rfl ?_
      refine sx_iload_n X 1 rfl dX1_checkBehind_165 rfl ?_
      refine sx_iconst X (v := 1) dX1_checkBehind_166 rfl ?_
      refine sx_iadd X dX1_checkBehind_167 ?_
      refine sx_aload_n X 2 rfl dX1_checkBehind_168 rfl ?_
      refine sx_get X kX7 4 rfl 1 (Nat.le_of_ble_eq_true rfl) qm_301 rfl dX1_checkBehind_169 ?_
      refine sx_aload_n X 0 rfl dX1_checkBehind_172 rfl ?_
      refine sx_iload_n X 1 rfl dX1_checkBehind_173 rfl ?_
      refine sx_iconst X (v := 1) dX1_checkBehind_174 rfl ?_
      refine sx_iadd X dX1_checkBehind_175 ?_
      obtain ⟨u8, hu8, hf⟩ := ob_c hf
      refine sx_cVr X (c_X11_valueAt (l := l) (D := D) (T := T) (sd := sd) a0 a0_kinds a0_starts a0_values (x1 + 1) b_a0 hu8) (st' := [.long u8, .ref a2_guests, .int (x1 + 1), .ref a0]) (q0 := 0) qm_659 qm_660 qm_661 qm_70 qm_662 hd_X11_valueAt ⟨rfl, rfl⟩ ⟨Nat.le_of_ble_eq_true rfl, Nat.le_of_ble_eq_true rfl⟩ rfl rfl (Nat.le_of_ble_eq_true rfl) rfl rfl rfl [0, 1, 2, 3] rfl rfl rfl ⟨Nat.le_of_ble_eq_true rfl, Nat.le_of_ble_eq_true rfl⟩ dX1_checkBehind_176 rfl ?_
      obtain ⟨u9, hu9, hf⟩ := ob_c hf
      refine sx_cVr X (c_X4_find (l := l) (D := D) (T := T) (sd := sd) a2_guests a2_guests_names a2_guests_from a2_guests_weakest a2_guests_strongest a2_guests_nerve n u8 b_a2_guests hu9) (st' := [.int u9, .int (x1 + 1), .ref a0]) (q0 := 11) qm_678 qm_679 qm_680 qm_77 qm_681 hd_X4_find ⟨rfl, rfl⟩ ⟨Nat.le_of_ble_eq_true rfl, Nat.le_of_ble_eq_true rfl⟩ rfl rfl (Nat.le_of_ble_eq_true rfl) rfl rfl rfl [11, 12, 13, 14, 15, 16] rfl rfl rfl ⟨Nat.le_of_ble_eq_true rfl, Nat.le_of_ble_eq_true rfl⟩ dX1_checkBehind_179 rfl ?_
      obtain ⟨u10, hu10, hf⟩ := ob_c hf
      refine sx_cS X (c_X1_checkNamed (l := l) (D := D) (T := T) (sd := sd) a0 a0_kinds a0_starts a0_values (x1 + 1) u9 b_a0 hu10) (st' := []) qm_686 qm_687 qm_92 qm_688 hd_X1_checkNamed ⟨rfl, rfl⟩ ⟨Nat.le_of_ble_eq_true rfl, Nat.le_of_ble_eq_true rfl⟩ rfl rfl (Nat.le_of_ble_eq_true rfl) [0, 1, 2, 3] rfl rfl (ws' := [zO a0 7 [.ref a0_kinds, .ref a0_starts, .ref a0_values, .int (X11_count b_a0), .int (X11_cursor b_a0), .int u10.2.1, .int u10.2.2], zK T sd.1 a0_kinds 401 (X11_kinds b_a0), zI T a0_starts 401 (X11_starts b_a0), zJ T a0_values 401 u10.1, zO a2 3 [.ref a2_fronts, .ref a2_guests, .ref a2_orders], zO a2_fronts 0 [.ref a2_fronts_names, .ref a2_fronts_warm, .ref a2_fronts_force, .ref a2_fronts_from, .ref a2_fronts_hours, .int (X2_count b_a2_fronts)], zJ T a2_fronts_names 10 (X2_names b_a2_fronts), zZ T a2_fronts_warm 10 (X2_warm b_a2_fronts), zI T a2_fronts_force 10 (X2_force b_a2_fronts), zI T a2_fronts_from 10 (X2_from b_a2_fronts), zI T a2_fronts_hours 10 (X2_hours b_a2_fronts), zO a2_guests 1 [.ref a2_guests_names, .ref a2_guests_from, .ref a2_guests_weakest, .ref a2_guests_strongest, .ref a2_guests_nerve, .int (X4_count b_a2_guests)], zJ T a2_guests_names 10 (X4_names b_a2_guests), zI T a2_guests_from 10 (X4_from b_a2_guests), zI T a2_guests_weakest 10 (X4_weakest b_a2_guests), zI T a2_guests_strongest 10 (X4_strongest b_a2_guests), zI T a2_guests_nerve 10 (X4_nerve b_a2_guests)]) rfl rfl ⟨Nat.le_of_ble_eq_true rfl, Nat.le_of_ble_eq_true rfl⟩ dX1_checkBehind_182 rfl ?_
      refine sx_goto X 188 dX1_checkBehind_185 rfl ?_
      exact sx_vret X dX1_checkBehind_188 (ob_e hf) rfl rfl
    · have hf := ob_f hf c7
      by_cases c11 : (smap u1) = 19
      · have hf := ob_t hf c11
        refine sx_tin X 112 dX1_checkBehind_12 rfl (tin_X1_checkBehind_12_2 (smap u1) c11) ?_
        refine sx_aload_n X 0 rfl dX1_checkBehind_112 rfl ?_
        refine sx_iload_n X 1 rfl dX1_checkBehind_113 rfl ?_
        refine sx_iconst X (v := 1) dX1_checkBehind_114 rfl ?_
        refine sx_iadd X dX1_checkBehind_115 ?_
        refine sx_aload_n X 2 rfl dX1_checkBehind_116 rfl ?_
        refine sx_get X kX7 4 rfl 0 (Nat.le_of_ble_eq_true rfl) qm_298 rfl dX1_checkBehind_117 ?_
        obtain ⟨u12, hu12, hf⟩ := ob_c hf
        refine sx_cS X (c_X1_checkFront (l := l) (D := D) (T := T) (sd := sd) a0 a0_kinds a0_starts a0_values a2_fronts a2_fronts_names a2_fronts_warm a2_fronts_force a2_fronts_from a2_fronts_hours n (x1 + 1) b_a0 b_a2_fronts hu12) (st' := []) qm_656 qm_657 qm_92 qm_658 hd_X1_checkFront ⟨rfl, rfl⟩ ⟨Nat.le_of_ble_eq_true rfl, Nat.le_of_ble_eq_true rfl⟩ rfl rfl (Nat.le_of_ble_eq_true rfl) [0, 1, 2, 3, 5, 6, 7, 8, 9, 10] rfl rfl (ws' := [zO a0 7 [.ref a0_kinds, .ref a0_starts, .ref a0_values, .int (X11_count b_a0), .int (X11_cursor b_a0), .int u12.1, .int u12.2.1], zK T sd.1 a0_kinds 401 (X11_kinds b_a0), zI T a0_starts 401 (X11_starts b_a0), zJ T a0_values 401 (X11_values b_a0), zO a2 3 [.ref a2_fronts, .ref a2_guests, .ref a2_orders], zO a2_fronts 0 [.ref a2_fronts_names, .ref a2_fronts_warm, .ref a2_fronts_force, .ref a2_fronts_from, .ref a2_fronts_hours, .int u12.2.2.2.2.2.2.2], zJ T a2_fronts_names 10 u12.2.2.1, zZ T a2_fronts_warm 10 u12.2.2.2.1, zI T a2_fronts_force 10 u12.2.2.2.2.1, zI T a2_fronts_from 10 u12.2.2.2.2.2.1, zI T a2_fronts_hours 10 u12.2.2.2.2.2.2.1, zO a2_guests 1 [.ref a2_guests_names, .ref a2_guests_from, .ref a2_guests_weakest, .ref a2_guests_strongest, .ref a2_guests_nerve, .int (X4_count b_a2_guests)], zJ T a2_guests_names 10 (X4_names b_a2_guests), zI T a2_guests_from 10 (X4_from b_a2_guests), zI T a2_guests_weakest 10 (X4_weakest b_a2_guests), zI T a2_guests_strongest 10 (X4_strongest b_a2_guests), zI T a2_guests_nerve 10 (X4_nerve b_a2_guests)]) rfl rfl ⟨Nat.le_of_ble_eq_true rfl, Nat.le_of_ble_eq_true rfl⟩ dX1_checkBehind_120 rfl ?_
        refine sx_goto X 188 dX1_checkBehind_123 rfl ?_
        exact sx_vret X dX1_checkBehind_188 (ob_e hf) rfl rfl
      · have hf := ob_f hf c11
        by_cases c13 : (smap u1) = 20
        · have hf := ob_t hf c13
          refine sx_tin X 126 dX1_checkBehind_12 rfl (tin_X1_checkBehind_12_3 (smap u1) c13) ?_
          refine sx_aload_n X 0 rfl dX1_checkBehind_126 rfl ?_
          refine sx_iload_n X 1 rfl dX1_checkBehind_127 rfl ?_
          refine sx_iconst X (v := 1) dX1_checkBehind_128 rfl ?_
          refine sx_iadd X dX1_checkBehind_129 ?_
          refine sx_aload_n X 2 rfl dX1_checkBehind_130 rfl ?_
          refine sx_get X kX7 4 rfl 1 (Nat.le_of_ble_eq_true rfl) qm_301 rfl dX1_checkBehind_131 ?_
          obtain ⟨u14, hu14, hf⟩ := ob_c hf
          refine sx_cS X (c_X1_checkGuest (l := l) (D := D) (T := T) (sd := sd) a0 a0_kinds a0_starts a0_values a2_guests a2_guests_names a2_guests_from a2_guests_weakest a2_guests_strongest a2_guests_nerve n (x1 + 1) b_a0 b_a2_guests hu14) (st' := []) qm_675 qm_676 qm_92 qm_677 hd_X1_checkGuest ⟨rfl, rfl⟩ ⟨Nat.le_of_ble_eq_true rfl, Nat.le_of_ble_eq_true rfl⟩ rfl rfl (Nat.le_of_ble_eq_true rfl) [0, 1, 2, 3, 11, 12, 13, 14, 15, 16] rfl rfl (ws' := [zO a0 7 [.ref a0_kinds, .ref a0_starts, .ref a0_values, .int (X11_count b_a0), .int (X11_cursor b_a0), .int u14.1, .int u14.2.1], zK T sd.1 a0_kinds 401 (X11_kinds b_a0), zI T a0_starts 401 (X11_starts b_a0), zJ T a0_values 401 (X11_values b_a0), zO a2 3 [.ref a2_fronts, .ref a2_guests, .ref a2_orders], zO a2_fronts 0 [.ref a2_fronts_names, .ref a2_fronts_warm, .ref a2_fronts_force, .ref a2_fronts_from, .ref a2_fronts_hours, .int (X2_count b_a2_fronts)], zJ T a2_fronts_names 10 (X2_names b_a2_fronts), zZ T a2_fronts_warm 10 (X2_warm b_a2_fronts), zI T a2_fronts_force 10 (X2_force b_a2_fronts), zI T a2_fronts_from 10 (X2_from b_a2_fronts), zI T a2_fronts_hours 10 (X2_hours b_a2_fronts), zO a2_guests 1 [.ref a2_guests_names, .ref a2_guests_from, .ref a2_guests_weakest, .ref a2_guests_strongest, .ref a2_guests_nerve, .int u14.2.2.2.2.2.2.2], zJ T a2_guests_names 10 u14.2.2.1, zI T a2_guests_from 10 u14.2.2.2.1, zI T a2_guests_weakest 10 u14.2.2.2.2.1, zI T a2_guests_strongest 10 u14.2.2.2.2.2.1, zI T a2_guests_nerve 10 u14.2.2.2.2.2.2.1]) rfl rfl ⟨Nat.le_of_ble_eq_true rfl, Nat.le_of_ble_eq_true rfl⟩ dX1_checkBehind_134 rfl ?_
          refine sx_goto X 188 dX1_checkBehind_137 rfl ?_
          exact sx_vret X dX1_checkBehind_188 (ob_e hf) rfl rfl
        · have hf := ob_f hf c13
          refine sx_tdef X 188 dX1_checkBehind_12 rfl (tab_X1_checkBehind_12 (smap u1) c3 c7 c11 c13) ?_
          exact sx_vret X dX1_checkBehind_188 (ob_e hf) rfl rfl
