/-! CONSTRUCTORS of the law's small classes -/
theorem hd_diIn : SxDs yX13_init 1 := ⟨by decide, by decide, by decide +kernel⟩
set_option maxRecDepth 100000 in
theorem c_diIn {l : Launch} {D : va_G} {T : Nat → ClassId} {sd : SdT} (q : Nat) (x : Int32) : SxK (SFx sd) l D T yX13_init cX13_init 2 none (rmL 0 0 0) [.ref q, .int x] [zDi q 0] (fun _ : Unit => none) (fun _ => [zDi q x]) () 0 0 := by
  refine sx_start (SFx_ok sd) (by decide +kernel) (Nat.le_of_ble_eq_true rfl) (fun p e s mi args below meth c A X hnm => ?_)
  refine sx_aload_n X 0 rfl dX13_init_0 rfl ?_
  refine sx_objInit X qm_685 qm_56 qm_57 dX13_init_1 (Nat.le_of_ble_eq_true rfl) (Nat.le_of_ble_eq_true rfl) ?_
  refine sx_aload_n X 0 rfl dX13_init_4 rfl ?_
  refine sx_iload_n X 1 rfl dX13_init_5 rfl ?_
  refine sx_put X (ws' := [zO q 11 [.int x]]) kX13 0 rfl 0 (Nat.le_of_ble_eq_true rfl) qm_686 rfl rfl rfl (Nat.le_of_ble_eq_true rfl) rfl dX13_init_6 ?_
  exact sx_vret X dX13_init_9 rfl rfl rfl
theorem hd_frIn : SxDs yX14_init 0 := ⟨by decide, by decide, by decide +kernel⟩
set_option maxRecDepth 100000 in
theorem c_frIn {l : Launch} {D : va_G} {T : Nat → ClassId} {sd : SdT} (q : Nat) : SxK (SFx sd) l D T yX14_init cX14_init 1 none (rmL 0 0 0) [.ref q] [zO q 12 [.int 0, .int 0, .int 0, .int 0, .int 0]] (fun _ : Unit => none) (fun _ => [zO q 12 [.int 0, .int 0, .int 0, .int 0, .int 0]]) () 0 0 := by
  refine sx_start (SFx_ok sd) (by decide +kernel) (Nat.le_of_ble_eq_true rfl) (fun p e s mi args below meth c A X hnm => ?_)
  refine sx_aload_n X 0 rfl dX14_init_0 rfl ?_
  refine sx_objInit X qm_1198 qm_56 qm_57 dX14_init_1 (Nat.le_of_ble_eq_true rfl) (Nat.le_of_ble_eq_true rfl) ?_
  exact sx_vret X dX14_init_4 rfl rfl rfl
theorem hd_guIn : SxDs yX15_init 0 := ⟨by decide, by decide, by decide +kernel⟩
set_option maxRecDepth 100000 in
theorem c_guIn {l : Launch} {D : va_G} {T : Nat → ClassId} {sd : SdT} (q : Nat) : SxK (SFx sd) l D T yX15_init cX15_init 1 none (rmL 0 0 0) [.ref q] [zO q 13 [.int 0, .int 0, .int 0, .int 0, .int 0]] (fun _ : Unit => none) (fun _ => [zO q 13 [.int 0, .int 0, .int 0, .int 0, .int 0]]) () 0 0 := by
  refine sx_start (SFx_ok sd) (by decide +kernel) (Nat.le_of_ble_eq_true rfl) (fun p e s mi args below meth c A X hnm => ?_)
  refine sx_aload_n X 0 rfl dX15_init_0 rfl ?_
  refine sx_objInit X qm_1362 qm_56 qm_57 dX15_init_1 (Nat.le_of_ble_eq_true rfl) (Nat.le_of_ble_eq_true rfl) ?_
  exact sx_vret X dX15_init_4 rfl rfl rfl
theorem hd_poIn : SxDs yX18_init 0 := ⟨by decide, by decide, by decide +kernel⟩
set_option maxRecDepth 100000 in
theorem c_poIn {l : Launch} {D : va_G} {T : Nat → ClassId} {sd : SdT} {jd : JdT} (q : Nat) : SxKP (SFy sd jd) l D T yX18_init cX18_init 1 none (rmL 0 3 0) [.ref q] [zO q 16 [.null, .null, .null, .int 0, .int 0, .int 0, .int 0, .int 0, .int 0, .int 0, .int 0]] (fun _ : Nat × Nat × Nat => none) (fun w => [zO q 16 [.ref w.1, .ref w.2.1, .ref w.2.2, .int 0, .int 20, .int 0, .int 0, .int 3, .int 3, .int 0, .int 0]]) (fun _ => True) 3 0 := by
  refine sx_startP (SFy_ok sd jd) (by decide +kernel) (Nat.le_of_ble_eq_true rfl) (fun p e s mi args below meth c A XY hnm => ?_)
  have X := XY.dn (SFx_ok sd)
  refine sx_aload_n X 0 rfl dX18_init_0 rfl ?_
  refine sx_objInit X qm_1136 qm_56 qm_57 dX18_init_1 (Nat.le_of_ble_eq_true rfl) (Nat.le_of_ble_eq_true rfl) ?_
  refine sx_aload_n X 0 rfl dX18_init_4 rfl ?_
  refine sx_iconst X (v := 0) dX18_init_5 rfl ?_
  refine sx_newO X (XY.fz.2.2.2.2.2.2.2.2.2.1 : va_AO "WeatherTeaLaw$Front" s) (N' := 0) (t0 := 5) (fun _ => 0) rfl qm_1137 (by decide) (by decide) (by decide) (Nat.le_of_ble_eq_true rfl) (Nat.le_of_ble_eq_true rfl) dX18_init_6 (fun a5 => ?_)
  refine sx_drop ?_
  refine sx_put X (ws' := [zO q 16 [.ref a5, .null, .null, .int 0, .int 0, .int 0, .int 0, .int 0, .int 0, .int 0, .int 0]]) kX18 0 rfl 0 (Nat.le_of_ble_eq_true rfl) qm_1143 rfl rfl rfl (Nat.le_of_ble_eq_true rfl) rfl dX18_init_9 ?_
  refine sx_aload_n X 0 rfl dX18_init_12 rfl ?_
  refine sx_iconst X (v := 0) dX18_init_13 rfl ?_
  refine sx_newO X (XY.fz.2.2.2.2.2.2.2.2.2.2.1 : va_AO "WeatherTeaLaw$Guest" s) (N' := 0) (t0 := 6) (fun _ => 0) rfl qm_1139 (by decide) (by decide) (by decide) (Nat.le_of_ble_eq_true rfl) (Nat.le_of_ble_eq_true rfl) dX18_init_14 (fun a6 => ?_)
  refine sx_drop ?_
  refine sx_put X (ws' := [zO q 16 [.ref a5, .ref a6, .null, .int 0, .int 0, .int 0, .int 0, .int 0, .int 0, .int 0, .int 0]]) kX18 0 rfl 1 (Nat.le_of_ble_eq_true rfl) qm_1146 rfl rfl rfl (Nat.le_of_ble_eq_true rfl) rfl dX18_init_17 ?_
  refine sx_aload_n X 0 rfl dX18_init_20 rfl ?_
  refine sx_iconst X (v := 0) dX18_init_21 rfl ?_
  refine sx_newO X (XY.fz.2.2.2.2.2.2.2.2.2.2.2.1 : va_AO "WeatherTeaLaw$Order" s) (N' := 0) (t0 := 7) (fun _ => 0) rfl qm_1141 (by decide) (by decide) (by decide) (Nat.le_of_ble_eq_true rfl) (Nat.le_of_ble_eq_true rfl) dX18_init_22 (fun a7 => ?_)
  refine sx_drop ?_
  refine sx_put X (ws' := [zO q 16 [.ref a5, .ref a6, .ref a7, .int 0, .int 0, .int 0, .int 0, .int 0, .int 0, .int 0, .int 0]]) kX18 0 rfl 2 (Nat.le_of_ble_eq_true rfl) qm_1149 rfl rfl rfl (Nat.le_of_ble_eq_true rfl) rfl dX18_init_25 ?_
  refine sx_aload_n X 0 rfl dX18_init_28 rfl ?_
  refine sx_bipush X (v := 20) dX18_init_29 rfl ?_
  refine sx_put X (ws' := [zO q 16 [.ref a5, .ref a6, .ref a7, .int 0, .int 20, .int 0, .int 0, .int 0, .int 0, .int 0, .int 0]]) kX18 0 rfl 4 (Nat.le_of_ble_eq_true rfl) qm_1153 rfl rfl rfl (Nat.le_of_ble_eq_true rfl) rfl dX18_init_31 ?_
  refine sx_aload_n X 0 rfl dX18_init_34 rfl ?_
  refine sx_iconst X (v := 3) dX18_init_35 rfl ?_
  refine sx_put X (ws' := [zO q 16 [.ref a5, .ref a6, .ref a7, .int 0, .int 20, .int 0, .int 0, .int 3, .int 0, .int 0, .int 0]]) kX18 0 rfl 7 (Nat.le_of_ble_eq_true rfl) qm_1162 rfl rfl rfl (Nat.le_of_ble_eq_true rfl) rfl dX18_init_36 ?_
  refine sx_aload_n X 0 rfl dX18_init_39 rfl ?_
  refine sx_iconst X (v := 3) dX18_init_40 rfl ?_
  refine sx_put X (ws' := [zO q 16 [.ref a5, .ref a6, .ref a7, .int 0, .int 20, .int 0, .int 0, .int 3, .int 3, .int 0, .int 0]]) kX18 0 rfl 8 (Nat.le_of_ble_eq_true rfl) qm_1164 rfl rfl rfl (Nat.le_of_ble_eq_true rfl) rfl dX18_init_41 ?_
  refine sx_pick (a5, a6, a7) trivial ?_
  exact sx_vret X dX18_init_44 rfl rfl rfl
