/-! contracts, part 9 -/
abbrev vf_X9_join (sd : SdT) (r : Int32) : Option Value := some (.int r)
abbrev wc_X9_join (T : Nat → ClassId) (sd : SdT)  : va_W := []
abbrev wf_X9_join (T : Nat → ClassId) (sd : SdT)  (r : Int32) : va_W := []
abbrev rm_X9_join : Room := { frames := 1, cells := 0, slots := 0, locals := 21 }
theorem hd_X9_join : yX9_join.cls ≠ "java/lang/invoke/MethodHandle" ∧ yX9_join.cls ≠ "java/lang/invoke/VarHandle" ∧ (parseMethodDescriptor yX9_join.desc).map (fun d => d.parameters.length) = some 3 := ⟨by decide, by decide, by decide +kernel⟩
theorem tin_X9_join_8_0 (x : Int32) (h : x = 15) : SxIn (15) (34) #[100, 210, 120, 126, 210, 210, 210, 210, 210, 210, 96, 104, 108, 132, 146, 160, 174, 188, 202, 206] (100) x := by
  rcases h with rfl <;> exact ⟨by decide, by decide, by decide⟩
theorem tin_X9_join_8_1 (x : Int32) (h : x = 17) : SxIn (15) (34) #[100, 210, 120, 126, 210, 210, 210, 210, 210, 210, 96, 104, 108, 132, 146, 160, 174, 188, 202, 206] (120) x := by
  rcases h with rfl <;> exact ⟨by decide, by decide, by decide⟩
theorem tin_X9_join_8_2 (x : Int32) (h : x = 18) : SxIn (15) (34) #[100, 210, 120, 126, 210, 210, 210, 210, 210, 210, 96, 104, 108, 132, 146, 160, 174, 188, 202, 206] (126) x := by
  rcases h with rfl <;> exact ⟨by decide, by decide, by decide⟩
theorem tin_X9_join_8_3 (x : Int32) (h : x = 25) : SxIn (15) (34) #[100, 210, 120, 126, 210, 210, 210, 210, 210, 210, 96, 104, 108, 132, 146, 160, 174, 188, 202, 206] (96) x := by
  rcases h with rfl <;> exact ⟨by decide, by decide, by decide⟩
theorem tin_X9_join_8_4 (x : Int32) (h : x = 26) : SxIn (15) (34) #[100, 210, 120, 126, 210, 210, 210, 210, 210, 210, 96, 104, 108, 132, 146, 160, 174, 188, 202, 206] (104) x := by
  rcases h with rfl <;> exact ⟨by decide, by decide, by decide⟩
theorem tin_X9_join_8_5 (x : Int32) (h : x = 27) : SxIn (15) (34) #[100, 210, 120, 126, 210, 210, 210, 210, 210, 210, 96, 104, 108, 132, 146, 160, 174, 188, 202, 206] (108) x := by
  rcases h with rfl <;> exact ⟨by decide, by decide, by decide⟩
theorem tin_X9_join_8_6 (x : Int32) (h : x = 28) : SxIn (15) (34) #[100, 210, 120, 126, 210, 210, 210, 210, 210, 210, 96, 104, 108, 132, 146, 160, 174, 188, 202, 206] (132) x := by
  rcases h with rfl <;> exact ⟨by decide, by decide, by decide⟩
theorem tin_X9_join_8_7 (x : Int32) (h : x = 29) : SxIn (15) (34) #[100, 210, 120, 126, 210, 210, 210, 210, 210, 210, 96, 104, 108, 132, 146, 160, 174, 188, 202, 206] (146) x := by
  rcases h with rfl <;> exact ⟨by decide, by decide, by decide⟩
theorem tin_X9_join_8_8 (x : Int32) (h : x = 30) : SxIn (15) (34) #[100, 210, 120, 126, 210, 210, 210, 210, 210, 210, 96, 104, 108, 132, 146, 160, 174, 188, 202, 206] (160) x := by
  rcases h with rfl <;> exact ⟨by decide, by decide, by decide⟩
theorem tin_X9_join_8_9 (x : Int32) (h : x = 31) : SxIn (15) (34) #[100, 210, 120, 126, 210, 210, 210, 210, 210, 210, 96, 104, 108, 132, 146, 160, 174, 188, 202, 206] (174) x := by
  rcases h with rfl <;> exact ⟨by decide, by decide, by decide⟩
theorem tin_X9_join_8_10 (x : Int32) (h : x = 32) : SxIn (15) (34) #[100, 210, 120, 126, 210, 210, 210, 210, 210, 210, 96, 104, 108, 132, 146, 160, 174, 188, 202, 206] (188) x := by
  rcases h with rfl <;> exact ⟨by decide, by decide, by decide⟩
theorem tin_X9_join_8_11 (x : Int32) (h : x = 33) : SxIn (15) (34) #[100, 210, 120, 126, 210, 210, 210, 210, 210, 210, 96, 104, 108, 132, 146, 160, 174, 188, 202, 206] (202) x := by
  rcases h with rfl <;> exact ⟨by decide, by decide, by decide⟩
theorem tin_X9_join_8_12 (x : Int32) (h : x = 34) : SxIn (15) (34) #[100, 210, 120, 126, 210, 210, 210, 210, 210, 210, 96, 104, 108, 132, 146, 160, 174, 188, 202, 206] (206) x := by
  rcases h with rfl <;> exact ⟨by decide, by decide, by decide⟩
theorem tab_X9_join_8 (x : Int32) (c0 : ¬ (x = 15)) (c1 : ¬ (x = 17)) (c2 : ¬ (x = 18)) (c3 : ¬ (x = 25)) (c4 : ¬ (x = 26)) (c5 : ¬ (x = 27)) (c6 : ¬ (x = 28)) (c7 : ¬ (x = 29)) (c8 : ¬ (x = 30)) (c9 : ¬ (x = 31)) (c10 : ¬ (x = 32)) (c11 : ¬ (x = 33)) (c12 : ¬ (x = 34)) : SxTab (15) (34) #[100, 210, 120, 126, 210, 210, 210, 210, 210, 210, 96, 104, 108, 132, 146, 160, 174, 188, 202, 206] (210) x := by
  refine sx_tabd [15, 17, 18, 25, 26, 27, 28, 29, 30, 31, 32, 33, 34] x (by decide +kernel) (fun v hv e => ?_)
  simp only [List.mem_cons, List.not_mem_nil, or_false] at hv
  rcases hv with h | h | h | h | h | h | h | h | h | h | h | h | h
  · exact c0 (e.trans h)
  · exact c1 (e.trans h)
  · exact c2 (e.trans h)
  · exact c3 (e.trans h)
  · exact c4 (e.trans h)
  · exact c5 (e.trans h)
  · exact c6 (e.trans h)
  · exact c7 (e.trans h)
  · exact c8 (e.trans h)
  · exact c9 (e.trans h)
  · exact c10 (e.trans h)
  · exact c11 (e.trans h)
  · exact c12 (e.trans h)
set_option maxHeartbeats 4000000 in
set_option maxRecDepth 100000 in
theorem c_X9_join {l : Launch} {D : va_G} {T : Nat → ClassId} {sd : SdT}  (x0 : Nat) (x1 : Int32) (x2 : Int32) {res : Int32} (hf : f_X9_join x0 x1 x2 = some res) : SxK (SFx sd) l D T yX9_join cX9_join 3 (some .int) rm_X9_join [.ref (sd.1 x0), .int x1, .int x2] (wc_X9_join T sd ) (vf_X9_join sd) (wf_X9_join T sd ) res 0 0 := by
  refine sx_start (SFx_ok sd) (by decide +kernel) (Nat.le_of_ble_eq_true rfl) (fun p e s m args below meth c A X hnm => ?_)
  have hf := ob_1 hf
  have R150 : ∀ (t0 : Int32), (f_X9_join_R150 x0 x1 x2 t0).bind some = some res → SxG p l e rm_X9_join s m args below meth c D A 3 0 0 (SxE below args s D A (vf_X9_join sd) (wf_X9_join T sd ) res 0 0) [] [] 150 [.int t0] := by
    intro t0 hf
    obtain ⟨u12, hu12, hf⟩ := ob_c hf
    refine sx_cNr X (c_X12_oneIf (l := l) (D := D) (T := T) (sd := sd) t0 hu12) (st' := [.int u12]) (X.sf.2.2.1.2.1 _ (List.mem_of_getElem? (i := 1) rfl)) qm_393 qm_13 qm_394 hd_X12_oneIf ⟨rfl, rfl⟩ ⟨Nat.le_of_ble_eq_true rfl, Nat.le_of_ble_eq_true rfl⟩ rfl rfl (Nat.le_of_ble_eq_true rfl) [] rfl rfl rfl ⟨Nat.le_of_ble_eq_true rfl, Nat.le_of_ble_eq_true rfl⟩ dX9_join_150 rfl ?_
    exact sx_iret X rfl dX9_join_153 (ob_e hf) rfl rfl
  have R164 : ∀ (t0 : Int32), (f_X9_join_R164 x0 x1 x2 t0).bind some = some res → SxG p l e rm_X9_join s m args below meth c D A 3 0 0 (SxE below args s D A (vf_X9_join sd) (wf_X9_join T sd ) res 0 0) [] [] 164 [.int t0] := by
    intro t0 hf
    obtain ⟨u15, hu15, hf⟩ := ob_c hf
    refine sx_cNr X (c_X12_oneIf (l := l) (D := D) (T := T) (sd := sd) t0 hu15) (st' := [.int u15]) (X.sf.2.2.1.2.1 _ (List.mem_of_getElem? (i := 1) rfl)) qm_393 qm_13 qm_394 hd_X12_oneIf ⟨rfl, rfl⟩ ⟨Nat.le_of_ble_eq_true rfl, Nat.le_of_ble_eq_true rfl⟩ rfl rfl (Nat.le_of_ble_eq_true rfl) [] rfl rfl rfl ⟨Nat.le_of_ble_eq_true rfl, Nat.le_of_ble_eq_true rfl⟩ dX9_join_164 rfl ?_
    exact sx_iret X rfl dX9_join_167 (ob_e hf) rfl rfl
  have R178 : ∀ (t0 : Int32), (f_X9_join_R178 x0 x1 x2 t0).bind some = some res → SxG p l e rm_X9_join s m args below meth c D A 3 0 0 (SxE below args s D A (vf_X9_join sd) (wf_X9_join T sd ) res 0 0) [] [] 178 [.int t0] := by
    intro t0 hf
    obtain ⟨u18, hu18, hf⟩ := ob_c hf
    refine sx_cNr X (c_X12_oneIf (l := l) (D := D) (T := T) (sd := sd) t0 hu18) (st' := [.int u18]) (X.sf.2.2.1.2.1 _ (List.mem_of_getElem? (i := 1) rfl)) qm_393 qm_13 qm_394 hd_X12_oneIf ⟨rfl, rfl⟩ ⟨Nat.le_of_ble_eq_true rfl, Nat.le_of_ble_eq_true rfl⟩ rfl rfl (Nat.le_of_ble_eq_true rfl) [] rfl rfl rfl ⟨Nat.le_of_ble_eq_true rfl, Nat.le_of_ble_eq_true rfl⟩ dX9_join_178 rfl ?_
    exact sx_iret X rfl dX9_join_181 (ob_e hf) rfl rfl
  have R192 : ∀ (t0 : Int32), (f_X9_join_R192 x0 x1 x2 t0).bind some = some res → SxG p l e rm_X9_join s m args below meth c D A 3 0 0 (SxE below args s D A (vf_X9_join sd) (wf_X9_join T sd ) res 0 0) [] [] 192 [.int t0] := by
    intro t0 hf
    obtain ⟨u21, hu21, hf⟩ := ob_c hf
    refine sx_cNr X (c_X12_oneIf (l := l) (D := D) (T := T) (sd := sd) t0 hu21) (st' := [.int u21]) (X.sf.2.2.1.2.1 _ (List.mem_of_getElem? (i := 1) rfl)) qm_393 qm_13 qm_394 hd_X12_oneIf ⟨rfl, rfl⟩ ⟨Nat.le_of_ble_eq_true rfl, Nat.le_of_ble_eq_true rfl⟩ rfl rfl (Nat.le_of_ble_eq_true rfl) [] rfl rfl rfl ⟨Nat.le_of_ble_eq_true rfl, Nat.le_of_ble_eq_true rfl⟩ dX9_join_192 rfl ?_
    exact sx_iret X rfl dX9_join_195 (ob_e hf) rfl rfl
  have R206 : ∀ (t0 : Int32), (f_X9_join_R206 x0 x1 x2 t0).bind some = some res → SxG p l e rm_X9_join s m args below meth c D A 3 0 0 (SxE below args s D A (vf_X9_join sd) (wf_X9_join T sd ) res 0 0) [] [] 206 [.int t0] := by
    intro t0 hf
    obtain ⟨u24, hu24, hf⟩ := ob_c hf
    refine sx_cNr X (c_X12_oneIf (l := l) (D := D) (T := T) (sd := sd) t0 hu24) (st' := [.int u24]) (X.sf.2.2.1.2.1 _ (List.mem_of_getElem? (i := 1) rfl)) qm_393 qm_13 qm_394 hd_X12_oneIf ⟨rfl, rfl⟩ ⟨Nat.le_of_ble_eq_true rfl, Nat.le_of_ble_eq_true rfl⟩ rfl rfl (Nat.le_of_ble_eq_true rfl) [] rfl rfl rfl ⟨Nat.le_of_ble_eq_true rfl, Nat.le_of_ble_eq_true rfl⟩ dX9_join_206 rfl ?_
    exact sx_iret X rfl dX9_join_209 (ob_e hf) rfl rfl
  refine sx_mst X qm_560 dX9_join_0 ?_
  refine sx_aload_n X 0 rfl dX9_join_3 rfl ?_
  obtain ⟨g1, hf⟩ := ob_h hf
  refine sx_ord X x0 g1 qm_562 (Nat.le_of_ble_eq_true rfl) (Nat.le_of_ble_eq_true rfl) (Nat.le_of_ble_eq_true rfl) (Nat.zero_le _) (Nat.zero_le _) dX9_join_4 ?_
  refine sx_mld X x0 g1 dX9_join_7 ?_
  by_cases c2 : (smap x0) = 15
  · have hf := ob_t hf c2
    refine sx_tin X 108 dX9_join_8 rfl (tin_X9_join_8_0 (smap x0) c2) ?_
    refine sx_iload_n X 1 rfl dX9_join_108 rfl ?_
    refine sx_iload_n X 2 rfl dX9_join_109 rfl ?_
    refine sx_isub X dX9_join_110 ?_
    exact sx_iret X rfl dX9_join_111 (ob_e hf) rfl rfl
  · have hf := ob_f hf c2
    by_cases c3 : (smap x0) = 17
    · have hf := ob_t hf c3
      refine sx_tin X 128 dX9_join_8 rfl (tin_X9_join_8_1 (smap x0) c3) ?_
      refine sx_iload_n X 1 rfl dX9_join_128 rfl ?_
      refine sx_iload_n X 2 rfl dX9_join_129 rfl ?_
      refine sx_min X qm_593 qm_594 qm_32 qm_595 (Nat.le_of_ble_eq_true rfl) (Nat.le_of_ble_eq_true rfl) (Nat.zero_le _) (Nat.zero_le _) dX9_join_130 ?_
      exact sx_iret X rfl dX9_join_133 (ob_e hf) rfl rfl
    · have hf := ob_f hf c3
      by_cases c4 : (smap x0) = 18
      · have hf := ob_t hf c4
        refine sx_tin X 134 dX9_join_8 rfl (tin_X9_join_8_2 (smap x0) c4) ?_
        refine sx_iload_n X 1 rfl dX9_join_134 rfl ?_
        refine sx_iload_n X 2 rfl dX9_join_135 rfl ?_
        refine sx_max X qm_596 qm_597 qm_32 qm_598 (Nat.le_of_ble_eq_true rfl) (Nat.le_of_ble_eq_true rfl) (Nat.zero_le _) (Nat.zero_le _) dX9_join_136 ?_
        exact sx_iret X rfl dX9_join_139 (ob_e hf) rfl rfl
      · have hf := ob_f hf c4
        by_cases c5 : (smap x0) = 25
        · have hf := ob_t hf c5
          refine sx_tin X 104 dX9_join_8 rfl (tin_X9_join_8_3 (smap x0) c5) ?_
          refine sx_iload_n X 1 rfl dX9_join_104 rfl ?_
          refine sx_iload_n X 2 rfl dX9_join_105 rfl ?_
          refine sx_iadd X dX9_join_106 ?_
          exact sx_iret X rfl dX9_join_107 (ob_e hf) rfl rfl
        · have hf := ob_f hf c5
          by_cases c6 : (smap x0) = 26
          · have hf := ob_t hf c6
            refine sx_tin X 112 dX9_join_8 rfl (tin_X9_join_8_4 (smap x0) c6) ?_
            refine sx_iload_n X 1 rfl dX9_join_112 rfl ?_
            refine sx_iload_n X 2 rfl dX9_join_113 rfl ?_
            refine sx_imul X dX9_join_114 ?_
            exact sx_iret X rfl dX9_join_115 (ob_e hf) rfl rfl
          · have hf := ob_f hf c6
            by_cases c7 : (smap x0) = 27
            · have hf := ob_t hf c7
              refine sx_tin X 116 dX9_join_8 rfl (tin_X9_join_8_5 (smap x0) c7) ?_
              refine sx_iload_n X 2 rfl dX9_join_116 rfl ?_
              refine sx_if_ne X 124 dX9_join_117 rfl (fun c8 => ?_) (fun c8 => ?_)
              · have hf := ob_f hf c8
                refine sx_iload_n X 1 rfl dX9_join_124 rfl ?_
                refine sx_iload_n X 2 rfl dX9_join_125 rfl ?_
                obtain ⟨g9, hf⟩ := ob_g hf
                refine sx_idiv X g9 dX9_join_126 ?_
                exact sx_iret X rfl dX9_join_127 (ob_e hf) rfl rfl
              · have hf := ob_t hf c8
                refine sx_iconst X (v := 0) dX9_join_120 rfl ?_
                refine sx_goto X 127 dX9_join_121 rfl ?_
                exact sx_iret X rfl dX9_join_127 (ob_e hf) rfl rfl
            · have hf := ob_f hf c7
              by_cases c10 : (smap x0) = 28
              · have hf := ob_t hf c10
                refine sx_tin X 140 dX9_join_8 rfl (tin_X9_join_8_6 (smap x0) c10) ?_
                refine sx_iload_n X 1 rfl dX9_join_140 rfl ?_
                refine sx_iload_n X 2 rfl dX9_join_141 rfl ?_
                refine sx_icmp_ge X 149 dX9_join_142 rfl (fun c11 => ?_) (fun c11 => ?_)
                · have hf := ob_t hf c11
                  refine sx_iconst X (v := 0) dX9_join_149 rfl ?_
                  refine sx_lsub [] rfl ?_
                  exact R150 0 hf
                · have hf := ob_f hf c11
                  refine sx_iconst X (v := 1) dX9_join_145 rfl ?_
                  refine sx_goto X 150 dX9_join_146 rfl ?_
                  refine sx_lsub [] rfl ?_
                  exact R150 1 hf
              · have hf := ob_f hf c10
                by_cases c13 : (smap x0) = 29
                · have hf := ob_t hf c13
                  refine sx_tin X 154 dX9_join_8 rfl (tin_X9_join_8_7 (smap x0) c13) ?_
                  refine sx_iload_n X 1 rfl dX9_join_154 rfl ?_
                  refine sx_iload_n X 2 rfl dX9_join_155 rfl ?_
                  refine sx_icmp_le X 163 dX9_join_156 rfl (fun c14 => ?_) (fun c14 => ?_)
                  · have hf := ob_t hf c14
                    refine sx_iconst X (v := 0) dX9_join_163 rfl ?_
                    refine sx_lsub [] rfl ?_
                    exact R164 0 hf
                  · have hf := ob_f hf c14
                    refine sx_iconst X (v := 1) dX9_join_159 rfl ?_
                    refine sx_goto X 164 dX9_join_160 rfl ?_
                    refine sx_lsub [] rfl ?_
                    exact R164 1 hf
                · have hf := ob_f hf c13
                  by_cases c16 : (smap x0) = 30
                  · have hf := ob_t hf c16
                    refine sx_tin X 168 dX9_join_8 rfl (tin_X9_join_8_8 (smap x0) c16) ?_
                    refine sx_iload_n X 1 rfl dX9_join_168 rfl ?_
                    refine sx_iload_n X 2 rfl dX9_join_169 rfl ?_
                    refine sx_icmp_ne X 177 dX9_join_170 rfl (fun c17 => ?_) (fun c17 => ?_)
                    · have hf := ob_f hf c17
                      refine sx_iconst X (v := 0) dX9_join_177 rfl ?_
                      refine sx_lsub [] rfl ?_
                      exact R178 0 hf
                    · have hf := ob_t hf c17
                      refine sx_iconst X (v := 1) dX9_join_173 rfl ?_
                      refine sx_goto X 178 dX9_join_174 rfl ?_
                      refine sx_lsub [] rfl ?_
                      exact R178 1 hf
                  · have hf := ob_f hf c16
                    by_cases c19 : (smap x0) = 31
                    · have hf := ob_t hf c19
                      refine sx_tin X 182 dX9_join_8 rfl (tin_X9_join_8_9 (smap x0) c19) ?_
                      refine sx_iload_n X 1 rfl dX9_join_182 rfl ?_
                      refine sx_iload_n X 2 rfl dX9_join_183 rfl ?_
                      refine sx_icmp_gt X 191 dX9_join_184 rfl (fun c20 => ?_) (fun c20 => ?_)
                      · have hf := ob_t hf c20
                        refine sx_iconst X (v := 0) dX9_join_191 rfl ?_
                        refine sx_lsub [] rfl ?_
                        exact R192 0 hf
                      · have hf := ob_f hf c20
                        refine sx_iconst X (v := 1) dX9_join_187 rfl ?_
                        refine sx_goto X 192 dX9_join_188 rfl ?_
                        refine sx_lsub [] rfl ?_
                        exact R192 1 hf
                    · have hf := ob_f hf c19
                      by_cases c22 : (smap x0) = 32
                      · have hf := ob_t hf c22
                        refine sx_tin X 196 dX9_join_8 rfl (tin_X9_join_8_10 (smap x0) c22) ?_
                        refine sx_iload_n X 1 rfl dX9_join_196 rfl ?_
                        refine sx_iload_n X 2 rfl dX9_join_197 rfl ?_
                        refine sx_icmp_lt X 205 dX9_join_198 rfl (fun c23 => ?_) (fun c23 => ?_)
                        · have hf := ob_t hf c23
                          refine sx_iconst X (v := 0) dX9_join_205 rfl ?_
                          refine sx_lsub [] rfl ?_
                          exact R206 0 hf
                        · have hf := ob_f hf c23
                          refine sx_iconst X (v := 1) dX9_join_201 rfl ?_
                          refine sx_goto X 206 dX9_join_202 rfl ?_
                          refine sx_lsub [] rfl ?_
                          exact R206 1 hf
                      · have hf := ob_f hf c22
                        by_cases c25 : (smap x0) = 33
                        · have hf := ob_t hf c25
                          refine sx_tin X 210 dX9_join_8 rfl (tin_X9_join_8_11 (smap x0) c25) ?_
                          refine sx_iload_n X 1 rfl dX9_join_210 rfl ?_
                          refine sx_iload_n X 2 rfl dX9_join_211 rfl ?_
                          refine sx_iand X dX9_join_212 ?_
                          exact sx_iret X rfl dX9_join_213 (ob_e hf) rfl rfl
                        · have hf := ob_f hf c25
                          by_cases c26 : (smap x0) = 34
                          · have hf := ob_t hf c26
                            refine sx_tin X 214 dX9_join_8 rfl (tin_X9_join_8_12 (smap x0) c26) ?_
                            refine sx_iload_n X 1 rfl dX9_join_214 rfl ?_
                            refine sx_iload_n X 2 rfl dX9_join_215 rfl ?_
                            refine sx_ior X dX9_join_216 ?_
                            exact sx_iret X rfl dX9_join_217 (ob_e hf) rfl rfl
                          · have hf := ob_f hf c26
                            refine sx_tdef X 218 dX9_join_8 rfl (tab_X9_join_8 (smap x0) c2 c3 c4 c5 c6 c7 c10 c13 c16 c19 c22 c25 c26) ?_
                            refine sx_iconst X (v := 0) dX9_join_218 rfl ?_
                            exact sx_iret X rfl dX9_join_219 (ob_e hf) rfl rfl

abbrev vf_X9_joinTwo (sd : SdT) (_r : (Nat → Int32) × Int32) : Option Value := none
abbrev wc_X9_joinTwo (T : Nat → ClassId) (sd : SdT) (h : Nat) (h_stack : Nat) (b_h : bX9) : va_W := [zO h 7 [.ref h_stack, .int (X9_height b_h)], zI T h_stack 400 (X9_stack b_h)]
abbrev wf_X9_joinTwo (T : Nat → ClassId) (sd : SdT) (h : Nat) (h_stack : Nat) (b_h : bX9) (r : (Nat → Int32) × Int32) : va_W := [zO h 7 [.ref h_stack, .int r.2], zI T h_stack 400 r.1]
abbrev rm_X9_joinTwo : Room := { frames := 2, cells := 0, slots := 0, locals := 43 }
theorem hd_X9_joinTwo : yX9_joinTwo.cls ≠ "java/lang/invoke/MethodHandle" ∧ yX9_joinTwo.cls ≠ "java/lang/invoke/VarHandle" ∧ (parseMethodDescriptor yX9_joinTwo.desc).map (fun d => d.parameters.length) = some 1 := ⟨by decide, by decide, by decide +kernel⟩
set_option maxHeartbeats 4000000 in
set_option maxRecDepth 100000 in
theorem c_X9_joinTwo {l : Launch} {D : va_G} {T : Nat → ClassId} {sd : SdT} (h : Nat) (h_stack : Nat) (x0 : Nat) (b_h : bX9) {res : (Nat → Int32) × Int32} (hf : f_X9_joinTwo x0 b_h = some res) : SxK (SFx sd) l D T yX9_joinTwo cX9_joinTwo 4 none rm_X9_joinTwo [.ref h, .ref (sd.1 x0)] (wc_X9_joinTwo T sd h h_stack b_h) (vf_X9_joinTwo sd) (wf_X9_joinTwo T sd h h_stack b_h) res 0 0 := by
  refine sx_start (SFx_ok sd) (by decide +kernel) (Nat.le_of_ble_eq_true rfl) (fun p e s m args below meth c A X hnm => ?_)
  have hf := ob_1 hf
  refine sx_aload_n X 0 rfl dX9_joinTwo_0 rfl ?_
  obtain ⟨u1, hu1, hf⟩ := ob_c hf
  refine sx_cV X (c_X9_pop (l := l) (D := D) (T := T) (sd := sd) h h_stack b_h hu1) (st' := [.int u1.1]) (q0 := 0) qm_581 qm_583 qm_5 qm_19 qm_584 hd_X9_pop ⟨rfl, rfl⟩ ⟨Nat.le_of_ble_eq_true rfl, Nat.le_of_ble_eq_true rfl⟩ rfl rfl (Nat.le_of_ble_eq_true rfl) rfl rfl rfl [0, 1] rfl rfl (ws' := [zO h 7 [.ref h_stack, .int u1.2], zI T h_stack 400 (X9_stack b_h)]) (sxPatch_pk [(true, 0), (true, 1)] (by decide +kernel) rfl rfl rfl) rfl ⟨Nat.le_of_ble_eq_true rfl, Nat.le_of_ble_eq_true rfl⟩ dX9_joinTwo_1 rfl ?_
  refine sx_istore_n X (lv' := [(2, .int u1.1), (0, .ref h), (1, .ref (sd.1 x0))]) dX9_joinTwo_4 rfl (by decide) rfl ?_
  refine sx_aload_n X 1 rfl dX9_joinTwo_5 rfl ?_
  obtain ⟨u2, hu2, hf⟩ := ob_c hf
  refine sx_cV X (c_X9_pop (l := l) (D := D) (T := T) (sd := sd) h h_stack ((X9_stack b_h), u1.2) hu2) (st' := [.int u2.1]) (q0 := 0) qm_581 qm_583 qm_5 qm_19 qm_584 hd_X9_pop ⟨rfl, rfl⟩ ⟨Nat.le_of_ble_eq_true rfl, Nat.le_of_ble_eq_true rfl⟩ rfl rfl (Nat.le_of_ble_eq_true rfl) rfl rfl rfl [0, 1] rfl rfl (ws' := [zO h 7 [.ref h_stack, .int u2.2], zI T h_stack 400 (X9_stack b_h)]) (sxPatch_pk [(true, 0), (true, 1)] (by decide +kernel) rfl rfl rfl) rfl ⟨Nat.le_of_ble_eq_true rfl, Nat.le_of_ble_eq_true rfl⟩ dX9_joinTwo_6 rfl ?_
  refine sx_istore_n X (lv' := [(3, .int u2.1), (2, .int u1.1), (0, .ref h), (1, .ref (sd.1 x0))]) dX9_joinTwo_9 rfl (by decide) rfl ?_
  refine sx_aload_n X 2 rfl dX9_joinTwo_10 rfl ?_
  refine sx_aload_n X 3 rfl dX9_joinTwo_11 rfl ?_
  refine sx_iload_n X 0 rfl dX9_joinTwo_12 rfl ?_
  refine sx_iload_n X 1 rfl dX9_joinTwo_13 rfl ?_
  obtain ⟨u3, hu3, hf⟩ := ob_c hf
  refine sx_cSr X (c_X9_join (l := l) (D := D) (T := T) (sd := sd) x0 u2.1 u1.1 hu3) (st' := [.int u3, .ref h]) qm_590 qm_591 qm_19 qm_592 hd_X9_join ⟨rfl, rfl⟩ ⟨Nat.le_of_ble_eq_true rfl, Nat.le_of_ble_eq_true rfl⟩ rfl rfl (Nat.le_of_ble_eq_true rfl) [] rfl rfl rfl ⟨Nat.le_of_ble_eq_true rfl, Nat.le_of_ble_eq_true rfl⟩ dX9_joinTwo_14 rfl ?_
  obtain ⟨u4, hu4, hf⟩ := ob_c hf
  refine sx_cV X (c_X9_push (l := l) (D := D) (T := T) (sd := sd) h h_stack u3 ((X9_stack b_h), u2.2) hu4) (st' := []) (q0 := 0) qm_568 qm_570 qm_4 qm_19 qm_571 hd_X9_push ⟨rfl, rfl⟩ ⟨Nat.le_of_ble_eq_true rfl, Nat.le_of_ble_eq_true rfl⟩ rfl rfl (Nat.le_of_ble_eq_true rfl) rfl rfl rfl [0, 1] rfl rfl (ws' := [zO h 7 [.ref h_stack, .int u4.2], zI T h_stack 400 u4.1]) (sxPatch_pk [(true, 0), (true, 1)] (by decide +kernel) rfl rfl rfl) rfl ⟨Nat.le_of_ble_eq_true rfl, Nat.le_of_ble_eq_true rfl⟩ dX9_joinTwo_17 rfl ?_
  exact sx_vret X dX9_joinTwo_20 (ob_e hf) rfl rfl

abbrev vf_X9_step (sd : SdT) (_r : (Nat → Int32) × Int32) : Option Value := none
abbrev wc_X9_step (T : Nat → ClassId) (sd : SdT) (h : Nat) (h_stack : Nat) (a2 : Nat) (a2_reckoner : Nat) (a2_plan : Nat) (a2_frontSteeped : Nat) (a2_guestServed : Nat) (a2_guestStormed : Nat) (a2_plan_fronts : Nat) (a2_plan_guests : Nat) (a2_plan_orders : Nat) (a2_plan_fronts_names : Nat) (a2_plan_fronts_warm : Nat) (a2_plan_fronts_force : Nat) (a2_plan_fronts_from : Nat) (a2_plan_fronts_hours : Nat) (a2_plan_guests_names : Nat) (a2_plan_guests_from : Nat) (a2_plan_guests_weakest : Nat) (a2_plan_guests_strongest : Nat) (a2_plan_guests_nerve : Nat) (b_h : bX9) (b_a2 : bX8) (b_a2_plan_fronts : bX2) (b_a2_plan_guests : bX4) : va_W := [zO h 7 [.ref h_stack, .int (X9_height b_h)], zI T h_stack 400 (X9_stack b_h), zO a2 6 [.ref a2_reckoner, .ref a2_plan, .int (X8_hour b_a2), .int (X8_warmth b_a2), .int (X8_strength b_a2), .int (X8_charge b_a2), .int (X8_lemons b_a2), .int (X8_saucers b_a2), .int (X8_coins b_a2), .int (X8_storms b_a2), .ref a2_frontSteeped, .ref a2_guestServed, .ref a2_guestStormed], zZ T a2_frontSteeped 10 (X8_frontSteeped b_a2), zZ T a2_guestServed 10 (X8_guestServed b_a2), zZ T a2_guestStormed 10 (X8_guestStormed b_a2), zO a2_plan 5 [.ref a2_plan_fronts, .ref a2_plan_guests, .ref a2_plan_orders], zO a2_plan_fronts 2 [.ref a2_plan_fronts_names, .ref a2_plan_fronts_warm, .ref a2_plan_fronts_force, .ref a2_plan_fronts_from, .ref a2_plan_fronts_hours, .int (X2_count b_a2_plan_fronts)], zJ T a2_plan_fronts_names 10 (X2_names b_a2_plan_fronts), zZ T a2_plan_fronts_warm 10 (X2_warm b_a2_plan_fronts), zI T a2_plan_fronts_force 10 (X2_force b_a2_plan_fronts), zI T a2_plan_fronts_from 10 (X2_from b_a2_plan_fronts), zI T a2_plan_fronts_hours 10 (X2_hours b_a2_plan_fronts), zO a2_plan_guests 3 [.ref a2_plan_guests_names, .ref a2_plan_guests_from, .ref a2_plan_guests_weakest, .ref a2_plan_guests_strongest, .ref a2_plan_guests_nerve, .int (X4_count b_a2_plan_guests)], zJ T a2_plan_guests_names 10 (X4_names b_a2_plan_guests), zI T a2_plan_guests_from 10 (X4_from b_a2_plan_guests), zI T a2_plan_guests_weakest 10 (X4_weakest b_a2_plan_guests), zI T a2_plan_guests_strongest 10 (X4_strongest b_a2_plan_guests), zI T a2_plan_guests_nerve 10 (X4_nerve b_a2_plan_guests)]
abbrev wf_X9_step (T : Nat → ClassId) (sd : SdT) (h : Nat) (h_stack : Nat) (a2 : Nat) (a2_reckoner : Nat) (a2_plan : Nat) (a2_frontSteeped : Nat) (a2_guestServed : Nat) (a2_guestStormed : Nat) (a2_plan_fronts : Nat) (a2_plan_guests : Nat) (a2_plan_orders : Nat) (a2_plan_fronts_names : Nat) (a2_plan_fronts_warm : Nat) (a2_plan_fronts_force : Nat) (a2_plan_fronts_from : Nat) (a2_plan_fronts_hours : Nat) (a2_plan_guests_names : Nat) (a2_plan_guests_from : Nat) (a2_plan_guests_weakest : Nat) (a2_plan_guests_strongest : Nat) (a2_plan_guests_nerve : Nat) (b_h : bX9) (b_a2 : bX8) (b_a2_plan_fronts : bX2) (b_a2_plan_guests : bX4) (r : (Nat → Int32) × Int32) : va_W := [zO h 7 [.ref h_stack, .int r.2], zI T h_stack 400 r.1, zO a2 6 [.ref a2_reckoner, .ref a2_plan, .int (X8_hour b_a2), .int (X8_warmth b_a2), .int (X8_strength b_a2), .int (X8_charge b_a2), .int (X8_lemons b_a2), .int (X8_saucers b_a2), .int (X8_coins b_a2), .int (X8_storms b_a2), .ref a2_frontSteeped, .ref a2_guestServed, .ref a2_guestStormed], zZ T a2_frontSteeped 10 (X8_frontSteeped b_a2), zZ T a2_guestServed 10 (X8_guestServed b_a2), zZ T a2_guestStormed 10 (X8_guestStormed b_a2), zO a2_plan 5 [.ref a2_plan_fronts, .ref a2_plan_guests, .ref a2_plan_orders], zO a2_plan_fronts 2 [.ref a2_plan_fronts_names, .ref a2_plan_fronts_warm, .ref a2_plan_fronts_force, .ref a2_plan_fronts_from, .ref a2_plan_fronts_hours, .int (X2_count b_a2_plan_fronts)], zJ T a2_plan_fronts_names 10 (X2_names b_a2_plan_fronts), zZ T a2_plan_fronts_warm 10 (X2_warm b_a2_plan_fronts), zI T a2_plan_fronts_force 10 (X2_force b_a2_plan_fronts), zI T a2_plan_fronts_from 10 (X2_from b_a2_plan_fronts), zI T a2_plan_fronts_hours 10 (X2_hours b_a2_plan_fronts), zO a2_plan_guests 3 [.ref a2_plan_guests_names, .ref a2_plan_guests_from, .ref a2_plan_guests_weakest, .ref a2_plan_guests_strongest, .ref a2_plan_guests_nerve, .int (X4_count b_a2_plan_guests)], zJ T a2_plan_guests_names 10 (X4_names b_a2_plan_guests), zI T a2_plan_guests_from 10 (X4_from b_a2_plan_guests), zI T a2_plan_guests_weakest 10 (X4_weakest b_a2_plan_guests), zI T a2_plan_guests_strongest 10 (X4_strongest b_a2_plan_guests), zI T a2_plan_guests_nerve 10 (X4_nerve b_a2_plan_guests)]
abbrev rm_X9_step : Room := { frames := 4, cells := 0, slots := 0, locals := 87 }
theorem hd_X9_step : yX9_step.cls ≠ "java/lang/invoke/MethodHandle" ∧ yX9_step.cls ≠ "java/lang/invoke/VarHandle" ∧ (parseMethodDescriptor yX9_step.desc).map (fun d => d.parameters.length) = some 3 := ⟨by decide, by decide, by decide +kernel⟩
theorem tin_X9_step_8_0 (x : Int32) (h : x = 1) : SxIn (1) (24) #[133, 167, 120, 120, 120, 112, 120, 120, 120, 120, 120, 120, 120, 120, 167, 167, 167, 167, 167, 167, 167, 167, 167, 155] (133) x := by
  rcases h with rfl <;> exact ⟨by decide, by decide, by decide⟩
theorem tin_X9_step_8_1 (x : Int32) (h : x = 3 ∨ x = 4 ∨ x = 5 ∨ x = 7 ∨ x = 8 ∨ x = 9 ∨ x = 10 ∨ x = 11 ∨ x = 12 ∨ x = 13 ∨ x = 14) : SxIn (1) (24) #[133, 167, 120, 120, 120, 112, 120, 120, 120, 120, 120, 120, 120, 120, 167, 167, 167, 167, 167, 167, 167, 167, 167, 155] (120) x := by
  rcases h with rfl | rfl | rfl | rfl | rfl | rfl | rfl | rfl | rfl | rfl | rfl <;> exact ⟨by decide, by decide, by decide⟩
theorem tin_X9_step_8_2 (x : Int32) (h : x = 6) : SxIn (1) (24) #[133, 167, 120, 120, 120, 112, 120, 120, 120, 120, 120, 120, 120, 120, 167, 167, 167, 167, 167, 167, 167, 167, 167, 155] (112) x := by
  rcases h with rfl <;> exact ⟨by decide, by decide, by decide⟩
theorem tin_X9_step_8_3 (x : Int32) (h : x = 24) : SxIn (1) (24) #[133, 167, 120, 120, 120, 112, 120, 120, 120, 120, 120, 120, 120, 120, 167, 167, 167, 167, 167, 167, 167, 167, 167, 155] (155) x := by
  rcases h with rfl <;> exact ⟨by decide, by decide, by decide⟩
theorem tab_X9_step_8 (x : Int32) (c0 : ¬ (x = 1)) (c1 : ¬ (x = 3 ∨ x = 4 ∨ x = 5 ∨ x = 7 ∨ x = 8 ∨ x = 9 ∨ x = 10 ∨ x = 11 ∨ x = 12 ∨ x = 13 ∨ x = 14)) (c2 : ¬ (x = 6)) (c3 : ¬ (x = 24)) : SxTab (1) (24) #[133, 167, 120, 120, 120, 112, 120, 120, 120, 120, 120, 120, 120, 120, 167, 167, 167, 167, 167, 167, 167, 167, 167, 155] (167) x := by
  refine sx_tabd [1, 3, 4, 5, 7, 8, 9, 10, 11, 12, 13, 14, 6, 24] x (by decide +kernel) (fun v hv e => ?_)
  simp only [List.mem_cons, List.not_mem_nil, or_false] at hv
  rcases hv with h | h | h | h | h | h | h | h | h | h | h | h | h | h
  · exact c0 (e.trans h)
  · exact c1 (Or.inl (e.trans h))
  · exact c1 (Or.inr (Or.inl (e.trans h)))
  · exact c1 (Or.inr (Or.inr (Or.inl (e.trans h))))
  · exact c1 (Or.inr (Or.inr (Or.inr (Or.inl (e.trans h)))))
  · exact c1 (Or.inr (Or.inr (Or.inr (Or.inr (Or.inl (e.trans h))))))
  · exact c1 (Or.inr (Or.inr (Or.inr (Or.inr (Or.inr (Or.inl (e.trans h)))))))
  · exact c1 (Or.inr (Or.inr (Or.inr (Or.inr (Or.inr (Or.inr (Or.inl (e.trans h))))))))
  · exact c1 (Or.inr (Or.inr (Or.inr (Or.inr (Or.inr (Or.inr (Or.inr (Or.inl (e.trans h)))))))))
  · exact c1 (Or.inr (Or.inr (Or.inr (Or.inr (Or.inr (Or.inr (Or.inr (Or.inr (Or.inl (e.trans h))))))))))
  · exact c1 (Or.inr (Or.inr (Or.inr (Or.inr (Or.inr (Or.inr (Or.inr (Or.inr (Or.inr (Or.inl (e.trans h)))))))))))
  · exact c1 (Or.inr (Or.inr (Or.inr (Or.inr (Or.inr (Or.inr (Or.inr (Or.inr (Or.inr (Or.inr (e.trans h)))))))))))
  · exact c2 (e.trans h)
  · exact c3 (e.trans h)
set_option maxHeartbeats 4000000 in
set_option maxRecDepth 100000 in
theorem c_X9_step {l : Launch} {D : va_G} {T : Nat → ClassId} {sd : SdT} (h : Nat) (h_stack : Nat) (a2 : Nat) (a2_reckoner : Nat) (a2_plan : Nat) (a2_frontSteeped : Nat) (a2_guestServed : Nat) (a2_guestStormed : Nat) (a2_plan_fronts : Nat) (a2_plan_guests : Nat) (a2_plan_orders : Nat) (a2_plan_fronts_names : Nat) (a2_plan_fronts_warm : Nat) (a2_plan_fronts_force : Nat) (a2_plan_fronts_from : Nat) (a2_plan_fronts_hours : Nat) (a2_plan_guests_names : Nat) (a2_plan_guests_from : Nat) (a2_plan_guests_weakest : Nat) (a2_plan_guests_strongest : Nat) (a2_plan_guests_nerve : Nat) (x0 : Nat) (x1 : Int32) (b_h : bX9) (b_a2 : bX8) (b_a2_plan_fronts : bX2) (b_a2_plan_guests : bX4) {res : (Nat → Int32) × Int32} (hf : f_X9_step x0 x1 b_h b_a2 b_a2_plan_fronts b_a2_plan_guests = some res) : SxK (SFx sd) l D T yX9_step cX9_step 4 none rm_X9_step [.ref h, .ref (sd.1 x0), .int x1, .ref a2] (wc_X9_step T sd h h_stack a2 a2_reckoner a2_plan a2_frontSteeped a2_guestServed a2_guestStormed a2_plan_fronts a2_plan_guests a2_plan_orders a2_plan_fronts_names a2_plan_fronts_warm a2_plan_fronts_force a2_plan_fronts_from a2_plan_fronts_hours a2_plan_guests_names a2_plan_guests_from a2_plan_guests_weakest a2_plan_guests_strongest a2_plan_guests_nerve b_h b_a2 b_a2_plan_fronts b_a2_plan_guests) (vf_X9_step sd) (wf_X9_step T sd h h_stack a2 a2_reckoner a2_plan a2_frontSteeped a2_guestServed a2_guestStormed a2_plan_fronts a2_plan_guests a2_plan_orders a2_plan_fronts_names a2_plan_fronts_warm a2_plan_fronts_force a2_plan_fronts_from a2_plan_fronts_hours a2_plan_guests_names a2_plan_guests_from a2_plan_guests_weakest a2_plan_guests_strongest a2_plan_guests_nerve b_h b_a2 b_a2_plan_fronts b_a2_plan_guests) res 0 0 := by
  refine sx_start (SFx_ok sd) (by decide +kernel) (Nat.le_of_ble_eq_true rfl) (fun p e s m args below meth c A X hnm => ?_)
  have hf := ob_1 hf
  have R154 : ∀ (w_h_stack : Nat → Int32) (w_h_height : Int32) (t0 : Int32), (f_X9_step_R154 x0 x1 b_h b_a2 b_a2_plan_fronts b_a2_plan_guests w_h_stack w_h_height t0).bind some = some res → SxG p l e rm_X9_step s m args below meth c D A 4 0 0 (SxE below args s D A (vf_X9_step sd) (wf_X9_step T sd h h_stack a2 a2_reckoner a2_plan a2_frontSteeped a2_guestServed a2_guestStormed a2_plan_fronts a2_plan_guests a2_plan_orders a2_plan_fronts_names a2_plan_fronts_warm a2_plan_fronts_force a2_plan_fronts_from a2_plan_fronts_hours a2_plan_guests_names a2_plan_guests_from a2_plan_guests_weakest a2_plan_guests_strongest a2_plan_guests_nerve b_h b_a2 b_a2_plan_fronts b_a2_plan_guests) res 0 0) [zO h 7 [.ref h_stack, .int w_h_height], zI T h_stack 400 w_h_stack, zO a2 6 [.ref a2_reckoner, .ref a2_plan, .int (X8_hour b_a2), .int (X8_warmth b_a2), .int (X8_strength b_a2), .int (X8_charge b_a2), .int (X8_lemons b_a2), .int (X8_saucers b_a2), .int (X8_coins b_a2), .int (X8_storms b_a2), .ref a2_frontSteeped, .ref a2_guestServed, .ref a2_guestStormed], zZ T a2_frontSteeped 10 (X8_frontSteeped b_a2), zZ T a2_guestServed 10 (X8_guestServed b_a2), zZ T a2_guestStormed 10 (X8_guestStormed b_a2), zO a2_plan 5 [.ref a2_plan_fronts, .ref a2_plan_guests, .ref a2_plan_orders], zO a2_plan_fronts 2 [.ref a2_plan_fronts_names, .ref a2_plan_fronts_warm, .ref a2_plan_fronts_force, .ref a2_plan_fronts_from, .ref a2_plan_fronts_hours, .int (X2_count b_a2_plan_fronts)], zJ T a2_plan_fronts_names 10 (X2_names b_a2_plan_fronts), zZ T a2_plan_fronts_warm 10 (X2_warm b_a2_plan_fronts), zI T a2_plan_fronts_force 10 (X2_force b_a2_plan_fronts), zI T a2_plan_fronts_from 10 (X2_from b_a2_plan_fronts), zI T a2_plan_fronts_hours 10 (X2_hours b_a2_plan_fronts), zO a2_plan_guests 3 [.ref a2_plan_guests_names, .ref a2_plan_guests_from, .ref a2_plan_guests_weakest, .ref a2_plan_guests_strongest, .ref a2_plan_guests_nerve, .int (X4_count b_a2_plan_guests)], zJ T a2_plan_guests_names 10 (X4_names b_a2_plan_guests), zI T a2_plan_guests_from 10 (X4_from b_a2_plan_guests), zI T a2_plan_guests_weakest 10 (X4_weakest b_a2_plan_guests), zI T a2_plan_guests_strongest 10 (X4_strongest b_a2_plan_guests), zI T a2_plan_guests_nerve 10 (X4_nerve b_a2_plan_guests)] [] 154 [.int t0, .ref h] := by
    intro w_h_stack w_h_height t0 hf
    obtain ⟨u5, hu5, hf⟩ := ob_c hf
    refine sx_cNr X (c_X12_oneIf (l := l) (D := D) (T := T) (sd := sd) t0 hu5) (st' := [.int u5, .ref h]) (X.sf.2.2.1.2.1 _ (List.mem_of_getElem? (i := 1) rfl)) qm_393 qm_13 qm_394 hd_X12_oneIf ⟨rfl, rfl⟩ ⟨Nat.le_of_ble_eq_true rfl, Nat.le_of_ble_eq_true rfl⟩ rfl rfl (Nat.le_of_ble_eq_true rfl) [] rfl rfl rfl ⟨Nat.le_of_ble_eq_true rfl, Nat.le_of_ble_eq_true rfl⟩ dX9_step_154 rfl ?_
    obtain ⟨u6, hu6, hf⟩ := ob_c hf
    refine sx_cV X (c_X9_push (l := l) (D := D) (T := T) (sd := sd) h h_stack u5 (w_h_stack, w_h_height) hu6) (st' := []) (q0 := 0) qm_568 qm_570 qm_4 qm_19 qm_571 hd_X9_push ⟨rfl, rfl⟩ ⟨Nat.le_of_ble_eq_true rfl, Nat.le_of_ble_eq_true rfl⟩ rfl rfl (Nat.le_of_ble_eq_true rfl) rfl rfl rfl [0, 1] rfl rfl (ws' := [zO h 7 [.ref h_stack, .int u6.2], zI T h_stack 400 u6.1, zO a2 6 [.ref a2_reckoner, .ref a2_plan, .int (X8_hour b_a2), .int (X8_warmth b_a2), .int (X8_strength b_a2), .int (X8_charge b_a2), .int (X8_lemons b_a2), .int (X8_saucers b_a2), .int (X8_coins b_a2), .int (X8_storms b_a2), .ref a2_frontSteeped, .ref a2_guestServed, .ref a2_guestStormed], zZ T a2_frontSteeped 10 (X8_frontSteeped b_a2), zZ T a2_guestServed 10 (X8_guestServed b_a2), zZ T a2_guestStormed 10 (X8_guestStormed b_a2), zO a2_plan 5 [.ref a2_plan_fronts, .ref a2_plan_guests, .ref a2_plan_orders], zO a2_plan_fronts 2 [.ref a2_plan_fronts_names, .ref a2_plan_fronts_warm, .ref a2_plan_fronts_force, .ref a2_plan_fronts_from, .ref a2_plan_fronts_hours, .int (X2_count b_a2_plan_fronts)], zJ T a2_plan_fronts_names 10 (X2_names b_a2_plan_fronts), zZ T a2_plan_fronts_warm 10 (X2_warm b_a2_plan_fronts), zI T a2_plan_fronts_force 10 (X2_force b_a2_plan_fronts), zI T a2_plan_fronts_from 10 (X2_from b_a2_plan_fronts), zI T a2_plan_fronts_hours 10 (X2_hours b_a2_plan_fronts), zO a2_plan_guests 3 [.ref a2_plan_guests_names, .ref a2_plan_guests_from, .ref a2_plan_guests_weakest, .ref a2_plan_guests_strongest, .ref a2_plan_guests_nerve, .int (X4_count b_a2_plan_guests)], zJ T a2_plan_guests_names 10 (X4_names b_a2_plan_guests), zI T a2_plan_guests_from 10 (X4_from b_a2_plan_guests), zI T a2_plan_guests_weakest 10 (X4_weakest b_a2_plan_guests), zI T a2_plan_guests_strongest 10 (X4_strongest b_a2_plan_guests), zI T a2_plan_guests_nerve 10 (X4_nerve b_a2_plan_guests)]) (sxPatch_pk [(true, 0), (true, 1), (false, 2), (false, 3), (false, 4), (false, 5), (false, 6), (false, 7), (false, 8), (false, 9), (false, 10), (false, 11), (false, 12), (false, 13), (false, 14), (false, 15), (false, 16), (false, 17), (false, 18)] (by decide +kernel) rfl rfl rfl) rfl ⟨Nat.le_of_ble_eq_true rfl, Nat.le_of_ble_eq_true rfl⟩ dX9_step_157 rfl ?_
    refine sx_goto X 180 dX9_step_160 rfl ?_
    exact sx_vret X dX9_step_180 (ob_e hf) rfl rfl
  refine sx_mst X qm_560 dX9_step_0 ?_
  refine sx_aload_n X 1 rfl dX9_step_3 rfl ?_
  obtain ⟨g1, hf⟩ := ob_h hf
  refine sx_ord X x0 g1 qm_562 (Nat.le_of_ble_eq_true rfl) (Nat.le_of_ble_eq_true rfl) (Nat.le_of_ble_eq_true rfl) (Nat.zero_le _) (Nat.zero_le _) dX9_step_4 ?_
  refine sx_mld X x0 g1 dX9_step_7 ?_
  by_cases c2 : (smap x0) = 1
  · have hf := ob_t hf c2
    refine sx_tin X 141 dX9_step_8 rfl (tin_X9_step_8_0 (smap x0) c2) ?_
    refine sx_aload_n X 0 rfl dX9_step_141 rfl ?_
    refine sx_aload_n X 0 rfl dX9_step_142 rfl ?_
    obtain ⟨u3, hu3, hf⟩ := ob_c hf
    refine sx_cV X (c_X9_pop (l := l) (D := D) (T := T) (sd := sd) h h_stack b_h hu3) (st' := [.int u3.1, .ref h]) (q0 := 0) qm_581 qm_583 qm_5 qm_19 qm_584 hd_X9_pop ⟨rfl, rfl⟩ ⟨Nat.le_of_ble_eq_true rfl, Nat.le_of_ble_eq_true rfl⟩ rfl rfl (Nat.le_of_ble_eq_true rfl) rfl rfl rfl [0, 1] rfl rfl (ws' := [zO h 7 [.ref h_stack, .int u3.2], zI T h_stack 400 (X9_stack b_h), zO a2 6 [.ref a2_reckoner, .ref a2_plan, .int (X8_hour b_a2), .int (X8_warmth b_a2), .int (X8_strength b_a2), .int (X8_charge b_a2), .int (X8_lemons b_a2), .int (X8_saucers b_a2), .int (X8_coins b_a2), .int (X8_storms b_a2), .ref a2_frontSteeped, .ref a2_guestServed, .ref a2_guestStormed], zZ T a2_frontSteeped 10 (X8_frontSteeped b_a2), zZ T a2_guestServed 10 (X8_guestServed b_a2), zZ T a2_guestStormed 10 (X8_guestStormed b_a2), zO a2_plan 5 [.ref a2_plan_fronts, .ref a2_plan_guests, .ref a2_plan_orders], zO a2_plan_fronts 2 [.ref a2_plan_fronts_names, .ref a2_plan_fronts_warm, .ref a2_plan_fronts_force, .ref a2_plan_fronts_from, .ref a2_plan_fronts_hours, .int (X2_count b_a2_plan_fronts)], zJ T a2_plan_fronts_names 10 (X2_names b_a2_plan_fronts), zZ T a2_plan_fronts_warm 10 (X2_warm b_a2_plan_fronts), zI T a2_plan_fronts_force 10 (X2_force b_a2_plan_fronts), zI T a2_plan_fronts_from 10 (X2_from b_a2_plan_fronts), zI T a2_plan_fronts_hours 10 (X2_hours b_a2_plan_fronts), zO a2_plan_guests 3 [.ref a2_plan_guests_names, .ref a2_plan_guests_from, .ref a2_plan_guests_weakest, .ref a2_plan_guests_strongest, .ref a2_plan_guests_nerve, .int (X4_count b_a2_plan_guests)], zJ T a2_plan_guests_names 10 (X4_names b_a2_plan_guests), zI T a2_plan_guests_from 10 (X4_from b_a2_plan_guests), zI T a2_plan_guests_weakest 10 (X4_weakest b_a2_plan_guests), zI T a2_plan_guests_strongest 10 (X4_strongest b_a2_plan_guests), zI T a2_plan_guests_nerve 10 (X4_nerve b_a2_plan_guests)]) (sxPatch_pk [(true, 0), (true, 1), (false, 2), (false, 3), (false, 4), (false, 5), (false, 6), (false, 7), (false, 8), (false, 9), (false, 10), (false, 11), (false, 12), (false, 13), (false, 14), (false, 15), (false, 16), (false, 17), (false, 18)] (by decide +kernel) rfl rfl rfl) rfl ⟨Nat.le_of_ble_eq_true rfl, Nat.le_of_ble_eq_true rfl⟩ dX9_step_143 rfl ?_
    refine sx_if_ne X 153 dX9_step_146 rfl (fun c4 => ?_) (fun c4 => ?_)
    · have hf := ob_f hf c4
      refine sx_iconst X (v := 0) dX9_step_153 rfl ?_
      refine sx_lsub [] rfl ?_
      exact R154 (X9_stack b_h) u3.2 0 hf
    · have hf := ob_t hf c4
      refine sx_iconst X (v := 1) dX9_step_149 rfl ?_
      refine sx_goto X 154 dX9_step_150 rfl ?_
      refine sx_lsub [] rfl ?_
      exact R154 (X9_stack b_h) u3.2 1 hf
  · have hf := ob_f hf c2
    by_cases c7 : (smap x0) = 3 ∨ (smap x0) = 4 ∨ (smap x0) = 5 ∨ (smap x0) = 7 ∨ (smap x0) = 8 ∨ (smap x0) = 9 ∨ (smap x0) = 10 ∨ (smap x0) = 11 ∨ (smap x0) = 12 ∨ (smap x0) = 13 ∨ (smap x0) = 14
    · have hf := ob_t hf c7
      refine sx_tin X 128 dX9_step_8 rfl (tin_X9_step_8_1 (smap x0) c7) ?_
      refine sx_aload_n X 0 rfl dX9_step_128 rfl ?_
      refine sx_aload_n X 3 rfl dX9_step_129 rfl ?_
      refine sx_aload_n X 1 rfl dX9_step_130 rfl ?_
      refine sx_iload_n X 2 rfl dX9_step_131 rfl ?_
      obtain ⟨u8, hu8, hf⟩ := ob_c hf
      refine sx_cVr X (c_X8_standsFor (l := l) (D := D) (T := T) (sd := sd) a2 a2_reckoner a2_plan a2_frontSteeped a2_guestServed a2_guestStormed a2_plan_fronts a2_plan_guests a2_plan_orders a2_plan_fronts_names a2_plan_fronts_warm a2_plan_fronts_force a2_plan_fronts_from a2_plan_fronts_hours a2_plan_guests_names a2_plan_guests_from a2_plan_guests_weakest a2_plan_guests_strongest a2_plan_guests_nerve x0 x1 b_a2 b_a2_plan_fronts b_a2_plan_guests hu8) (st' := [.int u8, .ref h]) (q0 := 2) qm_572 qm_573 qm_574 qm_18 qm_575 hd_X8_standsFor ⟨rfl, rfl⟩ ⟨Nat.le_of_ble_eq_true rfl, Nat.le_of_ble_eq_true rfl⟩ rfl rfl (Nat.le_of_ble_eq_true rfl) rfl rfl rfl [2, 3, 4, 5, 6, 7, 8, 9, 10, 11, 12, 13, 14, 15, 16, 17, 18] rfl rfl rfl ⟨Nat.le_of_ble_eq_true rfl, Nat.le_of_ble_eq_true rfl⟩ dX9_step_132 rfl ?_
      obtain ⟨u9, hu9, hf⟩ := ob_c hf
      refine sx_cV X (c_X9_push (l := l) (D := D) (T := T) (sd := sd) h h_stack u8 b_h hu9) (st' := []) (q0 := 0) qm_568 qm_570 qm_4 qm_19 qm_571 hd_X9_push ⟨rfl, rfl⟩ ⟨Nat.le_of_ble_eq_true rfl, Nat.le_of_ble_eq_true rfl⟩ rfl rfl (Nat.le_of_ble_eq_true rfl) rfl rfl rfl [0, 1] rfl rfl (ws' := [zO h 7 [.ref h_stack, .int u9.2], zI T h_stack 400 u9.1, zO a2 6 [.ref a2_reckoner, .ref a2_plan, .int (X8_hour b_a2), .int (X8_warmth b_a2), .int (X8_strength b_a2), .int (X8_charge b_a2), .int (X8_lemons b_a2), .int (X8_saucers b_a2), .int (X8_coins b_a2), .int (X8_storms b_a2), .ref a2_frontSteeped, .ref a2_guestServed, .ref a2_guestStormed], zZ T a2_frontSteeped 10 (X8_frontSteeped b_a2), zZ T a2_guestServed 10 (X8_guestServed b_a2), zZ T a2_guestStormed 10 (X8_guestStormed b_a2), zO a2_plan 5 [.ref a2_plan_fronts, .ref a2_plan_guests, .ref a2_plan_orders], zO a2_plan_fronts 2 [.ref a2_plan_fronts_names, .ref a2_plan_fronts_warm, .ref a2_plan_fronts_force, .ref a2_plan_fronts_from, .ref a2_plan_fronts_hours, .int (X2_count b_a2_plan_fronts)], zJ T a2_plan_fronts_names 10 (X2_names b_a2_plan_fronts), zZ T a2_plan_fronts_warm 10 (X2_warm b_a2_plan_fronts), zI T a2_plan_fronts_force 10 (X2_force b_a2_plan_fronts), zI T a2_plan_fronts_from 10 (X2_from b_a2_plan_fronts), zI T a2_plan_fronts_hours 10 (X2_hours b_a2_plan_fronts), zO a2_plan_guests 3 [.ref a2_plan_guests_names, .ref a2_plan_guests_from, .ref a2_plan_guests_weakest, .ref a2_plan_guests_strongest, .ref a2_plan_guests_nerve, .int (X4_count b_a2_plan_guests)], zJ T a2_plan_guests_names 10 (X4_names b_a2_plan_guests), zI T a2_plan_guests_from 10 (X4_from b_a2_plan_guests), zI T a2_plan_guests_weakest 10 (X4_weakest b_a2_plan_guests), zI T a2_plan_guests_strongest 10 (X4_strongest b_a2_plan_guests), zI T a2_plan_guests_nerve 10 (X4_nerve b_a2_plan_guests)]) (sxPatch_pk [(true, 0), (true, 1), (false, 2), (false, 3), (false, 4), (false, 5), (false, 6), (false, 7), (false, 8), (false, 9), (false, 10), (false, 11), (false, 12), (false, 13), (false, 14), (false, 15), (false, 16), (false, 17), (false, 18)] (by decide +kernel) rfl rfl rfl) rfl ⟨Nat.le_of_ble_eq_true rfl, Nat.le_of_ble_eq_true rfl⟩ dX9_step_135 rfl ?_
      refine sx_goto X 180 dX9_step_138 rfl ?_
      exact sx_vret X dX9_step_180 (ob_e hf) rfl rfl
    · have hf := ob_f hf c7
      by_cases c10 : (smap x0) = 6
      · have hf := ob_t hf c10
        refine sx_tin X 120 dX9_step_8 rfl (tin_X9_step_8_2 (smap x0) c10) ?_
        refine sx_aload_n X 0 rfl dX9_step_120 rfl ?_
        refine sx_iload_n X 2 rfl dX9_step_121 rfl ?_
        obtain ⟨u11, hu11, hf⟩ := ob_c hf
        refine sx_cV X (c_X9_push (l := l) (D := D) (T := T) (sd := sd) h h_stack x1 b_h hu11) (st' := []) (q0 := 0) qm_568 qm_570 qm_4 qm_19 qm_571 hd_X9_push ⟨rfl, rfl⟩ ⟨Nat.le_of_ble_eq_true rfl, Nat.le_of_ble_eq_true rfl⟩ rfl rfl (Nat.le_of_ble_eq_true rfl) rfl rfl rfl [0, 1] rfl rfl (ws' := [zO h 7 [.ref h_stack, .int u11.2], zI T h_stack 400 u11.1, zO a2 6 [.ref a2_reckoner, .ref a2_plan, .int (X8_hour b_a2), .int (X8_warmth b_a2), .int (X8_strength b_a2), .int (X8_charge b_a2), .int (X8_lemons b_a2), .int (X8_saucers b_a2), .int (X8_coins b_a2), .int (X8_storms b_a2), .ref a2_frontSteeped, .ref a2_guestServed, .ref a2_guestStormed], zZ T a2_frontSteeped 10 (X8_frontSteeped b_a2), zZ T a2_guestServed 10 (X8_guestServed b_a2), zZ T a2_guestStormed 10 (X8_guestStormed b_a2), zO a2_plan 5 [.ref a2_plan_fronts, .ref a2_plan_guests, .ref a2_plan_orders], zO a2_plan_fronts 2 [.ref a2_plan_fronts_names, .ref a2_plan_fronts_warm, .ref a2_plan_fronts_force, .ref a2_plan_fronts_from, .ref a2_plan_fronts_hours, .int (X2_count b_a2_plan_fronts)], zJ T a2_plan_fronts_names 10 (X2_names b_a2_plan_fronts), zZ T a2_plan_fronts_warm 10 (X2_warm b_a2_plan_fronts), zI T a2_plan_fronts_force 10 (X2_force b_a2_plan_fronts), zI T a2_plan_fronts_from 10 (X2_from b_a2_plan_fronts), zI T a2_plan_fronts_hours 10 (X2_hours b_a2_plan_fronts), zO a2_plan_guests 3 [.ref a2_plan_guests_names, .ref a2_plan_guests_from, .ref a2_plan_guests_weakest, .ref a2_plan_guests_strongest, .ref a2_plan_guests_nerve, .int (X4_count b_a2_plan_guests)], zJ T a2_plan_guests_names 10 (X4_names b_a2_plan_guests), zI T a2_plan_guests_from 10 (X4_from b_a2_plan_guests), zI T a2_plan_guests_weakest 10 (X4_weakest b_a2_plan_guests), zI T a2_plan_guests_strongest 10 (X4_strongest b_a2_plan_guests), zI T a2_plan_guests_nerve 10 (X4_nerve b_a2_plan_guests)]) (sxPatch_pk [(true, 0), (true, 1), (false, 2), (false, 3), (false, 4), (false, 5), (false, 6), (false, 7), (false, 8), (false, 9), (false, 10), (false, 11), (false, 12), (false, 13), (false, 14), (false, 15), (false, 16), (false, 17), (false, 18)] (by decide +kernel) rfl rfl rfl) rfl ⟨Nat.le_of_ble_eq_true rfl, Nat.le_of_ble_eq_true rfl⟩ dX9_step_122 rfl ?_
        refine sx_goto X 180 dX9_step_125 rfl ?_
        exact sx_vret X dX9_step_180 (ob_e hf) rfl rfl
      · have hf := ob_f hf c10
        by_cases c12 : (smap x0) = 24
        · have hf := ob_t hf c12
          refine sx_tin X 163 dX9_step_8 rfl (tin_X9_step_8_3 (smap x0) c12) ?_
          refine sx_aload_n X 0 rfl dX9_step_163 rfl ?_
          refine sx_aload_n X 0 rfl dX9_step_164 rfl ?_
          obtain ⟨u13, hu13, hf⟩ := ob_c hf
          refine sx_cV X (c_X9_pop (l := l) (D := D) (T := T) (sd := sd) h h_stack b_h hu13) (st' := [.int u13.1, .ref h]) (q0 := 0) qm_581 qm_583 qm_5 qm_19 qm_584 hd_X9_pop ⟨rfl, rfl⟩ ⟨Nat.le_of_ble_eq_true rfl, Nat.le_of_ble_eq_true rfl⟩ rfl rfl (Nat.le_of_ble_eq_true rfl) rfl rfl rfl [0, 1] rfl rfl (ws' := [zO h 7 [.ref h_stack, .int u13.2], zI T h_stack 400 (X9_stack b_h), zO a2 6 [.ref a2_reckoner, .ref a2_plan, .int (X8_hour b_a2), .int (X8_warmth b_a2), .int (X8_strength b_a2), .int (X8_charge b_a2), .int (X8_lemons b_a2), .int (X8_saucers b_a2), .int (X8_coins b_a2), .int (X8_storms b_a2), .ref a2_frontSteeped, .ref a2_guestServed, .ref a2_guestStormed], zZ T a2_frontSteeped 10 (X8_frontSteeped b_a2), zZ T a2_guestServed 10 (X8_guestServed b_a2), zZ T a2_guestStormed 10 (X8_guestStormed b_a2), zO a2_plan 5 [.ref a2_plan_fronts, .ref a2_plan_guests, .ref a2_plan_orders], zO a2_plan_fronts 2 [.ref a2_plan_fronts_names, .ref a2_plan_fronts_warm, .ref a2_plan_fronts_force, .ref a2_plan_fronts_from, .ref a2_plan_fronts_hours, .int (X2_count b_a2_plan_fronts)], zJ T a2_plan_fronts_names 10 (X2_names b_a2_plan_fronts), zZ T a2_plan_fronts_warm 10 (X2_warm b_a2_plan_fronts), zI T a2_plan_fronts_force 10 (X2_force b_a2_plan_fronts), zI T a2_plan_fronts_from 10 (X2_from b_a2_plan_fronts), zI T a2_plan_fronts_hours 10 (X2_hours b_a2_plan_fronts), zO a2_plan_guests 3 [.ref a2_plan_guests_names, .ref a2_plan_guests_from, .ref a2_plan_guests_weakest, .ref a2_plan_guests_strongest, .ref a2_plan_guests_nerve, .int (X4_count b_a2_plan_guests)], zJ T a2_plan_guests_names 10 (X4_names b_a2_plan_guests), zI T a2_plan_guests_from 10 (X4_from b_a2_plan_guests), zI T a2_plan_guests_weakest 10 (X4_weakest b_a2_plan_guests), zI T a2_plan_guests_strongest 10 (X4_strongest b_a2_plan_guests), zI T a2_plan_guests_nerve 10 (X4_nerve b_a2_plan_guests)]) (sxPatch_pk [(true, 0), (true, 1), (false, 2), (false, 3), (false, 4), (false, 5), (false, 6), (false, 7), (false, 8), (false, 9), (false, 10), (false, 11), (false, 12), (false, 13), (false, 14), (false, 15), (false, 16), (false, 17), (false, 18)] (by decide +kernel) rfl rfl rfl) rfl ⟨Nat.le_of_ble_eq_true rfl, Nat.le_of_ble_eq_true rfl⟩ dX9_step_165 rfl ?_
          refine sx_ineg X dX9_step_168 ?_
          obtain ⟨u14, hu14, hf⟩ := ob_c hf
          refine sx_cV X (c_X9_push (l := l) (D := D) (T := T) (sd := sd) h h_stack (-u13.1) ((X9_stack b_h), u13.2) hu14) (st' := []) (q0 := 0) qm_568 qm_570 qm_4 qm_19 qm_571 hd_X9_push ⟨rfl, rfl⟩ ⟨Nat.le_of_ble_eq_true rfl, Nat.le_of_ble_eq_true rfl⟩ rfl rfl (Nat.le_of_ble_eq_true rfl) rfl rfl rfl [0, 1] rfl rfl (ws' := [zO h 7 [.ref h_stack, .int u14.2], zI T h_stack 400 u14.1, zO a2 6 [.ref a2_reckoner, .ref a2_plan, .int (X8_hour b_a2), .int (X8_warmth b_a2), .int (X8_strength b_a2), .int (X8_charge b_a2), .int (X8_lemons b_a2), .int (X8_saucers b_a2), .int (X8_coins b_a2), .int (X8_storms b_a2), .ref a2_frontSteeped, .ref a2_guestServed, .ref a2_guestStormed], zZ T a2_frontSteeped 10 (X8_frontSteeped b_a2), zZ T a2_guestServed 10 (X8_guestServed b_a2), zZ T a2_guestStormed 10 (X8_guestStormed b_a2), zO a2_plan 5 [.ref a2_plan_fronts, .ref a2_plan_guests, .ref a2_plan_orders], zO a2_plan_fronts 2 [.ref a2_plan_fronts_names, .ref a2_plan_fronts_warm, .ref a2_plan_fronts_force, .ref a2_plan_fronts_from, .ref a2_plan_fronts_hours, .int (X2_count b_a2_plan_fronts)], zJ T a2_plan_fronts_names 10 (X2_names b_a2_plan_fronts), zZ T a2_plan_fronts_warm 10 (X2_warm b_a2_plan_fronts), zI T a2_plan_fronts_force 10 (X2_force b_a2_plan_fronts), zI T a2_plan_fronts_from 10 (X2_from b_a2_plan_fronts), zI T a2_plan_fronts_hours 10 (X2_hours b_a2_plan_fronts), zO a2_plan_guests 3 [.ref a2_plan_guests_names, .ref a2_plan_guests_from, .ref a2_plan_guests_weakest, .ref a2_plan_guests_strongest, .ref a2_plan_guests_nerve, .int (X4_count b_a2_plan_guests)], zJ T a2_plan_guests_names 10 (X4_names b_a2_plan_guests), zI T a2_plan_guests_from 10 (X4_from b_a2_plan_guests), zI T a2_plan_guests_weakest 10 (X4_weakest b_a2_plan_guests), zI T a2_plan_guests_strongest 10 (X4_strongest b_a2_plan_guests), zI T a2_plan_guests_nerve 10 (X4_nerve b_a2_plan_guests)]) (sxPatch_pk [(true, 0), (true, 1), (false, 2), (false, 3), (false, 4), (false, 5), (false, 6), (false, 7), (false, 8), (false, 9), (false, 10), (false, 11), (false, 12), (false, 13), (false, 14), (false, 15), (false, 16), (false, 17), (false, 18)] (by decide +kernel) rfl rfl rfl) rfl ⟨Nat.le_of_ble_eq_true rfl, Nat.le_of_ble_eq_true rfl⟩ dX9_step_169 rfl ?_
          refine sx_goto X 180 dX9_step_172 rfl ?_
          exact sx_vret X dX9_step_180 (ob_e hf) rfl rfl
        · have hf := ob_f hf c12
          refine sx_tdef X 175 dX9_step_8 rfl (tab_X9_step_8 (smap x0) c2 c7 c10 c12) ?_
          refine sx_aload_n X 0 rfl dX9_step_175 rfl ?_
          refine sx_aload_n X 1 rfl dX9_step_176 rfl ?_
          obtain ⟨u15, hu15, hf⟩ := ob_c hf
          refine sx_cV X (c_X9_joinTwo (l := l) (D := D) (T := T) (sd := sd) h h_stack x0 b_h hu15) (st' := []) (q0 := 0) qm_586 qm_588 qm_6 qm_19 qm_589 hd_X9_joinTwo ⟨rfl, rfl⟩ ⟨Nat.le_of_ble_eq_true rfl, Nat.le_of_ble_eq_true rfl⟩ rfl rfl (Nat.le_of_ble_eq_true rfl) rfl rfl rfl [0, 1] rfl rfl (ws' := [zO h 7 [.ref h_stack, .int u15.2], zI T h_stack 400 u15.1, zO a2 6 [.ref a2_reckoner, .ref a2_plan, .int (X8_hour b_a2), .int (X8_warmth b_a2), .int (X8_strength b_a2), .int (X8_charge b_a2), .int (X8_lemons b_a2), .int (X8_saucers b_a2), .int (X8_coins b_a2), .int (X8_storms b_a2), .ref a2_frontSteeped, .ref a2_guestServed, .ref a2_guestStormed], zZ T a2_frontSteeped 10 (X8_frontSteeped b_a2), zZ T a2_guestServed 10 (X8_guestServed b_a2), zZ T a2_guestStormed 10 (X8_guestStormed b_a2), zO a2_plan 5 [.ref a2_plan_fronts, .ref a2_plan_guests, .ref a2_plan_orders], zO a2_plan_fronts 2 [.ref a2_plan_fronts_names, .ref a2_plan_fronts_warm, .ref a2_plan_fronts_force, .ref a2_plan_fronts_from, .ref a2_plan_fronts_hours, .int (X2_count b_a2_plan_fronts)], zJ T a2_plan_fronts_names 10 (X2_names b_a2_plan_fronts), zZ T a2_plan_fronts_warm 10 (X2_warm b_a2_plan_fronts), zI T a2_plan_fronts_force 10 (X2_force b_a2_plan_fronts), zI T a2_plan_fronts_from 10 (X2_from b_a2_plan_fronts), zI T a2_plan_fronts_hours 10 (X2_hours b_a2_plan_fronts), zO a2_plan_guests 3 [.ref a2_plan_guests_names, .ref a2_plan_guests_from, .ref a2_plan_guests_weakest, .ref a2_plan_guests_strongest, .ref a2_plan_guests_nerve, .int (X4_count b_a2_plan_guests)], zJ T a2_plan_guests_names 10 (X4_names b_a2_plan_guests), zI T a2_plan_guests_from 10 (X4_from b_a2_plan_guests), zI T a2_plan_guests_weakest 10 (X4_weakest b_a2_plan_guests), zI T a2_plan_guests_strongest 10 (X4_strongest b_a2_plan_guests), zI T a2_plan_guests_nerve 10 (X4_nerve b_a2_plan_guests)]) (sxPatch_pk [(true, 0), (true, 1), (false, 2), (false, 3), (false, 4), (false, 5), (false, 6), (false, 7), (false, 8), (false, 9), (false, 10), (false, 11), (false, 12), (false, 13), (false, 14), (false, 15), (false, 16), (false, 17), (false, 18)] (by decide +kernel) rfl rfl rfl) rfl ⟨Nat.le_of_ble_eq_true rfl, Nat.le_of_ble_eq_true rfl⟩ dX9_step_177 rfl ?_
          exact sx_vret X dX9_step_180 (ob_e hf) rfl rfl
