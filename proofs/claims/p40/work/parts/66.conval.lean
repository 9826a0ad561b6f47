theorem ob_2 {α : Type} {x : Option α} {f : α} (h : x.bind some = some f) : x = some f := by
  cases x with
  | none => cases h
  | some y => exact h
theorem FzN_O {h a : Nat} {t : Nd h} {A : Nat → Prop} {U : State} {H : Heap} (q : FzN h a t A U H) : va_O "WeatherTeaLaw$Node" a A U H := by
  cases h with
  | zero => exact q.elim
  | succ h =>
    obtain ⟨va, vb, ⟨hO, -⟩, -⟩ := q
    exact hO
theorem SxC.Mf {p : Program} {s : State} {m : MethodId} {args : Array Value} {meth : Method} {c : Code} {cc : ByteArray} {own : String} {nL : Nat} {ret : Option FieldType} {D : va_G} {T : Nat → ClassId} {A : Nat → Prop} {SF F : (Nat → Prop) → State → Heap → Prop} {wc wr : va_W} (X : SxC p s m args meth c cc own nL ret D T A SF) (hok : SFok F) (hF : F A s s.heap) : SxM s D A F wc wr :=
  ⟨hok, fun H locs hP hD hS => hok.2.2.2 A _ s H (sx_freeA X.2.2.2.2.2.2.1 hD hS) (hok.2.2.1 A s s.heap H hS.2.1 hF)⟩
abbrev vf_X16_both (sd : SdT) (r : Int32) : Option Value := some (.int r)
abbrev wc_X16_both (T : Nat → ClassId) (sd : SdT)  : va_W := []
abbrev wf_X16_both (T : Nat → ClassId) (sd : SdT)  (r : Int32) : va_W := []
abbrev rm_X16_both : Room := { frames := 0, cells := 0, slots := 0, locals := 0 }
theorem hd_X16_both : yX16_both.cls ≠ "java/lang/invoke/MethodHandle" ∧ yX16_both.cls ≠ "java/lang/invoke/VarHandle" ∧ (parseMethodDescriptor yX16_both.desc).map (fun d => d.parameters.length) = some 3 := ⟨by decide, by decide, by decide +kernel⟩
theorem tin_X16_both_1_0 (x : Int32) (h : x = 4) : SxIn (4) (20) #[83, 94, 105, 109, 113, 117, 145, 145, 145, 145, 145, 145, 145, 145, 145, 129, 133] (83) x := by
  rcases h with rfl <;> exact ⟨by decide, by decide, by decide⟩
theorem tin_X16_both_1_1 (x : Int32) (h : x = 5) : SxIn (4) (20) #[83, 94, 105, 109, 113, 117, 145, 145, 145, 145, 145, 145, 145, 145, 145, 129, 133] (94) x := by
  rcases h with rfl <;> exact ⟨by decide, by decide, by decide⟩
theorem tin_X16_both_1_2 (x : Int32) (h : x = 6) : SxIn (4) (20) #[83, 94, 105, 109, 113, 117, 145, 145, 145, 145, 145, 145, 145, 145, 145, 129, 133] (105) x := by
  rcases h with rfl <;> exact ⟨by decide, by decide, by decide⟩
theorem tin_X16_both_1_3 (x : Int32) (h : x = 7) : SxIn (4) (20) #[83, 94, 105, 109, 113, 117, 145, 145, 145, 145, 145, 145, 145, 145, 145, 129, 133] (109) x := by
  rcases h with rfl <;> exact ⟨by decide, by decide, by decide⟩
theorem tin_X16_both_1_4 (x : Int32) (h : x = 8) : SxIn (4) (20) #[83, 94, 105, 109, 113, 117, 145, 145, 145, 145, 145, 145, 145, 145, 145, 129, 133] (113) x := by
  rcases h with rfl <;> exact ⟨by decide, by decide, by decide⟩
theorem tin_X16_both_1_5 (x : Int32) (h : x = 9) : SxIn (4) (20) #[83, 94, 105, 109, 113, 117, 145, 145, 145, 145, 145, 145, 145, 145, 145, 129, 133] (117) x := by
  rcases h with rfl <;> exact ⟨by decide, by decide, by decide⟩
theorem tin_X16_both_1_6 (x : Int32) (h : x = 19) : SxIn (4) (20) #[83, 94, 105, 109, 113, 117, 145, 145, 145, 145, 145, 145, 145, 145, 145, 129, 133] (129) x := by
  rcases h with rfl <;> exact ⟨by decide, by decide, by decide⟩
theorem tin_X16_both_1_7 (x : Int32) (h : x = 20) : SxIn (4) (20) #[83, 94, 105, 109, 113, 117, 145, 145, 145, 145, 145, 145, 145, 145, 145, 129, 133] (133) x := by
  rcases h with rfl <;> exact ⟨by decide, by decide, by decide⟩
theorem tab_X16_both_1 (x : Int32) (c0 : ¬ (x = 4)) (c1 : ¬ (x = 5)) (c2 : ¬ (x = 6)) (c3 : ¬ (x = 7)) (c4 : ¬ (x = 8)) (c5 : ¬ (x = 9)) (c6 : ¬ (x = 19)) (c7 : ¬ (x = 20)) : SxTab (4) (20) #[83, 94, 105, 109, 113, 117, 145, 145, 145, 145, 145, 145, 145, 145, 145, 129, 133] (145) x := by
  refine sx_tabd [4, 5, 6, 7, 8, 9, 19, 20] x (by decide +kernel) (fun v hv e => ?_)
  simp only [List.mem_cons, List.not_mem_nil, or_false] at hv
  rcases hv with h | h | h | h | h | h | h | h
  · exact c0 (e.trans h)
  · exact c1 (e.trans h)
  · exact c2 (e.trans h)
  · exact c3 (e.trans h)
  · exact c4 (e.trans h)
  · exact c5 (e.trans h)
  · exact c6 (e.trans h)
  · exact c7 (e.trans h)
set_option maxHeartbeats 4000000 in
set_option maxRecDepth 100000 in
theorem c_X16_both {l : Launch} {D : va_G} {T : Nat → ClassId} {sd : SdT}  (x0 : Int32) (x1 : Int32) (x2 : Int32) {res : Int32} (hf : f_X16_both x0 x1 x2 = some res) : SxK (SFx sd) l D T yX16_both cX16_both 3 (some .int) rm_X16_both [.int x0, .int x1, .int x2] (wc_X16_both T sd ) (vf_X16_both sd) (wf_X16_both T sd ) res 0 0 := by
  refine sx_start (SFx_ok sd) (by decide +kernel) (Nat.le_of_ble_eq_true rfl) (fun p e s m args below meth c A X hnm => ?_)
  have hf := ob_1 hf
  refine sx_iload_n X 0 rfl dX16_both_0 rfl ?_
  by_cases c1 : x0 = 4
  · have hf := ob_t hf c1
    refine sx_tin X 84 dX16_both_1 rfl (tin_X16_both_1_0 x0 c1) ?_
    refine sx_iload_n X 1 rfl dX16_both_84 rfl ?_
    refine sx_iload_n X 2 rfl dX16_both_85 rfl ?_
    refine sx_icmp_ge X 93 dX16_both_86 rfl (fun c2 => ?_) (fun c2 => ?_)
    · have hf := ob_t hf c2
      refine sx_iload_n X 2 rfl dX16_both_93 rfl ?_
      exact sx_iret X rfl dX16_both_94 (ob_e hf) rfl rfl
    · have hf := ob_f hf c2
      refine sx_iload_n X 1 rfl dX16_both_89 rfl ?_
      refine sx_goto X 94 dX16_both_90 rfl ?_
      exact sx_iret X rfl dX16_both_94 (ob_e hf) rfl rfl
  · have hf := ob_f hf c1
    by_cases c3 : x0 = 5
    · have hf := ob_t hf c3
      refine sx_tin X 95 dX16_both_1 rfl (tin_X16_both_1_1 x0 c3) ?_
      refine sx_iload_n X 1 rfl dX16_both_95 rfl ?_
      refine sx_iload_n X 2 rfl dX16_both_96 rfl ?_
      refine sx_icmp_ge X 104 dX16_both_97 rfl (fun c4 => ?_) (fun c4 => ?_)
      · have hf := ob_t hf c4
        refine sx_iload_n X 1 rfl dX16_both_104 rfl ?_
        exact sx_iret X rfl dX16_both_105 (ob_e hf) rfl rfl
      · have hf := ob_f hf c4
        refine sx_iload_n X 2 rfl dX16_both_100 rfl ?_
        refine sx_goto X 105 dX16_both_101 rfl ?_
        exact sx_iret X rfl dX16_both_105 (ob_e hf) rfl rfl
    · have hf := ob_f hf c3
      by_cases c5 : x0 = 6
      · have hf := ob_t hf c5
        refine sx_tin X 106 dX16_both_1 rfl (tin_X16_both_1_2 x0 c5) ?_
        refine sx_iload_n X 1 rfl dX16_both_106 rfl ?_
        refine sx_iload_n X 2 rfl dX16_both_107 rfl ?_
        refine sx_iadd X dX16_both_108 ?_
        exact sx_iret X rfl dX16_both_109 (ob_e hf) rfl rfl
      · have hf := ob_f hf c5
        by_cases c6 : x0 = 7
        · have hf := ob_t hf c6
          refine sx_tin X 110 dX16_both_1 rfl (tin_X16_both_1_3 x0 c6) ?_
          refine sx_iload_n X 1 rfl dX16_both_110 rfl ?_
          refine sx_iload_n X 2 rfl dX16_both_111 rfl ?_
          refine sx_isub X dX16_both_112 ?_
          exact sx_iret X rfl dX16_both_113 (ob_e hf) rfl rfl
        · have hf := ob_f hf c6
          by_cases c7 : x0 = 8
          · have hf := ob_t hf c7
            refine sx_tin X 114 dX16_both_1 rfl (tin_X16_both_1_4 x0 c7) ?_
            refine sx_iload_n X 1 rfl dX16_both_114 rfl ?_
            refine sx_iload_n X 2 rfl dX16_both_115 rfl ?_
            refine sx_imul X dX16_both_116 ?_
            exact sx_iret X rfl dX16_both_117 (ob_e hf) rfl rfl
          · have hf := ob_f hf c7
            by_cases c8 : x0 = 9
            · have hf := ob_t hf c8
              refine sx_tin X 118 dX16_both_1 rfl (tin_X16_both_1_5 x0 c8) ?_
              refine sx_iload_n X 2 rfl dX16_both_118 rfl ?_
              refine sx_if_ne X 126 dX16_both_119 rfl (fun c9 => ?_) (fun c9 => ?_)
              · have hf := ob_f hf c9
                refine sx_iload_n X 1 rfl dX16_both_126 rfl ?_
                refine sx_iload_n X 2 rfl dX16_both_127 rfl ?_
                obtain ⟨g10, hf⟩ := ob_g hf
                refine sx_idiv X g10 dX16_both_128 ?_
                exact sx_iret X rfl dX16_both_129 (ob_e hf) rfl rfl
              · have hf := ob_t hf c9
                refine sx_iconst X (v := 0) dX16_both_122 rfl ?_
                refine sx_goto X 129 dX16_both_123 rfl ?_
                exact sx_iret X rfl dX16_both_129 (ob_e hf) rfl rfl
            · have hf := ob_f hf c8
              by_cases c11 : x0 = 19
              · have hf := ob_t hf c11
                refine sx_tin X 130 dX16_both_1 rfl (tin_X16_both_1_6 x0 c11) ?_
                refine sx_iload_n X 1 rfl dX16_both_130 rfl ?_
                refine sx_iload_n X 2 rfl dX16_both_131 rfl ?_
                refine sx_imul X dX16_both_132 ?_
                exact sx_iret X rfl dX16_both_133 (ob_e hf) rfl rfl
              · have hf := ob_f hf c11
                by_cases c12 : x0 = 20
                · have hf := ob_t hf c12
                  refine sx_tin X 134 dX16_both_1 rfl (tin_X16_both_1_7 x0 c12) ?_
                  refine sx_iload_n X 1 rfl dX16_both_134 rfl ?_
                  refine sx_iload_n X 2 rfl dX16_both_135 rfl ?_
                  refine sx_iadd X dX16_both_136 ?_
                  refine sx_if_le X 144 dX16_both_137 rfl (fun c13 => ?_) (fun c13 => ?_)
                  · have hf := ob_t hf c13
                    refine sx_iconst X (v := 0) dX16_both_144 rfl ?_
                    exact sx_iret X rfl dX16_both_145 (ob_e hf) rfl rfl
                  · have hf := ob_f hf c13
                    refine sx_iconst X (v := 1) dX16_both_140 rfl ?_
                    refine sx_goto X 145 dX16_both_141 rfl ?_
                    exact sx_iret X rfl dX16_both_145 (ob_e hf) rfl rfl
                · have hf := ob_f hf c12
                  refine sx_tdef X 146 dX16_both_1 rfl (tab_X16_both_1 x0 c1 c3 c5 c6 c7 c8 c11 c12) ?_
                  refine sx_iload_n X 0 rfl dX16_both_146 rfl ?_
                  refine sx_bipush X (v := 10) dX16_both_147 rfl ?_
                  refine sx_icmp_ne X 160 dX16_both_149 rfl (fun c14 => ?_) (fun c14 => ?_)
                  · have hf := ob_f hf c14
                    refine sx_iload_n X 0 rfl dX16_both_160 rfl ?_
                    refine sx_bipush X (v := 11) dX16_both_161 rfl ?_
                    refine sx_icmp_ne X 174 dX16_both_163 rfl (fun c15 => ?_) (fun c15 => ?_)
                    · have hf := ob_f hf c15
                      refine sx_iload_n X 0 rfl dX16_both_174 rfl ?_
                      refine sx_bipush X (v := 12) dX16_both_175 rfl ?_
                      refine sx_icmp_ne X 188 dX16_both_177 rfl (fun c16 => ?_) (fun c16 => ?_)
                      · have hf := ob_f hf c16
                        refine sx_iload_n X 0 rfl dX16_both_188 rfl ?_
                        refine sx_bipush X (v := 13) dX16_both_189 rfl ?_
                        refine sx_icmp_ne X 202 dX16_both_191 rfl (fun c17 => ?_) (fun c17 => ?_)
                        · have hf := ob_f hf c17
                          refine sx_iload_n X 1 rfl dX16_both_202 rfl ?_
                          refine sx_iload_n X 2 rfl dX16_both_203 rfl ?_
                          refine sx_icmp_lt X 211 dX16_both_204 rfl (fun c18 => ?_) (fun c18 => ?_)
                          · have hf := ob_t hf c18
                            refine sx_iconst X (v := 0) dX16_both_211 rfl ?_
                            exact sx_iret X rfl dX16_both_212 (ob_e hf) rfl rfl
                          · have hf := ob_f hf c18
                            refine sx_iconst X (v := 1) dX16_both_207 rfl ?_
                            refine sx_goto X 212 dX16_both_208 rfl ?_
                            exact sx_iret X rfl dX16_both_212 (ob_e hf) rfl rfl
                        · have hf := ob_t hf c17
                          refine sx_iload_n X 1 rfl dX16_both_194 rfl ?_
                          refine sx_iload_n X 2 rfl dX16_both_195 rfl ?_
                          refine sx_icmp_gt X 211 dX16_both_196 rfl (fun c19 => ?_) (fun c19 => ?_)
                          · have hf := ob_t hf c19
                            refine sx_iconst X (v := 0) dX16_both_211 rfl ?_
                            exact sx_iret X rfl dX16_both_212 (ob_e hf) rfl rfl
                          · have hf := ob_f hf c19
                            refine sx_goto X 207 dX16_both_199 rfl ?_
                            refine sx_iconst X (v := 1) dX16_both_207 rfl ?_
                            refine sx_goto X 212 dX16_both_208 rfl ?_
                            exact sx_iret X rfl dX16_both_212 (ob_e hf) rfl rfl
                      · have hf := ob_t hf c16
                        refine sx_iload_n X 1 rfl dX16_both_180 rfl ?_
                        refine sx_iload_n X 2 rfl dX16_both_181 rfl ?_
                        refine sx_icmp_ne X 211 dX16_both_182 rfl (fun c20 => ?_) (fun c20 => ?_)
                        · have hf := ob_f hf c20
                          refine sx_iconst X (v := 0) dX16_both_211 rfl ?_
                          exact sx_iret X rfl dX16_both_212 (ob_e hf) rfl rfl
                        · have hf := ob_t hf c20
                          refine sx_goto X 207 dX16_both_185 rfl ?_
                          refine sx_iconst X (v := 1) dX16_both_207 rfl ?_
                          refine sx_goto X 212 dX16_both_208 rfl ?_
                          exact sx_iret X rfl dX16_both_212 (ob_e hf) rfl rfl
                    · have hf := ob_t hf c15
                      refine sx_iload_n X 1 rfl dX16_both_166 rfl ?_
                      refine sx_iload_n X 2 rfl dX16_both_167 rfl ?_
                      refine sx_icmp_le X 211 dX16_both_168 rfl (fun c21 => ?_) (fun c21 => ?_)
                      · have hf := ob_t hf c21
                        refine sx_iconst X (v := 0) dX16_both_211 rfl ?_
                        exact sx_iret X rfl dX16_both_212 (ob_e hf) rfl rfl
                      · have hf := ob_f hf c21
                        refine sx_goto X 207 dX16_both_171 rfl ?_
                        refine sx_iconst X (v := 1) dX16_both_207 rfl ?_
                        refine sx_goto X 212 dX16_both_208 rfl ?_
                        exact sx_iret X rfl dX16_both_212 (ob_e hf) rfl rfl
                  · have hf := ob_t hf c14
                    refine sx_iload_n X 1 rfl dX16_both_152 rfl ?_
                    refine sx_iload_n X 2 rfl dX16_both_153 rfl ?_
                    refine sx_icmp_ge X 211 dX16_both_154 rfl (fun c22 => ?_) (fun c22 => ?_)
                    · have hf := ob_t hf c22
                      refine sx_iconst X (v := 0) dX16_both_211 rfl ?_
                      exact sx_iret X rfl dX16_both_212 (ob_e hf) rfl rfl
                    · have hf := ob_f hf c22
                      refine sx_goto X 207 dX16_both_157 rfl ?_
                      refine sx_iconst X (v := 1) dX16_both_207 rfl ?_
                      refine sx_goto X 212 dX16_both_208 rfl ?_
                      exact sx_iret X rfl dX16_both_212 (ob_e hf) rfl rfl

abbrev vf_X16_value (sd : SdT) (r : Int32) : Option Value := some (.int r)
abbrev wc_X16_value (T : Nat → ClassId) (sd : SdT) (a0 : Nat) (a0_fronts : Nat) (a0_guests : Nat) (a0_orders : Nat) (a0_rF : Nat → Nat) (a0_rG : Nat → Nat) (b_a0 : bY18) : va_W := zO a0 16 [.ref a0_fronts, .ref a0_guests, .ref a0_orders, .int (Y18_hour b_a0), .int (Y18_warmth b_a0), .int (Y18_strength b_a0), .int (Y18_charge b_a0), .int (Y18_lemons b_a0), .int (Y18_saucers b_a0), .int (Y18_coins b_a0), .int (Y18_storms b_a0)] :: zR T 5 a0_fronts (Y18_nf b_a0) a0_rF :: zR T 6 a0_guests (Y18_ng b_a0) a0_rG :: zT a0_rF a0_rG (Y18_nf b_a0) (Y18_ng b_a0) (Y18_Fw b_a0) (Y18_Ff b_a0) (Y18_Fa b_a0) (Y18_Fs b_a0) (Y18_Fp b_a0) (Y18_Ga b_a0) (Y18_Gl b_a0) (Y18_Gh b_a0) (Y18_Gn b_a0) (Y18_Gp b_a0)
abbrev wf_X16_value (T : Nat → ClassId) (sd : SdT) (a0 : Nat) (a0_fronts : Nat) (a0_guests : Nat) (a0_orders : Nat) (a0_rF : Nat → Nat) (a0_rG : Nat → Nat) (b_a0 : bY18) (r : Int32) : va_W := zO a0 16 [.ref a0_fronts, .ref a0_guests, .ref a0_orders, .int (Y18_hour b_a0), .int (Y18_warmth b_a0), .int (Y18_strength b_a0), .int (Y18_charge b_a0), .int (Y18_lemons b_a0), .int (Y18_saucers b_a0), .int (Y18_coins b_a0), .int (Y18_storms b_a0)] :: zR T 5 a0_fronts (Y18_nf b_a0) a0_rF :: zR T 6 a0_guests (Y18_ng b_a0) a0_rG :: zT a0_rF a0_rG (Y18_nf b_a0) (Y18_ng b_a0) (Y18_Fw b_a0) (Y18_Ff b_a0) (Y18_Fa b_a0) (Y18_Fs b_a0) (Y18_Fp b_a0) (Y18_Ga b_a0) (Y18_Gl b_a0) (Y18_Gh b_a0) (Y18_Gn b_a0) (Y18_Gp b_a0)
theorem hd_X16_value : yX16_value.cls ≠ "java/lang/invoke/MethodHandle" ∧ yX16_value.cls ≠ "java/lang/invoke/VarHandle" ∧ (parseMethodDescriptor yX16_value.desc).map (fun d => d.parameters.length) = some 1 := ⟨by decide, by decide, by decide +kernel⟩
theorem tin_X16_value_4_0 (x : Int32) (h : x = 0) : SxIn (0) (18) #[92, 97, 191, 204, 296, 296, 296, 296, 296, 296, 296, 296, 296, 296, 296, 215, 237, 259, 285] (92) x := by
  rcases h with rfl <;> exact ⟨by decide, by decide, by decide⟩
theorem tin_X16_value_4_1 (x : Int32) (h : x = 1) : SxIn (0) (18) #[92, 97, 191, 204, 296, 296, 296, 296, 296, 296, 296, 296, 296, 296, 296, 215, 237, 259, 285] (97) x := by
  rcases h with rfl <;> exact ⟨by decide, by decide, by decide⟩
theorem tin_X16_value_4_2 (x : Int32) (h : x = 2) : SxIn (0) (18) #[92, 97, 191, 204, 296, 296, 296, 296, 296, 296, 296, 296, 296, 296, 296, 215, 237, 259, 285] (191) x := by
  rcases h with rfl <;> exact ⟨by decide, by decide, by decide⟩
theorem tin_X16_value_4_3 (x : Int32) (h : x = 3) : SxIn (0) (18) #[92, 97, 191, 204, 296, 296, 296, 296, 296, 296, 296, 296, 296, 296, 296, 215, 237, 259, 285] (204) x := by
  rcases h with rfl <;> exact ⟨by decide, by decide, by decide⟩
theorem tin_X16_value_4_4 (x : Int32) (h : x = 15) : SxIn (0) (18) #[92, 97, 191, 204, 296, 296, 296, 296, 296, 296, 296, 296, 296, 296, 296, 215, 237, 259, 285] (215) x := by
  rcases h with rfl <;> exact ⟨by decide, by decide, by decide⟩
theorem tin_X16_value_4_5 (x : Int32) (h : x = 16) : SxIn (0) (18) #[92, 97, 191, 204, 296, 296, 296, 296, 296, 296, 296, 296, 296, 296, 296, 215, 237, 259, 285] (237) x := by
  rcases h with rfl <;> exact ⟨by decide, by decide, by decide⟩
theorem tin_X16_value_4_6 (x : Int32) (h : x = 17) : SxIn (0) (18) #[92, 97, 191, 204, 296, 296, 296, 296, 296, 296, 296, 296, 296, 296, 296, 215, 237, 259, 285] (259) x := by
  rcases h with rfl <;> exact ⟨by decide, by decide, by decide⟩
theorem tin_X16_value_4_7 (x : Int32) (h : x = 18) : SxIn (0) (18) #[92, 97, 191, 204, 296, 296, 296, 296, 296, 296, 296, 296, 296, 296, 296, 215, 237, 259, 285] (285) x := by
  rcases h with rfl <;> exact ⟨by decide, by decide, by decide⟩
theorem tab_X16_value_4 (x : Int32) (c0 : ¬ (x = 0)) (c1 : ¬ (x = 1)) (c2 : ¬ (x = 2)) (c3 : ¬ (x = 3)) (c4 : ¬ (x = 15)) (c5 : ¬ (x = 16)) (c6 : ¬ (x = 17)) (c7 : ¬ (x = 18)) : SxTab (0) (18) #[92, 97, 191, 204, 296, 296, 296, 296, 296, 296, 296, 296, 296, 296, 296, 215, 237, 259, 285] (296) x := by
  refine sx_tabd [0, 1, 2, 3, 15, 16, 17, 18] x (by decide +kernel) (fun v hv e => ?_)
  simp only [List.mem_cons, List.not_mem_nil, or_false] at hv
  rcases hv with h | h | h | h | h | h | h | h
  · exact c0 (e.trans h)
  · exact c1 (e.trans h)
  · exact c2 (e.trans h)
  · exact c3 (e.trans h)
  · exact c4 (e.trans h)
  · exact c5 (e.trans h)
  · exact c6 (e.trans h)
  · exact c7 (e.trans h)
abbrev rm_val (h : Nat) : Room := { frames := h + 3, cells := 0, slots := 0, locals := h * 60 + 100 }
theorem rv_f {a h : Nat} (ha : a ≤ h + 4) : a ≤ (rm_val (h + 1)).frames := by show a ≤ h + 1 + 3; omega
theorem rv_l {a h : Nat} (ha : a ≤ 60) : a + (h * 60 + 100) ≤ (rm_val (h + 1)).locals := by show a + (h * 60 + 100) ≤ (h + 1) * 60 + 100; omega
theorem rv_m {a h : Nat} (ha : a ≤ 100) : a ≤ (rm_val (h + 1)).locals := by show a ≤ (h + 1) * 60 + 100; omega
theorem rv_g {a h : Nat} (ha : a ≤ 4) : a ≤ (rm_val (h + 1)).frames := by show a ≤ h + 1 + 3; omega
set_option maxHeartbeats 4000000 in
set_option maxRecDepth 100000 in
theorem c_X16_value {l : Launch} {D : va_G} {T : Nat → ClassId} {sd : SdT} : ∀ (h a9 : Nat) (t : Nd h) (a0 : Nat) (a0_fronts : Nat) (a0_guests : Nat) (a0_orders : Nat) (a0_rF : Nat → Nat) (a0_rG : Nat → Nat) (b_a0 : bY18) {res : Int32}, f_X16_value h t b_a0 = some res → SxK (SFand (SFx sd) (FzN h a9 t)) l D T yX16_value cX16_value 2 (some .int) (rm_val h) [.ref a9, .ref a0] (wc_X16_value T sd a0 a0_fronts a0_guests a0_orders a0_rF a0_rG b_a0) (vf_X16_value sd) (wf_X16_value T sd a0 a0_fronts a0_guests a0_orders a0_rF a0_rG b_a0) res 0 0 := by
  intro h
  induction h with
  | zero =>
    intro a9 t
    exact t.elim
  | succ h ih =>
    intro a9 t a0 a0_fronts a0_guests a0_orders a0_rF a0_rG b_a0 res hf
    refine sx_start (SFand_ok (SFx_ok sd) (FzN_ok _ _ _)) (by decide +kernel) (Nat.le_of_ble_eq_true rfl) (fun p e s m args below meth c A XN hnm => ?_)
    obtain ⟨va, vb, ⟨hO, hfs⟩, hA, hB⟩ := XN.fz
    have X := XN.dn (SFx_ok sd)
    have hs := hfs _ (List.mem_of_getElem? (i := 0) rfl)
    have hn := hfs _ (List.mem_of_getElem? (i := 1) rfl)
    have ha := hfs _ (List.mem_of_getElem? (i := 2) rfl)
    have hb := hfs _ (List.mem_of_getElem? (i := 3) rfl)
    have hf := ob_1 hf
    refine sx_aload_n X 0 rfl dX16_value_0 rfl ?_
    refine sx_gof X hs qm_1406 dX16_value_1 ?_
    by_cases c1 : (nI t.1) = 0
    · have hf := ob_t hf c1
      refine sx_tin X 96 dX16_value_4 rfl (tin_X16_value_4_0 (nI t.1) c1) ?_
      refine sx_aload_n X 0 rfl dX16_value_96 rfl ?_
      refine sx_gof X hn qm_1407 dX16_value_97 ?_
      exact sx_iret X rfl dX16_value_100 (ob_e hf) rfl rfl
    · have hf := ob_f hf c1
      by_cases c2 : (nI t.1) = 1
      · have hf := ob_t hf c2
        refine sx_tin X 101 dX16_value_4 rfl (tin_X16_value_4_1 (nI t.1) c2) ?_
        refine sx_aload_n X 0 rfl dX16_value_101 rfl ?_
        refine sx_gof X hn qm_1407 dX16_value_102 ?_
        refine sx_if_ne X 115 dX16_value_105 rfl (fun c3 => ?_) (fun c3 => ?_)
        · have hf := ob_f hf c3
          refine sx_aload_n X 0 rfl dX16_value_115 rfl ?_
          refine sx_gof X hn qm_1407 dX16_value_116 ?_
          refine sx_iconst X (v := 1) dX16_value_119 rfl ?_
          refine sx_icmp_ne X 130 dX16_value_120 rfl (fun c4 => ?_) (fun c4 => ?_)
          · have hf := ob_f hf c4
            refine sx_aload_n X 0 rfl dX16_value_130 rfl ?_
            refine sx_gof X hn qm_1407 dX16_value_131 ?_
            refine sx_iconst X (v := 2) dX16_value_134 rfl ?_
            refine sx_icmp_ne X 145 dX16_value_135 rfl (fun c5 => ?_) (fun c5 => ?_)
            · have hf := ob_f hf c5
              refine sx_aload_n X 0 rfl dX16_value_145 rfl ?_
              refine sx_gof X hn qm_1407 dX16_value_146 ?_
              refine sx_iconst X (v := 3) dX16_value_149 rfl ?_
              refine sx_icmp_ne X 160 dX16_value_150 rfl (fun c6 => ?_) (fun c6 => ?_)
              · have hf := ob_f hf c6
                refine sx_aload_n X 0 rfl dX16_value_160 rfl ?_
                refine sx_gof X hn qm_1407 dX16_value_161 ?_
                refine sx_iconst X (v := 4) dX16_value_164 rfl ?_
                refine sx_icmp_ne X 175 dX16_value_165 rfl (fun c7 => ?_) (fun c7 => ?_)
                · have hf := ob_f hf c7
                  refine sx_aload_n X 0 rfl dX16_value_175 rfl ?_
                  refine sx_gof X hn qm_1407 dX16_value_176 ?_
                  refine sx_iconst X (v := 5) dX16_value_179 rfl ?_
                  refine sx_icmp_ne X 190 dX16_value_180 rfl (fun c8 => ?_) (fun c8 => ?_)
                  · have hf := ob_f hf c8
                    refine sx_aload_n X 1 rfl dX16_value_190 rfl ?_
                    refine sx_get X kX18 0 rfl 10 (Nat.le_of_ble_eq_true rfl) qm_1167 rfl dX16_value_191 ?_
                    exact sx_iret X rfl dX16_value_194 (ob_e hf) rfl rfl
                  · have hf := ob_t hf c8
                    refine sx_aload_n X 1 rfl dX16_value_183 rfl ?_
                    refine sx_get X kX18 0 rfl 8 (Nat.le_of_ble_eq_true rfl) qm_1165 rfl dX16_value_184 ?_
                    refine sx_goto X 194 dX16_value_187 rfl ?_
                    exact sx_iret X rfl dX16_value_194 (ob_e hf) rfl rfl
                · have hf := ob_t hf c7
                  refine sx_aload_n X 1 rfl dX16_value_168 rfl ?_
                  refine sx_get X kX18 0 rfl 7 (Nat.le_of_ble_eq_true rfl) qm_1163 rfl dX16_value_169 ?_
                  refine sx_goto X 194 dX16_value_172 rfl ?_
                  exact sx_iret X rfl dX16_value_194 (ob_e hf) rfl rfl
              · have hf := ob_t hf c6
                refine sx_aload_n X 1 rfl dX16_value_153 rfl ?_
                refine sx_get X kX18 0 rfl 6 (Nat.le_of_ble_eq_true rfl) qm_1160 rfl dX16_value_154 ?_
                refine sx_goto X 194 dX16_value_157 rfl ?_
                exact sx_iret X rfl dX16_value_194 (ob_e hf) rfl rfl
            · have hf := ob_t hf c5
              refine sx_aload_n X 1 rfl dX16_value_138 rfl ?_
              refine sx_get X kX18 0 rfl 5 (Nat.le_of_ble_eq_true rfl) qm_1157 rfl dX16_value_139 ?_
              refine sx_goto X 194 dX16_value_142 rfl ?_
              exact sx_iret X rfl dX16_value_194 (ob_e hf) rfl rfl
          · have hf := ob_t hf c4
            refine sx_aload_n X 1 rfl dX16_value_123 rfl ?_
            refine sx_get X kX18 0 rfl 4 (Nat.le_of_ble_eq_true rfl) qm_1154 rfl dX16_value_124 ?_
            refine sx_goto X 194 dX16_value_127 rfl ?_
            exact sx_iret X rfl dX16_value_194 (ob_e hf) rfl rfl
        · have hf := ob_t hf c3
          refine sx_aload_n X 1 rfl dX16_value_108 rfl ?_
          refine sx_get X kX18 0 rfl 3 (Nat.le_of_ble_eq_true rfl) qm_1151 rfl dX16_value_109 ?_
          refine sx_goto X 194 dX16_value_112 rfl ?_
          exact sx_iret X rfl dX16_value_194 (ob_e hf) rfl rfl
      · have hf := ob_f hf c2
        by_cases c9 : (nI t.1) = 2
        · have hf := ob_t hf c9
          refine sx_tin X 195 dX16_value_4 rfl (tin_X16_value_4_2 (nI t.1) c9) ?_
          refine sx_aload_n X 1 rfl dX16_value_195 rfl ?_
          refine sx_get X kX18 0 rfl 0 (Nat.le_of_ble_eq_true rfl) qm_1145 rfl dX16_value_196 ?_
          refine sx_aload_n X 0 rfl dX16_value_199 rfl ?_
          refine sx_gof X hn qm_1407 dX16_value_200 ?_
          obtain ⟨g10, hf⟩ := ob_g hf
          refine sx_Rld X (t0 := 5) (f := a0_rF) 1 rfl rfl g10 dX16_value_203 ?_
          refine sx_get X kX14 (((nI t.2.1).toNatClampNeg) + 1 + 1 + 1) (at_s (at_s (at_s (zT_F (fl_lt g10))))) 1 (Nat.le_of_ble_eq_true rfl) qm_1203 rfl dX16_value_204 ?_
          exact sx_iret X rfl dX16_value_207 (ob_e hf) rfl rfl
        · have hf := ob_f hf c9
          by_cases c11 : (nI t.1) = 3
          · have hf := ob_t hf c11
            refine sx_tin X 208 dX16_value_4 rfl (tin_X16_value_4_3 (nI t.1) c11) ?_
            refine sx_iconst X (v := 0) dX16_value_208 rfl ?_
            refine sx_aload_n X 0 rfl dX16_value_209 rfl ?_
            refine sx_gof X ha qm_1408 dX16_value_210 ?_
            refine sx_aload_n X 1 rfl dX16_value_213 rfl ?_
            obtain ⟨c13, e1c13, hf⟩ := ob_c hf
            rw [e1c13] at hA
            obtain ⟨xc13, ec13, hc13⟩ := hA
            subst ec13
            obtain ⟨u12, hu12, hf⟩ := ob_c hf
            refine sx_pV X (ih xc13 c13 a0 a0_fronts a0_guests a0_orders a0_rF a0_rG b_a0 hu12).toP (X.M.and (X.Mf (FzN_ok _ _ _) hc13)) (wr := []) (sx_rcvO (FzN_O hc13)) qm_715 qm_712 qm_713 qm_40 qm_714 hd_X16_value ⟨rfl, rfl⟩ ⟨rv_f (Nat.le_refl _), rv_l (Nat.le_of_ble_eq_true rfl)⟩ rfl rfl (Nat.le_of_ble_eq_true rfl) ⟨Nat.zero_le _, Nat.zero_le _⟩ dX16_value_214 (List.append_nil _).symm (fun r9 hr9 => ?_)
            replace hr9 := hr9.symm
            subst hr9
            refine sx_chgw (List.append_nil _) ?_
            refine sx_isub X dX16_value_217 ?_
            exact sx_iret X rfl dX16_value_218 (ob_e hf) rfl rfl
          · have hf := ob_f hf c11
            by_cases c14 : (nI t.1) = 15
            · have hf := ob_t hf c14
              refine sx_tin X 219 dX16_value_4 rfl (tin_X16_value_4_4 (nI t.1) c14) ?_
              refine sx_aload_n X 1 rfl dX16_value_219 rfl ?_
              refine sx_get X kX18 0 rfl 0 (Nat.le_of_ble_eq_true rfl) qm_1145 rfl dX16_value_220 ?_
              refine sx_aload_n X 0 rfl dX16_value_223 rfl ?_
              refine sx_gof X hn qm_1407 dX16_value_224 ?_
              obtain ⟨g15, hf⟩ := ob_g hf
              refine sx_Rld X (t0 := 5) (f := a0_rF) 1 rfl rfl g15 dX16_value_227 ?_
              refine sx_get X kX14 (((nI t.2.1).toNatClampNeg) + 1 + 1 + 1) (at_s (at_s (at_s (zT_F (fl_lt g15))))) 4 (Nat.le_of_ble_eq_true rfl) qm_1209 rfl dX16_value_228 ?_
              refine sx_iconst X (v := 1) dX16_value_231 rfl ?_
              refine sx_icmp_ne X 239 dX16_value_232 rfl (fun c16 => ?_) (fun c16 => ?_)
              · have hf := ob_f hf c16
                refine sx_iconst X (v := 0) dX16_value_239 rfl ?_
                exact sx_iret X rfl dX16_value_240 (ob_e hf) rfl rfl
              · have hf := ob_t hf c16
                refine sx_iconst X (v := 1) dX16_value_235 rfl ?_
                refine sx_goto X 240 dX16_value_236 rfl ?_
                exact sx_iret X rfl dX16_value_240 (ob_e hf) rfl rfl
            · have hf := ob_f hf c14
              by_cases c17 : (nI t.1) = 16
              · have hf := ob_t hf c17
                refine sx_tin X 241 dX16_value_4 rfl (tin_X16_value_4_5 (nI t.1) c17) ?_
                refine sx_aload_n X 1 rfl dX16_value_241 rfl ?_
                refine sx_get X kX18 0 rfl 1 (Nat.le_of_ble_eq_true rfl) qm_1148 rfl dX16_value_242 ?_
                refine sx_aload_n X 0 rfl dX16_value_245 rfl ?_
                refine sx_gof X hn qm_1407 dX16_value_246 ?_
                obtain ⟨g18, hf⟩ := ob_g hf
                refine sx_Rld X (t0 := 6) (f := a0_rG) 2 rfl rfl g18 dX16_value_249 ?_
                refine sx_get X kX15 ((Y18_nf b_a0) + ((nI t.2.1).toNatClampNeg) + 1 + 1 + 1) (at_s (at_s (at_s (zT_G (fl_lt g18))))) 4 (Nat.le_of_ble_eq_true rfl) qm_1372 rfl dX16_value_250 ?_
                refine sx_iconst X (v := 1) dX16_value_253 rfl ?_
                refine sx_icmp_ne X 261 dX16_value_254 rfl (fun c19 => ?_) (fun c19 => ?_)
                · have hf := ob_f hf c19
                  refine sx_iconst X (v := 0) dX16_value_261 rfl ?_
                  exact sx_iret X rfl dX16_value_262 (ob_e hf) rfl rfl
                · have hf := ob_t hf c19
                  refine sx_iconst X (v := 1) dX16_value_257 rfl ?_
                  refine sx_goto X 262 dX16_value_258 rfl ?_
                  exact sx_iret X rfl dX16_value_262 (ob_e hf) rfl rfl
              · have hf := ob_f hf c17
                by_cases c20 : (nI t.1) = 17
                · have hf := ob_t hf c20
                  refine sx_tin X 263 dX16_value_4 rfl (tin_X16_value_4_6 (nI t.1) c20) ?_
                  refine sx_aload_n X 1 rfl dX16_value_263 rfl ?_
                  refine sx_aload_n X 1 rfl dX16_value_264 rfl ?_
                  refine sx_get X kX18 0 rfl 1 (Nat.le_of_ble_eq_true rfl) qm_1148 rfl dX16_value_265 ?_
                  refine sx_aload_n X 0 rfl dX16_value_268 rfl ?_
                  refine sx_gof X hn qm_1407 dX16_value_269 ?_
                  obtain ⟨g21, hf⟩ := ob_g hf
                  refine sx_Rld X (t0 := 6) (f := a0_rG) 2 rfl rfl g21 dX16_value_272 ?_
                  refine sx_aload_n X 1 rfl dX16_value_273 rfl ?_
                  refine sx_get X kX18 0 rfl 5 (Nat.le_of_ble_eq_true rfl) qm_1157 rfl dX16_value_274 ?_
                  obtain ⟨u22, hu22, hf⟩ := ob_c hf
                  refine sx_cVr X (c_X18_likes (l := l) (D := D) (T := T) (sd := sd) a0 a0_fronts a0_guests a0_orders a0_rF a0_rG ((nI t.2.1).toNatClampNeg) (Y18_strength b_a0) b_a0 hu22) (st' := [.int u22]) (q0 := 0) qm_716 qm_700 qm_701 qm_29 qm_702 hd_X18_likes ⟨rfl, rfl⟩ ⟨rv_g (Nat.le_of_ble_eq_true rfl), rv_m (Nat.le_of_ble_eq_true rfl)⟩ rfl rfl (Nat.le_of_ble_eq_true rfl) rfl rfl rfl ([0, 1, 2] ++ List.range' 3 (zT a0_rF a0_rG (Y18_nf b_a0) (Y18_ng b_a0) (Y18_Fw b_a0) (Y18_Ff b_a0) (Y18_Fa b_a0) (Y18_Fs b_a0) (Y18_Fp b_a0) (Y18_Ga b_a0) (Y18_Gl b_a0) (Y18_Gh b_a0) (Y18_Gn b_a0) (Y18_Gp b_a0)).length) (tc_C (fx := [zO a0 16 [.ref a0_fronts, .ref a0_guests, .ref a0_orders, .int (Y18_hour b_a0), .int (Y18_warmth b_a0), .int (Y18_strength b_a0), .int (Y18_charge b_a0), .int (Y18_lemons b_a0), .int (Y18_saucers b_a0), .int (Y18_coins b_a0), .int (Y18_storms b_a0)], zR T 5 a0_fronts (Y18_nf b_a0) a0_rF, zR T 6 a0_guests (Y18_ng b_a0) a0_rG]) (fc := [zO a0 16 [.ref a0_fronts, .ref a0_guests, .ref a0_orders, .int (Y18_hour b_a0), .int (Y18_warmth b_a0), .int (Y18_strength b_a0), .int (Y18_charge b_a0), .int (Y18_lemons b_a0), .int (Y18_saucers b_a0), .int (Y18_coins b_a0), .int (Y18_storms b_a0)], zR T 5 a0_fronts (Y18_nf b_a0) a0_rF, zR T 6 a0_guests (Y18_ng b_a0) a0_rG]) (tl := zT a0_rF a0_rG (Y18_nf b_a0) (Y18_ng b_a0) (Y18_Fw b_a0) (Y18_Ff b_a0) (Y18_Fa b_a0) (Y18_Fs b_a0) (Y18_Fp b_a0) (Y18_Ga b_a0) (Y18_Gl b_a0) (Y18_Gh b_a0) (Y18_Gn b_a0) (Y18_Gp b_a0)) rfl rfl rfl rfl (by decide)) (tl_nd rfl (by decide)) rfl ⟨Nat.zero_le _, Nat.zero_le _⟩ dX16_value_277 rfl ?_
                  refine sx_if_eq X 287 dX16_value_280 rfl (fun c23 => ?_) (fun c23 => ?_)
                  · have hf := ob_t hf c23
                    refine sx_iconst X (v := 0) dX16_value_287 rfl ?_
                    exact sx_iret X rfl dX16_value_288 (ob_e hf) rfl rfl
                  · have hf := ob_f hf c23
                    refine sx_iconst X (v := 1) dX16_value_283 rfl ?_
                    refine sx_goto X 288 dX16_value_284 rfl ?_
                    exact sx_iret X rfl dX16_value_288 (ob_e hf) rfl rfl
                · have hf := ob_f hf c20
                  by_cases c24 : (nI t.1) = 18
                  · have hf := ob_t hf c24
                    refine sx_tin X 289 dX16_value_4 rfl (tin_X16_value_4_7 (nI t.1) c24) ?_
                    refine sx_iconst X (v := 1) dX16_value_289 rfl ?_
                    refine sx_aload_n X 0 rfl dX16_value_290 rfl ?_
                    refine sx_gof X ha qm_1408 dX16_value_291 ?_
                    refine sx_aload_n X 1 rfl dX16_value_294 rfl ?_
                    obtain ⟨c26, e1c26, hf⟩ := ob_c hf
                    rw [e1c26] at hA
                    obtain ⟨xc26, ec26, hc26⟩ := hA
                    subst ec26
                    obtain ⟨u25, hu25, hf⟩ := ob_c hf
                    refine sx_pV X (ih xc26 c26 a0 a0_fronts a0_guests a0_orders a0_rF a0_rG b_a0 hu25).toP (X.M.and (X.Mf (FzN_ok _ _ _) hc26)) (wr := []) (sx_rcvO (FzN_O hc26)) qm_715 qm_712 qm_713 qm_40 qm_714 hd_X16_value ⟨rfl, rfl⟩ ⟨rv_f (Nat.le_refl _), rv_l (Nat.le_of_ble_eq_true rfl)⟩ rfl rfl (Nat.le_of_ble_eq_true rfl) ⟨Nat.zero_le _, Nat.zero_le _⟩ dX16_value_295 (List.append_nil _).symm (fun r9 hr9 => ?_)
                    replace hr9 := hr9.symm
                    subst hr9
                    refine sx_chgw (List.append_nil _) ?_
                    refine sx_isub X dX16_value_298 ?_
                    exact sx_iret X rfl dX16_value_299 (ob_e hf) rfl rfl
                  · have hf := ob_f hf c24
                    refine sx_tdef X 300 dX16_value_4 rfl (tab_X16_value_4 (nI t.1) c1 c2 c9 c11 c14 c17 c20 c24) ?_
                    refine sx_aload_n X 0 rfl dX16_value_300 rfl ?_
                    refine sx_gof X hs qm_1406 dX16_value_301 ?_
                    refine sx_aload_n X 0 rfl dX16_value_304 rfl ?_
                    refine sx_gof X ha qm_1408 dX16_value_305 ?_
                    refine sx_aload_n X 1 rfl dX16_value_308 rfl ?_
                    obtain ⟨c28, e1c28, hf⟩ := ob_c hf
                    rw [e1c28] at hA
                    obtain ⟨xc28, ec28, hc28⟩ := hA
                    subst ec28
                    obtain ⟨u27, hu27, hf⟩ := ob_c hf
                    refine sx_pV X (ih xc28 c28 a0 a0_fronts a0_guests a0_orders a0_rF a0_rG b_a0 hu27).toP (X.M.and (X.Mf (FzN_ok _ _ _) hc28)) (wr := []) (sx_rcvO (FzN_O hc28)) qm_715 qm_712 qm_713 qm_40 qm_714 hd_X16_value ⟨rfl, rfl⟩ ⟨rv_f (Nat.le_refl _), rv_l (Nat.le_of_ble_eq_true rfl)⟩ rfl rfl (Nat.le_of_ble_eq_true rfl) ⟨Nat.zero_le _, Nat.zero_le _⟩ dX16_value_309 (List.append_nil _).symm (fun r9 hr9 => ?_)
                    replace hr9 := hr9.symm
                    subst hr9
                    refine sx_chgw (List.append_nil _) ?_
                    refine sx_aload_n X 0 rfl dX16_value_312 rfl ?_
                    refine sx_gof X hb qm_1409 dX16_value_313 ?_
                    refine sx_aload_n X 1 rfl dX16_value_316 rfl ?_
                    obtain ⟨c30, e1c30, hf⟩ := ob_c hf
                    rw [e1c30] at hB
                    obtain ⟨xc30, ec30, hc30⟩ := hB
                    subst ec30
                    obtain ⟨u29, hu29, hf⟩ := ob_c hf
                    refine sx_pV X (ih xc30 c30 a0 a0_fronts a0_guests a0_orders a0_rF a0_rG b_a0 hu29).toP (X.M.and (X.Mf (FzN_ok _ _ _) hc30)) (wr := []) (sx_rcvO (FzN_O hc30)) qm_715 qm_712 qm_713 qm_40 qm_714 hd_X16_value ⟨rfl, rfl⟩ ⟨rv_f (Nat.le_refl _), rv_l (Nat.le_of_ble_eq_true rfl)⟩ rfl rfl (Nat.le_of_ble_eq_true rfl) ⟨Nat.zero_le _, Nat.zero_le _⟩ dX16_value_317 (List.append_nil _).symm (fun r9 hr9 => ?_)
                    replace hr9 := hr9.symm
                    subst hr9
                    refine sx_chgw (List.append_nil _) ?_
                    obtain ⟨u31, hu31, hf⟩ := ob_c hf
                    refine sx_cSr X (c_X16_both (l := l) (D := D) (T := T) (sd := sd) (nI t.1) u27 u29 hu31) (st' := [.int u31]) qm_717 qm_718 qm_40 qm_719 hd_X16_both ⟨rfl, rfl⟩ ⟨rv_g (Nat.le_of_ble_eq_true rfl), rv_m (Nat.le_of_ble_eq_true rfl)⟩ rfl rfl (Nat.le_of_ble_eq_true rfl) [] rfl rfl rfl ⟨Nat.zero_le _, Nat.zero_le _⟩ dX16_value_320 rfl ?_
                    exact sx_iret X rfl dX16_value_323 (ob_e hf) rfl rfl
abbrev rm_X17_carryOut : Room := { frames := 14, cells := 0, slots := 0, locals := 700 }
abbrev vf_X17_carryOut (sd : SdT) (_r : Int32 × Int32 × Int32 × Int32 × Int32 × (Nat → Int32) × (Nat → Int32)) : Option Value := none
abbrev wc_X17_carryOut (T : Nat → ClassId) (sd : SdT) (a0 : Nat) (a0_fronts : Nat) (a0_guests : Nat) (a0_orders : Nat) (a0_rF : Nat → Nat) (a0_rG : Nat → Nat) (b_a0 : bY18) : va_W := zO a0 16 [.ref a0_fronts, .ref a0_guests, .ref a0_orders, .int (Y18_hour b_a0), .int (Y18_warmth b_a0), .int (Y18_strength b_a0), .int (Y18_charge b_a0), .int (Y18_lemons b_a0), .int (Y18_saucers b_a0), .int (Y18_coins b_a0), .int (Y18_storms b_a0)] :: zR T 5 a0_fronts (Y18_nf b_a0) a0_rF :: zR T 6 a0_guests (Y18_ng b_a0) a0_rG :: zT a0_rF a0_rG (Y18_nf b_a0) (Y18_ng b_a0) (Y18_Fw b_a0) (Y18_Ff b_a0) (Y18_Fa b_a0) (Y18_Fs b_a0) (Y18_Fp b_a0) (Y18_Ga b_a0) (Y18_Gl b_a0) (Y18_Gh b_a0) (Y18_Gn b_a0) (Y18_Gp b_a0)
abbrev wf_X17_carryOut (T : Nat → ClassId) (sd : SdT) (a0 : Nat) (a0_fronts : Nat) (a0_guests : Nat) (a0_orders : Nat) (a0_rF : Nat → Nat) (a0_rG : Nat → Nat) (b_a0 : bY18) (r : Int32 × Int32 × Int32 × Int32 × Int32 × (Nat → Int32) × (Nat → Int32)) : va_W := zO a0 16 [.ref a0_fronts, .ref a0_guests, .ref a0_orders, .int (Y18_hour b_a0), .int (Y18_warmth b_a0), .int r.1, .int r.2.1, .int r.2.2.1, .int r.2.2.2.1, .int r.2.2.2.2.1, .int (Y18_storms b_a0)] :: zR T 5 a0_fronts (Y18_nf b_a0) a0_rF :: zR T 6 a0_guests (Y18_ng b_a0) a0_rG :: zT a0_rF a0_rG (Y18_nf b_a0) (Y18_ng b_a0) (Y18_Fw b_a0) (Y18_Ff b_a0) (Y18_Fa b_a0) (Y18_Fs b_a0) r.2.2.2.2.2.1 (Y18_Ga b_a0) (Y18_Gl b_a0) (Y18_Gh b_a0) (Y18_Gn b_a0) r.2.2.2.2.2.2
theorem hd_X17_carryOut : yX17_carryOut.cls ≠ "java/lang/invoke/MethodHandle" ∧ yX17_carryOut.cls ≠ "java/lang/invoke/VarHandle" ∧ (parseMethodDescriptor yX17_carryOut.desc).map (fun d => d.parameters.length) = some 1 := ⟨by decide, by decide, by decide +kernel⟩
theorem sx_ordO {p : Program} {s : State} {m : MethodId} {args : Array Value} {meth : Method} {c : Code} {cc : ByteArray} {own : String} {nL : Nat} {ret : Option FieldType} {D : va_G} {T : Nat → ClassId} {A : Nat → Prop} {sd : SdT} {oA : Nat} {rQ : Nat → Nat} {os : List Od} (XQ : SxC p s m args meth c cc own nL ret D T A (SFq sd oA rQ os)) {q : Nat} (h : q < os.length) : va_O "WeatherTeaLaw$Order" (rQ q) A s s.heap := by
  obtain ⟨v, ⟨hO, -⟩, -⟩ := XQ.fz.2 (q, os[q]) (List.getElem?_eq_getElem h)
  exact hO
set_option maxHeartbeats 4000000 in
set_option maxRecDepth 100000 in
theorem c_X17_carryOut {l : Launch} {D : va_G} {T : Nat → ClassId} {sd : SdT} {rQ : Nat → Nat} (a0 : Nat) (a0_fronts : Nat) (a0_guests : Nat) (a0_orders : Nat) (a0_rF : Nat → Nat) (a0_rG : Nat → Nat) (os : List Od) (q : Nat) (b_a0 : bY18) {res : Int32 × Int32 × Int32 × Int32 × Int32 × (Nat → Int32) × (Nat → Int32)} (hf : f_X17_carryOut os q b_a0 = some res) : SxK (SFq sd a0_orders rQ os) l D T yX17_carryOut cX17_carryOut 2 none rm_X17_carryOut [.ref (rQ q), .ref a0] (wc_X17_carryOut T sd a0 a0_fronts a0_guests a0_orders a0_rF a0_rG b_a0) (vf_X17_carryOut sd) (wf_X17_carryOut T sd a0 a0_fronts a0_guests a0_orders a0_rF a0_rG b_a0) res 0 0 := by
  obtain ⟨t, ht, hf⟩ := ob_c (ob_1 hf)
  have hf := ob_2 hf
  refine sx_start (SFq_ok sd _ rQ os) (by decide +kernel) (Nat.le_of_ble_eq_true rfl) (fun p e s m args below meth c A XN hnm => ?_)
  obtain ⟨va, ⟨hO, hfs⟩, hA⟩ := XN.fz.2 (q, t) ht
  have X := XN.dn (SFx_ok sd)
  have hs := hfs _ (List.mem_of_getElem? (i := 0) rfl)
  have hn := hfs _ (List.mem_of_getElem? (i := 1) rfl)
  have ha := hfs _ (List.mem_of_getElem? (i := 2) rfl)
  unfold f_odo at hf
  generalize rQ q = a9 at *
  have hf := ob_1 hf
  have R19 : ∀ (w_a0_strength : Int32) (w_a0_charge : Int32) (w_a0_lemons : Int32) (w_a0_saucers : Int32) (w_a0_coins : Int32) (w_a0_Fp : Nat → Int32) (w_a0_Gp : Nat → Int32), (f_X17_carryOut_R19 t b_a0 w_a0_strength w_a0_charge w_a0_lemons w_a0_saucers w_a0_coins w_a0_Fp w_a0_Gp).bind some = some res → SxG p l e rm_X17_carryOut s m args below meth c D A 2 0 0 (SxE below args s D A (vf_X17_carryOut sd) (wf_X17_carryOut T sd a0 a0_fronts a0_guests a0_orders a0_rF a0_rG b_a0) res 0 0) (zO a0 16 [.ref a0_fronts, .ref a0_guests, .ref a0_orders, .int (Y18_hour b_a0), .int (Y18_warmth b_a0), .int w_a0_strength, .int w_a0_charge, .int w_a0_lemons, .int w_a0_saucers, .int w_a0_coins, .int (Y18_storms b_a0)] :: zR T 5 a0_fronts (Y18_nf b_a0) a0_rF :: zR T 6 a0_guests (Y18_ng b_a0) a0_rG :: zT a0_rF a0_rG (Y18_nf b_a0) (Y18_ng b_a0) (Y18_Fw b_a0) (Y18_Ff b_a0) (Y18_Fa b_a0) (Y18_Fs b_a0) w_a0_Fp (Y18_Ga b_a0) (Y18_Gl b_a0) (Y18_Gh b_a0) (Y18_Gn b_a0) w_a0_Gp) [(0, .ref a9), (1, .ref a0)] 19 [] := by
    intro w_a0_strength w_a0_charge w_a0_lemons w_a0_saucers w_a0_coins w_a0_Fp w_a0_Gp hf
    refine sx_aload_n X 0 rfl dX17_carryOut_19 rfl ?_
    refine sx_gof X hs qm_1424 dX17_carryOut_20 ?_
    refine sx_if_ne X 38 dX17_carryOut_23 rfl (fun c3 => ?_) (fun c3 => ?_)
    · have hf := ob_f hf c3
      refine sx_aload_n X 0 rfl dX17_carryOut_38 rfl ?_
      refine sx_gof X hs qm_1424 dX17_carryOut_39 ?_
      refine sx_iconst X (v := 1) dX17_carryOut_42 rfl ?_
      refine sx_icmp_ne X 58 dX17_carryOut_43 rfl (fun c4 => ?_) (fun c4 => ?_)
      · have hf := ob_f hf c4
        refine sx_aload_n X 0 rfl dX17_carryOut_58 rfl ?_
        refine sx_gof X hs qm_1424 dX17_carryOut_59 ?_
        refine sx_iconst X (v := 2) dX17_carryOut_62 rfl ?_
        refine sx_icmp_ne X 74 dX17_carryOut_63 rfl (fun c5 => ?_) (fun c5 => ?_)
        · have hf := ob_f hf c5
          refine sx_aload_n X 1 rfl dX17_carryOut_74 rfl ?_
          obtain ⟨u6, hu6, hf⟩ := ob_c hf
          refine sx_cV X (c_X18_isCalmed (l := l) (D := D) (T := T) (sd := sd) a0 a0_fronts a0_guests a0_orders a0_rF a0_rG ((Y18_hour b_a0), (Y18_warmth b_a0), w_a0_strength, w_a0_charge, w_a0_lemons, w_a0_saucers, w_a0_coins, (Y18_storms b_a0), (Y18_Fw b_a0), (Y18_Ff b_a0), (Y18_Fa b_a0), (Y18_Fs b_a0), w_a0_Fp, (Y18_Ga b_a0), (Y18_Gl b_a0), (Y18_Gh b_a0), (Y18_Gn b_a0), w_a0_Gp, (Y18_nf b_a0), (Y18_ng b_a0)) hu6) (st' := [.int u6.1]) (q0 := 0) qm_733 qm_734 qm_735 qm_29 qm_736 hd_X18_isCalmed ⟨rfl, rfl⟩ ⟨Nat.le_of_ble_eq_true rfl, Nat.le_of_ble_eq_true rfl⟩ rfl rfl (Nat.le_of_ble_eq_true rfl) rfl rfl rfl ([0, 1, 2] ++ List.range' 3 (zT a0_rF a0_rG (Y18_nf b_a0) (Y18_ng b_a0) (Y18_Fw b_a0) (Y18_Ff b_a0) (Y18_Fa b_a0) (Y18_Fs b_a0) w_a0_Fp (Y18_Ga b_a0) (Y18_Gl b_a0) (Y18_Gh b_a0) (Y18_Gn b_a0) w_a0_Gp).length) (tc_C (fx := [zO a0 16 [.ref a0_fronts, .ref a0_guests, .ref a0_orders, .int (Y18_hour b_a0), .int (Y18_warmth b_a0), .int w_a0_strength, .int w_a0_charge, .int w_a0_lemons, .int w_a0_saucers, .int w_a0_coins, .int (Y18_storms b_a0)], zR T 5 a0_fronts (Y18_nf b_a0) a0_rF, zR T 6 a0_guests (Y18_ng b_a0) a0_rG]) (fc := [zO a0 16 [.ref a0_fronts, .ref a0_guests, .ref a0_orders, .int (Y18_hour b_a0), .int (Y18_warmth b_a0), .int w_a0_strength, .int w_a0_charge, .int w_a0_lemons, .int w_a0_saucers, .int w_a0_coins, .int (Y18_storms b_a0)], zR T 5 a0_fronts (Y18_nf b_a0) a0_rF, zR T 6 a0_guests (Y18_ng b_a0) a0_rG]) (tl := zT a0_rF a0_rG (Y18_nf b_a0) (Y18_ng b_a0) (Y18_Fw b_a0) (Y18_Ff b_a0) (Y18_Fa b_a0) (Y18_Fs b_a0) w_a0_Fp (Y18_Ga b_a0) (Y18_Gl b_a0) (Y18_Gh b_a0) (Y18_Gn b_a0) w_a0_Gp) rfl rfl rfl rfl (by decide)) (tl_nd rfl (by decide)) (ws' := zO a0 16 [.ref a0_fronts, .ref a0_guests, .ref a0_orders, .int (Y18_hour b_a0), .int (Y18_warmth b_a0), .int w_a0_strength, .int u6.2.1, .int w_a0_lemons, .int u6.2.2, .int w_a0_coins, .int (Y18_storms b_a0)] :: zR T 5 a0_fronts (Y18_nf b_a0) a0_rF :: zR T 6 a0_guests (Y18_ng b_a0) a0_rG :: zT a0_rF a0_rG (Y18_nf b_a0) (Y18_ng b_a0) (Y18_Fw b_a0) (Y18_Ff b_a0) (Y18_Fa b_a0) (Y18_Fs b_a0) w_a0_Fp (Y18_Ga b_a0) (Y18_Gl b_a0) (Y18_Gh b_a0) (Y18_Gn b_a0) w_a0_Gp) (tc_W (fx := [zO a0 16 [.ref a0_fronts, .ref a0_guests, .ref a0_orders, .int (Y18_hour b_a0), .int (Y18_warmth b_a0), .int w_a0_strength, .int w_a0_charge, .int w_a0_lemons, .int w_a0_saucers, .int w_a0_coins, .int (Y18_storms b_a0)], zR T 5 a0_fronts (Y18_nf b_a0) a0_rF, zR T 6 a0_guests (Y18_ng b_a0) a0_rG]) (fx' := [zO a0 16 [.ref a0_fronts, .ref a0_guests, .ref a0_orders, .int (Y18_hour b_a0), .int (Y18_warmth b_a0), .int w_a0_strength, .int u6.2.1, .int w_a0_lemons, .int u6.2.2, .int w_a0_coins, .int (Y18_storms b_a0)], zR T 5 a0_fronts (Y18_nf b_a0) a0_rF, zR T 6 a0_guests (Y18_ng b_a0) a0_rG]) (fc' := [zO a0 16 [.ref a0_fronts, .ref a0_guests, .ref a0_orders, .int (Y18_hour b_a0), .int (Y18_warmth b_a0), .int w_a0_strength, .int u6.2.1, .int w_a0_lemons, .int u6.2.2, .int w_a0_coins, .int (Y18_storms b_a0)], zR T 5 a0_fronts (Y18_nf b_a0) a0_rF, zR T 6 a0_guests (Y18_ng b_a0) a0_rG]) (tl := zT a0_rF a0_rG (Y18_nf b_a0) (Y18_ng b_a0) (Y18_Fw b_a0) (Y18_Ff b_a0) (Y18_Fa b_a0) (Y18_Fs b_a0) w_a0_Fp (Y18_Ga b_a0) (Y18_Gl b_a0) (Y18_Gh b_a0) (Y18_Gn b_a0) w_a0_Gp) (tl' := zT a0_rF a0_rG (Y18_nf b_a0) (Y18_ng b_a0) (Y18_Fw b_a0) (Y18_Ff b_a0) (Y18_Fa b_a0) (Y18_Fs b_a0) w_a0_Fp (Y18_Ga b_a0) (Y18_Gl b_a0) (Y18_Gh b_a0) (Y18_Gn b_a0) w_a0_Gp) rfl rfl rfl rfl zT_ln (by decide) (sxPatch_pk [(true, 0), (true, 1), (true, 2)] (by decide +kernel) rfl rfl rfl) rfl) (tc_a (fc := [zO a0 16 [.ref a0_fronts, .ref a0_guests, .ref a0_orders, .int (Y18_hour b_a0), .int (Y18_warmth b_a0), .int w_a0_strength, .int w_a0_charge, .int w_a0_lemons, .int w_a0_saucers, .int w_a0_coins, .int (Y18_storms b_a0)], zR T 5 a0_fronts (Y18_nf b_a0) a0_rF, zR T 6 a0_guests (Y18_ng b_a0) a0_rG]) (fc' := [zO a0 16 [.ref a0_fronts, .ref a0_guests, .ref a0_orders, .int (Y18_hour b_a0), .int (Y18_warmth b_a0), .int w_a0_strength, .int u6.2.1, .int w_a0_lemons, .int u6.2.2, .int w_a0_coins, .int (Y18_storms b_a0)], zR T 5 a0_fronts (Y18_nf b_a0) a0_rF, zR T 6 a0_guests (Y18_ng b_a0) a0_rG]) (tl := zT a0_rF a0_rG (Y18_nf b_a0) (Y18_ng b_a0) (Y18_Fw b_a0) (Y18_Ff b_a0) (Y18_Fa b_a0) (Y18_Fs b_a0) w_a0_Fp (Y18_Ga b_a0) (Y18_Gl b_a0) (Y18_Gh b_a0) (Y18_Gn b_a0) w_a0_Gp) (tl' := zT a0_rF a0_rG (Y18_nf b_a0) (Y18_ng b_a0) (Y18_Fw b_a0) (Y18_Ff b_a0) (Y18_Fa b_a0) (Y18_Fs b_a0) w_a0_Fp (Y18_Ga b_a0) (Y18_Gl b_a0) (Y18_Gh b_a0) (Y18_Gn b_a0) w_a0_Gp) rfl rfl rfl zT_fst) ⟨Nat.le_of_ble_eq_true rfl, Nat.le_of_ble_eq_true rfl⟩ dX17_carryOut_75 rfl ?_
          refine sx_pop X dX17_carryOut_78 rfl ?_
          exact sx_vret X dX17_carryOut_79 (ob_e hf) rfl rfl
        · have hf := ob_t hf c5
          refine sx_aload_n X 1 rfl dX17_carryOut_66 rfl ?_
          obtain ⟨u7, hu7, hf⟩ := ob_c hf
          refine sx_cV X (c_X18_isSqueezed (l := l) (D := D) (T := T) (sd := sd) a0 a0_fronts a0_guests a0_orders a0_rF a0_rG ((Y18_hour b_a0), (Y18_warmth b_a0), w_a0_strength, w_a0_charge, w_a0_lemons, w_a0_saucers, w_a0_coins, (Y18_storms b_a0), (Y18_Fw b_a0), (Y18_Ff b_a0), (Y18_Fa b_a0), (Y18_Fs b_a0), w_a0_Fp, (Y18_Ga b_a0), (Y18_Gl b_a0), (Y18_Gh b_a0), (Y18_Gn b_a0), w_a0_Gp, (Y18_nf b_a0), (Y18_ng b_a0)) hu7) (st' := [.int u7.1]) (q0 := 0) qm_729 qm_730 qm_731 qm_29 qm_732 hd_X18_isSqueezed ⟨rfl, rfl⟩ ⟨Nat.le_of_ble_eq_true rfl, Nat.le_of_ble_eq_true rfl⟩ rfl rfl (Nat.le_of_ble_eq_true rfl) rfl rfl rfl ([0, 1, 2] ++ List.range' 3 (zT a0_rF a0_rG (Y18_nf b_a0) (Y18_ng b_a0) (Y18_Fw b_a0) (Y18_Ff b_a0) (Y18_Fa b_a0) (Y18_Fs b_a0) w_a0_Fp (Y18_Ga b_a0) (Y18_Gl b_a0) (Y18_Gh b_a0) (Y18_Gn b_a0) w_a0_Gp).length) (tc_C (fx := [zO a0 16 [.ref a0_fronts, .ref a0_guests, .ref a0_orders, .int (Y18_hour b_a0), .int (Y18_warmth b_a0), .int w_a0_strength, .int w_a0_charge, .int w_a0_lemons, .int w_a0_saucers, .int w_a0_coins, .int (Y18_storms b_a0)], zR T 5 a0_fronts (Y18_nf b_a0) a0_rF, zR T 6 a0_guests (Y18_ng b_a0) a0_rG]) (fc := [zO a0 16 [.ref a0_fronts, .ref a0_guests, .ref a0_orders, .int (Y18_hour b_a0), .int (Y18_warmth b_a0), .int w_a0_strength, .int w_a0_charge, .int w_a0_lemons, .int w_a0_saucers, .int w_a0_coins, .int (Y18_storms b_a0)], zR T 5 a0_fronts (Y18_nf b_a0) a0_rF, zR T 6 a0_guests (Y18_ng b_a0) a0_rG]) (tl := zT a0_rF a0_rG (Y18_nf b_a0) (Y18_ng b_a0) (Y18_Fw b_a0) (Y18_Ff b_a0) (Y18_Fa b_a0) (Y18_Fs b_a0) w_a0_Fp (Y18_Ga b_a0) (Y18_Gl b_a0) (Y18_Gh b_a0) (Y18_Gn b_a0) w_a0_Gp) rfl rfl rfl rfl (by decide)) (tl_nd rfl (by decide)) (ws' := zO a0 16 [.ref a0_fronts, .ref a0_guests, .ref a0_orders, .int (Y18_hour b_a0), .int (Y18_warmth b_a0), .int w_a0_strength, .int u7.2.1, .int u7.2.2, .int w_a0_saucers, .int w_a0_coins, .int (Y18_storms b_a0)] :: zR T 5 a0_fronts (Y18_nf b_a0) a0_rF :: zR T 6 a0_guests (Y18_ng b_a0) a0_rG :: zT a0_rF a0_rG (Y18_nf b_a0) (Y18_ng b_a0) (Y18_Fw b_a0) (Y18_Ff b_a0) (Y18_Fa b_a0) (Y18_Fs b_a0) w_a0_Fp (Y18_Ga b_a0) (Y18_Gl b_a0) (Y18_Gh b_a0) (Y18_Gn b_a0) w_a0_Gp) (tc_W (fx := [zO a0 16 [.ref a0_fronts, .ref a0_guests, .ref a0_orders, .int (Y18_hour b_a0), .int (Y18_warmth b_a0), .int w_a0_strength, .int w_a0_charge, .int w_a0_lemons, .int w_a0_saucers, .int w_a0_coins, .int (Y18_storms b_a0)], zR T 5 a0_fronts (Y18_nf b_a0) a0_rF, zR T 6 a0_guests (Y18_ng b_a0) a0_rG]) (fx' := [zO a0 16 [.ref a0_fronts, .ref a0_guests, .ref a0_orders, .int (Y18_hour b_a0), .int (Y18_warmth b_a0), .int w_a0_strength, .int u7.2.1, .int u7.2.2, .int w_a0_saucers, .int w_a0_coins, .int (Y18_storms b_a0)], zR T 5 a0_fronts (Y18_nf b_a0) a0_rF, zR T 6 a0_guests (Y18_ng b_a0) a0_rG]) (fc' := [zO a0 16 [.ref a0_fronts, .ref a0_guests, .ref a0_orders, .int (Y18_hour b_a0), .int (Y18_warmth b_a0), .int w_a0_strength, .int u7.2.1, .int u7.2.2, .int w_a0_saucers, .int w_a0_coins, .int (Y18_storms b_a0)], zR T 5 a0_fronts (Y18_nf b_a0) a0_rF, zR T 6 a0_guests (Y18_ng b_a0) a0_rG]) (tl := zT a0_rF a0_rG (Y18_nf b_a0) (Y18_ng b_a0) (Y18_Fw b_a0) (Y18_Ff b_a0) (Y18_Fa b_a0) (Y18_Fs b_a0) w_a0_Fp (Y18_Ga b_a0) (Y18_Gl b_a0) (Y18_Gh b_a0) (Y18_Gn b_a0) w_a0_Gp) (tl' := zT a0_rF a0_rG (Y18_nf b_a0) (Y18_ng b_a0) (Y18_Fw b_a0) (Y18_Ff b_a0) (Y18_Fa b_a0) (Y18_Fs b_a0) w_a0_Fp (Y18_Ga b_a0) (Y18_Gl b_a0) (Y18_Gh b_a0) (Y18_Gn b_a0) w_a0_Gp) rfl rfl rfl rfl zT_ln (by decide) (sxPatch_pk [(true, 0), (true, 1), (true, 2)] (by decide +kernel) rfl rfl rfl) rfl) (tc_a (fc := [zO a0 16 [.ref a0_fronts, .ref a0_guests, .ref a0_orders, .int (Y18_hour b_a0), .int (Y18_warmth b_a0), .int w_a0_strength, .int w_a0_charge, .int w_a0_lemons, .int w_a0_saucers, .int w_a0_coins, .int (Y18_storms b_a0)], zR T 5 a0_fronts (Y18_nf b_a0) a0_rF, zR T 6 a0_guests (Y18_ng b_a0) a0_rG]) (fc' := [zO a0 16 [.ref a0_fronts, .ref a0_guests, .ref a0_orders, .int (Y18_hour b_a0), .int (Y18_warmth b_a0), .int w_a0_strength, .int u7.2.1, .int u7.2.2, .int w_a0_saucers, .int w_a0_coins, .int (Y18_storms b_a0)], zR T 5 a0_fronts (Y18_nf b_a0) a0_rF, zR T 6 a0_guests (Y18_ng b_a0) a0_rG]) (tl := zT a0_rF a0_rG (Y18_nf b_a0) (Y18_ng b_a0) (Y18_Fw b_a0) (Y18_Ff b_a0) (Y18_Fa b_a0) (Y18_Fs b_a0) w_a0_Fp (Y18_Ga b_a0) (Y18_Gl b_a0) (Y18_Gh b_a0) (Y18_Gn b_a0) w_a0_Gp) (tl' := zT a0_rF a0_rG (Y18_nf b_a0) (Y18_ng b_a0) (Y18_Fw b_a0) (Y18_Ff b_a0) (Y18_Fa b_a0) (Y18_Fs b_a0) w_a0_Fp (Y18_Ga b_a0) (Y18_Gl b_a0) (Y18_Gh b_a0) (Y18_Gn b_a0) w_a0_Gp) rfl rfl rfl zT_fst) ⟨Nat.le_of_ble_eq_true rfl, Nat.le_of_ble_eq_true rfl⟩ dX17_carryOut_67 rfl ?_
          refine sx_pop X dX17_carryOut_70 rfl ?_
          refine sx_goto X 79 dX17_carryOut_71 rfl ?_
          exact sx_vret X dX17_carryOut_79 (ob_e hf) rfl rfl
      · have hf := ob_t hf c4
        refine sx_aload_n X 1 rfl dX17_carryOut_46 rfl ?_
        refine sx_aload_n X 0 rfl dX17_carryOut_47 rfl ?_
        refine sx_gof X hn qm_1425 dX17_carryOut_48 ?_
        obtain ⟨u8, hu8, hf⟩ := ob_c hf
        refine sx_cV X (c_X18_isServed (l := l) (D := D) (T := T) (sd := sd) a0 a0_fronts a0_guests a0_orders a0_rF a0_rG (nI t.2.1) ((Y18_hour b_a0), (Y18_warmth b_a0), w_a0_strength, w_a0_charge, w_a0_lemons, w_a0_saucers, w_a0_coins, (Y18_storms b_a0), (Y18_Fw b_a0), (Y18_Ff b_a0), (Y18_Fa b_a0), (Y18_Fs b_a0), w_a0_Fp, (Y18_Ga b_a0), (Y18_Gl b_a0), (Y18_Gh b_a0), (Y18_Gn b_a0), w_a0_Gp, (Y18_nf b_a0), (Y18_ng b_a0)) hu8) (st' := [.int u8.1]) (q0 := 0) qm_724 qm_725 qm_726 qm_29 qm_727 hd_X18_isServed ⟨rfl, rfl⟩ ⟨Nat.le_of_ble_eq_true rfl, Nat.le_of_ble_eq_true rfl⟩ rfl rfl (Nat.le_of_ble_eq_true rfl) rfl rfl rfl ([0, 1, 2] ++ List.range' 3 (zT a0_rF a0_rG (Y18_nf b_a0) (Y18_ng b_a0) (Y18_Fw b_a0) (Y18_Ff b_a0) (Y18_Fa b_a0) (Y18_Fs b_a0) w_a0_Fp (Y18_Ga b_a0) (Y18_Gl b_a0) (Y18_Gh b_a0) (Y18_Gn b_a0) w_a0_Gp).length) (tc_C (fx := [zO a0 16 [.ref a0_fronts, .ref a0_guests, .ref a0_orders, .int (Y18_hour b_a0), .int (Y18_warmth b_a0), .int w_a0_strength, .int w_a0_charge, .int w_a0_lemons, .int w_a0_saucers, .int w_a0_coins, .int (Y18_storms b_a0)], zR T 5 a0_fronts (Y18_nf b_a0) a0_rF, zR T 6 a0_guests (Y18_ng b_a0) a0_rG]) (fc := [zO a0 16 [.ref a0_fronts, .ref a0_guests, .ref a0_orders, .int (Y18_hour b_a0), .int (Y18_warmth b_a0), .int w_a0_strength, .int w_a0_charge, .int w_a0_lemons, .int w_a0_saucers, .int w_a0_coins, .int (Y18_storms b_a0)], zR T 5 a0_fronts (Y18_nf b_a0) a0_rF, zR T 6 a0_guests (Y18_ng b_a0) a0_rG]) (tl := zT a0_rF a0_rG (Y18_nf b_a0) (Y18_ng b_a0) (Y18_Fw b_a0) (Y18_Ff b_a0) (Y18_Fa b_a0) (Y18_Fs b_a0) w_a0_Fp (Y18_Ga b_a0) (Y18_Gl b_a0) (Y18_Gh b_a0) (Y18_Gn b_a0) w_a0_Gp) rfl rfl rfl rfl (by decide)) (tl_nd rfl (by decide)) (ws' := zO a0 16 [.ref a0_fronts, .ref a0_guests, .ref a0_orders, .int (Y18_hour b_a0), .int (Y18_warmth b_a0), .int u8.2.1, .int w_a0_charge, .int w_a0_lemons, .int w_a0_saucers, .int u8.2.2.1, .int (Y18_storms b_a0)] :: zR T 5 a0_fronts (Y18_nf b_a0) a0_rF :: zR T 6 a0_guests (Y18_ng b_a0) a0_rG :: zT a0_rF a0_rG (Y18_nf b_a0) (Y18_ng b_a0) (Y18_Fw b_a0) (Y18_Ff b_a0) (Y18_Fa b_a0) (Y18_Fs b_a0) w_a0_Fp (Y18_Ga b_a0) (Y18_Gl b_a0) (Y18_Gh b_a0) (Y18_Gn b_a0) u8.2.2.2) (tc_W (fx := [zO a0 16 [.ref a0_fronts, .ref a0_guests, .ref a0_orders, .int (Y18_hour b_a0), .int (Y18_warmth b_a0), .int w_a0_strength, .int w_a0_charge, .int w_a0_lemons, .int w_a0_saucers, .int w_a0_coins, .int (Y18_storms b_a0)], zR T 5 a0_fronts (Y18_nf b_a0) a0_rF, zR T 6 a0_guests (Y18_ng b_a0) a0_rG]) (fx' := [zO a0 16 [.ref a0_fronts, .ref a0_guests, .ref a0_orders, .int (Y18_hour b_a0), .int (Y18_warmth b_a0), .int u8.2.1, .int w_a0_charge, .int w_a0_lemons, .int w_a0_saucers, .int u8.2.2.1, .int (Y18_storms b_a0)], zR T 5 a0_fronts (Y18_nf b_a0) a0_rF, zR T 6 a0_guests (Y18_ng b_a0) a0_rG]) (fc' := [zO a0 16 [.ref a0_fronts, .ref a0_guests, .ref a0_orders, .int (Y18_hour b_a0), .int (Y18_warmth b_a0), .int u8.2.1, .int w_a0_charge, .int w_a0_lemons, .int w_a0_saucers, .int u8.2.2.1, .int (Y18_storms b_a0)], zR T 5 a0_fronts (Y18_nf b_a0) a0_rF, zR T 6 a0_guests (Y18_ng b_a0) a0_rG]) (tl := zT a0_rF a0_rG (Y18_nf b_a0) (Y18_ng b_a0) (Y18_Fw b_a0) (Y18_Ff b_a0) (Y18_Fa b_a0) (Y18_Fs b_a0) w_a0_Fp (Y18_Ga b_a0) (Y18_Gl b_a0) (Y18_Gh b_a0) (Y18_Gn b_a0) w_a0_Gp) (tl' := zT a0_rF a0_rG (Y18_nf b_a0) (Y18_ng b_a0) (Y18_Fw b_a0) (Y18_Ff b_a0) (Y18_Fa b_a0) (Y18_Fs b_a0) w_a0_Fp (Y18_Ga b_a0) (Y18_Gl b_a0) (Y18_Gh b_a0) (Y18_Gn b_a0) u8.2.2.2) rfl rfl rfl rfl zT_ln (by decide) (sxPatch_pk [(true, 0), (true, 1), (true, 2)] (by decide +kernel) rfl rfl rfl) rfl) (tc_a (fc := [zO a0 16 [.ref a0_fronts, .ref a0_guests, .ref a0_orders, .int (Y18_hour b_a0), .int (Y18_warmth b_a0), .int w_a0_strength, .int w_a0_charge, .int w_a0_lemons, .int w_a0_saucers, .int w_a0_coins, .int (Y18_storms b_a0)], zR T 5 a0_fronts (Y18_nf b_a0) a0_rF, zR T 6 a0_guests (Y18_ng b_a0) a0_rG]) (fc' := [zO a0 16 [.ref a0_fronts, .ref a0_guests, .ref a0_orders, .int (Y18_hour b_a0), .int (Y18_warmth b_a0), .int u8.2.1, .int w_a0_charge, .int w_a0_lemons, .int w_a0_saucers, .int u8.2.2.1, .int (Y18_storms b_a0)], zR T 5 a0_fronts (Y18_nf b_a0) a0_rF, zR T 6 a0_guests (Y18_ng b_a0) a0_rG]) (tl := zT a0_rF a0_rG (Y18_nf b_a0) (Y18_ng b_a0) (Y18_Fw b_a0) (Y18_Ff b_a0) (Y18_Fa b_a0) (Y18_Fs b_a0) w_a0_Fp (Y18_Ga b_a0) (Y18_Gl b_a0) (Y18_Gh b_a0) (Y18_Gn b_a0) w_a0_Gp) (tl' := zT a0_rF a0_rG (Y18_nf b_a0) (Y18_ng b_a0) (Y18_Fw b_a0) (Y18_Ff b_a0) (Y18_Fa b_a0) (Y18_Fs b_a0) w_a0_Fp (Y18_Ga b_a0) (Y18_Gl b_a0) (Y18_Gh b_a0) (Y18_Gn b_a0) u8.2.2.2) rfl rfl rfl zT_fst) ⟨Nat.le_of_ble_eq_true rfl, Nat.le_of_ble_eq_true rfl⟩ dX17_carryOut_51 rfl ?_
        refine sx_pop X dX17_carryOut_54 rfl ?_
        refine sx_goto X 79 dX17_carryOut_55 rfl ?_
        exact sx_vret X dX17_carryOut_79 (ob_e hf) rfl rfl
    · have hf := ob_t hf c3
      refine sx_aload_n X 1 rfl dX17_carryOut_26 rfl ?_
      refine sx_aload_n X 0 rfl dX17_carryOut_27 rfl ?_
      refine sx_gof X hn qm_1425 dX17_carryOut_28 ?_
      obtain ⟨u9, hu9, hf⟩ := ob_c hf
      refine sx_cV X (c_X18_isSteeped (l := l) (D := D) (T := T) (sd := sd) a0 a0_fronts a0_guests a0_orders a0_rF a0_rG (nI t.2.1) ((Y18_hour b_a0), (Y18_warmth b_a0), w_a0_strength, w_a0_charge, w_a0_lemons, w_a0_saucers, w_a0_coins, (Y18_storms b_a0), (Y18_Fw b_a0), (Y18_Ff b_a0), (Y18_Fa b_a0), (Y18_Fs b_a0), w_a0_Fp, (Y18_Ga b_a0), (Y18_Gl b_a0), (Y18_Gh b_a0), (Y18_Gn b_a0), w_a0_Gp, (Y18_nf b_a0), (Y18_ng b_a0)) hu9) (st' := [.int u9.1]) (q0 := 0) qm_720 qm_721 qm_722 qm_29 qm_723 hd_X18_isSteeped ⟨rfl, rfl⟩ ⟨Nat.le_of_ble_eq_true rfl, Nat.le_of_ble_eq_true rfl⟩ rfl rfl (Nat.le_of_ble_eq_true rfl) rfl rfl rfl ([0, 1, 2] ++ List.range' 3 (zT a0_rF a0_rG (Y18_nf b_a0) (Y18_ng b_a0) (Y18_Fw b_a0) (Y18_Ff b_a0) (Y18_Fa b_a0) (Y18_Fs b_a0) w_a0_Fp (Y18_Ga b_a0) (Y18_Gl b_a0) (Y18_Gh b_a0) (Y18_Gn b_a0) w_a0_Gp).length) (tc_C (fx := [zO a0 16 [.ref a0_fronts, .ref a0_guests, .ref a0_orders, .int (Y18_hour b_a0), .int (Y18_warmth b_a0), .int w_a0_strength, .int w_a0_charge, .int w_a0_lemons, .int w_a0_saucers, .int w_a0_coins, .int (Y18_storms b_a0)], zR T 5 a0_fronts (Y18_nf b_a0) a0_rF, zR T 6 a0_guests (Y18_ng b_a0) a0_rG]) (fc := [zO a0 16 [.ref a0_fronts, .ref a0_guests, .ref a0_orders, .int (Y18_hour b_a0), .int (Y18_warmth b_a0), .int w_a0_strength, .int w_a0_charge, .int w_a0_lemons, .int w_a0_saucers, .int w_a0_coins, .int (Y18_storms b_a0)], zR T 5 a0_fronts (Y18_nf b_a0) a0_rF, zR T 6 a0_guests (Y18_ng b_a0) a0_rG]) (tl := zT a0_rF a0_rG (Y18_nf b_a0) (Y18_ng b_a0) (Y18_Fw b_a0) (Y18_Ff b_a0) (Y18_Fa b_a0) (Y18_Fs b_a0) w_a0_Fp (Y18_Ga b_a0) (Y18_Gl b_a0) (Y18_Gh b_a0) (Y18_Gn b_a0) w_a0_Gp) rfl rfl rfl rfl (by decide)) (tl_nd rfl (by decide)) (ws' := zO a0 16 [.ref a0_fronts, .ref a0_guests, .ref a0_orders, .int (Y18_hour b_a0), .int (Y18_warmth b_a0), .int u9.2.1, .int w_a0_charge, .int w_a0_lemons, .int w_a0_saucers, .int w_a0_coins, .int (Y18_storms b_a0)] :: zR T 5 a0_fronts (Y18_nf b_a0) a0_rF :: zR T 6 a0_guests (Y18_ng b_a0) a0_rG :: zT a0_rF a0_rG (Y18_nf b_a0) (Y18_ng b_a0) (Y18_Fw b_a0) (Y18_Ff b_a0) (Y18_Fa b_a0) (Y18_Fs b_a0) u9.2.2 (Y18_Ga b_a0) (Y18_Gl b_a0) (Y18_Gh b_a0) (Y18_Gn b_a0) w_a0_Gp) (tc_W (fx := [zO a0 16 [.ref a0_fronts, .ref a0_guests, .ref a0_orders, .int (Y18_hour b_a0), .int (Y18_warmth b_a0), .int w_a0_strength, .int w_a0_charge, .int w_a0_lemons, .int w_a0_saucers, .int w_a0_coins, .int (Y18_storms b_a0)], zR T 5 a0_fronts (Y18_nf b_a0) a0_rF, zR T 6 a0_guests (Y18_ng b_a0) a0_rG]) (fx' := [zO a0 16 [.ref a0_fronts, .ref a0_guests, .ref a0_orders, .int (Y18_hour b_a0), .int (Y18_warmth b_a0), .int u9.2.1, .int w_a0_charge, .int w_a0_lemons, .int w_a0_saucers, .int w_a0_coins, .int (Y18_storms b_a0)], zR T 5 a0_fronts (Y18_nf b_a0) a0_rF, zR T 6 a0_guests (Y18_ng b_a0) a0_rG]) (fc' := [zO a0 16 [.ref a0_fronts, .ref a0_guests, .ref a0_orders, .int (Y18_hour b_a0), .int (Y18_warmth b_a0), .int u9.2.1, .int w_a0_charge, .int w_a0_lemons, .int w_a0_saucers, .int w_a0_coins, .int (Y18_storms b_a0)], zR T 5 a0_fronts (Y18_nf b_a0) a0_rF, zR T 6 a0_guests (Y18_ng b_a0) a0_rG]) (tl := zT a0_rF a0_rG (Y18_nf b_a0) (Y18_ng b_a0) (Y18_Fw b_a0) (Y18_Ff b_a0) (Y18_Fa b_a0) (Y18_Fs b_a0) w_a0_Fp (Y18_Ga b_a0) (Y18_Gl b_a0) (Y18_Gh b_a0) (Y18_Gn b_a0) w_a0_Gp) (tl' := zT a0_rF a0_rG (Y18_nf b_a0) (Y18_ng b_a0) (Y18_Fw b_a0) (Y18_Ff b_a0) (Y18_Fa b_a0) (Y18_Fs b_a0) u9.2.2 (Y18_Ga b_a0) (Y18_Gl b_a0) (Y18_Gh b_a0) (Y18_Gn b_a0) w_a0_Gp) rfl rfl rfl rfl zT_ln (by decide) (sxPatch_pk [(true, 0), (true, 1), (true, 2)] (by decide +kernel) rfl rfl rfl) rfl) (tc_a (fc := [zO a0 16 [.ref a0_fronts, .ref a0_guests, .ref a0_orders, .int (Y18_hour b_a0), .int (Y18_warmth b_a0), .int w_a0_strength, .int w_a0_charge, .int w_a0_lemons, .int w_a0_saucers, .int w_a0_coins, .int (Y18_storms b_a0)], zR T 5 a0_fronts (Y18_nf b_a0) a0_rF, zR T 6 a0_guests (Y18_ng b_a0) a0_rG]) (fc' := [zO a0 16 [.ref a0_fronts, .ref a0_guests, .ref a0_orders, .int (Y18_hour b_a0), .int (Y18_warmth b_a0), .int u9.2.1, .int w_a0_charge, .int w_a0_lemons, .int w_a0_saucers, .int w_a0_coins, .int (Y18_storms b_a0)], zR T 5 a0_fronts (Y18_nf b_a0) a0_rF, zR T 6 a0_guests (Y18_ng b_a0) a0_rG]) (tl := zT a0_rF a0_rG (Y18_nf b_a0) (Y18_ng b_a0) (Y18_Fw b_a0) (Y18_Ff b_a0) (Y18_Fa b_a0) (Y18_Fs b_a0) w_a0_Fp (Y18_Ga b_a0) (Y18_Gl b_a0) (Y18_Gh b_a0) (Y18_Gn b_a0) w_a0_Gp) (tl' := zT a0_rF a0_rG (Y18_nf b_a0) (Y18_ng b_a0) (Y18_Fw b_a0) (Y18_Ff b_a0) (Y18_Fa b_a0) (Y18_Fs b_a0) u9.2.2 (Y18_Ga b_a0) (Y18_Gl b_a0) (Y18_Gh b_a0) (Y18_Gn b_a0) w_a0_Gp) rfl rfl rfl zT_fst) ⟨Nat.le_of_ble_eq_true rfl, Nat.le_of_ble_eq_true rfl⟩ dX17_carryOut_31 rfl ?_
      refine sx_pop X dX17_carryOut_34 rfl ?_
      refine sx_goto X 79 dX17_carryOut_35 rfl ?_
      exact sx_vret X dX17_carryOut_79 (ob_e hf) rfl rfl
  refine sx_aload_n X 0 rfl dX17_carryOut_0 rfl ?_
  refine sx_gof X ha qm_1426 dX17_carryOut_1 ?_
  cases h2 : t.2.2 with
  | none =>
    rw [h2] at hf
    rw [h2] at hA
    subst hA
    refine sx_ifnullN X 19 dX17_carryOut_4 rfl ?_
    exact R19 (Y18_strength b_a0) (Y18_charge b_a0) (Y18_lemons b_a0) (Y18_saucers b_a0) (Y18_coins b_a0) (Y18_Fp b_a0) (Y18_Gp b_a0) hf
  | some c1 =>
    rw [h2] at hf
    rw [h2] at hA
    obtain ⟨xc1, ec1, hc1⟩ := hA
    subst ec1
    refine sx_ifnull X dX17_carryOut_4 ?_
    refine sx_aload_n X 0 rfl dX17_carryOut_7 rfl ?_
    refine sx_gof X ha qm_1426 dX17_carryOut_8 ?_
    refine sx_aload_n X 1 rfl dX17_carryOut_11 rfl ?_
    obtain ⟨u10, hu10, hf⟩ := ob_c hf
    refine sx_pV X (c_X16_value (l := l) (D := D) (T := T) (sd := sd) 4 xc1 c1 a0 a0_fronts a0_guests a0_orders a0_rF a0_rG b_a0 hu10).toP (X.M.and (X.Mf (FzN_ok _ _ _) hc1)) (wr := []) (sx_rcvO (FzN_O hc1)) qm_711 qm_712 qm_713 qm_40 qm_714 hd_X16_value ⟨rfl, rfl⟩ ⟨Nat.le_of_ble_eq_true rfl, Nat.le_of_ble_eq_true rfl⟩ rfl rfl (Nat.le_of_ble_eq_true rfl) ⟨Nat.zero_le _, Nat.zero_le _⟩ dX17_carryOut_12 (List.append_nil _).symm (fun r9 hr9 => ?_)
    replace hr9 := hr9.symm
    subst hr9
    refine sx_chgw (List.append_nil _) ?_
    refine sx_if_ne X 19 dX17_carryOut_15 rfl (fun c11 => ?_) (fun c11 => ?_)
    · have hf := ob_f hf c11
      exact R19 (Y18_strength b_a0) (Y18_charge b_a0) (Y18_lemons b_a0) (Y18_saucers b_a0) (Y18_coins b_a0) (Y18_Fp b_a0) (Y18_Gp b_a0) hf
    · have hf := ob_t hf c11
      exact sx_vret X dX17_carryOut_18 (ob_e hf) rfl rfl
