/-! A TEXT IS TAUGHT: its letters, four in one number -/
set_option maxRecDepth 100000 in
theorem c_latS {l : Launch} {D : va_G} {T : Nat → ClassId} {sd : SdT} {jd : JdT} (a : Nat) (tx : List Nat) : SxK (SFand (SFy sd jd) (StrAt a tx)) l D T yJ0_isLatin1_aae02 cJ0_isLatin1_aae02 1 (some .boolean) (rmL 0 0 0) [.ref a] [] (fun _ : Unit => some (.int 1)) (fun _ => []) () 0 0 := by
  refine sx_start (SFand_ok (SFy_ok sd jd) (StrAt_ok a tx)) (by decide +kernel) (Nat.le_of_ble_eq_true rfl) (fun p e s mi args below meth c A X hnm => ?_)
  have XS := X
  have XY := XS.dn (SFy_ok sd jd)
  have X := XY.dn (SFx_ok sd)
  have XJ := XY.fz
  obtain ⟨v, hO, hco, hva, hT⟩ := XS.fz
  refine sx_gst X X.sf.2.1.2.2.2.2.2.2.1 qm_792 dJ0_isLatin1_aae02_0 ?_
  refine sx_if_eq X 17 dJ0_isLatin1_aae02_3 rfl (fun hc => absurd hc (by decide)) (fun _ => ?_)
  refine sx_aload_n X 0 rfl dJ0_isLatin1_aae02_6 rfl ?_
  refine sx_gof X hco qm_1509 dJ0_isLatin1_aae02_7 ?_
  refine sx_if_ne X 17 dJ0_isLatin1_aae02_10 rfl (fun hc => absurd rfl hc) (fun _ => ?_)
  refine sx_iconst X (v := 1) dJ0_isLatin1_aae02_13 rfl ?_
  refine sx_goto X 18 dJ0_isLatin1_aae02_14 rfl ?_
  exact sx_iret X rfl dJ0_isLatin1_aae02_18 rfl rfl rfl
theorem ch128 {c : Nat} (h : c < 128) : ((nI c &&& 255).toUInt32 % 65536).toInt32 = nI c := (show ∀ c, c < 128 → ((nI c &&& 255).toUInt32 % 65536).toInt32 = nI c by decide +kernel) c h
set_option maxRecDepth 100000 in
theorem c_chB {l : Launch} {D : va_G} {T : Nat → ClassId} {sd : SdT} {jd : JdT} (v i : Nat) (tx : List Nat) (ht : tx.length < 2 ^ 31) (hi : i < tx.length) (hc : tx.getD i 0 < 128) : SxK (SFand (SFy sd jd) (va_T .byte v tx.length (fun j => .int (nI (tx.getD j 0))))) l D T yJ1_charAt_3b067 cJ1_charAt_3b067 2 (some .char) (rmL 2 0 0) [.ref v, .int (nI i)] [] (fun _ : Unit => some (.int (nI (tx.getD i 0)))) (fun _ => []) () 0 0 := by
  refine sx_start (SFand_ok (SFy_ok sd jd) (va_T_ok _ _ _ _)) (by decide +kernel) (Nat.le_of_ble_eq_true rfl) (fun p e s mi args below meth c A X hnm => ?_)
  have XS := X
  have XY := XS.dn (SFy_ok sd jd)
  have X := XY.dn (SFx_ok sd)
  have hT := XS.fz
  refine sx_iload_n X 1 rfl dJ1_charAt_3b067_0 rfl ?_
  refine sx_aload_n X 0 rfl dJ1_charAt_3b067_1 rfl ?_
  refine sx_stl X (v := nI tx.length) hT rfl dJ1_charAt_3b067_2 ?_
  refine sx_pS X ((c_ck (l := l) (D := D) (T := T) (sd := sd) (nI i) (nI tx.length) (nI_pos (by omega)) (nI_lt hi (by omega))).toP) X.M (wr := []) qm_805 qm_806 qm_27 qm_807 hd_ck ⟨rfl, rfl⟩ ⟨Nat.le_of_ble_eq_true rfl, Nat.le_of_ble_eq_true rfl⟩ rfl rfl (Nat.le_of_ble_eq_true rfl) ⟨Nat.le_of_ble_eq_true rfl, Nat.le_of_ble_eq_true rfl⟩ dJ1_charAt_3b067_3 rfl (fun u9 hu9 => ?_)
  refine sx_chg (ws' := []) (st' := []) rfl rfl ?_
  refine sx_aload_n X 0 rfl dJ1_charAt_3b067_6 rfl ?_
  refine sx_iload_n X 1 rfl dJ1_charAt_3b067_7 rfl ?_
  refine sx_stb X hT (vp_in_nI hi (by omega)) (show _ = .int (nI (tx.getD i 0)) from by rw [nI_clamp (by omega)]) dJ1_charAt_3b067_8 ?_
  refine sx_sipush X (v := 255) dJ1_charAt_3b067_9 rfl ?_
  refine sx_iand X dJ1_charAt_3b067_12 ?_
  refine sx_i2c X (v := nI (tx.getD i 0)) dJ1_charAt_3b067_13 (ch128 hc) ?_
  exact sx_iret X (pk_charN (by omega)).1 dJ1_charAt_3b067_14 rfl rfl rfl
set_option maxRecDepth 100000 in
theorem c_chS {l : Launch} {D : va_G} {T : Nat → ClassId} {sd : SdT} {jd : JdT} (a i : Nat) (tx : List Nat) (ht : tx.length < 2 ^ 31) (hi : i < tx.length) (hc : tx.getD i 0 < 128) : SxK (SFand (SFy sd jd) (StrAt a tx)) l D T yJ0_charAt_5068e cJ0_charAt_5068e 2 (some .char) (rmL 3 0 0) [.ref a, .int (nI i)] [] (fun _ : Unit => some (.int (nI (tx.getD i 0)))) (fun _ => []) () 0 0 := by
  refine sx_start (SFand_ok (SFy_ok sd jd) (StrAt_ok a tx)) (by decide +kernel) (Nat.le_of_ble_eq_true rfl) (fun p e s mi args below meth c A X hnm => ?_)
  have XS := X
  have XY := XS.dn (SFy_ok sd jd)
  have X := XY.dn (SFx_ok sd)
  have XJ := XY.fz
  obtain ⟨v, hO, hco, hva, hT⟩ := XS.fz
  refine sx_aload_n X 0 rfl dJ0_charAt_5068e_0 rfl ?_
  refine sx_pV X ((c_latS (l := l) (D := D) (T := T) (sd := sd) (jd := jd) a tx).toP) XS.M (wr := []) (sx_rcvO hO) qm_798 qm_799 qm_800 qm_27 qm_801 hd_latin ⟨rfl, rfl⟩ ⟨Nat.le_of_ble_eq_true rfl, Nat.le_of_ble_eq_true rfl⟩ rfl rfl (Nat.le_of_ble_eq_true rfl) ⟨Nat.le_of_ble_eq_true rfl, Nat.le_of_ble_eq_true rfl⟩ dJ0_charAt_5068e_1 rfl (fun u9 hu9 => ?_)
  refine sx_chg (ws' := []) (st' := [.int 1]) rfl rfl ?_
  refine sx_if_eq X 16 dJ0_charAt_5068e_4 rfl (fun hc => absurd hc (by decide)) (fun _ => ?_)
  refine sx_aload_n X 0 rfl dJ0_charAt_5068e_7 rfl ?_
  refine sx_gof X hva qm_1508 dJ0_charAt_5068e_8 ?_
  refine sx_iload_n X 1 rfl dJ0_charAt_5068e_11 rfl ?_
  refine sx_pS X ((c_chB (l := l) (D := D) (T := T) (sd := sd) (jd := jd) v i tx ht hi hc).toP) (XY.M.and (XY.Mf (va_T_ok _ _ _ _) hT)) (wr := []) qm_802 qm_803 qm_36 qm_804 hd_ch1 ⟨rfl, rfl⟩ ⟨Nat.le_of_ble_eq_true rfl, Nat.le_of_ble_eq_true rfl⟩ rfl rfl (Nat.le_of_ble_eq_true rfl) ⟨Nat.le_of_ble_eq_true rfl, Nat.le_of_ble_eq_true rfl⟩ dJ0_charAt_5068e_12 rfl (fun u9 hu9 => ?_)
  refine sx_chg (ws' := []) (st' := [.int (nI (tx.getD i 0))]) rfl rfl ?_
  exact sx_iret X (pk_charN (by omega)).1 dJ0_charAt_5068e_15 rfl rfl rfl
theorem hd_taught : SxDs yL_taught 2 := ⟨by decide, by decide, by decide +kernel⟩
abbrev rmTa : Room := { frames := 106, cells := 1, slots := 5, locals := 2700 }
section TAUGHT
variable {l : Launch} {D : va_G} {T : Nat → ClassId} {sd : SdT} {jd : JdT} {p : Program} {e : Env} {s : State} {mi : MethodId} {args : Array Value} {below : List Frame} {meth : Method} {c : Code} {A : Nat → Prop} {Q : State → Prop}
abbrev TaX (p : Program) (s : State) (mi : MethodId) (args : Array Value) (meth : Method) (c : Code) (D : va_G) (T : Nat → ClassId) (A : Nat → Prop) (sd : SdT) (jd : JdT) (a : Nat) (tx : List Nat) : Prop := SxC p s mi args meth c cL_taught "WeatherTeaLaw" 6 (some .int) D T A (SFand (SFy sd jd) (StrAt a tx))
theorem lk4 (L k : Nat) : (nI L + 4 * nI k) + 4 = nI (L + 4 * k + 4) := by
  rw [show (4 : Int32) = nI 4 from rfl, pk_mul, nI_add, nI_add]
theorem lk0 (L k : Nat) : nI L + 4 * nI k = nI (L + 4 * k + 0) := by
  rw [show (4 : Int32) = nI 4 from rfl, pk_mul, nI_add]
  rfl
theorem upd_upd (g : Nat → Int32) (k : Nat) (x y : Int32) : upd (upd g k x) k y = upd g k y := by
  funext j
  by_cases h : j = k
  · rw [h, upd_same, upd_same]
  · rw [upd_else _ _ h, upd_else _ _ h, upd_else _ _ h]
set_option maxRecDepth 100000 in
set_option maxHeartbeats 4000000 in
theorem tg_I (a q h h_tape h_tokens h_pot h_trial h_draft h_tape_bytes : Nat) (b_h : bX12) (tx : List Nat) (htl : tx.length ≤ 1500) (h128 : ∀ x ∈ tx, x < 128) (wr : va_W) (XS : TaX p s mi args meth c D T A sd jd a tx) (L k : Nat) (B : Nat → Int32) (hL : L ≤ 1500) (hk : k < 5) (g0 : Nat → Int32) (kk : SxG p l e rmTa s mi args below meth c D A 6 1 5 Q (zI T q 5 (upd g0 k (nI (pkA tx (L + 4 * k) 4))) :: zO h 10 [.ref h_tape, .ref h_tokens, .ref h_pot, .ref h_trial, .ref h_draft, .int (X12_errorPosition b_h)] :: zO h_tape 8 [.ref h_tape_bytes, .int (nI L)] :: zB T h_tape_bytes 2000 B :: wr) [(5, .int (nI (L + 4 * k + 4))), (4, .int (nI k)), (3, .int (nI L)), (2, .ref q), (0, .ref h), (1, .ref a)] 87 []) : ∀ (d n : Nat) (g : Nat → Int32), n + d = 4 → g = upd g0 k (nI (pkA tx (L + 4 * k) n)) → SxG p l e rmTa s mi args below meth c D A 6 1 5 Q (zI T q 5 g :: zO h 10 [.ref h_tape, .ref h_tokens, .ref h_pot, .ref h_trial, .ref h_draft, .int (X12_errorPosition b_h)] :: zO h_tape 8 [.ref h_tape_bytes, .int (nI L)] :: zB T h_tape_bytes 2000 B :: wr) [(5, .int (nI (L + 4 * k + n))), (4, .int (nI k)), (3, .int (nI L)), (2, .ref q), (0, .ref h), (1, .ref a)] 36 [] := by
  have XY := XS.dn (SFy_ok sd jd)
  have X := XY.dn (SFx_ok sd)
  obtain ⟨v, hO, hco, hva, hT⟩ := XS.fz
  intro d
  induction d with
  | zero =>
    intro n g hn hg
    have hn : n = 4 := hn
    subst hn
    refine sx_iload X 0 rfl dL_taught_36 ?_
    refine sx_iload_n X 2 rfl dL_taught_38 rfl ?_
    refine sx_iconst X (v := 4) dL_taught_39 rfl ?_
    refine sx_iload X 1 rfl dL_taught_40 ?_
    refine sx_imul X dL_taught_42 ?_
    refine sx_iadd X dL_taught_43 ?_
    refine sx_iconst X (v := 4) dL_taught_44 rfl ?_
    refine sx_iadd X dL_taught_45 ?_
    refine sx_topi (y := nI (L + 4 * k + 4)) (lk4 L k) ?_
    refine sx_icmp_ge X 87 dL_taught_46 rfl (fun _ => ?_) (fun hc => absurd (Int32.le_refl _) hc)
    subst hg
    exact kk
  | succ d ih =>
    intro n g hn hg
    refine sx_iload X 0 rfl dL_taught_36 ?_
    refine sx_iload_n X 2 rfl dL_taught_38 rfl ?_
    refine sx_iconst X (v := 4) dL_taught_39 rfl ?_
    refine sx_iload X 1 rfl dL_taught_40 ?_
    refine sx_imul X dL_taught_42 ?_
    refine sx_iadd X dL_taught_43 ?_
    refine sx_iconst X (v := 4) dL_taught_44 rfl ?_
    refine sx_iadd X dL_taught_45 ?_
    refine sx_topi (y := nI (L + 4 * k + 4)) (lk4 L k) ?_
    refine sx_icmp_ge X 87 dL_taught_46 rfl (fun hc => absurd hc (nI_ge (a := L + 4 * k + n) (b := L + 4 * k + 4) (by omega) (by omega))) (fun _ => ?_)
    refine sx_aload_n X 3 rfl dL_taught_49 rfl ?_
    refine sx_iload X 1 rfl dL_taught_50 ?_
    refine sx_aload_n X 3 rfl dL_taught_52 rfl ?_
    refine sx_iload X 1 rfl dL_taught_53 ?_
    refine sx_iald X 0 rfl (vp_in_nI hk (by decide)) dL_taught_55 ?_
    refine sx_topi (y := nI (pkA tx (L + 4 * k) n)) (show g (nI k).toNatClampNeg = _ from by rw [nI_clamp (by omega), hg, upd_same]) ?_
    refine sx_bipush X (v := 8) dL_taught_56 rfl ?_
    refine sx_ishl X dL_taught_58 ?_
    refine sx_iload X 0 rfl dL_taught_59 ?_
    refine sx_aload_n X 5 rfl dL_taught_61 rfl ?_
    refine sx_pV X ((c_stLe (l := l) (D := D) (T := T) (sd := sd) (jd := jd) a tx (by omega)).toP) XS.M (wr := zI T q 5 g :: zO h 10 [.ref h_tape, .ref h_tokens, .ref h_pot, .ref h_trial, .ref h_draft, .int (X12_errorPosition b_h)] :: zO h_tape 8 [.ref h_tape_bytes, .int (nI L)] :: zB T h_tape_bytes 2000 B :: wr) (sx_rcvO hO) qm_784 qm_785 qm_786 qm_27 qm_787 hd_slen ⟨rfl, rfl⟩ ⟨Nat.le_of_ble_eq_true rfl, Nat.le_of_ble_eq_true rfl⟩ rfl rfl (Nat.le_of_ble_eq_true rfl) ⟨Nat.le_of_ble_eq_true rfl, Nat.le_of_ble_eq_true rfl⟩ dL_taught_62 rfl (fun u9 hu9 => ?_)
    refine sx_chg (ws' := zI T q 5 g :: zO h 10 [.ref h_tape, .ref h_tokens, .ref h_pot, .ref h_trial, .ref h_draft, .int (X12_errorPosition b_h)] :: zO h_tape 8 [.ref h_tape_bytes, .int (nI L)] :: zB T h_tape_bytes 2000 B :: wr) (st' := [.int (nI tx.length), .int (nI (L + 4 * k + n)), .int ((nI (pkA tx (L + 4 * k) n)) <<< (8 &&& 31)), .int (nI k), .ref q]) rfl rfl ?_
    have K79 : SxG p l e rmTa s mi args below meth c D A 6 1 5 Q (zI T q 5 g :: zO h 10 [.ref h_tape, .ref h_tokens, .ref h_pot, .ref h_trial, .ref h_draft, .int (X12_errorPosition b_h)] :: zO h_tape 8 [.ref h_tape_bytes, .int (nI L)] :: zB T h_tape_bytes 2000 B :: wr) [(5, .int (nI (L + 4 * k + n))), (4, .int (nI k)), (3, .int (nI L)), (2, .ref q), (0, .ref h), (1, .ref a)] 79 [.int (nI (chA tx (L + 4 * k + n))), .int ((nI (pkA tx (L + 4 * k) n)) <<< (8 &&& 31)), .int (nI k), .ref q] := by
      refine sx_ior X dL_taught_79 ?_
      refine sx_topi (y := nI (pkA tx (L + 4 * k) (n + 1))) (pkA_s h128 (L + 4 * k) n (by omega)) ?_
      refine sx_iast X (ws' := zI T q 5 (upd g k (nI (pkA tx (L + 4 * k) (n + 1)))) :: zO h 10 [.ref h_tape, .ref h_tokens, .ref h_pot, .ref h_trial, .ref h_draft, .int (X12_errorPosition b_h)] :: zO h_tape 8 [.ref h_tape_bytes, .int (nI L)] :: zB T h_tape_bytes 2000 B :: wr) 0 rfl (vp_in_nI hk (by decide)) (by rw [nI_clamp (by omega)]; rfl) dL_taught_80 ?_
      refine sx_iinc X (v := nI (L + 4 * k + (n + 1))) (lv' := [(5, .int (nI (L + 4 * k + (n + 1)))), (4, .int (nI k)), (3, .int (nI L)), (2, .ref q), (0, .ref h), (1, .ref a)]) 0 rfl dL_taught_81 (nI_add (L + 4 * k + n) 1) (by decide) rfl ?_
      refine sx_goto X 36 dL_taught_84 rfl ?_
      refine sx_lsub [0, 1, 2, 3, 4, 5] (lv' := [(5, .int (nI (L + 4 * k + (n + 1)))), (4, .int (nI k)), (3, .int (nI L)), (2, .ref q), (0, .ref h), (1, .ref a)]) rfl ?_
      exact ih (n + 1) _ (by omega) (by rw [hg]; exact upd_upd _ _ _ _)
    refine sx_icmp_ge X 77 dL_taught_65 rfl (fun hc => ?_) (fun hc => ?_)
    · have hc9 : nI (chA tx (L + 4 * k + n)) = nI 32 := by
        unfold chA
        rw [if_neg (fun z => absurd hc (nI_ge (a := L + 4 * k + n) (b := tx.length) z (by omega)))]
      refine sx_bipush X (v := 32) dL_taught_77 rfl ?_
      refine sx_topi (y := nI (chA tx (L + 4 * k + n))) hc9.symm ?_
      exact K79
    · have hlt : L + 4 * k + n < tx.length := Nat.lt_of_not_le (fun z => hc (nI_le z (by omega)))
      refine sx_aload_n X 5 rfl dL_taught_68 rfl ?_
      refine sx_iload X 0 rfl dL_taught_69 ?_
      refine sx_pV X ((c_chS (l := l) (D := D) (T := T) (sd := sd) (jd := jd) a (L + 4 * k + n) tx (by omega) hlt (h128 _ (gd_mem hlt))).toP) XS.M (wr := zI T q 5 g :: zO h 10 [.ref h_tape, .ref h_tokens, .ref h_pot, .ref h_trial, .ref h_draft, .int (X12_errorPosition b_h)] :: zO h_tape 8 [.ref h_tape_bytes, .int (nI L)] :: zB T h_tape_bytes 2000 B :: wr) (sx_rcvO hO) qm_794 qm_795 qm_796 qm_27 qm_797 hd_schar ⟨rfl, rfl⟩ ⟨Nat.le_of_ble_eq_true rfl, Nat.le_of_ble_eq_true rfl⟩ rfl rfl (Nat.le_of_ble_eq_true rfl) ⟨Nat.le_of_ble_eq_true rfl, Nat.le_of_ble_eq_true rfl⟩ dL_taught_71 rfl (fun u9 hu9 => ?_)
      refine sx_chg (ws' := zI T q 5 g :: zO h 10 [.ref h_tape, .ref h_tokens, .ref h_pot, .ref h_trial, .ref h_draft, .int (X12_errorPosition b_h)] :: zO h_tape 8 [.ref h_tape_bytes, .int (nI L)] :: zB T h_tape_bytes 2000 B :: wr) (st' := [.int (nI (tx.getD (L + 4 * k + n) 0)), .int ((nI (pkA tx (L + 4 * k) n)) <<< (8 &&& 31)), .int (nI k), .ref q]) rfl rfl ?_
      refine sx_goto X 79 dL_taught_74 rfl ?_
      refine sx_topi (y := nI (chA tx (L + 4 * k + n))) (show nI (tx.getD (L + 4 * k + n) 0) = nI (chA tx (L + 4 * k + n)) from by unfold chA; rw [if_pos hlt]) ?_
      exact K79
set_option maxRecDepth 100000 in
set_option maxHeartbeats 4000000 in
theorem tg_K (a q h h_tape h_tokens h_pot h_trial h_draft h_tape_bytes : Nat) (b_h : bX12) (tx : List Nat) (htl : tx.length ≤ 1500) (h128 : ∀ x ∈ tx, x < 128) (wr : va_W) (XS : TaX p s mi args meth c D T A sd jd a tx) (L : Nat) (B : Nat → Int32) (hL : L ≤ 1500) (kk : ∀ g : Nat → Int32, (∀ j, j < 5 → g j = nI (pkA tx (L + 4 * j) 4)) → SxG p l e rmTa s mi args below meth c D A 6 1 5 Q (zI T q 5 g :: zO h 10 [.ref h_tape, .ref h_tokens, .ref h_pot, .ref h_trial, .ref h_draft, .int (X12_errorPosition b_h)] :: zO h_tape 8 [.ref h_tape_bytes, .int (nI L)] :: zB T h_tape_bytes 2000 B :: wr) [(4, .int (nI 5)), (3, .int (nI L)), (2, .ref q), (0, .ref h), (1, .ref a)] 93 []) : ∀ (d k : Nat) (g : Nat → Int32), k + d = 5 → (∀ j, j < k → g j = nI (pkA tx (L + 4 * j) 4)) → SxG p l e rmTa s mi args below meth c D A 6 1 5 Q (zI T q 5 g :: zO h 10 [.ref h_tape, .ref h_tokens, .ref h_pot, .ref h_trial, .ref h_draft, .int (X12_errorPosition b_h)] :: zO h_tape 8 [.ref h_tape_bytes, .int (nI L)] :: zB T h_tape_bytes 2000 B :: wr) [(4, .int (nI k)), (3, .int (nI L)), (2, .ref q), (0, .ref h), (1, .ref a)] 17 [] := by
  have XY := XS.dn (SFy_ok sd jd)
  have X := XY.dn (SFx_ok sd)
  obtain ⟨v, hO, hco, hva, hT⟩ := XS.fz
  intro d
  induction d with
  | zero =>
    intro k g hk hg
    have hk : k = 5 := hk
    subst hk
    refine sx_iload X 0 rfl dL_taught_17 ?_
    refine sx_iconst X (v := 5) dL_taught_19 rfl ?_
    refine sx_icmp_ge X 93 dL_taught_20 rfl (fun _ => ?_) (fun hc => absurd (by decide) hc)
    exact kk g hg
  | succ d ih =>
    intro k g hk hg
    refine sx_iload X 0 rfl dL_taught_17 ?_
    refine sx_iconst X (v := 5) dL_taught_19 rfl ?_
    refine sx_icmp_ge X 93 dL_taught_20 rfl (fun hc => absurd hc (nI_ge (a := k) (b := 5) (by omega) (by decide))) (fun _ => ?_)
    refine sx_aload_n X 2 rfl dL_taught_23 rfl ?_
    refine sx_iload X 0 rfl dL_taught_24 ?_
    refine sx_iconst X (v := 0) dL_taught_26 rfl ?_
    refine sx_iast X (ws' := zI T q 5 (upd g k 0) :: zO h 10 [.ref h_tape, .ref h_tokens, .ref h_pot, .ref h_trial, .ref h_draft, .int (X12_errorPosition b_h)] :: zO h_tape 8 [.ref h_tape_bytes, .int (nI L)] :: zB T h_tape_bytes 2000 B :: wr) 0 rfl (vp_in_nI (show k < 5 by omega) (by decide)) (by rw [nI_clamp (by omega)]; rfl) dL_taught_27 ?_
    refine sx_iload_n X 1 rfl dL_taught_28 rfl ?_
    refine sx_iconst X (v := 4) dL_taught_29 rfl ?_
    refine sx_iload X 0 rfl dL_taught_30 ?_
    refine sx_imul X dL_taught_32 ?_
    refine sx_iadd X dL_taught_33 ?_
    refine sx_topi (y := nI (L + 4 * k + 0)) (lk0 L k) ?_
    refine sx_istore X (lv' := [(5, .int (nI (L + 4 * k + 0))), (4, .int (nI k)), (3, .int (nI L)), (2, .ref q), (0, .ref h), (1, .ref a)]) dL_taught_34 (by decide) rfl ?_
    refine sx_lsub [0, 1, 2, 3, 4, 5] (lv' := [(5, .int (nI (L + 4 * k + 0))), (4, .int (nI k)), (3, .int (nI L)), (2, .ref q), (0, .ref h), (1, .ref a)]) rfl ?_
    refine tg_I a q h h_tape h_tokens h_pot h_trial h_draft h_tape_bytes b_h tx htl h128 wr XS L k B hL (by omega) g ?_ 4 0 (upd g k 0) rfl rfl
    refine sx_iinc X (v := nI (k + 1)) (lv' := [(4, .int (nI (k + 1))), (5, .int (nI (L + 4 * k + 4))), (3, .int (nI L)), (2, .ref q), (0, .ref h), (1, .ref a)]) 1 rfl dL_taught_87 (nI_add k 1) (by decide) rfl ?_
    refine sx_goto X 17 dL_taught_90 rfl ?_
    refine sx_lsub [0, 2, 3, 4, 5] (lv' := [(4, .int (nI (k + 1))), (3, .int (nI L)), (2, .ref q), (0, .ref h), (1, .ref a)]) rfl ?_
    refine ih (k + 1) _ (by omega) (fun j hj => ?_)
    by_cases hjk : j = k
    · rw [hjk, upd_same]
    · rw [upd_else _ _ hjk]
      exact hg j (by omega)
set_option maxRecDepth 100000 in
set_option maxHeartbeats 4000000 in
theorem tg_O (a q h h_tape h_tokens h_pot h_trial h_draft h_tape_bytes : Nat) (b_h : bX12) (tx : List Nat) (htl : tx.length ≤ 1500) (h128 : ∀ x ∈ tx, x < 128) (wr : va_W) (XS : TaX p s mi args meth c D T A sd jd a tx) (kk : ∀ (L : Nat) (g B : Nat → Int32), tx.length ≤ L → L < 2000 → (∀ j, j < L → B j = nI (chA tx j)) → SxG p l e rmTa s mi args below meth c D A 6 1 5 Q (zI T q 5 g :: zO h 10 [.ref h_tape, .ref h_tokens, .ref h_pot, .ref h_trial, .ref h_draft, .int (X12_errorPosition b_h)] :: zO h_tape 8 [.ref h_tape_bytes, .int (nI L)] :: zB T h_tape_bytes 2000 B :: wr) [(3, .int (nI L)), (2, .ref q), (0, .ref h), (1, .ref a)] 119 []) : ∀ (d L : Nat) (g B : Nat → Int32), tx.length ≤ L + d → L < tx.length + 20 → (∀ j, j < L → B j = nI (chA tx j)) → SxG p l e rmTa s mi args below meth c D A 6 1 5 Q (zI T q 5 g :: zO h 10 [.ref h_tape, .ref h_tokens, .ref h_pot, .ref h_trial, .ref h_draft, .int (X12_errorPosition b_h)] :: zO h_tape 8 [.ref h_tape_bytes, .int (nI L)] :: zB T h_tape_bytes 2000 B :: wr) [(3, .int (nI L)), (2, .ref q), (0, .ref h), (1, .ref a)] 6 [] := by
  have XY := XS.dn (SFy_ok sd jd)
  have X := XY.dn (SFx_ok sd)
  obtain ⟨v, hO, hco, hva, hT⟩ := XS.fz
  intro d
  induction d with
  | zero =>
    intro L g B hd hL hB
    refine sx_iload_n X 0 rfl dL_taught_6 rfl ?_
    refine sx_aload_n X 3 rfl dL_taught_7 rfl ?_
    refine sx_pV X ((c_stLe (l := l) (D := D) (T := T) (sd := sd) (jd := jd) a tx (by omega)).toP) XS.M (wr := zI T q 5 g :: zO h 10 [.ref h_tape, .ref h_tokens, .ref h_pot, .ref h_trial, .ref h_draft, .int (X12_errorPosition b_h)] :: zO h_tape 8 [.ref h_tape_bytes, .int (nI L)] :: zB T h_tape_bytes 2000 B :: wr) (sx_rcvO hO) qm_784 qm_785 qm_786 qm_27 qm_787 hd_slen ⟨rfl, rfl⟩ ⟨Nat.le_of_ble_eq_true rfl, Nat.le_of_ble_eq_true rfl⟩ rfl rfl (Nat.le_of_ble_eq_true rfl) ⟨Nat.le_of_ble_eq_true rfl, Nat.le_of_ble_eq_true rfl⟩ dL_taught_8 rfl (fun u9 hu9 => ?_)
    refine sx_chg (ws' := zI T q 5 g :: zO h 10 [.ref h_tape, .ref h_tokens, .ref h_pot, .ref h_trial, .ref h_draft, .int (X12_errorPosition b_h)] :: zO h_tape 8 [.ref h_tape_bytes, .int (nI L)] :: zB T h_tape_bytes 2000 B :: wr) (st' := [.int (nI tx.length), .int (nI L)]) rfl rfl ?_
    refine sx_icmp_ge X 119 dL_taught_11 rfl (fun _ => ?_) (fun hc => absurd (nI_le (a := tx.length) (b := L) hd (by omega)) hc)
    exact kk L g B hd (by omega) hB
  | succ d ih =>
    intro L g B hd hL hB
    refine sx_iload_n X 0 rfl dL_taught_6 rfl ?_
    refine sx_aload_n X 3 rfl dL_taught_7 rfl ?_
    refine sx_pV X ((c_stLe (l := l) (D := D) (T := T) (sd := sd) (jd := jd) a tx (by omega)).toP) XS.M (wr := zI T q 5 g :: zO h 10 [.ref h_tape, .ref h_tokens, .ref h_pot, .ref h_trial, .ref h_draft, .int (X12_errorPosition b_h)] :: zO h_tape 8 [.ref h_tape_bytes, .int (nI L)] :: zB T h_tape_bytes 2000 B :: wr) (sx_rcvO hO) qm_784 qm_785 qm_786 qm_27 qm_787 hd_slen ⟨rfl, rfl⟩ ⟨Nat.le_of_ble_eq_true rfl, Nat.le_of_ble_eq_true rfl⟩ rfl rfl (Nat.le_of_ble_eq_true rfl) ⟨Nat.le_of_ble_eq_true rfl, Nat.le_of_ble_eq_true rfl⟩ dL_taught_8 rfl (fun u9 hu9 => ?_)
    refine sx_chg (ws' := zI T q 5 g :: zO h 10 [.ref h_tape, .ref h_tokens, .ref h_pot, .ref h_trial, .ref h_draft, .int (X12_errorPosition b_h)] :: zO h_tape 8 [.ref h_tape_bytes, .int (nI L)] :: zB T h_tape_bytes 2000 B :: wr) (st' := [.int (nI tx.length), .int (nI L)]) rfl rfl ?_
    refine sx_icmp_ge X 119 dL_taught_11 rfl (fun hc => ?_) (fun hc => ?_)
    · exact kk L g B (Nat.le_of_not_lt (fun z => absurd hc (nI_ge (a := L) (b := tx.length) z (by omega)))) (by omega) hB
    · have hlt : L < tx.length := Nat.lt_of_not_le (fun z => hc (nI_le z (by omega)))
      refine sx_iconst X (v := 0) dL_taught_14 rfl ?_
      refine sx_istore X (lv' := [(4, .int 0), (3, .int (nI L)), (2, .ref q), (0, .ref h), (1, .ref a)]) dL_taught_15 (by decide) rfl ?_
      refine tg_K a q h h_tape h_tokens h_pot h_trial h_draft h_tape_bytes b_h tx htl h128 wr XS L B (by omega) (fun g2 hg2 => ?_) 5 0 g (by rfl) (fun j hj => absurd hj (Nat.not_lt_zero j))
      refine sx_aload_n X 3 rfl dL_taught_93 rfl ?_
      refine sx_aload_n X 2 rfl dL_taught_94 rfl ?_
      refine sx_iconst X (v := 0) dL_taught_95 rfl ?_
      refine sx_iald X (i := 0) 0 rfl (by decide) dL_taught_96 ?_
      refine sx_topi (y := nI (pkA tx (L + 0) 4)) (hg2 0 (by decide)) ?_
      refine sx_aload_n X 2 rfl dL_taught_97 rfl ?_
      refine sx_iconst X (v := 1) dL_taught_98 rfl ?_
      refine sx_iald X (i := 1) 0 rfl (by decide) dL_taught_99 ?_
      refine sx_topi (y := nI (pkA tx (L + 4) 4)) (hg2 1 (by decide)) ?_
      refine sx_aload_n X 2 rfl dL_taught_100 rfl ?_
      refine sx_iconst X (v := 2) dL_taught_101 rfl ?_
      refine sx_iald X (i := 2) 0 rfl (by decide) dL_taught_102 ?_
      refine sx_topi (y := nI (pkA tx (L + 8) 4)) (hg2 2 (by decide)) ?_
      refine sx_aload_n X 2 rfl dL_taught_103 rfl ?_
      refine sx_iconst X (v := 3) dL_taught_104 rfl ?_
      refine sx_iald X (i := 3) 0 rfl (by decide) dL_taught_105 ?_
      refine sx_topi (y := nI (pkA tx (L + 12) 4)) (hg2 3 (by decide)) ?_
      refine sx_aload_n X 2 rfl dL_taught_106 rfl ?_
      refine sx_iconst X (v := 4) dL_taught_107 rfl ?_
      refine sx_iald X (i := 4) 0 rfl (by decide) dL_taught_108 ?_
      refine sx_topi (y := nI (pkA tx (L + 16) 4)) (hg2 4 (by decide)) ?_
      obtain ⟨r9, B9, hf9, hB9⟩ := feed_ok h128 (L := L) (by omega) b_h B hB (n := 5) (by decide)
      refine sx_perm (List.perm_middle (l₁ := [zI T q 5 g2, zO h 10 [.ref h_tape, .ref h_tokens, .ref h_pot, .ref h_trial, .ref h_draft, .int (X12_errorPosition b_h)], zO h_tape 8 [.ref h_tape_bytes, .int (nI L)]]) (a := zB T h_tape_bytes 2000 B) (l₂ := wr)) ?_
      refine sx_chg (ws' := zB T h_tape_bytes 2000 B :: zI T q 5 g2 :: zO h 10 [.ref h_tape, .ref h_tokens, .ref h_pot, .ref h_trial, .ref h_draft, .int (X12_errorPosition b_h)] :: zO h_tape 8 [.ref h_tape_bytes, .int (nI L)] :: wr) (st' := [.int (nI (pkA tx (L + 16) 4)), .int (nI (pkA tx (L + 12) 4)), .int (nI (pkA tx (L + 8) 4)), .int (nI (pkA tx (L + 4) 4)), .int (nI (pkA tx (L + 0) 4)), .ref h]) rfl rfl ?_
      refine sx_perm (List.perm_middle (l₁ := [zB T h_tape_bytes 2000 B, zI T q 5 g2, zO h 10 [.ref h_tape, .ref h_tokens, .ref h_pot, .ref h_trial, .ref h_draft, .int (X12_errorPosition b_h)]]) (a := zO h_tape 8 [.ref h_tape_bytes, .int (nI L)]) (l₂ := wr)) ?_
      refine sx_chg (ws' := zO h_tape 8 [.ref h_tape_bytes, .int (nI L)] :: zB T h_tape_bytes 2000 B :: zI T q 5 g2 :: zO h 10 [.ref h_tape, .ref h_tokens, .ref h_pot, .ref h_trial, .ref h_draft, .int (X12_errorPosition b_h)] :: wr) (st' := [.int (nI (pkA tx (L + 16) 4)), .int (nI (pkA tx (L + 12) 4)), .int (nI (pkA tx (L + 8) 4)), .int (nI (pkA tx (L + 4) 4)), .int (nI (pkA tx (L + 0) 4)), .ref h]) rfl rfl ?_
      refine sx_perm (List.perm_middle (l₁ := [zO h_tape 8 [.ref h_tape_bytes, .int (nI L)], zB T h_tape_bytes 2000 B, zI T q 5 g2]) (a := zO h 10 [.ref h_tape, .ref h_tokens, .ref h_pot, .ref h_trial, .ref h_draft, .int (X12_errorPosition b_h)]) (l₂ := wr)) ?_
      refine sx_chg (ws' := zO h 10 [.ref h_tape, .ref h_tokens, .ref h_pot, .ref h_trial, .ref h_draft, .int (X12_errorPosition b_h)] :: zO h_tape 8 [.ref h_tape_bytes, .int (nI L)] :: zB T h_tape_bytes 2000 B :: zI T q 5 g2 :: wr) (st' := [.int (nI (pkA tx (L + 16) 4)), .int (nI (pkA tx (L + 12) 4)), .int (nI (pkA tx (L + 8) 4)), .int (nI (pkA tx (L + 4) 4)), .int (nI (pkA tx (L + 0) 4)), .ref h]) rfl rfl ?_
      refine sx_pV X ((c_X12_feed_r (l := l) (D := D) (T := T) (sd := sd) h h_tape h_tokens h_pot h_trial h_draft h_tape_bytes 5 _ _ _ _ _ b_h (B, nI L) hf9).toP) X.M (wr := zI T q 5 g2 :: wr) (sx_rcv X (q0 := 0) (w := zO h 10 [.ref h_tape, .ref h_tokens, .ref h_pot, .ref h_trial, .ref h_draft, .int (X12_errorPosition b_h)] :: zO h_tape 8 [.ref h_tape_bytes, .int (nI L)] :: zB T h_tape_bytes 2000 B :: zI T q 5 g2 :: wr) rfl rfl) qm_832 qm_833 qm_834 qm_13 qm_835 hd_X12_feed ⟨rfl, rfl⟩ ⟨Nat.le_of_ble_eq_true rfl, Nat.le_of_ble_eq_true rfl⟩ rfl rfl (Nat.le_of_ble_eq_true rfl) ⟨Nat.le_of_ble_eq_true rfl, Nat.le_of_ble_eq_true rfl⟩ dL_taught_109 rfl (fun u9 hu9 => ?_)
      subst hu9
      refine sx_chg (ws' := zO h 10 [.ref h_tape, .ref h_tokens, .ref h_pot, .ref h_trial, .ref h_draft, .int (X12_errorPosition b_h)] :: zO h_tape 8 [.ref h_tape_bytes, .int (nI (L + 20))] :: zB T h_tape_bytes 2000 B9 :: zI T q 5 g2 :: wr) (st' := [.int r9]) rfl rfl ?_
      refine sx_pop X dL_taught_112 rfl ?_
      refine sx_iinc X (v := nI (L + 20)) (lv' := [(3, .int (nI (L + 20))), (4, .int (nI 5)), (2, .ref q), (0, .ref h), (1, .ref a)]) 1 rfl dL_taught_113 (nI_add L 20) (by decide) rfl ?_
      refine sx_goto X 6 dL_taught_116 rfl ?_
      refine sx_perm (List.perm_middle (l₁ := [zO h 10 [.ref h_tape, .ref h_tokens, .ref h_pot, .ref h_trial, .ref h_draft, .int (X12_errorPosition b_h)], zO h_tape 8 [.ref h_tape_bytes, .int (nI (L + 20))], zB T h_tape_bytes 2000 B9]) (a := zI T q 5 g2) (l₂ := wr)) ?_
      refine sx_chg (ws' := zI T q 5 g2 :: zO h 10 [.ref h_tape, .ref h_tokens, .ref h_pot, .ref h_trial, .ref h_draft, .int (X12_errorPosition b_h)] :: zO h_tape 8 [.ref h_tape_bytes, .int (nI (L + 20))] :: zB T h_tape_bytes 2000 B9 :: wr) (st' := []) rfl rfl ?_
      refine sx_lsub [0, 2, 3, 4] (lv' := [(3, .int (nI (L + 20))), (2, .ref q), (0, .ref h), (1, .ref a)]) rfl ?_
      exact ih (L + 20) g2 B9 (by omega) (by omega) hB9
end TAUGHT
