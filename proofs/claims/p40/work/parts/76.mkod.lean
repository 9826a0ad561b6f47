/-! MAKING orders -/
theorem hd_odIn : SxDs yX17_init 3 := ⟨by decide, by decide, by decide +kernel⟩
set_option maxRecDepth 100000 in
set_option maxHeartbeats 4000000 in
theorem c_odIn {l : Launch} {D : va_G} {T : Nat → ClassId} {sd : SdT} (q r nf ng : Nat) (x : Int32) (hnf : nf ≤ 8) (hng : ng ≤ 8) : SxKP (SFx sd) l D T yX17_init cX17_init 5 none (rmL 10 11 44) [.ref q, .ref r, .int (nI nf), .int (nI ng)] [zO q 15 [.int 0, .int 0, .null], zDi r x] (fun _ : Int32 × Od × va_W => none) (fun w => zDi r w.1 :: w.2.2) (fun w => OdOk nf ng w.2.1 ∧ OdW q w.2.1 w.2.2) 11 44 := by
  refine sx_startP (SFx_ok sd) (by decide +kernel) (Nat.le_of_ble_eq_true rfl) (fun p e s mi args below meth c A X hnm => ?_)
  refine sx_aload_n X 0 rfl dX17_init_0 rfl ?_
  refine sx_objInit X qm_1394 qm_56 qm_57 dX17_init_1 (Nat.le_of_ble_eq_true rfl) (Nat.le_of_ble_eq_true rfl) ?_
  refine sx_aload_n X 1 rfl dX17_init_4 rfl ?_
  refine sx_bipush X (v := 8) dX17_init_5 rfl ?_
  refine sx_topi (y := nI 8) rfl ?_
  refine sx_wsub (ws' := [zO r 11 [.int x], zO q 15 [.int 0, .int 0, .null]]) [1, 0] rfl rfl ?_
  refine sx_pV X (c_dice (l := l) (D := D) (T := T) (sd := sd) r 8 x (by decide) (by decide)) X.M (wr := [zO q 15 [.int 0, .int 0, .null]]) (sx_rcv X (q0 := 0) (w := [zO r 11 [.int x], zO q 15 [.int 0, .int 0, .null]]) rfl rfl) qm_1395 qm_691 qm_692 qm_24 qm_693 hd_dice ⟨rfl, rfl⟩ ⟨Nat.le_of_ble_eq_true rfl, Nat.le_of_ble_eq_true rfl⟩ rfl rfl (Nat.le_of_ble_eq_true rfl) ⟨(Nat.le_of_ble_eq_true rfl), (Nat.le_of_ble_eq_true rfl)⟩ dX17_init_7 rfl (fun w70 hw70 => ?_)
  refine sx_chg (ws' := [zO r 11 [.int w70.2], zO q 15 [.int 0, .int 0, .null]]) (st' := [.int (nI w70.1)]) rfl rfl ?_
  refine sx_istore X (lv' := [(4, .int (nI w70.1)), (0, .ref q), (1, .ref r), (2, .int (nI nf)), (3, .int (nI ng))]) dX17_init_10 (by decide) rfl ?_
  refine sx_aload_n X 1 rfl dX17_init_12 rfl ?_
  refine sx_iload X 0 rfl dX17_init_13 ?_
  refine sx_iconst X (v := 3) dX17_init_15 rfl ?_
  by_cases h3 : w70.1 < 3
  · refine sx_icmp_ge X 27 dX17_init_16 rfl (fun hc => absurd hc (nI_ge (a := w70.1) (b := 3) (by omega) (by decide))) (fun _ => ?_)
    refine sx_iload_n X 3 rfl dX17_init_19 rfl ?_
    by_cases hf0 : nf = 0
    · refine sx_if_le X 27 dX17_init_20 rfl (fun _ => ?_) (fun hc => absurd (show nI nf ≤ 0 from by rw [hf0]; decide) hc)
      refine sx_iload X 0 rfl dX17_init_27 ?_
      refine sx_iconst X (v := 4) dX17_init_29 rfl ?_
      refine sx_icmp_le X 41 dX17_init_30 rfl (fun _ => ?_) (fun hc => absurd (nI_le (a := w70.1) (b := 4) (by omega) (by decide)) hc)
      refine sx_iload X 0 rfl dX17_init_41 ?_
      refine sx_iconst X (v := 2) dX17_init_43 rfl ?_
      refine sx_irem X (by decide) dX17_init_44 ?_
      refine sx_topi (y := nI (w70.1 % 2)) (pk_rem (by omega) (by decide) (by decide)) ?_
      by_cases hp2 : w70.1 % 2 = 0
      · refine sx_if_ne X 52 dX17_init_45 rfl (fun hc => absurd (show nI (w70.1 % 2) = 0 from by rw [hp2]; rfl) hc) (fun _ => ?_)
        refine sx_iconst X (v := 2) dX17_init_48 rfl ?_
        refine sx_goto X 53 dX17_init_49 rfl ?_
        refine sx_chg (ws' := [zO r 11 [.int w70.2], zO q 15 [.int 0, .int 0, .null]]) (st' := .int (nI 2) :: [.ref q]) rfl rfl ?_
        refine sx_putF X hnm (ws' := [zO r 11 [.int w70.2], zO q 15 [.int (nI 2), .int 0, .null]]) kX17 1 rfl 0 (Nat.le_of_ble_eq_true rfl) qm_1424 rfl rfl rfl rfl (Nat.le_of_ble_eq_true rfl) rfl dX17_init_53 ?_
        refine sx_aload_n X 1 rfl dX17_init_56 rfl ?_
        refine sx_aload_n X 1 rfl dX17_init_57 rfl ?_
        refine sx_get X kX17 1 rfl 0 (Nat.le_of_ble_eq_true rfl) qm_1424 rfl dX17_init_58 ?_
        refine sx_if_ne X 72 dX17_init_61 rfl (fun _ => ?_) (fun hc => absurd hc (by decide))
        refine sx_aload_n X 1 rfl dX17_init_72 rfl ?_
        refine sx_get X kX17 1 rfl 0 (Nat.le_of_ble_eq_true rfl) qm_1424 rfl dX17_init_73 ?_
        refine sx_iconst X (v := 1) dX17_init_76 rfl ?_
        refine sx_icmp_ne X 88 dX17_init_77 rfl (fun _ => ?_) (fun hc => absurd hc (by decide))
        refine sx_iconst X (v := 0) dX17_init_88 rfl ?_
        refine sx_chg (ws' := [zO r 11 [.int w70.2], zO q 15 [.int (nI 2), .int 0, .null]]) (st' := .int (nI 0) :: [.ref q]) rfl rfl ?_
        refine sx_putF X hnm (ws' := [zO r 11 [.int w70.2], zO q 15 [.int (nI 2), .int (nI 0), .null]]) kX17 1 rfl 1 (Nat.le_of_ble_eq_true rfl) qm_1425 rfl rfl rfl rfl (Nat.le_of_ble_eq_true rfl) rfl dX17_init_89 ?_
        refine sx_aload_n X 1 rfl dX17_init_92 rfl ?_
        refine sx_aload_n X 2 rfl dX17_init_93 rfl ?_
        refine sx_iconst X (v := 3) dX17_init_94 rfl ?_
        refine sx_topi (y := nI 3) rfl ?_
        refine sx_pV X (c_dice (l := l) (D := D) (T := T) (sd := sd) r 3 w70.2 (by decide) (by decide)) X.M (wr := [zO q 15 [.int (nI 2), .int (nI 0), .null]]) (sx_rcv X (q0 := 0) (w := [zO r 11 [.int w70.2], zO q 15 [.int (nI 2), .int (nI 0), .null]]) rfl rfl) qm_1395 qm_691 qm_692 qm_24 qm_693 hd_dice ⟨rfl, rfl⟩ ⟨Nat.le_of_ble_eq_true rfl, Nat.le_of_ble_eq_true rfl⟩ rfl rfl (Nat.le_of_ble_eq_true rfl) ⟨(Nat.le_of_ble_eq_true rfl), (Nat.le_of_ble_eq_true rfl)⟩ dX17_init_95 rfl (fun w74 hw74 => ?_)
        refine sx_chg (ws' := [zO r 11 [.int w74.2], zO q 15 [.int (nI 2), .int (nI 0), .null]]) (st' := [.int (nI w74.1), .ref q]) rfl rfl ?_
        refine sx_if_ne X 105 dX17_init_98 rfl (fun hc => ?_) (fun hc => ?_)
        · refine sx_aload_n X 2 rfl dX17_init_105 rfl ?_
          refine sx_iload_n X 3 rfl dX17_init_106 rfl ?_
          refine sx_iload_n X 4 rfl dX17_init_107 rfl ?_
          refine sx_iconst X (v := 1) dX17_init_108 rfl ?_
          refine sx_pS X (c_test1 (l := l) (D := D) (T := T) (sd := sd) 0 r nf ng w74.2 hnf hng) X.M (wr := [zO q 15 [.int (nI 2), .int (nI 0), .null]]) qm_1396 qm_1397 qm_40 qm_1398 hd_test ⟨rfl, rfl⟩ ⟨Nat.le_of_ble_eq_true rfl, Nat.le_of_ble_eq_true rfl⟩ rfl rfl (Nat.le_of_ble_eq_true rfl) ⟨(Nat.le_of_ble_eq_true rfl), (Nat.le_of_ble_eq_true rfl)⟩ dX17_init_109 rfl (fun z75 hz75 => ?_)
          refine sx_chg (ws' := zDi r z75.1 :: (z75.2.2.2 ++ ([zO q 15 [.int (nI 2), .int (nI 0), .null]]))) (st' := [.ref z75.2.1, .ref q]) rfl rfl ?_
          refine sx_perm (List.Perm.cons _ List.perm_append_comm) ?_
          refine sx_chgw (ws' := zO r 11 [.int z75.1] :: zO q 15 [.int (nI 2), .int (nI 0), .null] :: z75.2.2.2) rfl ?_
          refine sx_putF X hnm (ws' := zO r 11 [.int z75.1] :: zO q 15 [.int (nI 2), .int (nI 0), .ref z75.2.1] :: z75.2.2.2) kX17 1 rfl 2 (Nat.le_of_ble_eq_true rfl) qm_1426 rfl rfl rfl rfl (Nat.le_of_ble_eq_true rfl) rfl dX17_init_112 ?_
          refine sx_widen (k' := 11) (n' := 44) (Nat.le_of_ble_eq_true rfl) (Nat.le_of_ble_eq_true rfl) ?_
          refine sx_pick (z75.1, (2, 0, some z75.2.2.1), zO q 15 [.int (nI 2), .int (nI 0), .ref z75.2.1] :: z75.2.2.2) ⟨⟨Or.inr (Or.inr ⟨Or.inl rfl, rfl⟩), Or.inr ⟨_, rfl, hz75.1⟩⟩, ⟨.ref z75.2.1, List.mem_cons_self, ⟨_, rfl, TrW_mono _ _ _ (fun q hq => by simp [hq]) hz75.2⟩⟩⟩ ?_
          exact sx_vret X dX17_init_115 rfl rfl rfl
        · refine sx_null X dX17_init_101 ?_
          refine sx_goto X 112 dX17_init_102 rfl ?_
          refine sx_putF X hnm (ws' := [zO r 11 [.int w74.2], zO q 15 [.int (nI 2), .int (nI 0), .null]]) kX17 1 rfl 2 (Nat.le_of_ble_eq_true rfl) qm_1426 rfl rfl rfl rfl (Nat.le_of_ble_eq_true rfl) rfl dX17_init_112 ?_
          refine sx_widen (k' := 11) (n' := 44) (Nat.le_of_ble_eq_true rfl) (Nat.le_of_ble_eq_true rfl) ?_
          refine sx_pick (w74.2, (2, 0, none), [zO q 15 [.int (nI 2), .int (nI 0), .null]]) ⟨⟨Or.inr (Or.inr ⟨Or.inl rfl, rfl⟩), Or.inl rfl⟩, ⟨.null, List.mem_cons_self, rfl⟩⟩ ?_
          exact sx_vret X dX17_init_115 rfl rfl rfl
      refine sx_if_ne X 52 dX17_init_45 rfl (fun _ => ?_) (fun hc => absurd hc (nI_ne0 (by omega) (by omega)))
      refine sx_iconst X (v := 3) dX17_init_52 rfl ?_
      refine sx_chg (ws' := [zO r 11 [.int w70.2], zO q 15 [.int 0, .int 0, .null]]) (st' := .int (nI 3) :: [.ref q]) rfl rfl ?_
      refine sx_putF X hnm (ws' := [zO r 11 [.int w70.2], zO q 15 [.int (nI 3), .int 0, .null]]) kX17 1 rfl 0 (Nat.le_of_ble_eq_true rfl) qm_1424 rfl rfl rfl rfl (Nat.le_of_ble_eq_true rfl) rfl dX17_init_53 ?_
      refine sx_aload_n X 1 rfl dX17_init_56 rfl ?_
      refine sx_aload_n X 1 rfl dX17_init_57 rfl ?_
      refine sx_get X kX17 1 rfl 0 (Nat.le_of_ble_eq_true rfl) qm_1424 rfl dX17_init_58 ?_
      refine sx_if_ne X 72 dX17_init_61 rfl (fun _ => ?_) (fun hc => absurd hc (by decide))
      refine sx_aload_n X 1 rfl dX17_init_72 rfl ?_
      refine sx_get X kX17 1 rfl 0 (Nat.le_of_ble_eq_true rfl) qm_1424 rfl dX17_init_73 ?_
      refine sx_iconst X (v := 1) dX17_init_76 rfl ?_
      refine sx_icmp_ne X 88 dX17_init_77 rfl (fun _ => ?_) (fun hc => absurd hc (by decide))
      refine sx_iconst X (v := 0) dX17_init_88 rfl ?_
      refine sx_chg (ws' := [zO r 11 [.int w70.2], zO q 15 [.int (nI 3), .int 0, .null]]) (st' := .int (nI 0) :: [.ref q]) rfl rfl ?_
      refine sx_putF X hnm (ws' := [zO r 11 [.int w70.2], zO q 15 [.int (nI 3), .int (nI 0), .null]]) kX17 1 rfl 1 (Nat.le_of_ble_eq_true rfl) qm_1425 rfl rfl rfl rfl (Nat.le_of_ble_eq_true rfl) rfl dX17_init_89 ?_
      refine sx_aload_n X 1 rfl dX17_init_92 rfl ?_
      refine sx_aload_n X 2 rfl dX17_init_93 rfl ?_
      refine sx_iconst X (v := 3) dX17_init_94 rfl ?_
      refine sx_topi (y := nI 3) rfl ?_
      refine sx_pV X (c_dice (l := l) (D := D) (T := T) (sd := sd) r 3 w70.2 (by decide) (by decide)) X.M (wr := [zO q 15 [.int (nI 3), .int (nI 0), .null]]) (sx_rcv X (q0 := 0) (w := [zO r 11 [.int w70.2], zO q 15 [.int (nI 3), .int (nI 0), .null]]) rfl rfl) qm_1395 qm_691 qm_692 qm_24 qm_693 hd_dice ⟨rfl, rfl⟩ ⟨Nat.le_of_ble_eq_true rfl, Nat.le_of_ble_eq_true rfl⟩ rfl rfl (Nat.le_of_ble_eq_true rfl) ⟨(Nat.le_of_ble_eq_true rfl), (Nat.le_of_ble_eq_true rfl)⟩ dX17_init_95 rfl (fun w76 hw76 => ?_)
      refine sx_chg (ws' := [zO r 11 [.int w76.2], zO q 15 [.int (nI 3), .int (nI 0), .null]]) (st' := [.int (nI w76.1), .ref q]) rfl rfl ?_
      refine sx_if_ne X 105 dX17_init_98 rfl (fun hc => ?_) (fun hc => ?_)
      · refine sx_aload_n X 2 rfl dX17_init_105 rfl ?_
        refine sx_iload_n X 3 rfl dX17_init_106 rfl ?_
        refine sx_iload_n X 4 rfl dX17_init_107 rfl ?_
        refine sx_iconst X (v := 1) dX17_init_108 rfl ?_
        refine sx_pS X (c_test1 (l := l) (D := D) (T := T) (sd := sd) 0 r nf ng w76.2 hnf hng) X.M (wr := [zO q 15 [.int (nI 3), .int (nI 0), .null]]) qm_1396 qm_1397 qm_40 qm_1398 hd_test ⟨rfl, rfl⟩ ⟨Nat.le_of_ble_eq_true rfl, Nat.le_of_ble_eq_true rfl⟩ rfl rfl (Nat.le_of_ble_eq_true rfl) ⟨(Nat.le_of_ble_eq_true rfl), (Nat.le_of_ble_eq_true rfl)⟩ dX17_init_109 rfl (fun z77 hz77 => ?_)
        refine sx_chg (ws' := zDi r z77.1 :: (z77.2.2.2 ++ ([zO q 15 [.int (nI 3), .int (nI 0), .null]]))) (st' := [.ref z77.2.1, .ref q]) rfl rfl ?_
        refine sx_perm (List.Perm.cons _ List.perm_append_comm) ?_
        refine sx_chgw (ws' := zO r 11 [.int z77.1] :: zO q 15 [.int (nI 3), .int (nI 0), .null] :: z77.2.2.2) rfl ?_
        refine sx_putF X hnm (ws' := zO r 11 [.int z77.1] :: zO q 15 [.int (nI 3), .int (nI 0), .ref z77.2.1] :: z77.2.2.2) kX17 1 rfl 2 (Nat.le_of_ble_eq_true rfl) qm_1426 rfl rfl rfl rfl (Nat.le_of_ble_eq_true rfl) rfl dX17_init_112 ?_
        refine sx_widen (k' := 11) (n' := 44) (Nat.le_of_ble_eq_true rfl) (Nat.le_of_ble_eq_true rfl) ?_
        refine sx_pick (z77.1, (3, 0, some z77.2.2.1), zO q 15 [.int (nI 3), .int (nI 0), .ref z77.2.1] :: z77.2.2.2) ⟨⟨Or.inr (Or.inr ⟨Or.inr rfl, rfl⟩), Or.inr ⟨_, rfl, hz77.1⟩⟩, ⟨.ref z77.2.1, List.mem_cons_self, ⟨_, rfl, TrW_mono _ _ _ (fun q hq => by simp [hq]) hz77.2⟩⟩⟩ ?_
        exact sx_vret X dX17_init_115 rfl rfl rfl
      · refine sx_null X dX17_init_101 ?_
        refine sx_goto X 112 dX17_init_102 rfl ?_
        refine sx_putF X hnm (ws' := [zO r 11 [.int w76.2], zO q 15 [.int (nI 3), .int (nI 0), .null]]) kX17 1 rfl 2 (Nat.le_of_ble_eq_true rfl) qm_1426 rfl rfl rfl rfl (Nat.le_of_ble_eq_true rfl) rfl dX17_init_112 ?_
        refine sx_widen (k' := 11) (n' := 44) (Nat.le_of_ble_eq_true rfl) (Nat.le_of_ble_eq_true rfl) ?_
        refine sx_pick (w76.2, (3, 0, none), [zO q 15 [.int (nI 3), .int (nI 0), .null]]) ⟨⟨Or.inr (Or.inr ⟨Or.inr rfl, rfl⟩), Or.inl rfl⟩, ⟨.null, List.mem_cons_self, rfl⟩⟩ ?_
        exact sx_vret X dX17_init_115 rfl rfl rfl
    refine sx_if_le X 27 dX17_init_20 rfl (fun hc => absurd hc (nI_nle (by omega) (by omega))) (fun _ => ?_)
    refine sx_iconst X (v := 0) dX17_init_23 rfl ?_
    refine sx_goto X 53 dX17_init_24 rfl ?_
    refine sx_chg (ws' := [zO r 11 [.int w70.2], zO q 15 [.int 0, .int 0, .null]]) (st' := .int (nI 0) :: [.ref q]) rfl rfl ?_
    refine sx_putF X hnm (ws' := [zO r 11 [.int w70.2], zO q 15 [.int (nI 0), .int 0, .null]]) kX17 1 rfl 0 (Nat.le_of_ble_eq_true rfl) qm_1424 rfl rfl rfl rfl (Nat.le_of_ble_eq_true rfl) rfl dX17_init_53 ?_
    refine sx_aload_n X 1 rfl dX17_init_56 rfl ?_
    refine sx_aload_n X 1 rfl dX17_init_57 rfl ?_
    refine sx_get X kX17 1 rfl 0 (Nat.le_of_ble_eq_true rfl) qm_1424 rfl dX17_init_58 ?_
    refine sx_if_ne X 72 dX17_init_61 rfl (fun hc => absurd rfl hc) (fun _ => ?_)
    refine sx_aload_n X 2 rfl dX17_init_64 rfl ?_
    refine sx_iload_n X 3 rfl dX17_init_65 rfl ?_
    refine sx_pV X (c_dice (l := l) (D := D) (T := T) (sd := sd) r nf w70.2 (by omega) (by omega)) X.M (wr := [zO q 15 [.int (nI 0), .int 0, .null]]) (sx_rcv X (q0 := 0) (w := [zO r 11 [.int w70.2], zO q 15 [.int (nI 0), .int 0, .null]]) rfl rfl) qm_1395 qm_691 qm_692 qm_24 qm_693 hd_dice ⟨rfl, rfl⟩ ⟨Nat.le_of_ble_eq_true rfl, Nat.le_of_ble_eq_true rfl⟩ rfl rfl (Nat.le_of_ble_eq_true rfl) ⟨(Nat.le_of_ble_eq_true rfl), (Nat.le_of_ble_eq_true rfl)⟩ dX17_init_66 rfl (fun w71 hw71 => ?_)
    refine sx_chg (ws' := [zO r 11 [.int w71.2], zO q 15 [.int (nI 0), .int 0, .null]]) (st' := [.int (nI w71.1), .ref q]) rfl rfl ?_
    refine sx_goto X 89 dX17_init_69 rfl ?_
    refine sx_putF X hnm (ws' := [zO r 11 [.int w71.2], zO q 15 [.int (nI 0), .int (nI w71.1), .null]]) kX17 1 rfl 1 (Nat.le_of_ble_eq_true rfl) qm_1425 rfl rfl rfl rfl (Nat.le_of_ble_eq_true rfl) rfl dX17_init_89 ?_
    refine sx_aload_n X 1 rfl dX17_init_92 rfl ?_
    refine sx_aload_n X 2 rfl dX17_init_93 rfl ?_
    refine sx_iconst X (v := 3) dX17_init_94 rfl ?_
    refine sx_topi (y := nI 3) rfl ?_
    refine sx_pV X (c_dice (l := l) (D := D) (T := T) (sd := sd) r 3 w71.2 (by decide) (by decide)) X.M (wr := [zO q 15 [.int (nI 0), .int (nI w71.1), .null]]) (sx_rcv X (q0 := 0) (w := [zO r 11 [.int w71.2], zO q 15 [.int (nI 0), .int (nI w71.1), .null]]) rfl rfl) qm_1395 qm_691 qm_692 qm_24 qm_693 hd_dice ⟨rfl, rfl⟩ ⟨Nat.le_of_ble_eq_true rfl, Nat.le_of_ble_eq_true rfl⟩ rfl rfl (Nat.le_of_ble_eq_true rfl) ⟨(Nat.le_of_ble_eq_true rfl), (Nat.le_of_ble_eq_true rfl)⟩ dX17_init_95 rfl (fun w72 hw72 => ?_)
    refine sx_chg (ws' := [zO r 11 [.int w72.2], zO q 15 [.int (nI 0), .int (nI w71.1), .null]]) (st' := [.int (nI w72.1), .ref q]) rfl rfl ?_
    refine sx_if_ne X 105 dX17_init_98 rfl (fun hc => ?_) (fun hc => ?_)
    · refine sx_aload_n X 2 rfl dX17_init_105 rfl ?_
      refine sx_iload_n X 3 rfl dX17_init_106 rfl ?_
      refine sx_iload_n X 4 rfl dX17_init_107 rfl ?_
      refine sx_iconst X (v := 1) dX17_init_108 rfl ?_
      refine sx_pS X (c_test1 (l := l) (D := D) (T := T) (sd := sd) 0 r nf ng w72.2 hnf hng) X.M (wr := [zO q 15 [.int (nI 0), .int (nI w71.1), .null]]) qm_1396 qm_1397 qm_40 qm_1398 hd_test ⟨rfl, rfl⟩ ⟨Nat.le_of_ble_eq_true rfl, Nat.le_of_ble_eq_true rfl⟩ rfl rfl (Nat.le_of_ble_eq_true rfl) ⟨(Nat.le_of_ble_eq_true rfl), (Nat.le_of_ble_eq_true rfl)⟩ dX17_init_109 rfl (fun z73 hz73 => ?_)
      refine sx_chg (ws' := zDi r z73.1 :: (z73.2.2.2 ++ ([zO q 15 [.int (nI 0), .int (nI w71.1), .null]]))) (st' := [.ref z73.2.1, .ref q]) rfl rfl ?_
      refine sx_perm (List.Perm.cons _ List.perm_append_comm) ?_
      refine sx_chgw (ws' := zO r 11 [.int z73.1] :: zO q 15 [.int (nI 0), .int (nI w71.1), .null] :: z73.2.2.2) rfl ?_
      refine sx_putF X hnm (ws' := zO r 11 [.int z73.1] :: zO q 15 [.int (nI 0), .int (nI w71.1), .ref z73.2.1] :: z73.2.2.2) kX17 1 rfl 2 (Nat.le_of_ble_eq_true rfl) qm_1426 rfl rfl rfl rfl (Nat.le_of_ble_eq_true rfl) rfl dX17_init_112 ?_
      refine sx_widen (k' := 11) (n' := 44) (Nat.le_of_ble_eq_true rfl) (Nat.le_of_ble_eq_true rfl) ?_
      refine sx_pick (z73.1, (0, w71.1, some z73.2.2.1), zO q 15 [.int (nI 0), .int (nI w71.1), .ref z73.2.1] :: z73.2.2.2) ⟨⟨Or.inl ⟨rfl, hw71⟩, Or.inr ⟨_, rfl, hz73.1⟩⟩, ⟨.ref z73.2.1, List.mem_cons_self, ⟨_, rfl, TrW_mono _ _ _ (fun q hq => by simp [hq]) hz73.2⟩⟩⟩ ?_
      exact sx_vret X dX17_init_115 rfl rfl rfl
    · refine sx_null X dX17_init_101 ?_
      refine sx_goto X 112 dX17_init_102 rfl ?_
      refine sx_putF X hnm (ws' := [zO r 11 [.int w72.2], zO q 15 [.int (nI 0), .int (nI w71.1), .null]]) kX17 1 rfl 2 (Nat.le_of_ble_eq_true rfl) qm_1426 rfl rfl rfl rfl (Nat.le_of_ble_eq_true rfl) rfl dX17_init_112 ?_
      refine sx_widen (k' := 11) (n' := 44) (Nat.le_of_ble_eq_true rfl) (Nat.le_of_ble_eq_true rfl) ?_
      refine sx_pick (w72.2, (0, w71.1, none), [zO q 15 [.int (nI 0), .int (nI w71.1), .null]]) ⟨⟨Or.inl ⟨rfl, hw71⟩, Or.inl rfl⟩, ⟨.null, List.mem_cons_self, rfl⟩⟩ ?_
      exact sx_vret X dX17_init_115 rfl rfl rfl
  refine sx_icmp_ge X 27 dX17_init_16 rfl (fun _ => ?_) (fun hc => absurd (nI_le (a := 3) (b := w70.1) (by omega) (by omega)) hc)
  refine sx_iload X 0 rfl dX17_init_27 ?_
  refine sx_iconst X (v := 4) dX17_init_29 rfl ?_
  by_cases h4 : w70.1 ≤ 4
  · refine sx_icmp_le X 41 dX17_init_30 rfl (fun _ => ?_) (fun hc => absurd (nI_le (a := w70.1) (b := 4) (by omega) (by decide)) hc)
    refine sx_iload X 0 rfl dX17_init_41 ?_
    refine sx_iconst X (v := 2) dX17_init_43 rfl ?_
    refine sx_irem X (by decide) dX17_init_44 ?_
    refine sx_topi (y := nI (w70.1 % 2)) (pk_rem (by omega) (by decide) (by decide)) ?_
    by_cases hp2 : w70.1 % 2 = 0
    · refine sx_if_ne X 52 dX17_init_45 rfl (fun hc => absurd (show nI (w70.1 % 2) = 0 from by rw [hp2]; rfl) hc) (fun _ => ?_)
      refine sx_iconst X (v := 2) dX17_init_48 rfl ?_
      refine sx_goto X 53 dX17_init_49 rfl ?_
      refine sx_chg (ws' := [zO r 11 [.int w70.2], zO q 15 [.int 0, .int 0, .null]]) (st' := .int (nI 2) :: [.ref q]) rfl rfl ?_
      refine sx_putF X hnm (ws' := [zO r 11 [.int w70.2], zO q 15 [.int (nI 2), .int 0, .null]]) kX17 1 rfl 0 (Nat.le_of_ble_eq_true rfl) qm_1424 rfl rfl rfl rfl (Nat.le_of_ble_eq_true rfl) rfl dX17_init_53 ?_
      refine sx_aload_n X 1 rfl dX17_init_56 rfl ?_
      refine sx_aload_n X 1 rfl dX17_init_57 rfl ?_
      refine sx_get X kX17 1 rfl 0 (Nat.le_of_ble_eq_true rfl) qm_1424 rfl dX17_init_58 ?_
      refine sx_if_ne X 72 dX17_init_61 rfl (fun _ => ?_) (fun hc => absurd hc (by decide))
      refine sx_aload_n X 1 rfl dX17_init_72 rfl ?_
      refine sx_get X kX17 1 rfl 0 (Nat.le_of_ble_eq_true rfl) qm_1424 rfl dX17_init_73 ?_
      refine sx_iconst X (v := 1) dX17_init_76 rfl ?_
      refine sx_icmp_ne X 88 dX17_init_77 rfl (fun _ => ?_) (fun hc => absurd hc (by decide))
      refine sx_iconst X (v := 0) dX17_init_88 rfl ?_
      refine sx_chg (ws' := [zO r 11 [.int w70.2], zO q 15 [.int (nI 2), .int 0, .null]]) (st' := .int (nI 0) :: [.ref q]) rfl rfl ?_
      refine sx_putF X hnm (ws' := [zO r 11 [.int w70.2], zO q 15 [.int (nI 2), .int (nI 0), .null]]) kX17 1 rfl 1 (Nat.le_of_ble_eq_true rfl) qm_1425 rfl rfl rfl rfl (Nat.le_of_ble_eq_true rfl) rfl dX17_init_89 ?_
      refine sx_aload_n X 1 rfl dX17_init_92 rfl ?_
      refine sx_aload_n X 2 rfl dX17_init_93 rfl ?_
      refine sx_iconst X (v := 3) dX17_init_94 rfl ?_
      refine sx_topi (y := nI 3) rfl ?_
      refine sx_pV X (c_dice (l := l) (D := D) (T := T) (sd := sd) r 3 w70.2 (by decide) (by decide)) X.M (wr := [zO q 15 [.int (nI 2), .int (nI 0), .null]]) (sx_rcv X (q0 := 0) (w := [zO r 11 [.int w70.2], zO q 15 [.int (nI 2), .int (nI 0), .null]]) rfl rfl) qm_1395 qm_691 qm_692 qm_24 qm_693 hd_dice ⟨rfl, rfl⟩ ⟨Nat.le_of_ble_eq_true rfl, Nat.le_of_ble_eq_true rfl⟩ rfl rfl (Nat.le_of_ble_eq_true rfl) ⟨(Nat.le_of_ble_eq_true rfl), (Nat.le_of_ble_eq_true rfl)⟩ dX17_init_95 rfl (fun w78 hw78 => ?_)
      refine sx_chg (ws' := [zO r 11 [.int w78.2], zO q 15 [.int (nI 2), .int (nI 0), .null]]) (st' := [.int (nI w78.1), .ref q]) rfl rfl ?_
      refine sx_if_ne X 105 dX17_init_98 rfl (fun hc => ?_) (fun hc => ?_)
      · refine sx_aload_n X 2 rfl dX17_init_105 rfl ?_
        refine sx_iload_n X 3 rfl dX17_init_106 rfl ?_
        refine sx_iload_n X 4 rfl dX17_init_107 rfl ?_
        refine sx_iconst X (v := 1) dX17_init_108 rfl ?_
        refine sx_pS X (c_test1 (l := l) (D := D) (T := T) (sd := sd) 0 r nf ng w78.2 hnf hng) X.M (wr := [zO q 15 [.int (nI 2), .int (nI 0), .null]]) qm_1396 qm_1397 qm_40 qm_1398 hd_test ⟨rfl, rfl⟩ ⟨Nat.le_of_ble_eq_true rfl, Nat.le_of_ble_eq_true rfl⟩ rfl rfl (Nat.le_of_ble_eq_true rfl) ⟨(Nat.le_of_ble_eq_true rfl), (Nat.le_of_ble_eq_true rfl)⟩ dX17_init_109 rfl (fun z79 hz79 => ?_)
        refine sx_chg (ws' := zDi r z79.1 :: (z79.2.2.2 ++ ([zO q 15 [.int (nI 2), .int (nI 0), .null]]))) (st' := [.ref z79.2.1, .ref q]) rfl rfl ?_
        refine sx_perm (List.Perm.cons _ List.perm_append_comm) ?_
        refine sx_chgw (ws' := zO r 11 [.int z79.1] :: zO q 15 [.int (nI 2), .int (nI 0), .null] :: z79.2.2.2) rfl ?_
        refine sx_putF X hnm (ws' := zO r 11 [.int z79.1] :: zO q 15 [.int (nI 2), .int (nI 0), .ref z79.2.1] :: z79.2.2.2) kX17 1 rfl 2 (Nat.le_of_ble_eq_true rfl) qm_1426 rfl rfl rfl rfl (Nat.le_of_ble_eq_true rfl) rfl dX17_init_112 ?_
        refine sx_widen (k' := 11) (n' := 44) (Nat.le_of_ble_eq_true rfl) (Nat.le_of_ble_eq_true rfl) ?_
        refine sx_pick (z79.1, (2, 0, some z79.2.2.1), zO q 15 [.int (nI 2), .int (nI 0), .ref z79.2.1] :: z79.2.2.2) ⟨⟨Or.inr (Or.inr ⟨Or.inl rfl, rfl⟩), Or.inr ⟨_, rfl, hz79.1⟩⟩, ⟨.ref z79.2.1, List.mem_cons_self, ⟨_, rfl, TrW_mono _ _ _ (fun q hq => by simp [hq]) hz79.2⟩⟩⟩ ?_
        exact sx_vret X dX17_init_115 rfl rfl rfl
      · refine sx_null X dX17_init_101 ?_
        refine sx_goto X 112 dX17_init_102 rfl ?_
        refine sx_putF X hnm (ws' := [zO r 11 [.int w78.2], zO q 15 [.int (nI 2), .int (nI 0), .null]]) kX17 1 rfl 2 (Nat.le_of_ble_eq_true rfl) qm_1426 rfl rfl rfl rfl (Nat.le_of_ble_eq_true rfl) rfl dX17_init_112 ?_
        refine sx_widen (k' := 11) (n' := 44) (Nat.le_of_ble_eq_true rfl) (Nat.le_of_ble_eq_true rfl) ?_
        refine sx_pick (w78.2, (2, 0, none), [zO q 15 [.int (nI 2), .int (nI 0), .null]]) ⟨⟨Or.inr (Or.inr ⟨Or.inl rfl, rfl⟩), Or.inl rfl⟩, ⟨.null, List.mem_cons_self, rfl⟩⟩ ?_
        exact sx_vret X dX17_init_115 rfl rfl rfl
    refine sx_if_ne X 52 dX17_init_45 rfl (fun _ => ?_) (fun hc => absurd hc (nI_ne0 (by omega) (by omega)))
    refine sx_iconst X (v := 3) dX17_init_52 rfl ?_
    refine sx_chg (ws' := [zO r 11 [.int w70.2], zO q 15 [.int 0, .int 0, .null]]) (st' := .int (nI 3) :: [.ref q]) rfl rfl ?_
    refine sx_putF X hnm (ws' := [zO r 11 [.int w70.2], zO q 15 [.int (nI 3), .int 0, .null]]) kX17 1 rfl 0 (Nat.le_of_ble_eq_true rfl) qm_1424 rfl rfl rfl rfl (Nat.le_of_ble_eq_true rfl) rfl dX17_init_53 ?_
    refine sx_aload_n X 1 rfl dX17_init_56 rfl ?_
    refine sx_aload_n X 1 rfl dX17_init_57 rfl ?_
    refine sx_get X kX17 1 rfl 0 (Nat.le_of_ble_eq_true rfl) qm_1424 rfl dX17_init_58 ?_
    refine sx_if_ne X 72 dX17_init_61 rfl (fun _ => ?_) (fun hc => absurd hc (by decide))
    refine sx_aload_n X 1 rfl dX17_init_72 rfl ?_
    refine sx_get X kX17 1 rfl 0 (Nat.le_of_ble_eq_true rfl) qm_1424 rfl dX17_init_73 ?_
    refine sx_iconst X (v := 1) dX17_init_76 rfl ?_
    refine sx_icmp_ne X 88 dX17_init_77 rfl (fun _ => ?_) (fun hc => absurd hc (by decide))
    refine sx_iconst X (v := 0) dX17_init_88 rfl ?_
    refine sx_chg (ws' := [zO r 11 [.int w70.2], zO q 15 [.int (nI 3), .int 0, .null]]) (st' := .int (nI 0) :: [.ref q]) rfl rfl ?_
    refine sx_putF X hnm (ws' := [zO r 11 [.int w70.2], zO q 15 [.int (nI 3), .int (nI 0), .null]]) kX17 1 rfl 1 (Nat.le_of_ble_eq_true rfl) qm_1425 rfl rfl rfl rfl (Nat.le_of_ble_eq_true rfl) rfl dX17_init_89 ?_
    refine sx_aload_n X 1 rfl dX17_init_92 rfl ?_
    refine sx_aload_n X 2 rfl dX17_init_93 rfl ?_
    refine sx_iconst X (v := 3) dX17_init_94 rfl ?_
    refine sx_topi (y := nI 3) rfl ?_
    refine sx_pV X (c_dice (l := l) (D := D) (T := T) (sd := sd) r 3 w70.2 (by decide) (by decide)) X.M (wr := [zO q 15 [.int (nI 3), .int (nI 0), .null]]) (sx_rcv X (q0 := 0) (w := [zO r 11 [.int w70.2], zO q 15 [.int (nI 3), .int (nI 0), .null]]) rfl rfl) qm_1395 qm_691 qm_692 qm_24 qm_693 hd_dice ⟨rfl, rfl⟩ ⟨Nat.le_of_ble_eq_true rfl, Nat.le_of_ble_eq_true rfl⟩ rfl rfl (Nat.le_of_ble_eq_true rfl) ⟨(Nat.le_of_ble_eq_true rfl), (Nat.le_of_ble_eq_true rfl)⟩ dX17_init_95 rfl (fun w80 hw80 => ?_)
    refine sx_chg (ws' := [zO r 11 [.int w80.2], zO q 15 [.int (nI 3), .int (nI 0), .null]]) (st' := [.int (nI w80.1), .ref q]) rfl rfl ?_
    refine sx_if_ne X 105 dX17_init_98 rfl (fun hc => ?_) (fun hc => ?_)
    · refine sx_aload_n X 2 rfl dX17_init_105 rfl ?_
      refine sx_iload_n X 3 rfl dX17_init_106 rfl ?_
      refine sx_iload_n X 4 rfl dX17_init_107 rfl ?_
      refine sx_iconst X (v := 1) dX17_init_108 rfl ?_
      refine sx_pS X (c_test1 (l := l) (D := D) (T := T) (sd := sd) 0 r nf ng w80.2 hnf hng) X.M (wr := [zO q 15 [.int (nI 3), .int (nI 0), .null]]) qm_1396 qm_1397 qm_40 qm_1398 hd_test ⟨rfl, rfl⟩ ⟨Nat.le_of_ble_eq_true rfl, Nat.le_of_ble_eq_true rfl⟩ rfl rfl (Nat.le_of_ble_eq_true rfl) ⟨(Nat.le_of_ble_eq_true rfl), (Nat.le_of_ble_eq_true rfl)⟩ dX17_init_109 rfl (fun z81 hz81 => ?_)
      refine sx_chg (ws' := zDi r z81.1 :: (z81.2.2.2 ++ ([zO q 15 [.int (nI 3), .int (nI 0), .null]]))) (st' := [.ref z81.2.1, .ref q]) rfl rfl ?_
      refine sx_perm (List.Perm.cons _ List.perm_append_comm) ?_
      refine sx_chgw (ws' := zO r 11 [.int z81.1] :: zO q 15 [.int (nI 3), .int (nI 0), .null] :: z81.2.2.2) rfl ?_
      refine sx_putF X hnm (ws' := zO r 11 [.int z81.1] :: zO q 15 [.int (nI 3), .int (nI 0), .ref z81.2.1] :: z81.2.2.2) kX17 1 rfl 2 (Nat.le_of_ble_eq_true rfl) qm_1426 rfl rfl rfl rfl (Nat.le_of_ble_eq_true rfl) rfl dX17_init_112 ?_
      refine sx_widen (k' := 11) (n' := 44) (Nat.le_of_ble_eq_true rfl) (Nat.le_of_ble_eq_true rfl) ?_
      refine sx_pick (z81.1, (3, 0, some z81.2.2.1), zO q 15 [.int (nI 3), .int (nI 0), .ref z81.2.1] :: z81.2.2.2) ⟨⟨Or.inr (Or.inr ⟨Or.inr rfl, rfl⟩), Or.inr ⟨_, rfl, hz81.1⟩⟩, ⟨.ref z81.2.1, List.mem_cons_self, ⟨_, rfl, TrW_mono _ _ _ (fun q hq => by simp [hq]) hz81.2⟩⟩⟩ ?_
      exact sx_vret X dX17_init_115 rfl rfl rfl
    · refine sx_null X dX17_init_101 ?_
      refine sx_goto X 112 dX17_init_102 rfl ?_
      refine sx_putF X hnm (ws' := [zO r 11 [.int w80.2], zO q 15 [.int (nI 3), .int (nI 0), .null]]) kX17 1 rfl 2 (Nat.le_of_ble_eq_true rfl) qm_1426 rfl rfl rfl rfl (Nat.le_of_ble_eq_true rfl) rfl dX17_init_112 ?_
      refine sx_widen (k' := 11) (n' := 44) (Nat.le_of_ble_eq_true rfl) (Nat.le_of_ble_eq_true rfl) ?_
      refine sx_pick (w80.2, (3, 0, none), [zO q 15 [.int (nI 3), .int (nI 0), .null]]) ⟨⟨Or.inr (Or.inr ⟨Or.inr rfl, rfl⟩), Or.inl rfl⟩, ⟨.null, List.mem_cons_self, rfl⟩⟩ ?_
      exact sx_vret X dX17_init_115 rfl rfl rfl
  refine sx_icmp_le X 41 dX17_init_30 rfl (fun hc => absurd hc (nI_ge (a := 4) (b := w70.1) (by omega) (by omega))) (fun _ => ?_)
  refine sx_iload_n X 4 rfl dX17_init_33 rfl ?_
  by_cases hg0 : ng = 0
  · refine sx_if_le X 41 dX17_init_34 rfl (fun _ => ?_) (fun hc => absurd (show nI ng ≤ 0 from by rw [hg0]; decide) hc)
    refine sx_iload X 0 rfl dX17_init_41 ?_
    refine sx_iconst X (v := 2) dX17_init_43 rfl ?_
    refine sx_irem X (by decide) dX17_init_44 ?_
    refine sx_topi (y := nI (w70.1 % 2)) (pk_rem (by omega) (by decide) (by decide)) ?_
    by_cases hp2 : w70.1 % 2 = 0
    · refine sx_if_ne X 52 dX17_init_45 rfl (fun hc => absurd (show nI (w70.1 % 2) = 0 from by rw [hp2]; rfl) hc) (fun _ => ?_)
      refine sx_iconst X (v := 2) dX17_init_48 rfl ?_
      refine sx_goto X 53 dX17_init_49 rfl ?_
      refine sx_chg (ws' := [zO r 11 [.int w70.2], zO q 15 [.int 0, .int 0, .null]]) (st' := .int (nI 2) :: [.ref q]) rfl rfl ?_
      refine sx_putF X hnm (ws' := [zO r 11 [.int w70.2], zO q 15 [.int (nI 2), .int 0, .null]]) kX17 1 rfl 0 (Nat.le_of_ble_eq_true rfl) qm_1424 rfl rfl rfl rfl (Nat.le_of_ble_eq_true rfl) rfl dX17_init_53 ?_
      refine sx_aload_n X 1 rfl dX17_init_56 rfl ?_
      refine sx_aload_n X 1 rfl dX17_init_57 rfl ?_
      refine sx_get X kX17 1 rfl 0 (Nat.le_of_ble_eq_true rfl) qm_1424 rfl dX17_init_58 ?_
      refine sx_if_ne X 72 dX17_init_61 rfl (fun _ => ?_) (fun hc => absurd hc (by decide))
      refine sx_aload_n X 1 rfl dX17_init_72 rfl ?_
      refine sx_get X kX17 1 rfl 0 (Nat.le_of_ble_eq_true rfl) qm_1424 rfl dX17_init_73 ?_
      refine sx_iconst X (v := 1) dX17_init_76 rfl ?_
      refine sx_icmp_ne X 88 dX17_init_77 rfl (fun _ => ?_) (fun hc => absurd hc (by decide))
      refine sx_iconst X (v := 0) dX17_init_88 rfl ?_
      refine sx_chg (ws' := [zO r 11 [.int w70.2], zO q 15 [.int (nI 2), .int 0, .null]]) (st' := .int (nI 0) :: [.ref q]) rfl rfl ?_
      refine sx_putF X hnm (ws' := [zO r 11 [.int w70.2], zO q 15 [.int (nI 2), .int (nI 0), .null]]) kX17 1 rfl 1 (Nat.le_of_ble_eq_true rfl) qm_1425 rfl rfl rfl rfl (Nat.le_of_ble_eq_true rfl) rfl dX17_init_89 ?_
      refine sx_aload_n X 1 rfl dX17_init_92 rfl ?_
      refine sx_aload_n X 2 rfl dX17_init_93 rfl ?_
      refine sx_iconst X (v := 3) dX17_init_94 rfl ?_
      refine sx_topi (y := nI 3) rfl ?_
      refine sx_pV X (c_dice (l := l) (D := D) (T := T) (sd := sd) r 3 w70.2 (by decide) (by decide)) X.M (wr := [zO q 15 [.int (nI 2), .int (nI 0), .null]]) (sx_rcv X (q0 := 0) (w := [zO r 11 [.int w70.2], zO q 15 [.int (nI 2), .int (nI 0), .null]]) rfl rfl) qm_1395 qm_691 qm_692 qm_24 qm_693 hd_dice ⟨rfl, rfl⟩ ⟨Nat.le_of_ble_eq_true rfl, Nat.le_of_ble_eq_true rfl⟩ rfl rfl (Nat.le_of_ble_eq_true rfl) ⟨(Nat.le_of_ble_eq_true rfl), (Nat.le_of_ble_eq_true rfl)⟩ dX17_init_95 rfl (fun w82 hw82 => ?_)
      refine sx_chg (ws' := [zO r 11 [.int w82.2], zO q 15 [.int (nI 2), .int (nI 0), .null]]) (st' := [.int (nI w82.1), .ref q]) rfl rfl ?_
      refine sx_if_ne X 105 dX17_init_98 rfl (fun hc => ?_) (fun hc => ?_)
      · refine sx_aload_n X 2 rfl dX17_init_105 rfl ?_
        refine sx_iload_n X 3 rfl dX17_init_106 rfl ?_
        refine sx_iload_n X 4 rfl dX17_init_107 rfl ?_
        refine sx_iconst X (v := 1) dX17_init_108 rfl ?_
        refine sx_pS X (c_test1 (l := l) (D := D) (T := T) (sd := sd) 0 r nf ng w82.2 hnf hng) X.M (wr := [zO q 15 [.int (nI 2), .int (nI 0), .null]]) qm_1396 qm_1397 qm_40 qm_1398 hd_test ⟨rfl, rfl⟩ ⟨Nat.le_of_ble_eq_true rfl, Nat.le_of_ble_eq_true rfl⟩ rfl rfl (Nat.le_of_ble_eq_true rfl) ⟨(Nat.le_of_ble_eq_true rfl), (Nat.le_of_ble_eq_true rfl)⟩ dX17_init_109 rfl (fun z83 hz83 => ?_)
        refine sx_chg (ws' := zDi r z83.1 :: (z83.2.2.2 ++ ([zO q 15 [.int (nI 2), .int (nI 0), .null]]))) (st' := [.ref z83.2.1, .ref q]) rfl rfl ?_
        refine sx_perm (List.Perm.cons _ List.perm_append_comm) ?_
        refine sx_chgw (ws' := zO r 11 [.int z83.1] :: zO q 15 [.int (nI 2), .int (nI 0), .null] :: z83.2.2.2) rfl ?_
        refine sx_putF X hnm (ws' := zO r 11 [.int z83.1] :: zO q 15 [.int (nI 2), .int (nI 0), .ref z83.2.1] :: z83.2.2.2) kX17 1 rfl 2 (Nat.le_of_ble_eq_true rfl) qm_1426 rfl rfl rfl rfl (Nat.le_of_ble_eq_true rfl) rfl dX17_init_112 ?_
        refine sx_widen (k' := 11) (n' := 44) (Nat.le_of_ble_eq_true rfl) (Nat.le_of_ble_eq_true rfl) ?_
        refine sx_pick (z83.1, (2, 0, some z83.2.2.1), zO q 15 [.int (nI 2), .int (nI 0), .ref z83.2.1] :: z83.2.2.2) ⟨⟨Or.inr (Or.inr ⟨Or.inl rfl, rfl⟩), Or.inr ⟨_, rfl, hz83.1⟩⟩, ⟨.ref z83.2.1, List.mem_cons_self, ⟨_, rfl, TrW_mono _ _ _ (fun q hq => by simp [hq]) hz83.2⟩⟩⟩ ?_
        exact sx_vret X dX17_init_115 rfl rfl rfl
      · refine sx_null X dX17_init_101 ?_
        refine sx_goto X 112 dX17_init_102 rfl ?_
        refine sx_putF X hnm (ws' := [zO r 11 [.int w82.2], zO q 15 [.int (nI 2), .int (nI 0), .null]]) kX17 1 rfl 2 (Nat.le_of_ble_eq_true rfl) qm_1426 rfl rfl rfl rfl (Nat.le_of_ble_eq_true rfl) rfl dX17_init_112 ?_
        refine sx_widen (k' := 11) (n' := 44) (Nat.le_of_ble_eq_true rfl) (Nat.le_of_ble_eq_true rfl) ?_
        refine sx_pick (w82.2, (2, 0, none), [zO q 15 [.int (nI 2), .int (nI 0), .null]]) ⟨⟨Or.inr (Or.inr ⟨Or.inl rfl, rfl⟩), Or.inl rfl⟩, ⟨.null, List.mem_cons_self, rfl⟩⟩ ?_
        exact sx_vret X dX17_init_115 rfl rfl rfl
    refine sx_if_ne X 52 dX17_init_45 rfl (fun _ => ?_) (fun hc => absurd hc (nI_ne0 (by omega) (by omega)))
    refine sx_iconst X (v := 3) dX17_init_52 rfl ?_
    refine sx_chg (ws' := [zO r 11 [.int w70.2], zO q 15 [.int 0, .int 0, .null]]) (st' := .int (nI 3) :: [.ref q]) rfl rfl ?_
    refine sx_putF X hnm (ws' := [zO r 11 [.int w70.2], zO q 15 [.int (nI 3), .int 0, .null]]) kX17 1 rfl 0 (Nat.le_of_ble_eq_true rfl) qm_1424 rfl rfl rfl rfl (Nat.le_of_ble_eq_true rfl) rfl dX17_init_53 ?_
    refine sx_aload_n X 1 rfl dX17_init_56 rfl ?_
    refine sx_aload_n X 1 rfl dX17_init_57 rfl ?_
    refine sx_get X kX17 1 rfl 0 (Nat.le_of_ble_eq_true rfl) qm_1424 rfl dX17_init_58 ?_
    refine sx_if_ne X 72 dX17_init_61 rfl (fun _ => ?_) (fun hc => absurd hc (by decide))
    refine sx_aload_n X 1 rfl dX17_init_72 rfl ?_
    refine sx_get X kX17 1 rfl 0 (Nat.le_of_ble_eq_true rfl) qm_1424 rfl dX17_init_73 ?_
    refine sx_iconst X (v := 1) dX17_init_76 rfl ?_
    refine sx_icmp_ne X 88 dX17_init_77 rfl (fun _ => ?_) (fun hc => absurd hc (by decide))
    refine sx_iconst X (v := 0) dX17_init_88 rfl ?_
    refine sx_chg (ws' := [zO r 11 [.int w70.2], zO q 15 [.int (nI 3), .int 0, .null]]) (st' := .int (nI 0) :: [.ref q]) rfl rfl ?_
    refine sx_putF X hnm (ws' := [zO r 11 [.int w70.2], zO q 15 [.int (nI 3), .int (nI 0), .null]]) kX17 1 rfl 1 (Nat.le_of_ble_eq_true rfl) qm_1425 rfl rfl rfl rfl (Nat.le_of_ble_eq_true rfl) rfl dX17_init_89 ?_
    refine sx_aload_n X 1 rfl dX17_init_92 rfl ?_
    refine sx_aload_n X 2 rfl dX17_init_93 rfl ?_
    refine sx_iconst X (v := 3) dX17_init_94 rfl ?_
    refine sx_topi (y := nI 3) rfl ?_
    refine sx_pV X (c_dice (l := l) (D := D) (T := T) (sd := sd) r 3 w70.2 (by decide) (by decide)) X.M (wr := [zO q 15 [.int (nI 3), .int (nI 0), .null]]) (sx_rcv X (q0 := 0) (w := [zO r 11 [.int w70.2], zO q 15 [.int (nI 3), .int (nI 0), .null]]) rfl rfl) qm_1395 qm_691 qm_692 qm_24 qm_693 hd_dice ⟨rfl, rfl⟩ ⟨Nat.le_of_ble_eq_true rfl, Nat.le_of_ble_eq_true rfl⟩ rfl rfl (Nat.le_of_ble_eq_true rfl) ⟨(Nat.le_of_ble_eq_true rfl), (Nat.le_of_ble_eq_true rfl)⟩ dX17_init_95 rfl (fun w84 hw84 => ?_)
    refine sx_chg (ws' := [zO r 11 [.int w84.2], zO q 15 [.int (nI 3), .int (nI 0), .null]]) (st' := [.int (nI w84.1), .ref q]) rfl rfl ?_
    refine sx_if_ne X 105 dX17_init_98 rfl (fun hc => ?_) (fun hc => ?_)
    · refine sx_aload_n X 2 rfl dX17_init_105 rfl ?_
      refine sx_iload_n X 3 rfl dX17_init_106 rfl ?_
      refine sx_iload_n X 4 rfl dX17_init_107 rfl ?_
      refine sx_iconst X (v := 1) dX17_init_108 rfl ?_
      refine sx_pS X (c_test1 (l := l) (D := D) (T := T) (sd := sd) 0 r nf ng w84.2 hnf hng) X.M (wr := [zO q 15 [.int (nI 3), .int (nI 0), .null]]) qm_1396 qm_1397 qm_40 qm_1398 hd_test ⟨rfl, rfl⟩ ⟨Nat.le_of_ble_eq_true rfl, Nat.le_of_ble_eq_true rfl⟩ rfl rfl (Nat.le_of_ble_eq_true rfl) ⟨(Nat.le_of_ble_eq_true rfl), (Nat.le_of_ble_eq_true rfl)⟩ dX17_init_109 rfl (fun z85 hz85 => ?_)
      refine sx_chg (ws' := zDi r z85.1 :: (z85.2.2.2 ++ ([zO q 15 [.int (nI 3), .int (nI 0), .null]]))) (st' := [.ref z85.2.1, .ref q]) rfl rfl ?_
      refine sx_perm (List.Perm.cons _ List.perm_append_comm) ?_
      refine sx_chgw (ws' := zO r 11 [.int z85.1] :: zO q 15 [.int (nI 3), .int (nI 0), .null] :: z85.2.2.2) rfl ?_
      refine sx_putF X hnm (ws' := zO r 11 [.int z85.1] :: zO q 15 [.int (nI 3), .int (nI 0), .ref z85.2.1] :: z85.2.2.2) kX17 1 rfl 2 (Nat.le_of_ble_eq_true rfl) qm_1426 rfl rfl rfl rfl (Nat.le_of_ble_eq_true rfl) rfl dX17_init_112 ?_
      refine sx_widen (k' := 11) (n' := 44) (Nat.le_of_ble_eq_true rfl) (Nat.le_of_ble_eq_true rfl) ?_
      refine sx_pick (z85.1, (3, 0, some z85.2.2.1), zO q 15 [.int (nI 3), .int (nI 0), .ref z85.2.1] :: z85.2.2.2) ⟨⟨Or.inr (Or.inr ⟨Or.inr rfl, rfl⟩), Or.inr ⟨_, rfl, hz85.1⟩⟩, ⟨.ref z85.2.1, List.mem_cons_self, ⟨_, rfl, TrW_mono _ _ _ (fun q hq => by simp [hq]) hz85.2⟩⟩⟩ ?_
      exact sx_vret X dX17_init_115 rfl rfl rfl
    · refine sx_null X dX17_init_101 ?_
      refine sx_goto X 112 dX17_init_102 rfl ?_
      refine sx_putF X hnm (ws' := [zO r 11 [.int w84.2], zO q 15 [.int (nI 3), .int (nI 0), .null]]) kX17 1 rfl 2 (Nat.le_of_ble_eq_true rfl) qm_1426 rfl rfl rfl rfl (Nat.le_of_ble_eq_true rfl) rfl dX17_init_112 ?_
      refine sx_widen (k' := 11) (n' := 44) (Nat.le_of_ble_eq_true rfl) (Nat.le_of_ble_eq_true rfl) ?_
      refine sx_pick (w84.2, (3, 0, none), [zO q 15 [.int (nI 3), .int (nI 0), .null]]) ⟨⟨Or.inr (Or.inr ⟨Or.inr rfl, rfl⟩), Or.inl rfl⟩, ⟨.null, List.mem_cons_self, rfl⟩⟩ ?_
      exact sx_vret X dX17_init_115 rfl rfl rfl
  refine sx_if_le X 41 dX17_init_34 rfl (fun hc => absurd hc (nI_nle (by omega) (by omega))) (fun _ => ?_)
  refine sx_iconst X (v := 1) dX17_init_37 rfl ?_
  refine sx_goto X 53 dX17_init_38 rfl ?_
  refine sx_chg (ws' := [zO r 11 [.int w70.2], zO q 15 [.int 0, .int 0, .null]]) (st' := .int (nI 1) :: [.ref q]) rfl rfl ?_
  refine sx_putF X hnm (ws' := [zO r 11 [.int w70.2], zO q 15 [.int (nI 1), .int 0, .null]]) kX17 1 rfl 0 (Nat.le_of_ble_eq_true rfl) qm_1424 rfl rfl rfl rfl (Nat.le_of_ble_eq_true rfl) rfl dX17_init_53 ?_
  refine sx_aload_n X 1 rfl dX17_init_56 rfl ?_
  refine sx_aload_n X 1 rfl dX17_init_57 rfl ?_
  refine sx_get X kX17 1 rfl 0 (Nat.le_of_ble_eq_true rfl) qm_1424 rfl dX17_init_58 ?_
  refine sx_if_ne X 72 dX17_init_61 rfl (fun _ => ?_) (fun hc => absurd hc (by decide))
  refine sx_aload_n X 1 rfl dX17_init_72 rfl ?_
  refine sx_get X kX17 1 rfl 0 (Nat.le_of_ble_eq_true rfl) qm_1424 rfl dX17_init_73 ?_
  refine sx_iconst X (v := 1) dX17_init_76 rfl ?_
  refine sx_icmp_ne X 88 dX17_init_77 rfl (fun hc => absurd rfl hc) (fun _ => ?_)
  refine sx_aload_n X 2 rfl dX17_init_80 rfl ?_
  refine sx_iload_n X 4 rfl dX17_init_81 rfl ?_
  refine sx_pV X (c_dice (l := l) (D := D) (T := T) (sd := sd) r ng w70.2 (by omega) (by omega)) X.M (wr := [zO q 15 [.int (nI 1), .int 0, .null]]) (sx_rcv X (q0 := 0) (w := [zO r 11 [.int w70.2], zO q 15 [.int (nI 1), .int 0, .null]]) rfl rfl) qm_1395 qm_691 qm_692 qm_24 qm_693 hd_dice ⟨rfl, rfl⟩ ⟨Nat.le_of_ble_eq_true rfl, Nat.le_of_ble_eq_true rfl⟩ rfl rfl (Nat.le_of_ble_eq_true rfl) ⟨(Nat.le_of_ble_eq_true rfl), (Nat.le_of_ble_eq_true rfl)⟩ dX17_init_82 rfl (fun w86 hw86 => ?_)
  refine sx_chg (ws' := [zO r 11 [.int w86.2], zO q 15 [.int (nI 1), .int 0, .null]]) (st' := [.int (nI w86.1), .ref q]) rfl rfl ?_
  refine sx_goto X 89 dX17_init_85 rfl ?_
  refine sx_putF X hnm (ws' := [zO r 11 [.int w86.2], zO q 15 [.int (nI 1), .int (nI w86.1), .null]]) kX17 1 rfl 1 (Nat.le_of_ble_eq_true rfl) qm_1425 rfl rfl rfl rfl (Nat.le_of_ble_eq_true rfl) rfl dX17_init_89 ?_
  refine sx_aload_n X 1 rfl dX17_init_92 rfl ?_
  refine sx_aload_n X 2 rfl dX17_init_93 rfl ?_
  refine sx_iconst X (v := 3) dX17_init_94 rfl ?_
  refine sx_topi (y := nI 3) rfl ?_
  refine sx_pV X (c_dice (l := l) (D := D) (T := T) (sd := sd) r 3 w86.2 (by decide) (by decide)) X.M (wr := [zO q 15 [.int (nI 1), .int (nI w86.1), .null]]) (sx_rcv X (q0 := 0) (w := [zO r 11 [.int w86.2], zO q 15 [.int (nI 1), .int (nI w86.1), .null]]) rfl rfl) qm_1395 qm_691 qm_692 qm_24 qm_693 hd_dice ⟨rfl, rfl⟩ ⟨Nat.le_of_ble_eq_true rfl, Nat.le_of_ble_eq_true rfl⟩ rfl rfl (Nat.le_of_ble_eq_true rfl) ⟨(Nat.le_of_ble_eq_true rfl), (Nat.le_of_ble_eq_true rfl)⟩ dX17_init_95 rfl (fun w87 hw87 => ?_)
  refine sx_chg (ws' := [zO r 11 [.int w87.2], zO q 15 [.int (nI 1), .int (nI w86.1), .null]]) (st' := [.int (nI w87.1), .ref q]) rfl rfl ?_
  refine sx_if_ne X 105 dX17_init_98 rfl (fun hc => ?_) (fun hc => ?_)
  · refine sx_aload_n X 2 rfl dX17_init_105 rfl ?_
    refine sx_iload_n X 3 rfl dX17_init_106 rfl ?_
    refine sx_iload_n X 4 rfl dX17_init_107 rfl ?_
    refine sx_iconst X (v := 1) dX17_init_108 rfl ?_
    refine sx_pS X (c_test1 (l := l) (D := D) (T := T) (sd := sd) 0 r nf ng w87.2 hnf hng) X.M (wr := [zO q 15 [.int (nI 1), .int (nI w86.1), .null]]) qm_1396 qm_1397 qm_40 qm_1398 hd_test ⟨rfl, rfl⟩ ⟨Nat.le_of_ble_eq_true rfl, Nat.le_of_ble_eq_true rfl⟩ rfl rfl (Nat.le_of_ble_eq_true rfl) ⟨(Nat.le_of_ble_eq_true rfl), (Nat.le_of_ble_eq_true rfl)⟩ dX17_init_109 rfl (fun z88 hz88 => ?_)
    refine sx_chg (ws' := zDi r z88.1 :: (z88.2.2.2 ++ ([zO q 15 [.int (nI 1), .int (nI w86.1), .null]]))) (st' := [.ref z88.2.1, .ref q]) rfl rfl ?_
    refine sx_perm (List.Perm.cons _ List.perm_append_comm) ?_
    refine sx_chgw (ws' := zO r 11 [.int z88.1] :: zO q 15 [.int (nI 1), .int (nI w86.1), .null] :: z88.2.2.2) rfl ?_
    refine sx_putF X hnm (ws' := zO r 11 [.int z88.1] :: zO q 15 [.int (nI 1), .int (nI w86.1), .ref z88.2.1] :: z88.2.2.2) kX17 1 rfl 2 (Nat.le_of_ble_eq_true rfl) qm_1426 rfl rfl rfl rfl (Nat.le_of_ble_eq_true rfl) rfl dX17_init_112 ?_
    refine sx_widen (k' := 11) (n' := 44) (Nat.le_of_ble_eq_true rfl) (Nat.le_of_ble_eq_true rfl) ?_
    refine sx_pick (z88.1, (1, w86.1, some z88.2.2.1), zO q 15 [.int (nI 1), .int (nI w86.1), .ref z88.2.1] :: z88.2.2.2) ⟨⟨Or.inr (Or.inl ⟨rfl, hw86⟩), Or.inr ⟨_, rfl, hz88.1⟩⟩, ⟨.ref z88.2.1, List.mem_cons_self, ⟨_, rfl, TrW_mono _ _ _ (fun q hq => by simp [hq]) hz88.2⟩⟩⟩ ?_
    exact sx_vret X dX17_init_115 rfl rfl rfl
  · refine sx_null X dX17_init_101 ?_
    refine sx_goto X 112 dX17_init_102 rfl ?_
    refine sx_putF X hnm (ws' := [zO r 11 [.int w87.2], zO q 15 [.int (nI 1), .int (nI w86.1), .null]]) kX17 1 rfl 2 (Nat.le_of_ble_eq_true rfl) qm_1426 rfl rfl rfl rfl (Nat.le_of_ble_eq_true rfl) rfl dX17_init_112 ?_
    refine sx_widen (k' := 11) (n' := 44) (Nat.le_of_ble_eq_true rfl) (Nat.le_of_ble_eq_true rfl) ?_
    refine sx_pick (w87.2, (1, w86.1, none), [zO q 15 [.int (nI 1), .int (nI w86.1), .null]]) ⟨⟨Or.inr (Or.inl ⟨rfl, hw86⟩), Or.inl rfl⟩, ⟨.null, List.mem_cons_self, rfl⟩⟩ ?_
    exact sx_vret X dX17_init_115 rfl rfl rfl
