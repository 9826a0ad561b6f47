/-! THE LAW BEGINS WITH A POT: dice out of the script, a plan drawn, told and taught -/
theorem permT (P : va_W) (o z : Nat × va_E) (Y C : va_W) : ((P ++ (o :: z :: Y)) ++ C).Perm ([o, z] ++ (P ++ (Y ++ C))) := by
  have h : (P ++ ([o, z] ++ (Y ++ C))).Perm ([o, z] ++ (P ++ (Y ++ C))) := List.perm_append_comm_assoc _ _ _
  rw [List.append_assoc]
  exact h
theorem permU (J P Y C : va_W) : (J ++ (P ++ (Y ++ C))).Perm (C ++ (P ++ (Y ++ J))) := by
  have h1 : (J ++ (P ++ (Y ++ C))) = (J ++ (P ++ Y)) ++ C := by simp only [List.append_assoc]
  have h2 : (C ++ (P ++ (Y ++ J))) = C ++ ((P ++ Y) ++ J) := by simp only [List.append_assoc]
  rw [h1, h2]
  exact List.perm_append_comm.trans (List.Perm.append_left C List.perm_append_comm)
section LAWB
variable {l : Launch} {D : va_G} {T : Nat → ClassId} {sd : SdT} {jd : JdT} {p : Program} {e : Env} {s : State} {m : MethodId} {args : Array Value} {below : List Frame} {meth : Method} {c : Code} {A : Nat → Prop} {Q : State → Prop} {ad pa da : Nat → Nat} {p9 aF aG aO r b time step k n : Nat} {rF rG rO : Nat → Nat} {P : Pl} {S : Sp} {σ : CSt} {x : Int32} {tl : va_W}
set_option maxRecDepth 100000 in
set_option maxHeartbeats 4000000 in
theorem lw_T (XY : LwX p s m args meth c D T A sd jd) {L : Nat} {xs : Nat → Int32} (hTs : va_T .int b L (fun j => .int (xs j)) A s s.heap) (hL : L < 1000) (ht : time < 100) (hRk : k + 906 ≤ 600086) (hRn : n + 1803040 ≤ 7301442) (hσ : X10_length σ.2.2.1 = nI 0) (kk : ∀ (p9 aF aG aO r : Nat) (rF rG rO : Nat → Nat) (P : Pl) (σ' : CSt) (x' : Int32) (tl : va_W), PlOk P → CR P (Sp0 P) σ' → TlOk T aO rO P tl → SxG p l e room_1 s m args below meth c D A 32 (k + 906) (n + 1803040) Q (LW T sd ad da pa p9 aF aG aO rF rG r P (Sp0 P) (σ') x' tl) [(0, .ref b), (1, .ref (ad 0)), (2, .int (nI time)), (3, .ref r), (5, .ref p9), (6, .int (nI P.nf)), (7, .int (nI P.ng)), (8, .int (nI 0))] 99 []) : SxG p l e room_1 s m args below meth c D A 32 k n Q (CW T sd ad pa da σ) [(0, .ref b), (1, .ref (ad 0)), (2, .int (nI time))] 15 [] := by
  have X := XY.dn (SFx_ok sd)
  refine sx_new X (fs := [.int 0]) kX13 qm_680 qm_681 qm_24 (by decide) (by show _ ≤ 600086; omega) (by show _ ≤ 7301442; omega) dL_law_15 (fun r => ?_)
  refine sx_perm List.perm_append_comm ?_
  refine sx_chg (ws' := [zO r 11 [.int 0]] ++ (CW T sd ad pa da σ)) (st' := [.ref r]) rfl rfl ?_
  refine sx_dup X dL_law_18 rfl ?_
  refine sx_aload_n X 0 rfl dL_law_19 rfl ?_
  refine sx_iload_n X 2 rfl dL_law_20 rfl ?_
  refine sx_pS X (c_cell (l := l) (D := D) (T := T) (sd := sd) b L time xs (by omega) hL) (X.M.and (XY.Mf (va_T_ok _ _ _ _) hTs)) (wr := [zO r 11 [.int 0]] ++ (CW T sd ad pa da σ)) qm_777 qm_778 qm_12 qm_779 hd_cell ⟨rfl, rfl⟩ ⟨Nat.le_of_ble_eq_true rfl, Nat.le_of_ble_eq_true rfl⟩ rfl (rest := [.ref r, .ref r]) rfl (Nat.le_of_ble_eq_true rfl) ⟨(by show _ ≤ 600086; omega), (by show _ ≤ 7301442; omega)⟩ dL_law_21 rfl (fun v1 _ => ?_)
  refine sx_chg (ws' := [zO r 11 [.int 0]] ++ (CW T sd ad pa da σ)) (st' := [.int v1, .ref r, .ref r]) rfl rfl ?_
  refine sx_aload_n X 0 rfl dL_law_24 rfl ?_
  refine sx_iload_n X 2 rfl dL_law_25 rfl ?_
  refine sx_iconst X (v := 3) dL_law_26 rfl ?_
  refine sx_iadd X dL_law_27 ?_
  refine sx_topi (y := nI (time + 3)) (nI_add time 3) ?_
  refine sx_pS X (c_cell (l := l) (D := D) (T := T) (sd := sd) b L (time + 3) xs (by omega) hL) (X.M.and (XY.Mf (va_T_ok _ _ _ _) hTs)) (wr := [zO r 11 [.int 0]] ++ (CW T sd ad pa da σ)) qm_777 qm_778 qm_12 qm_779 hd_cell ⟨rfl, rfl⟩ ⟨Nat.le_of_ble_eq_true rfl, Nat.le_of_ble_eq_true rfl⟩ rfl (rest := [.int v1, .ref r, .ref r]) rfl (Nat.le_of_ble_eq_true rfl) ⟨(by show _ ≤ 600086; omega), (by show _ ≤ 7301442; omega)⟩ dL_law_28 rfl (fun v2 _ => ?_)
  refine sx_chg (ws' := [zO r 11 [.int 0]] ++ (CW T sd ad pa da σ)) (st' := [.int v2, .int v1, .ref r, .ref r]) rfl rfl ?_
  refine sx_bipush X (v := 31) dL_law_31 rfl ?_
  refine sx_imul X dL_law_33 ?_
  refine sx_ixor X dL_law_34 ?_
  refine sx_aload_n X 0 rfl dL_law_35 rfl ?_
  refine sx_iload_n X 2 rfl dL_law_36 rfl ?_
  refine sx_bipush X (v := 6) dL_law_37 rfl ?_
  refine sx_iadd X dL_law_39 ?_
  refine sx_topi (y := nI (time + 6)) (nI_add time 6) ?_
  refine sx_pS X (c_cell (l := l) (D := D) (T := T) (sd := sd) b L (time + 6) xs (by omega) hL) (X.M.and (XY.Mf (va_T_ok _ _ _ _) hTs)) (wr := [zO r 11 [.int 0]] ++ (CW T sd ad pa da σ)) qm_777 qm_778 qm_12 qm_779 hd_cell ⟨rfl, rfl⟩ ⟨Nat.le_of_ble_eq_true rfl, Nat.le_of_ble_eq_true rfl⟩ rfl (rest := [.int (v1 ^^^ (v2 * 31)), .ref r, .ref r]) rfl (Nat.le_of_ble_eq_true rfl) ⟨(by show _ ≤ 600086; omega), (by show _ ≤ 7301442; omega)⟩ dL_law_40 rfl (fun v3 _ => ?_)
  refine sx_chg (ws' := [zO r 11 [.int 0]] ++ (CW T sd ad pa da σ)) (st' := [.int v3, .int (v1 ^^^ (v2 * 31)), .ref r, .ref r]) rfl rfl ?_
  refine sx_sipush X (v := 1009) dL_law_43 rfl ?_
  refine sx_imul X dL_law_46 ?_
  refine sx_ixor X dL_law_47 ?_
  generalize e0 : (((v1 ^^^ (v2 * 31)) ^^^ (v3 * 1009)) : Int32) = x0
  refine sx_pI X (c_diIn (l := l) (D := D) (T := T) (sd := sd) r x0).toP X.M (wr := CW T sd ad pa da σ) qm_682 qm_683 qm_24 qm_684 rfl hd_diIn ⟨rfl, rfl⟩ ⟨Nat.le_of_ble_eq_true rfl, Nat.le_of_ble_eq_true rfl⟩ rfl (rest := [.ref r]) rfl (Nat.le_of_ble_eq_true rfl) ⟨(by show _ ≤ 600086; omega), (by show _ ≤ 7301442; omega)⟩ dL_law_48 rfl (fun _ _ => ?_)
  refine sx_chg (ws' := [zDi r x0] ++ (CW T sd ad pa da σ)) (st' := [.ref r]) rfl rfl ?_
  refine sx_astore_n X (lv' := [(3, .ref r), (0, .ref b), (1, .ref (ad 0)), (2, .int (nI time))]) dL_law_51 rfl (by decide) rfl ?_
  refine sx_new X (fs := [.null, .int 0, .int 0, .int 0]) kJ4 qm_1600 qm_1439 qm_26 (by decide) (by show _ ≤ 600086; omega) (by show _ ≤ 7301442; omega) dL_law_52 (fun sb => ?_)
  refine sx_perm List.perm_append_comm ?_
  refine sx_chg (ws' := [zO sb 1 [.null, .int 0, .int 0, .int 0]] ++ ([zDi r x0] ++ (CW T sd ad pa da σ))) (st' := [.ref sb]) rfl rfl ?_
  refine sx_dup X dL_law_55 rfl ?_
  refine sx_pI X (c_sbIn (l := l) (D := D) (T := T) (sd := sd) (jd := jd) sb) XY.M (wr := [zDi r x0] ++ (CW T sd ad pa da σ)) qm_1601 qm_1441 qm_26 qm_1442 rfl hd_sbIn ⟨rfl, rfl⟩ ⟨Nat.le_of_ble_eq_true rfl, Nat.le_of_ble_eq_true rfl⟩ rfl (rest := [.ref sb]) rfl (Nat.le_of_ble_eq_true rfl) ⟨(by show _ ≤ 600086; omega), (by show _ ≤ 7301442; omega)⟩ dL_law_56 rfl (fun q _ => ?_)
  refine sx_chg (ws' := [oSB sb q 0, zB T q 16 (fun _ => 0), zDi r x0] ++ (CW T sd ad pa da σ)) (st' := [.ref sb]) rfl rfl ?_
  refine sx_astore X (lv' := [(4, .ref sb), (3, .ref r), (0, .ref b), (1, .ref (ad 0)), (2, .int (nI time))]) dL_law_59 (by decide) rfl ?_
  refine sx_aload_n X 1 rfl dL_law_61 rfl ?_
  refine sx_aload X 0 rfl dL_law_62 ?_
  refine sx_iconst X (v := 4) dL_law_64 rfl ?_
  refine sx_pS X (c_drawn (l := l) (D := D) (T := T) (sd := sd) (jd := jd) r sb q x0) XY.M (wr := CW T sd ad pa da σ) qm_1128 qm_1129 qm_12 qm_1130 hd_drawn ⟨rfl, rfl⟩ ⟨Nat.le_of_ble_eq_true rfl, Nat.le_of_ble_eq_true rfl⟩ rfl (rest := []) rfl (Nat.le_of_ble_eq_true rfl) ⟨(by show _ ≤ 600086; omega), (by show _ ≤ 7301442; omega)⟩ dL_law_65 rfl (fun d hd => ?_)
  refine sx_chg (ws' := drW T sb r d ++ (CW T sd ad pa da σ)) (st' := [.ref d.p]) rfl rfl ?_
  refine sx_astore X (lv' := [(5, .ref d.p), (4, .ref sb), (3, .ref r), (0, .ref b), (1, .ref (ad 0)), (2, .int (nI time))]) dL_law_68 (by decide) rfl ?_
  refine sx_aload_n X 4 rfl dL_law_70 rfl ?_
  refine sx_aload X 1 rfl dL_law_71 ?_
  obtain ⟨hP, hSB, hOd⟩ := hd
  refine sx_perm (permT (potW T d.p d.aF d.aG d.aO d.rF d.rG (hb d.P (Sp0 d.P))) _ _ (zDi r d.x :: zR T 7 d.aO d.P.os.length d.rO :: d.oW) (CW T sd ad pa da σ)) ?_
  refine sx_pV X (c_sbStr (l := l) (D := D) (T := T) (sd := sd) (jd := jd) sb d.q d.m (ptx d.P) d.f hSB) XY.M (wr := (potW T d.p d.aF d.aG d.aO d.rF d.rG (hb d.P (Sp0 d.P))) ++ ((zDi r d.x :: zR T 7 d.aO d.P.os.length d.rO :: d.oW) ++ CW T sd ad pa da σ)) (sx_rcv X (q0 := 0) (w := [oSB sb d.q (ptx d.P).length, zB T d.q d.m d.f] ++ ((potW T d.p d.aF d.aG d.aO d.rF d.rG (hb d.P (Sp0 d.P))) ++ ((zDi r d.x :: zR T 7 d.aO d.P.os.length d.rO :: d.oW) ++ CW T sd ad pa da σ))) rfl rfl) qm_1602 qm_1463 qm_1464 qm_26 qm_1465 hd_sbStr ⟨rfl, rfl⟩ ⟨Nat.le_of_ble_eq_true rfl, Nat.le_of_ble_eq_true rfl⟩ rfl (rest := [.ref (ad 0)]) rfl (Nat.le_of_ble_eq_true rfl) ⟨(by show _ ≤ 600086; omega), (by show _ ≤ 7301442; omega)⟩ dL_law_73 rfl (fun w hw => ?_)
  refine sx_chg (ws' := [oSB sb d.q (ptx d.P).length, zB T d.q d.m d.f, oST w.1 w.2.1, zB T w.2.1 (ptx d.P).length w.2.2] ++ ((potW T d.p d.aF d.aG d.aO d.rF d.rG (hb d.P (Sp0 d.P))) ++ ((zDi r d.x :: zR T 7 d.aO d.P.os.length d.rO :: d.oW) ++ CW T sd ad pa da σ))) (st' := [.ref w.1, .ref (ad 0)]) rfl rfl ?_
  refine sx_perm (permU [oSB sb d.q (ptx d.P).length, zB T d.q d.m d.f, oST w.1 w.2.1, zB T w.2.1 (ptx d.P).length w.2.2] (potW T d.p d.aF d.aG d.aO d.rF d.rG (hb d.P (Sp0 d.P))) (zDi r d.x :: zR T 7 d.aO d.P.os.length d.rO :: d.oW) (CW T sd ad pa da σ)) ?_
  have hm : ∀ z ∈ [oSB sb d.q (ptx d.P).length, zB T d.q d.m d.f, oST w.1 w.2.1, zB T w.2.1 (ptx d.P).length w.2.2], z ∈ (potW T d.p d.aF d.aG d.aO d.rF d.rG (hb d.P (Sp0 d.P))) ++ ((zDi r d.x :: zR T 7 d.aO d.P.os.length d.rO :: d.oW) ++ [oSB sb d.q (ptx d.P).length, zB T d.q d.m d.f, oST w.1 w.2.1, zB T w.2.1 (ptx d.P).length w.2.2]) := fun z hz => List.mem_append_right _ (List.mem_append_right _ hz)
  refine sx_pS X (k_taught (l := l) (D := D) (T := T) (sd := sd) (jd := jd) (ad := ad) (pa := pa) (da := da) w.1 hP hσ) (XY.M.and (StrAt_w X (hm _ (List.mem_cons_of_mem _ (List.mem_cons_of_mem _ List.mem_cons_self))) (hm _ (List.mem_cons_of_mem _ (List.mem_cons_of_mem _ (List.mem_cons_of_mem _ List.mem_cons_self)))) hw)) (wr := (potW T d.p d.aF d.aG d.aO d.rF d.rG (hb d.P (Sp0 d.P))) ++ ((zDi r d.x :: zR T 7 d.aO d.P.os.length d.rO :: d.oW) ++ [oSB sb d.q (ptx d.P).length, zB T d.q d.m d.f, oST w.1 w.2.1, zB T w.2.1 (ptx d.P).length w.2.2])) qm_781 qm_782 qm_12 qm_783 hd_taught ⟨rfl, rfl⟩ ⟨Nat.le_of_ble_eq_true rfl, Nat.le_of_ble_eq_true rfl⟩ rfl (rest := []) rfl (Nat.le_of_ble_eq_true rfl) ⟨(by show _ ≤ 600086; omega), (by show _ ≤ 7301442; omega)⟩ dL_law_76 rfl (fun σ' hR => ?_)
  refine sx_chg (ws' := LW T sd ad da pa d.p d.aF d.aG d.aO d.rF d.rG r d.P (Sp0 d.P) σ' d.x ((zR T 7 d.aO d.P.os.length d.rO :: d.oW) ++ [oSB sb d.q (ptx d.P).length, zB T d.q d.m d.f, oST w.1 w.2.1, zB T w.2.1 (ptx d.P).length w.2.2])) (st' := [.int 0]) rfl rfl ?_
  refine sx_if_eq X 84 dL_law_79 rfl (fun _ => ?_) (fun hc => absurd rfl hc)
  have hI := Iv_0 hP
  have hh : (Sp0 d.P).hour < 2 ^ 28 := by (show 0 < 2 ^ 28; decide)
  refine sx_widen (k' := k + 906) (n' := n + 1803040) (by omega) (by omega) ?_
  refine sx_aload_n X 4 rfl dL_law_84 rfl ?_
  refine sx_kC X (k_fronts (l := l) (D := D) (T := T) (sd := sd) (ad := ad) (pa := da) (da := pa) hP hI hh hR) qm_340 qm_341 qm_342 qm_13 qm_343 hd_X12_fronts ⟨rfl, rfl⟩ ⟨Nat.le_of_ble_eq_true rfl, Nat.le_of_ble_eq_true rfl⟩ rfl rfl (Nat.le_of_ble_eq_true rfl) dL_law_85 hRk hRn ?_
  refine sx_istore X (lv' := [(6, .int (nI d.P.nf)), (5, .ref d.p), (4, .ref sb), (3, .ref r), (0, .ref b), (1, .ref (ad 0)), (2, .int (nI time))]) dL_law_88 (by decide) rfl ?_
  refine sx_aload_n X 5 rfl dL_law_90 rfl ?_
  refine sx_kC X (k_guests (l := l) (D := D) (T := T) (sd := sd) (ad := ad) (pa := da) (da := pa) hP hI hh hR) qm_344 qm_345 qm_346 qm_13 qm_347 hd_X12_guests ⟨rfl, rfl⟩ ⟨Nat.le_of_ble_eq_true rfl, Nat.le_of_ble_eq_true rfl⟩ rfl rfl (Nat.le_of_ble_eq_true rfl) dL_law_91 hRk hRn ?_
  refine sx_istore X (lv' := [(7, .int (nI d.P.ng)), (6, .int (nI d.P.nf)), (5, .ref d.p), (4, .ref sb), (3, .ref r), (0, .ref b), (1, .ref (ad 0)), (2, .int (nI time))]) dL_law_94 (by decide) rfl ?_
  refine sx_iconst X (v := 0) dL_law_96 rfl ?_
  refine sx_istore X (lv' := [(8, .int 0), (7, .int (nI d.P.ng)), (6, .int (nI d.P.nf)), (5, .ref d.p), (4, .ref sb), (3, .ref r), (0, .ref b), (1, .ref (ad 0)), (2, .int (nI time))]) dL_law_97 (by decide) rfl ?_
  refine sx_lsub [6, 7, 8, 5, 3, 2, 1, 0] (lv' := [(0, .ref b), (1, .ref (ad 0)), (2, .int (nI time)), (3, .ref r), (5, .ref d.p), (6, .int (nI d.P.nf)), (7, .int (nI d.P.ng)), (8, .int (nI 0))]) rfl ?_
  exact kk d.p d.aF d.aG d.aO r d.rF d.rG d.rO d.P σ' d.x _ hP hR ⟨List.mem_append_left _ List.mem_cons_self, fun z hz => OdW_mono (fun q hq => List.mem_append_left _ (List.mem_cons_of_mem _ hq)) (hOd z hz)⟩
end LAWB
