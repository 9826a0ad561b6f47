/-! A STEP OF THE LAW: two deeds, looks, looks ahead, some hours -/
theorem lg_same (v : Int64) : lg_cmp v v = nI 0 := (cmp_eq v v).mpr rfl
theorem storm_ne {P : Pl} {S : Sp} {u : Int32} (h : StormIn P S u) : ¬ u = 0 := by
  rcases h with ⟨k, k1, k2, rfl, -⟩ | ⟨rfl, -⟩
  · exact nc_ne (a := k) (b := 0) (by omega) (by omega) (by decide)
  · decide
theorem storm_60 {P : Pl} {S : Sp} {u : Int32} (h : StormIn P S u) : ¬ (60 : Int32) < u := by
  rcases h with ⟨k, k1, k2, rfl, -⟩ | ⟨rfl, -⟩
  · exact nc_nlt (a := 60) (b := k) k2 (by decide)
  · decide
theorem serve_60 {P : Pl} {S : Sp} {w : Nat} {u : Int32} (h : ServeIn P S w u) : ¬ (60 : Int32) < u := by
  rcases h with ⟨k, k2, rfl, -⟩ | ⟨rfl, -⟩
  · exact nc_nlt (a := 60) (b := k) k2 (by decide)
  · decide
theorem serve_0 {P : Pl} {S : Sp} {w : Nat} {u : Int32} (h : ServeIn P S w u) : u = 0 ↔ S.gp w = 2 := by
  rcases h with ⟨k, k2, rfl, k3, k4⟩ | ⟨rfl, k4⟩
  · constructor
    · intro q
      have : k = 0 := (nI_eq (a := k) (b := 0) (by omega) (by decide)).mp q
      subst this
      exact k3
    · intro q
      have : ¬ 0 < k := fun z => k4 0 z q
      exact congrArg nI (show k = 0 by omega)
  · constructor
    · intro q
      exact absurd q (by decide)
    · intro q
      exact absurd q (k4 0 (by omega))
section LAWK
variable {l : Launch} {D : va_G} {T : Nat → ClassId} {sd : SdT} {jd : JdT} {p : Program} {e : Env} {s : State} {m : MethodId} {args : Array Value} {below : List Frame} {meth : Method} {c : Code} {A : Nat → Prop} {Q : State → Prop} {ad pa da : Nat → Nat} {p9 aF aG aO r b time step k n : Nat} {rF rG rO : Nat → Nat} {P : Pl} {S : Sp} {σ : CSt} {x : Int32} {tl : va_W}
set_option maxRecDepth 100000 in
set_option maxHeartbeats 4000000 in
theorem lw_step (XY : LwX p s m args meth c D T A sd jd) (hlt : l.stackTraces = false) (hRk : k + 22 ≤ 600086) (hRn : n + 150 ≤ 7301442) (hP : PlOk P) (hI : Iv P S) (hh : S.hour < 2 ^ 24) (hR : CR P S σ) (hT : TlOk T aO rO P tl) (hs : step < 8) (kk : ∀ S' σ' x', Iv P S' → CR P S' σ' → S'.hour ≤ S.hour + 66 → SxG p l e room_1 s m args below meth c D A 32 (k + 22) (n + 150) Q (LW T sd ad pa da p9 aF aG aO rF rG r P S' (σ') x' tl) [(0, .ref b), (1, .ref (ad 0)), (2, .int (nI time)), (3, .ref r), (5, .ref p9), (6, .int (nI P.nf)), (7, .int (nI P.ng)), (8, .int (nI (step + 1)))] 99 []) : SxG p l e room_1 s m args below meth c D A 32 k n Q (LW T sd ad pa da p9 aF aG aO rF rG r P S (σ) x tl) [(0, .ref b), (1, .ref (ad 0)), (2, .int (nI time)), (3, .ref r), (5, .ref p9), (6, .int (nI P.nf)), (7, .int (nI P.ng)), (8, .int (nI step))] 99 [] := by
  have X := XY.dn (SFx_ok sd)
  have hng := hP.2.1
  have hnf := hP.1
  refine sx_iload X 7 rfl dL_law_99 ?_
  refine sx_bipush X (v := 8) dL_law_101 rfl ?_
  refine sx_icmp_ge X 1364 dL_law_103 rfl (fun hc => absurd hc (nc_nle (a := 8) (b := step) hs (by decide))) (fun _ => ?_)
  refine sx_iconst X (v := 0) dL_law_106 rfl ?_
  refine sx_istore X (lv' := [(9, .int 0), (0, .ref b), (1, .ref (ad 0)), (2, .int (nI time)), (3, .ref r), (5, .ref p9), (6, .int (nI P.nf)), (7, .int (nI P.ng)), (8, .int (nI step))]) dL_law_107 (by decide) rfl ?_
  refine sx_iload X 0 rfl dL_law_109 ?_
  refine sx_iconst X (v := 2) dL_law_111 rfl ?_
  refine sx_icmp_ge X 133 dL_law_112 rfl (fun hc => absurd hc (by decide)) (fun _ => ?_)
  refine sx_aload_n X 2 rfl dL_law_115 rfl ?_
  refine sx_aload X 5 rfl dL_law_116 ?_
  refine sx_aload_n X 4 rfl dL_law_118 rfl ?_
  refine law_act (k := k) (n := n) XY hlt (by omega) (by omega) hP hI (by omega) hR hT (rest := []) (Nat.le_of_ble_eq_true rfl) (fun S1 σ1 x1 hA1 hR1 => ?_)
  refine sx_if_ne X 127 dL_law_122 rfl (fun _ => ?_) (fun hc => absurd hc (by decide))
  refine sx_iinc X (v := (0 + 1)) (lv' := [(9, .int (0 + 1)), (0, .ref b), (1, .ref (ad 0)), (2, .int (nI time)), (3, .ref r), (5, .ref p9), (6, .int (nI P.nf)), (7, .int (nI P.ng)), (8, .int (nI step))]) 0 rfl dL_law_127 rfl (by decide) rfl ?_
  refine sx_goto X 109 dL_law_130 rfl ?_
  obtain ⟨hI1, ha1, hb1⟩ := Iv_act hP hI hA1
  refine sx_iload X 0 rfl dL_law_109 ?_
  refine sx_iconst X (v := 2) dL_law_111 rfl ?_
  refine sx_icmp_ge X 133 dL_law_112 rfl (fun hc => absurd hc (by decide)) (fun _ => ?_)
  refine sx_aload_n X 2 rfl dL_law_115 rfl ?_
  refine sx_aload X 5 rfl dL_law_116 ?_
  refine sx_aload_n X 4 rfl dL_law_118 rfl ?_
  refine law_act (k := (k + 2)) (n := (n + 12)) XY hlt (by omega) (by omega) hP hI1 (by omega) hR1 hT (rest := []) (Nat.le_of_ble_eq_true rfl) (fun S2 σ2 x2 hA2 hR2 => ?_)
  refine sx_if_ne X 127 dL_law_122 rfl (fun _ => ?_) (fun hc => absurd hc (by decide))
  refine sx_iinc X (v := ((0 + 1) + 1)) (lv' := [(9, .int ((0 + 1) + 1)), (0, .ref b), (1, .ref (ad 0)), (2, .int (nI time)), (3, .ref r), (5, .ref p9), (6, .int (nI P.nf)), (7, .int (nI P.ng)), (8, .int (nI step))]) 0 rfl dL_law_127 rfl (by decide) rfl ?_
  refine sx_goto X 109 dL_law_130 rfl ?_
  obtain ⟨hI2, ha2, hb2⟩ := Iv_act hP hI1 hA2
  refine sx_widen (k' := k + 4) (n' := n + 24) (by omega) (by omega) ?_
  refine sx_iload X 0 rfl dL_law_109 ?_
  refine sx_iconst X (v := 2) dL_law_111 rfl ?_
  refine sx_icmp_ge X 133 dL_law_112 rfl (fun _ => ?_) (fun hc => absurd (by decide) hc)
  have hh2 : S2.hour < 2 ^ 28 := by omega
  obtain ⟨b1, b2, b3, b4, b5, b6⟩ := hI2.1
  have hsh := hI2.2.2.2
  have hRk2 : k + 4 ≤ 600086 := by omega
  have hRn2 : n + 24 ≤ 7301442 := by omega
  obtain ⟨dv, hdv⟩ := digest_ok hP hI2.1 hI2.2.1 (by omega) hR2.1 hR2.2.1 hR2.2.2.1 (bh := σ2.2.1) (n := 3000) (by decide)
  refine sx_aload_n X 2 rfl dL_law_133 rfl ?_
  refine sx_kC X (k_digest (l := l) (D := D) (T := T) (sd := sd) (ad := ad) (pa := pa) (da := da) hdv) qm_660 qm_661 qm_662 qm_13 qm_663 hd_X12_digest ⟨rfl, rfl⟩ ⟨Nat.le_of_ble_eq_true rfl, Nat.le_of_ble_eq_true rfl⟩ rfl rfl (Nat.le_of_ble_eq_true rfl) dL_law_134 hRk2 hRn2 ?_
  refine sx_lstore X (lv' := [(9, .long dv), (0, .ref b), (1, .ref (ad 0)), (2, .int (nI time)), (3, .ref r), (5, .ref p9), (6, .int (nI P.nf)), (7, .int (nI P.ng)), (8, .int (nI step))]) dL_law_137 (by decide) rfl ?_
  refine sx_aload_n X 2 rfl dL_law_139 rfl ?_
  refine sx_kC X (k_warmth (l := l) (D := D) (T := T) (sd := sd) (ad := ad) (pa := pa) (da := da) hP hI2 hh2 hR2) qm_352 qm_353 qm_354 qm_13 qm_355 hd_X12_warmth ⟨rfl, rfl⟩ ⟨Nat.le_of_ble_eq_true rfl, Nat.le_of_ble_eq_true rfl⟩ rfl rfl (Nat.le_of_ble_eq_true rfl) dL_law_140 hRk2 hRn2 ?_
  refine sx_if_lt X 217 dL_law_143 rfl (fun hc => absurd hc (nc_nlt (a := S2.warmth) (b := 0) (Nat.zero_le _) (by omega))) (fun _ => ?_)
  refine sx_aload_n X 2 rfl dL_law_146 rfl ?_
  refine sx_kC X (k_warmth (l := l) (D := D) (T := T) (sd := sd) (ad := ad) (pa := pa) (da := da) hP hI2 hh2 hR2) qm_352 qm_353 qm_354 qm_13 qm_355 hd_X12_warmth ⟨rfl, rfl⟩ ⟨Nat.le_of_ble_eq_true rfl, Nat.le_of_ble_eq_true rfl⟩ rfl rfl (Nat.le_of_ble_eq_true rfl) dL_law_147 hRk2 hRn2 ?_
  refine sx_bipush X (v := 40) dL_law_150 rfl ?_
  refine sx_icmp_gt X 217 dL_law_152 rfl (fun hc => absurd hc (nc_nlt (a := 40) (b := S2.warmth) (by omega) (by decide))) (fun _ => ?_)
  refine sx_aload_n X 2 rfl dL_law_155 rfl ?_
  refine sx_kC X (k_strength (l := l) (D := D) (T := T) (sd := sd) (ad := ad) (pa := pa) (da := da) hP hI2 hh2 hR2) qm_356 qm_357 qm_358 qm_13 qm_359 hd_X12_strength ⟨rfl, rfl⟩ ⟨Nat.le_of_ble_eq_true rfl, Nat.le_of_ble_eq_true rfl⟩ rfl rfl (Nat.le_of_ble_eq_true rfl) dL_law_156 hRk2 hRn2 ?_
  refine sx_if_lt X 217 dL_law_159 rfl (fun hc => absurd hc (nc_nlt (a := S2.strength) (b := 0) (Nat.zero_le _) (by omega))) (fun _ => ?_)
  refine sx_aload_n X 2 rfl dL_law_162 rfl ?_
  refine sx_kC X (k_strength (l := l) (D := D) (T := T) (sd := sd) (ad := ad) (pa := pa) (da := da) hP hI2 hh2 hR2) qm_356 qm_357 qm_358 qm_13 qm_359 hd_X12_strength ⟨rfl, rfl⟩ ⟨Nat.le_of_ble_eq_true rfl, Nat.le_of_ble_eq_true rfl⟩ rfl rfl (Nat.le_of_ble_eq_true rfl) dL_law_163 hRk2 hRn2 ?_
  refine sx_bipush X (v := 30) dL_law_166 rfl ?_
  refine sx_icmp_gt X 217 dL_law_168 rfl (fun hc => absurd hc (nc_nlt (a := 30) (b := S2.strength) (by omega) (by decide))) (fun _ => ?_)
  refine sx_aload_n X 2 rfl dL_law_171 rfl ?_
  refine sx_kC X (k_charge (l := l) (D := D) (T := T) (sd := sd) (ad := ad) (pa := pa) (da := da) hP hI2 hh2 hR2) qm_360 qm_361 qm_362 qm_13 qm_363 hd_X12_charge ⟨rfl, rfl⟩ ⟨Nat.le_of_ble_eq_true rfl, Nat.le_of_ble_eq_true rfl⟩ rfl rfl (Nat.le_of_ble_eq_true rfl) dL_law_172 hRk2 hRn2 ?_
  refine sx_if_lt X 217 dL_law_175 rfl (fun hc => absurd hc (nc_nlt (a := S2.charge) (b := 0) (Nat.zero_le _) (by omega))) (fun _ => ?_)
  refine sx_aload_n X 2 rfl dL_law_178 rfl ?_
  refine sx_kC X (k_charge (l := l) (D := D) (T := T) (sd := sd) (ad := ad) (pa := pa) (da := da) hP hI2 hh2 hR2) qm_360 qm_361 qm_362 qm_13 qm_363 hd_X12_charge ⟨rfl, rfl⟩ ⟨Nat.le_of_ble_eq_true rfl, Nat.le_of_ble_eq_true rfl⟩ rfl rfl (Nat.le_of_ble_eq_true rfl) dL_law_179 hRk2 hRn2 ?_
  refine sx_bipush X (v := 30) dL_law_182 rfl ?_
  refine sx_icmp_gt X 217 dL_law_184 rfl (fun hc => absurd hc (nc_nlt (a := 30) (b := S2.charge) (by omega) (by decide))) (fun _ => ?_)
  refine sx_aload_n X 2 rfl dL_law_187 rfl ?_
  refine sx_kC X (k_lemons (l := l) (D := D) (T := T) (sd := sd) (ad := ad) (pa := pa) (da := da) hP hI2 hh2 hR2) qm_364 qm_365 qm_366 qm_13 qm_367 hd_X12_lemons ⟨rfl, rfl⟩ ⟨Nat.le_of_ble_eq_true rfl, Nat.le_of_ble_eq_true rfl⟩ rfl rfl (Nat.le_of_ble_eq_true rfl) dL_law_188 hRk2 hRn2 ?_
  refine sx_if_lt X 217 dL_law_191 rfl (fun hc => absurd hc (nc_nlt (a := S2.lemons) (b := 0) (Nat.zero_le _) (by omega))) (fun _ => ?_)
  refine sx_aload_n X 2 rfl dL_law_194 rfl ?_
  refine sx_kC X (k_lemons (l := l) (D := D) (T := T) (sd := sd) (ad := ad) (pa := pa) (da := da) hP hI2 hh2 hR2) qm_364 qm_365 qm_366 qm_13 qm_367 hd_X12_lemons ⟨rfl, rfl⟩ ⟨Nat.le_of_ble_eq_true rfl, Nat.le_of_ble_eq_true rfl⟩ rfl rfl (Nat.le_of_ble_eq_true rfl) dL_law_195 hRk2 hRn2 ?_
  refine sx_iconst X (v := 3) dL_law_198 rfl ?_
  refine sx_icmp_gt X 217 dL_law_199 rfl (fun hc => absurd hc (nc_nlt (a := 3) (b := S2.lemons) (by omega) (by decide))) (fun _ => ?_)
  refine sx_aload_n X 2 rfl dL_law_202 rfl ?_
  refine sx_kC X (k_saucers (l := l) (D := D) (T := T) (sd := sd) (ad := ad) (pa := pa) (da := da) hP hI2 hh2 hR2) qm_368 qm_369 qm_370 qm_13 qm_371 hd_X12_saucers ⟨rfl, rfl⟩ ⟨Nat.le_of_ble_eq_true rfl, Nat.le_of_ble_eq_true rfl⟩ rfl rfl (Nat.le_of_ble_eq_true rfl) dL_law_203 hRk2 hRn2 ?_
  refine sx_if_lt X 217 dL_law_206 rfl (fun hc => absurd hc (nc_nlt (a := S2.saucers) (b := 0) (Nat.zero_le _) (by omega))) (fun _ => ?_)
  refine sx_aload_n X 2 rfl dL_law_209 rfl ?_
  refine sx_kC X (k_saucers (l := l) (D := D) (T := T) (sd := sd) (ad := ad) (pa := pa) (da := da) hP hI2 hh2 hR2) qm_368 qm_369 qm_370 qm_13 qm_371 hd_X12_saucers ⟨rfl, rfl⟩ ⟨Nat.le_of_ble_eq_true rfl, Nat.le_of_ble_eq_true rfl⟩ rfl rfl (Nat.le_of_ble_eq_true rfl) dL_law_210 hRk2 hRn2 ?_
  refine sx_iconst X (v := 3) dL_law_213 rfl ?_
  refine sx_icmp_le X 219 dL_law_214 rfl (fun _ => ?_) (fun hc => absurd (nc_le (a := S2.saucers) (b := 3) (by omega) (by decide)) hc)
  refine sx_iconst X (v := 0) dL_law_219 rfl ?_
  refine sx_istore X (lv' := [(11, .int 0), (9, .long dv), (0, .ref b), (1, .ref (ad 0)), (2, .int (nI time)), (3, .ref r), (5, .ref p9), (6, .int (nI P.nf)), (7, .int (nI P.ng)), (8, .int (nI step))]) dL_law_220 (by decide) rfl ?_
  refine sx_iconst X (v := 0) dL_law_222 rfl ?_
  refine sx_istore X (lv' := [(12, .int 0), (11, .int 0), (9, .long dv), (0, .ref b), (1, .ref (ad 0)), (2, .int (nI time)), (3, .ref r), (5, .ref p9), (6, .int (nI P.nf)), (7, .int (nI P.ng)), (8, .int (nI step))]) dL_law_223 (by decide) rfl ?_
  refine sx_iconst X (v := 0) dL_law_225 rfl ?_
  refine sx_istore X (lv' := [(13, .int 0), (12, .int 0), (11, .int 0), (9, .long dv), (0, .ref b), (1, .ref (ad 0)), (2, .int (nI time)), (3, .ref r), (5, .ref p9), (6, .int (nI P.nf)), (7, .int (nI P.ng)), (8, .int (nI step))]) dL_law_226 (by decide) rfl ?_
  refine sx_iconst X (v := 0) dL_law_228 rfl ?_
  refine sx_istore X (lv' := [(14, .int 0), (13, .int 0), (12, .int 0), (11, .int 0), (9, .long dv), (0, .ref b), (1, .ref (ad 0)), (2, .int (nI time)), (3, .ref r), (5, .ref p9), (6, .int (nI P.nf)), (7, .int (nI P.ng)), (8, .int (nI step))]) dL_law_229 (by decide) rfl ?_
  refine sx_lsub [0, 3, 2, 1, 4, 5, 6, 7, 8, 9, 10, 11, 12] (lv' := [(14, .int (nI 0)), (11, .int (nI (sumN (fun g => b01 (S2.gp g = 1)) 0))), (12, .int (nI (sumN (fun g => b01 (S2.gp g = 2)) 0))), (13, .int (nI (sumN (fun g => b01 (S2.gp g = 3)) 0))), (9, .long dv), (0, .ref b), (1, .ref (ad 0)), (2, .int (nI time)), (3, .ref r), (5, .ref p9), (6, .int (nI P.nf)), (7, .int (nI P.ng)), (8, .int (nI step))]) rfl ?_
  refine lw_G (k := k + 4) (n := n + 24) XY hRk2 hRn2 hP hI2 hh2 hR2 (dg := dv) ?_ P.ng 0 (Nat.zero_add _)
  refine sx_iload X 1 rfl dL_law_457 ?_
  refine sx_aload_n X 6 rfl dL_law_459 rfl ?_
  refine sx_kC X (k_seatedGuests (l := l) (D := D) (T := T) (sd := sd) (ad := ad) (pa := pa) (da := da) hP hI2 hh2 hR2) qm_380 qm_381 qm_382 qm_13 qm_383 hd_X12_seatedGuests ⟨rfl, rfl⟩ ⟨Nat.le_of_ble_eq_true rfl, Nat.le_of_ble_eq_true rfl⟩ rfl rfl (Nat.le_of_ble_eq_true rfl) dL_law_460 hRk2 hRn2 ?_
  refine sx_icmp_ne X 484 dL_law_463 rfl (fun hc => absurd rfl hc) (fun _ => ?_)
  refine sx_iload X 2 rfl dL_law_466 ?_
  refine sx_aload_n X 6 rfl dL_law_468 rfl ?_
  refine sx_kC X (k_served (l := l) (D := D) (T := T) (sd := sd) (ad := ad) (pa := pa) (da := da) hP hI2 hh2 hR2) qm_395 qm_396 qm_397 qm_13 qm_398 hd_X12_served ⟨rfl, rfl⟩ ⟨Nat.le_of_ble_eq_true rfl, Nat.le_of_ble_eq_true rfl⟩ rfl rfl (Nat.le_of_ble_eq_true rfl) dL_law_469 hRk2 hRn2 ?_
  refine sx_icmp_ne X 484 dL_law_472 rfl (fun hc => absurd rfl hc) (fun _ => ?_)
  refine sx_iload X 3 rfl dL_law_475 ?_
  refine sx_aload_n X 6 rfl dL_law_477 rfl ?_
  refine sx_kC X (k_stormed (l := l) (D := D) (T := T) (sd := sd) (ad := ad) (pa := pa) (da := da) hP hI2 hh2 hR2) qm_402 qm_403 qm_404 qm_13 qm_405 hd_X12_stormed ⟨rfl, rfl⟩ ⟨Nat.le_of_ble_eq_true rfl, Nat.le_of_ble_eq_true rfl⟩ rfl rfl (Nat.le_of_ble_eq_true rfl) dL_law_478 hRk2 hRn2 ?_
  refine sx_icmp_eq X 486 dL_law_481 rfl (fun _ => ?_) (fun hc => absurd rfl hc)
  obtain ⟨v, hv, m', hB⟩ := best_ok hP hI2.1 hI2.2.1 (by omega) hR2.1 hR2.2.1 hR2.2.2.1 (bh := σ2.2.1) (n := 3000) (by decide)
  refine sx_aload_n X 6 rfl dL_law_486 rfl ?_
  refine sx_kC X (k_bestToSteep (l := l) (D := D) (T := T) (sd := sd) (ad := ad) (pa := pa) (da := da) hv) qm_652 qm_653 qm_654 qm_13 qm_655 hd_X12_bestToSteep ⟨rfl, rfl⟩ ⟨Nat.le_of_ble_eq_true rfl, Nat.le_of_ble_eq_true rfl⟩ rfl rfl (Nat.le_of_ble_eq_true rfl) dL_law_487 hRk2 hRn2 ?_
  refine sx_istore X (lv' := [(14, .int v), (11, .int (nI (sumN (fun g => b01 (S2.gp g = 1)) P.ng))), (12, .int (nI (sumN (fun g => b01 (S2.gp g = 2)) P.ng))), (13, .int (nI (sumN (fun g => b01 (S2.gp g = 3)) P.ng))), (9, .long dv), (0, .ref b), (1, .ref (ad 0)), (2, .int (nI time)), (3, .ref r), (5, .ref p9), (6, .int (nI P.nf)), (7, .int (nI P.ng)), (8, .int (nI step))]) dL_law_490 (by decide) rfl ?_
  refine sx_iconst X (v := (-1)) dL_law_492 rfl ?_
  refine sx_istore X (lv' := [(15, .int (-1)), (14, .int v), (11, .int (nI (sumN (fun g => b01 (S2.gp g = 1)) P.ng))), (12, .int (nI (sumN (fun g => b01 (S2.gp g = 2)) P.ng))), (13, .int (nI (sumN (fun g => b01 (S2.gp g = 3)) P.ng))), (9, .long dv), (0, .ref b), (1, .ref (ad 0)), (2, .int (nI time)), (3, .ref r), (5, .ref p9), (6, .int (nI P.nf)), (7, .int (nI P.ng)), (8, .int (nI step))]) dL_law_493 (by decide) rfl ?_
  refine sx_iconst X (v := 0) dL_law_495 rfl ?_
  refine sx_istore X (lv' := [(16, .int 0), (15, .int (-1)), (14, .int v), (11, .int (nI (sumN (fun g => b01 (S2.gp g = 1)) P.ng))), (12, .int (nI (sumN (fun g => b01 (S2.gp g = 2)) P.ng))), (13, .int (nI (sumN (fun g => b01 (S2.gp g = 3)) P.ng))), (9, .long dv), (0, .ref b), (1, .ref (ad 0)), (2, .int (nI time)), (3, .ref r), (5, .ref p9), (6, .int (nI P.nf)), (7, .int (nI P.ng)), (8, .int (nI step))]) dL_law_496 (by decide) rfl ?_
  refine sx_lsub [0, 1, 2, 6, 7, 8, 9, 10, 11, 12, 13, 14] (lv' := [(16, .int (nI 0)), (15, .int (-1)), (14, .int v), (9, .long dv), (0, .ref b), (1, .ref (ad 0)), (2, .int (nI time)), (3, .ref r), (5, .ref p9), (6, .int (nI P.nf)), (7, .int (nI P.ng)), (8, .int (nI step))]) rfl ?_
  refine lw_F (k := k + 4) (n := n + 24) XY hRk2 hRn2 hP hI2 hh2 hR2 (dg := dv) hB (fun mv => ?_) P.nf 0 (-1) (Nat.zero_add _) (MostN_0 P S2)
  have K729 : SxG p l e room_1 s m args below meth c D A 32 (k + 4) (n + 24) Q (LW T sd ad pa da p9 aF aG aO rF rG r P S2 (σ2) x2 tl) [(9, .long dv), (0, .ref b), (1, .ref (ad 0)), (2, .int (nI time)), (3, .ref r), (5, .ref p9), (6, .int (nI P.nf)), (7, .int (nI P.ng)), (8, .int (nI step))] 729 [] := by
    refine sx_iconst X (v := 1) dL_law_729 rfl ?_
    refine sx_aload_n X 4 rfl dL_law_730 rfl ?_
    refine sx_bipush X (v := 6) dL_law_731 rfl ?_
    refine sx_kD X (N := 6) (by decide) (by decide) qm_690 qm_691 qm_692 qm_24 qm_693 ⟨Nat.le_of_ble_eq_true rfl, Nat.le_of_ble_eq_true rfl⟩ (rest := [.int 1]) (Nat.le_of_ble_eq_true rfl) dL_law_733 hRk2 hRn2 (fun v6 x3 hv6 => ?_)
    refine sx_iadd X dL_law_736 ?_
    refine sx_topi (y := nI (1 + v6)) (nI_add 1 v6) ?_
    refine sx_istore X (lv' := [(16, .int (nI (1 + v6))), (9, .long dv), (0, .ref b), (1, .ref (ad 0)), (2, .int (nI time)), (3, .ref r), (5, .ref p9), (6, .int (nI P.nf)), (7, .int (nI P.ng)), (8, .int (nI step))]) dL_law_737 (by decide) rfl ?_
    refine sx_aload_n X 3 rfl dL_law_739 rfl ?_
    refine sx_iload X 0 rfl dL_law_740 ?_
    refine law_coins (k := k + 4) (n := n + 24) XY hRk2 hRn2 hP hI2 hh2 hR2 (rest := []) (Nat.le_of_ble_eq_true rfl) (N := 1 + v6) (by omega) (by omega) (fun t8 t9 => ?_)
    generalize es3 : (((pa 0), σ2.2.1, σ2.2.2.1, σ2.2.2.2.1, σ2.2.2.2.2.1, σ2.2.2.2.2.2.1, σ2.2.2.2.2.2.2.1, σ2.2.2.2.2.2.2.2.1, σ2.2.2.2.2.2.2.2.2.1, t8, t9, σ2.2.2.2.2.2.2.2.2.2.2.2.1, σ2.2.2.2.2.2.2.2.2.2.2.2.2.1, σ2.2.2.2.2.2.2.2.2.2.2.2.2.2) : CSt) = σ3
    have hR3 : CR P S2 σ3 := by (subst es3; exact hR2)
    have hdv3 : f_X12_digest 3000 (σ3.2.1) (σ3.2.2.2.2.1) (σ3.2.2.2.2.2.2.1) (σ3.2.2.2.2.2.2.2.1) = some dv := by (subst es3; exact hdv)
    refine sx_istore X (lv' := [(17, .int (nI (hoursS P S2 (1 + v6)).coins)), (16, .int (nI (1 + v6))), (9, .long dv), (0, .ref b), (1, .ref (ad 0)), (2, .int (nI time)), (3, .ref r), (5, .ref p9), (6, .int (nI P.nf)), (7, .int (nI P.ng)), (8, .int (nI step))]) dL_law_745 (by decide) rfl ?_
    refine sx_aload_n X 4 rfl dL_law_747 rfl ?_
    refine law_storm (k := k + 4) (n := n + 24) XY hRk2 hRn2 hP hI2 hh2 hR3 (by omega) (rest := []) (Nat.le_of_ble_eq_true rfl) (fun u t8' t9' hu => ?_)
    generalize es4 : (((pa 0), σ3.2.1, σ3.2.2.1, σ3.2.2.2.1, σ3.2.2.2.2.1, σ3.2.2.2.2.2.1, σ3.2.2.2.2.2.2.1, σ3.2.2.2.2.2.2.2.1, σ3.2.2.2.2.2.2.2.2.1, t8', t9', σ3.2.2.2.2.2.2.2.2.2.2.2.1, σ3.2.2.2.2.2.2.2.2.2.2.2.2.1, σ3.2.2.2.2.2.2.2.2.2.2.2.2.2) : CSt) = σ4
    have hR4 : CR P S2 σ4 := by (subst es4; exact hR3)
    have hdv4 : f_X12_digest 3000 (σ4.2.1) (σ4.2.2.2.2.1) (σ4.2.2.2.2.2.2.1) (σ4.2.2.2.2.2.2.2.1) = some dv := by (subst es4; exact hdv3)
    refine sx_istore X (lv' := [(18, .int u), (17, .int (nI (hoursS P S2 (1 + v6)).coins)), (16, .int (nI (1 + v6))), (9, .long dv), (0, .ref b), (1, .ref (ad 0)), (2, .int (nI time)), (3, .ref r), (5, .ref p9), (6, .int (nI P.nf)), (7, .int (nI P.ng)), (8, .int (nI step))]) dL_law_751 (by decide) rfl ?_
    refine sx_iload X 10 rfl dL_law_753 ?_
    have K768 : ∀ one x4, (one = -1 ∨ ∃ w, w < P.ng ∧ one = nI w) → SxG p l e room_1 s m args below meth c D A 32 (k + 4) (n + 24) Q (LW T sd ad pa da p9 aF aG aO rF rG r P S2 (σ4) x4 tl) [(18, .int u), (17, .int (nI (hoursS P S2 (1 + v6)).coins)), (16, .int (nI (1 + v6))), (9, .long dv), (0, .ref b), (1, .ref (ad 0)), (2, .int (nI time)), (3, .ref r), (5, .ref p9), (6, .int (nI P.nf)), (7, .int (nI P.ng)), (8, .int (nI step))] 768 [.int one] := by
      intro one x4 hone
      refine sx_istore X (lv' := [(19, .int one), (18, .int u), (17, .int (nI (hoursS P S2 (1 + v6)).coins)), (16, .int (nI (1 + v6))), (9, .long dv), (0, .ref b), (1, .ref (ad 0)), (2, .int (nI time)), (3, .ref r), (5, .ref p9), (6, .int (nI P.nf)), (7, .int (nI P.ng)), (8, .int (nI step))]) dL_law_768 (by decide) rfl ?_
      have K785 : ∀ un σ5, CR P S2 σ5 → f_X12_digest 3000 (σ5.2.1) (σ5.2.2.2.2.1) (σ5.2.2.2.2.2.2.1) (σ5.2.2.2.2.2.2.2.1) = some dv → ((one = -1 ∧ un = -1) ∨ ∃ w, w < P.ng ∧ one = nI w ∧ ServeIn P S2 w un) → SxG p l e room_1 s m args below meth c D A 32 (k + 4) (n + 24) Q (LW T sd ad pa da p9 aF aG aO rF rG r P S2 (σ5) x4 tl) [(19, .int one), (18, .int u), (17, .int (nI (hoursS P S2 (1 + v6)).coins)), (16, .int (nI (1 + v6))), (9, .long dv), (0, .ref b), (1, .ref (ad 0)), (2, .int (nI time)), (3, .ref r), (5, .ref p9), (6, .int (nI P.nf)), (7, .int (nI P.ng)), (8, .int (nI step))] 785 [.int un] := by
        intro un σ5 hR5 hdv5 hun
        have hun60 : ¬ (60 : Int32) < un := by
          rcases hun with ⟨e1, e2⟩ | ⟨w, hw, e1, hsv⟩
          · rw [e2]; decide
          · exact serve_60 hsv
        refine sx_istore X (lv' := [(20, .int un), (19, .int one), (18, .int u), (17, .int (nI (hoursS P S2 (1 + v6)).coins)), (16, .int (nI (1 + v6))), (9, .long dv), (0, .ref b), (1, .ref (ad 0)), (2, .int (nI time)), (3, .ref r), (5, .ref p9), (6, .int (nI P.nf)), (7, .int (nI P.ng)), (8, .int (nI step))]) dL_law_785 (by decide) rfl ?_
        refine sx_aload_n X 7 rfl dL_law_787 rfl ?_
        refine sx_kC X (k_digest (l := l) (D := D) (T := T) (sd := sd) (ad := ad) (pa := pa) (da := da) hdv5) qm_660 qm_661 qm_662 qm_13 qm_663 hd_X12_digest ⟨rfl, rfl⟩ ⟨Nat.le_of_ble_eq_true rfl, Nat.le_of_ble_eq_true rfl⟩ rfl rfl (Nat.le_of_ble_eq_true rfl) dL_law_788 hRk2 hRn2 ?_
        refine sx_lload X 5 rfl dL_law_791 ?_
        refine sx_lcmp X dL_law_793 ?_
        refine sx_topi (y := nI 0) (lg_same dv) ?_
        refine sx_if_ne X 840 dL_law_794 rfl (fun hc => absurd rfl hc) (fun _ => ?_)
        refine sx_iload X 2 rfl dL_law_797 ?_
        refine sx_if_eq X 840 dL_law_799 rfl (fun hc => absurd hc (storm_ne hu)) (fun _ => ?_)
        refine sx_iload X 2 rfl dL_law_802 ?_
        refine sx_bipush X (v := 60) dL_law_804 rfl ?_
        refine sx_icmp_gt X 840 dL_law_806 rfl (fun hc => absurd hc (storm_60 hu)) (fun _ => ?_)
        refine sx_iload X 0 rfl dL_law_809 ?_
        refine sx_bipush X (v := 60) dL_law_811 rfl ?_
        refine sx_icmp_gt X 840 dL_law_813 rfl (fun hc => absurd hc hun60) (fun _ => ?_)
        have K842 : SxG p l e room_1 s m args below meth c D A 32 (k + 4) (n + 24) Q (LW T sd ad pa da p9 aF aG aO rF rG r P S2 (σ5) x4 tl) [(20, .int un), (19, .int one), (18, .int u), (17, .int (nI (hoursS P S2 (1 + v6)).coins)), (16, .int (nI (1 + v6))), (9, .long dv), (0, .ref b), (1, .ref (ad 0)), (2, .int (nI time)), (3, .ref r), (5, .ref p9), (6, .int (nI P.nf)), (7, .int (nI P.ng)), (8, .int (nI step))] 842 [] := by
          have K852 : ∀ v, v = b01 (un = 0) → SxG p l e room_1 s m args below meth c D A 32 (k + 4) (n + 24) Q (LW T sd ad pa da p9 aF aG aO rF rG r P S2 (σ5) x4 tl) [(20, .int un), (19, .int one), (18, .int u), (17, .int (nI (hoursS P S2 (1 + v6)).coins)), (16, .int (nI (1 + v6))), (9, .long dv), (0, .ref b), (1, .ref (ad 0)), (2, .int (nI time)), (3, .ref r), (5, .ref p9), (6, .int (nI P.nf)), (7, .int (nI P.ng)), (8, .int (nI step))] 852 [.int (nI v)] := by
            intro v hv
            subst hv
            refine sx_istore X (lv' := [(21, .int (nI (b01 (un = 0)))), (20, .int un), (19, .int one), (18, .int u), (17, .int (nI (hoursS P S2 (1 + v6)).coins)), (16, .int (nI (1 + v6))), (9, .long dv), (0, .ref b), (1, .ref (ad 0)), (2, .int (nI time)), (3, .ref r), (5, .ref p9), (6, .int (nI P.nf)), (7, .int (nI P.ng)), (8, .int (nI step))]) dL_law_852 (by decide) rfl ?_
            refine sx_iconst X (v := 0) dL_law_854 rfl ?_
            refine sx_istore X (lv' := [(22, .int 0), (21, .int (nI (b01 (un = 0)))), (20, .int un), (19, .int one), (18, .int u), (17, .int (nI (hoursS P S2 (1 + v6)).coins)), (16, .int (nI (1 + v6))), (9, .long dv), (0, .ref b), (1, .ref (ad 0)), (2, .int (nI time)), (3, .ref r), (5, .ref p9), (6, .int (nI P.nf)), (7, .int (nI P.ng)), (8, .int (nI step))]) dL_law_855 (by decide) rfl ?_
            refine sx_iconst X (v := 1) dL_law_857 rfl ?_
            refine sx_istore X (lv' := [(23, .int 1), (22, .int 0), (21, .int (nI (b01 (un = 0)))), (20, .int un), (19, .int one), (18, .int u), (17, .int (nI (hoursS P S2 (1 + v6)).coins)), (16, .int (nI (1 + v6))), (9, .long dv), (0, .ref b), (1, .ref (ad 0)), (2, .int (nI time)), (3, .ref r), (5, .ref p9), (6, .int (nI P.nf)), (7, .int (nI P.ng)), (8, .int (nI step))]) dL_law_858 (by decide) rfl ?_
            refine sx_lsub [7, 6, 5, 4, 3, 2, 1, 0, 8, 9, 10, 11, 12, 13, 14, 15, 16] (lv' := [(16, .int (nI (1 + v6))), (17, .int (nI (hoursS P S2 (1 + v6)).coins)), (18, .int u), (19, .int one), (20, .int un), (21, .int (nI (b01 (un = 0)))), (22, .int (0)), (23, .int (nI (0 + 1))), (9, .long dv), (0, .ref b), (1, .ref (ad 0)), (2, .int (nI time)), (3, .ref r), (5, .ref p9), (6, .int (nI P.nf)), (7, .int (nI P.ng)), (8, .int (nI step))]) rfl ?_
            refine sx_chg (ws' := LW T sd ad pa da p9 aF aG aO rF rG r P (hoursS P S2 0) σ5 x4 tl) (st' := []) rfl rfl ?_
            refine lw_hours (k0 := k + 22) (n0 := n + 150) XY hRk hRn hP hI2 (by omega) hT (dg := dv) (due := nI (hoursS P S2 (1 + v6)).coins) (un := un) (N := 1 + v6) (by omega) hu (fun σ' did was hR' => ?_) (1 + v6) 0 (k + 4) (n + 24) σ5 _ _ (Nat.zero_add _) (by omega) (by omega) hR5 (congrArg nI (b01_0 (Nat.lt_irrefl 0))).symm ?_
            · have hho := (SpB_hours (P := P) hI2.1 (1 + v6)).2
              have hhN : (hoursS P S2 (1 + v6)).hour < 2 ^ 28 := by omega
              refine sx_aload_n X 10 rfl dL_law_1347 rfl ?_
              refine sx_kC X (k_coins (l := l) (D := D) (T := T) (sd := sd) (ad := ad) (pa := pa) (da := da) hP (Iv_hours hP hI2 (1 + v6)) hhN hR') qm_372 qm_373 qm_374 qm_13 qm_375 hd_X12_coins ⟨rfl, rfl⟩ ⟨Nat.le_of_ble_eq_true rfl, Nat.le_of_ble_eq_true rfl⟩ rfl rfl (Nat.le_of_ble_eq_true rfl) dL_law_1348 hRk hRn ?_
              refine sx_iload X 1 rfl dL_law_1351 ?_
              refine sx_icmp_eq X 1358 dL_law_1353 rfl (fun _ => ?_) (fun hc => absurd rfl hc)
              refine sx_iinc X (v := nI (step + 1)) (lv' := [(8, .int (nI (step + 1))), (16, .int (nI (1 + v6))), (17, .int (nI (hoursS P S2 (1 + v6)).coins)), (18, .int u), (19, .int one), (20, .int un), (21, .int was), (22, .int did), (23, .int (nI (1 + v6 + 1))), (9, .long dv), (0, .ref b), (1, .ref (ad 0)), (2, .int (nI time)), (3, .ref r), (5, .ref p9), (6, .int (nI P.nf)), (7, .int (nI P.ng))]) 16 rfl dL_law_1358 (nI_add step 1) (by decide) rfl ?_
              refine sx_goto X 99 dL_law_1361 rfl ?_
              refine sx_lsub [10, 11, 12, 13, 14, 15, 16, 0] (lv' := [(0, .ref b), (1, .ref (ad 0)), (2, .int (nI time)), (3, .ref r), (5, .ref p9), (6, .int (nI P.nf)), (7, .int (nI P.ng)), (8, .int (nI (step + 1)))]) rfl ?_
              exact kk (hoursS P S2 (1 + v6)) σ' x4 (Iv_hours hP hI2 (1 + v6)) hR' (by omega)
            · rcases hun with ⟨e1, e2⟩ | ⟨w, hw, e1, hsv⟩
              · exact Or.inl e1
              · exact Or.inr ⟨w, hw, e1, hsv, congrArg nI (b01_iff (serve_0 hsv))⟩
          refine sx_iload X 0 rfl dL_law_842 ?_
          by_cases z0 : un = 0
          · refine sx_if_ne X 851 dL_law_844 rfl (fun hc => absurd z0 hc) (fun _ => ?_)
            refine sx_iconst X (v := 1) dL_law_847 rfl ?_
            refine sx_goto X 852 dL_law_848 rfl ?_
            exact K852 1 (b01_1 z0).symm
          · refine sx_if_ne X 851 dL_law_844 rfl (fun _ => ?_) (fun hc => absurd hc z0)
            refine sx_iconst X (v := 0) dL_law_851 rfl ?_
            exact K852 0 (b01_0 z0).symm
        refine sx_iload X 1 rfl dL_law_816 ?_
        rcases hun with ⟨e1, e2⟩ | ⟨w, hw, e1, hsv⟩
        · refine sx_if_lt X 842 dL_law_818 rfl (fun _ => ?_) (fun hc => absurd (by rw [e1]; decide) hc)
          exact K842
        · refine sx_if_lt X 842 dL_law_818 rfl (fun hc => absurd hc (by rw [e1]; exact nc_nlt (a := w) (b := 0) (Nat.zero_le _) (by omega))) (fun _ => ?_)
          subst e1
          have K831 : ∀ v, v = b01 (S2.gp w = 2) → SxG p l e room_1 s m args below meth c D A 32 (k + 4) (n + 24) Q (LW T sd ad pa da p9 aF aG aO rF rG r P S2 (σ5) x4 tl) [(20, .int un), (19, .int (nI w)), (18, .int u), (17, .int (nI (hoursS P S2 (1 + v6)).coins)), (16, .int (nI (1 + v6))), (9, .long dv), (0, .ref b), (1, .ref (ad 0)), (2, .int (nI time)), (3, .ref r), (5, .ref p9), (6, .int (nI P.nf)), (7, .int (nI P.ng)), (8, .int (nI step))] 831 [.int (nI v)] := by
            intro v hv
            subst hv
            refine sx_aload_n X 7 rfl dL_law_831 rfl ?_
            refine sx_iload X 1 rfl dL_law_832 ?_
            refine sx_kC X (k_wasServed (l := l) (D := D) (T := T) (sd := sd) (ad := ad) (pa := pa) (da := da) hP hI2 hh2 hR5 (j := w) hw) qm_517 qm_518 qm_519 qm_13 qm_520 hd_X12_wasServed ⟨rfl, rfl⟩ ⟨Nat.le_of_ble_eq_true rfl, Nat.le_of_ble_eq_true rfl⟩ rfl rfl (Nat.le_of_ble_eq_true rfl) dL_law_834 hRk2 hRn2 ?_
            refine sx_icmp_eq X 842 dL_law_837 rfl (fun _ => ?_) (fun hc => absurd rfl hc)
            exact K842
          refine sx_iload X 0 rfl dL_law_821 ?_
          by_cases z0 : un = 0
          · refine sx_if_ne X 830 dL_law_823 rfl (fun hc => absurd z0 hc) (fun _ => ?_)
            refine sx_iconst X (v := 1) dL_law_826 rfl ?_
            refine sx_goto X 831 dL_law_827 rfl ?_
            exact K831 1 (b01_1 ((serve_0 hsv).mp z0)).symm
          · refine sx_if_ne X 830 dL_law_823 rfl (fun _ => ?_) (fun hc => absurd hc z0)
            refine sx_iconst X (v := 0) dL_law_830 rfl ?_
            exact K831 0 (b01_0 (fun h => z0 ((serve_0 hsv).mpr h))).symm
      refine sx_iload X 0 rfl dL_law_770 ?_
      rcases hone with e1 | ⟨w, hw, e1⟩
      · refine sx_if_ge X 779 dL_law_772 rfl (fun hc => absurd hc (by rw [e1]; decide)) (fun _ => ?_)
        refine sx_iconst X (v := (-1)) dL_law_775 rfl ?_
        refine sx_goto X 785 dL_law_776 rfl ?_
        exact K785 (-1) σ4 hR4 hdv4 (Or.inl ⟨e1, rfl⟩)
      · subst e1
        refine sx_if_ge X 779 dL_law_772 rfl (fun _ => ?_) (fun hc => absurd (nc_le (a := 0) (b := w) (Nat.zero_le _) (by omega)) hc)
        refine sx_aload_n X 6 rfl dL_law_779 rfl ?_
        refine sx_iload X 0 rfl dL_law_780 ?_
        refine law_until (k := k + 4) (n := n + 24) XY hRk2 hRn2 hP hI2 hh2 hR4 (rest := []) (Nat.le_of_ble_eq_true rfl) hw (fun un t8'' t9'' hun => ?_)
        generalize es5 : (((pa 0), σ4.2.1, σ4.2.2.1, σ4.2.2.2.1, σ4.2.2.2.2.1, σ4.2.2.2.2.2.1, σ4.2.2.2.2.2.2.1, σ4.2.2.2.2.2.2.2.1, σ4.2.2.2.2.2.2.2.2.1, t8'', t9'', σ4.2.2.2.2.2.2.2.2.2.2.2.1, σ4.2.2.2.2.2.2.2.2.2.2.2.2.1, σ4.2.2.2.2.2.2.2.2.2.2.2.2.2) : CSt) = σ5
        have hR5 : CR P S2 σ5 := by (subst es5; exact hR4)
        have hdv5 : f_X12_digest 3000 (σ5.2.1) (σ5.2.2.2.2.1) (σ5.2.2.2.2.2.2.1) (σ5.2.2.2.2.2.2.2.1) = some dv := by (subst es5; exact hdv4)
        exact K785 un σ5 hR5 hdv5 (Or.inr ⟨w, hw, rfl, hun⟩)
    by_cases e0 : P.ng = 0
    · refine sx_if_ne X 762 dL_law_755 rfl (fun hc => absurd (congrArg nI e0) hc) (fun _ => ?_)
      refine sx_iconst X (v := (-1)) dL_law_758 rfl ?_
      refine sx_goto X 768 dL_law_759 rfl ?_
      exact K768 (-1) x3 (Or.inl rfl)
    · refine sx_if_ne X 762 dL_law_755 rfl (fun _ => ?_) (fun hc => absurd hc (nc_ne (a := P.ng) (b := 0) e0 (by omega) (by decide)))
      refine sx_aload_n X 7 rfl dL_law_762 rfl ?_
      refine sx_iload X 10 rfl dL_law_763 ?_
      refine sx_kD X (N := P.ng) (by omega) (by omega) qm_690 qm_691 qm_692 qm_24 qm_693 ⟨Nat.le_of_ble_eq_true rfl, Nat.le_of_ble_eq_true rfl⟩ (rest := []) (Nat.le_of_ble_eq_true rfl) dL_law_765 hRk2 hRn2 (fun w x5 hw => ?_)
      exact K768 (nI w) x5 (Or.inr ⟨w, hw, rfl⟩)
  refine sx_iload X 2 rfl dL_law_713 ?_
  rcases hB with ⟨e1, -, -⟩ | ⟨f0, hf0, e1, -, e2, -, -⟩
  · subst e1
    refine sx_if_lt X 729 dL_law_715 rfl (fun _ => ?_) (fun hc => absurd (by decide) hc)
    refine sx_lsub [3, 4, 5, 6, 7, 8, 9, 10, 11] (lv' := [(9, .long dv), (0, .ref b), (1, .ref (ad 0)), (2, .int (nI time)), (3, .ref r), (5, .ref p9), (6, .int (nI P.nf)), (7, .int (nI P.ng)), (8, .int (nI step))]) rfl ?_
    exact K729
  · subst e1
    refine sx_if_lt X 729 dL_law_715 rfl (fun hc => absurd hc (nc_nlt (a := f0) (b := 0) (Nat.zero_le _) (by omega))) (fun _ => ?_)
    refine sx_aload_n X 5 rfl dL_law_718 rfl ?_
    refine sx_iload X 2 rfl dL_law_719 ?_
    refine sx_kC X (k_isOver (l := l) (D := D) (T := T) (sd := sd) (ad := ad) (pa := pa) (da := da) hP hI2 hh2 hR2 (j := f0) hf0) qm_485 qm_486 qm_487 qm_13 qm_488 hd_X12_isOver ⟨rfl, rfl⟩ ⟨Nat.le_of_ble_eq_true rfl, Nat.le_of_ble_eq_true rfl⟩ rfl rfl (Nat.le_of_ble_eq_true rfl) dL_law_721 hRk2 hRn2 ?_
    refine sx_topi (y := nI 1) (congrArg nI (b01_1 e2)) ?_
    refine sx_if_ne X 729 dL_law_724 rfl (fun _ => ?_) (fun hc => absurd hc (fun z => absurd z (by decide)))
    refine sx_lsub [3, 4, 5, 6, 7, 8, 9, 10, 11] (lv' := [(9, .long dv), (0, .ref b), (1, .ref (ad 0)), (2, .int (nI time)), (3, .ref r), (5, .ref p9), (6, .int (nI P.nf)), (7, .int (nI P.ng)), (8, .int (nI step))]) rfl ?_
    exact K729
end LAWK
