/-! THE LAW'S LOOP over the guests: each is one of seated, served, stormed; content; while it sits -/
abbrev LwX (p : Program) (s : State) (m : MethodId) (args : Array Value) (meth : Method) (c : Code) (D : va_G) (T : Nat → ClassId) (A : Nat → Prop) (sd : SdT) (jd : JdT) : Prop := SxC p s m args meth c cL_law "WeatherTeaLaw" 32 (some .boolean) D T A (SFy sd jd)
section KC
variable {p : Program} {l : Launch} {e : Env} {R : Room} {s : State} {m : MethodId} {args : Array Value} {below : List Frame} {meth : Method} {c : Code} {Q : State → Prop} {cc : ByteArray} {own : String} {nL : Nat} {ret : Option FieldType} {D : va_G} {T : Nat → ClassId} {A : Nat → Prop} {SF : (Nat → Prop) → State → Heap → Prop} {k n : Nat} {lv : List (Nat × Value)} {pc : Nat} {st rest : List Value} {sd : SdT} {ad pa da : Nat → Nat} {σ : CSt} {Y : va_W} {y : MethodName} {cy : ByteArray} {maxLy : Nat} {rty : Option FieldType} {rmy : Room} {As : List Value} {v : Value}
/-- a look at the class -/
theorem sx_kC (X : SxC p s m args meth c cc own nL ret D T A SF) (hM : SxKP SF l D T y cy maxLy rty rmy (.ref (ad 0) :: As) (CW T sd ad pa da σ) (fun _ : Unit => some v) (fun _ => CW T sd ad pa da σ) (fun _ => True) 0 0) {idx nA : Nat} (h1 : Cond.methodLink own idx y ∈ BIG) (h2 : Cond.instanceMethod y ∈ BIG) (h3 : Cond.selects "WeatherTea" y y ∈ BIG) (h4 : Cond.initialized y.cls ∈ BIG) (h5 : Cond.code y cy maxLy rty ∈ BIG) (hd : SxDs y nA) (hrm : rmy.cells = 0 ∧ rmy.slots = 0) (hR : rmy.frames + 1 ≤ R.frames ∧ 8 + (maxLy + 11) + rmy.locals ≤ R.locals) (hn : As.length = nA) (hst : st = As.reverse ++ .ref (ad 0) :: rest) (hroom : (rest.map fun v => v.category).sum ≤ 8) (hdg : decode cc pc = .ok (.invokevirtual idx, 3)) (hk : k ≤ R.cells) (hn' : n ≤ R.slots)
    (kk : SxG p l e R s m args below meth c D A nL k n Q (CW T sd ad pa da σ ++ Y) lv (pc + 3) (v :: rest)) : SxG p l e R s m args below meth c D A nL k n Q (CW T sd ad pa da σ ++ Y) lv pc st :=
  sx_pV X hM X.M (wr := Y) (sx_rcv X (q0 := 0) (w := CW T sd ad pa da σ ++ Y) rfl rfl) h1 h2 h3 h4 h5 hd hrm hR hn hst hroom ⟨hk, hn'⟩ hdg rfl (fun _ _ => kk)
end KC
theorem pl_le (v : Nat) : b01 (v = 1) + b01 (v = 2) + b01 (v = 3) ≤ 1 := by
  unfold b01
  repeat' split
  all_goals omega
theorem cnt_le1 {f : Nat → Nat} (h : ∀ i, f i ≤ 1) : ∀ n, sumN f n ≤ n
  | 0 => Nat.le_refl _
  | n + 1 => by
    show sumN f n + f n ≤ n + 1
    have := h n
    have := cnt_le1 h n
    omega
section LAWG
variable {l : Launch} {D : va_G} {T : Nat → ClassId} {sd : SdT} {jd : JdT} {p : Program} {e : Env} {s : State} {m : MethodId} {args : Array Value} {below : List Frame} {meth : Method} {c : Code} {A : Nat → Prop} {Q : State → Prop} {ad pa da : Nat → Nat} {p9 aF aG aO r b time step k n : Nat} {rF rG rO : Nat → Nat} {P : Pl} {S : Sp} {σ : CSt} {x : Int32} {tl : va_W}
set_option maxRecDepth 100000 in
set_option maxHeartbeats 4000000 in
theorem lw_G (XY : LwX p s m args meth c D T A sd jd) (hRk : k ≤ 600086) (hRn : n ≤ 7301442) (hP : PlOk P) (hI : Iv P S) (hh : S.hour < 2 ^ 28) (hR : CR P S σ) {dg : Int64} (kk : SxG p l e room_1 s m args below meth c D A 32 k n Q (LW T sd ad pa da p9 aF aG aO rF rG r P S (σ) x tl) [(14, .int (nI P.ng)), (11, .int (nI (sumN (fun g => b01 (S.gp g = 1)) P.ng))), (12, .int (nI (sumN (fun g => b01 (S.gp g = 2)) P.ng))), (13, .int (nI (sumN (fun g => b01 (S.gp g = 3)) P.ng))), (9, .long dg), (0, .ref b), (1, .ref (ad 0)), (2, .int (nI time)), (3, .ref r), (5, .ref p9), (6, .int (nI P.nf)), (7, .int (nI P.ng)), (8, .int (nI step))] 457 []) : ∀ d g, g + d = P.ng → SxG p l e room_1 s m args below meth c D A 32 k n Q (LW T sd ad pa da p9 aF aG aO rF rG r P S (σ) x tl) [(14, .int (nI g)), (11, .int (nI (sumN (fun g => b01 (S.gp g = 1)) g))), (12, .int (nI (sumN (fun g => b01 (S.gp g = 2)) g))), (13, .int (nI (sumN (fun g => b01 (S.gp g = 3)) g))), (9, .long dg), (0, .ref b), (1, .ref (ad 0)), (2, .int (nI time)), (3, .ref r), (5, .ref p9), (6, .int (nI P.nf)), (7, .int (nI P.ng)), (8, .int (nI step))] 231 [] := by
  have X := XY.dn (SFx_ok sd)
  obtain ⟨hSB1, hSB2, hSB3⟩ : S.strength ≤ 30 ∧ S.warmth ≤ 40 ∧ P.ng ≤ 7 := ⟨hI.1.2.1, hI.1.1, hP.2.1⟩
  intro d
  induction d with
  | zero =>
    intro g hg
    have hg : g = P.ng := hg
    subst hg
    refine sx_iload X 0 rfl dL_law_231 ?_
    refine sx_iload X 11 rfl dL_law_233 ?_
    refine sx_icmp_ge X 457 dL_law_235 rfl (fun _ => ?_) (fun hc => absurd (Int32.le_refl _) hc)
    exact kk
  | succ d ih =>
    intro g hgd
    have hg : g < P.ng := by omega
    have hgu := hP.2.2.2.1 g hg
    refine sx_iload X 0 rfl dL_law_231 ?_
    refine sx_iload X 11 rfl dL_law_233 ?_
    refine sx_icmp_ge X 457 dL_law_235 rfl (fun hc => absurd hc (nc_nle hg (by omega))) (fun _ => ?_)
    refine sx_aload_n X 6 rfl dL_law_238 rfl ?_
    refine sx_iload X 0 rfl dL_law_239 ?_
    refine sx_kC X (k_isSeated (l := l) (D := D) (T := T) (sd := sd) (ad := ad) (pa := pa) (da := da) hP hI hh hR (j := g) hg) qm_498 qm_499 qm_500 qm_13 qm_501 hd_X12_isSeated ⟨rfl, rfl⟩ ⟨Nat.le_of_ble_eq_true rfl, Nat.le_of_ble_eq_true rfl⟩ rfl rfl (Nat.le_of_ble_eq_true rfl) dL_law_241 hRk hRn ?_
    refine sx_sel01 X dL_law_244 dL_law_247 dL_law_248 dL_law_251 ?_
    refine sx_aload_n X 6 rfl dL_law_252 rfl ?_
    refine sx_iload X 0 rfl dL_law_253 ?_
    refine sx_kC X (k_wasServed (l := l) (D := D) (T := T) (sd := sd) (ad := ad) (pa := pa) (da := da) hP hI hh hR (j := g) hg) qm_517 qm_518 qm_519 qm_13 qm_520 hd_X12_wasServed ⟨rfl, rfl⟩ ⟨Nat.le_of_ble_eq_true rfl, Nat.le_of_ble_eq_true rfl⟩ rfl rfl (Nat.le_of_ble_eq_true rfl) dL_law_255 hRk hRn ?_
    refine sx_sel01 X dL_law_258 dL_law_261 dL_law_262 dL_law_265 ?_
    refine sx_iadd X dL_law_266 ?_
    refine sx_topi (y := nI ((b01 (S.gp g = 1)) + (b01 (S.gp g = 2)))) (nI_add _ _) ?_
    refine sx_aload_n X 6 rfl dL_law_267 rfl ?_
    refine sx_iload X 0 rfl dL_law_268 ?_
    refine sx_kC X (k_wasStormed (l := l) (D := D) (T := T) (sd := sd) (ad := ad) (pa := pa) (da := da) hP hI hh hR (j := g) hg) qm_521 qm_522 qm_523 qm_13 qm_524 hd_X12_wasStormed ⟨rfl, rfl⟩ ⟨Nat.le_of_ble_eq_true rfl, Nat.le_of_ble_eq_true rfl⟩ rfl rfl (Nat.le_of_ble_eq_true rfl) dL_law_270 hRk hRn ?_
    refine sx_sel01 X dL_law_273 dL_law_276 dL_law_277 dL_law_280 ?_
    refine sx_iadd X dL_law_281 ?_
    refine sx_topi (y := nI (((b01 (S.gp g = 1)) + (b01 (S.gp g = 2))) + (b01 (S.gp g = 3)))) (nI_add _ _) ?_
    refine sx_istore X (lv' := [(15, .int (nI (((b01 (S.gp g = 1)) + (b01 (S.gp g = 2))) + (b01 (S.gp g = 3))))), (14, .int (nI g)), (11, .int (nI (sumN (fun g => b01 (S.gp g = 1)) g))), (12, .int (nI (sumN (fun g => b01 (S.gp g = 2)) g))), (13, .int (nI (sumN (fun g => b01 (S.gp g = 3)) g))), (9, .long dg), (0, .ref b), (1, .ref (ad 0)), (2, .int (nI time)), (3, .ref r), (5, .ref p9), (6, .int (nI P.nf)), (7, .int (nI P.ng)), (8, .int (nI step))]) dL_law_282 (by decide) rfl ?_
    refine sx_iload X 2 rfl dL_law_284 ?_
    refine sx_aload_n X 7 rfl dL_law_286 rfl ?_
    refine sx_iload X 1 rfl dL_law_287 ?_
    refine sx_kC X (k_isSeated (l := l) (D := D) (T := T) (sd := sd) (ad := ad) (pa := pa) (da := da) hP hI hh hR (j := g) hg) qm_498 qm_499 qm_500 qm_13 qm_501 hd_X12_isSeated ⟨rfl, rfl⟩ ⟨Nat.le_of_ble_eq_true rfl, Nat.le_of_ble_eq_true rfl⟩ rfl rfl (Nat.le_of_ble_eq_true rfl) dL_law_289 hRk hRn ?_
    refine sx_sel01 X dL_law_292 dL_law_295 dL_law_296 dL_law_299 ?_
    refine sx_iadd X dL_law_300 ?_
    refine sx_topi (y := nI ((sumN (fun g => b01 (S.gp g = 1)) g) + (b01 (S.gp g = 1)))) (nI_add _ _) ?_
    refine sx_istore X (lv' := [(11, .int (nI ((sumN (fun g => b01 (S.gp g = 1)) g) + (b01 (S.gp g = 1))))), (15, .int (nI (((b01 (S.gp g = 1)) + (b01 (S.gp g = 2))) + (b01 (S.gp g = 3))))), (14, .int (nI g)), (12, .int (nI (sumN (fun g => b01 (S.gp g = 2)) g))), (13, .int (nI (sumN (fun g => b01 (S.gp g = 3)) g))), (9, .long dg), (0, .ref b), (1, .ref (ad 0)), (2, .int (nI time)), (3, .ref r), (5, .ref p9), (6, .int (nI P.nf)), (7, .int (nI P.ng)), (8, .int (nI step))]) dL_law_301 (by decide) rfl ?_
    refine sx_iload X 3 rfl dL_law_303 ?_
    refine sx_aload_n X 7 rfl dL_law_305 rfl ?_
    refine sx_iload X 2 rfl dL_law_306 ?_
    refine sx_kC X (k_wasServed (l := l) (D := D) (T := T) (sd := sd) (ad := ad) (pa := pa) (da := da) hP hI hh hR (j := g) hg) qm_517 qm_518 qm_519 qm_13 qm_520 hd_X12_wasServed ⟨rfl, rfl⟩ ⟨Nat.le_of_ble_eq_true rfl, Nat.le_of_ble_eq_true rfl⟩ rfl rfl (Nat.le_of_ble_eq_true rfl) dL_law_308 hRk hRn ?_
    refine sx_sel01 X dL_law_311 dL_law_314 dL_law_315 dL_law_318 ?_
    refine sx_iadd X dL_law_319 ?_
    refine sx_topi (y := nI ((sumN (fun g => b01 (S.gp g = 2)) g) + (b01 (S.gp g = 2)))) (nI_add _ _) ?_
    refine sx_istore X (lv' := [(12, .int (nI ((sumN (fun g => b01 (S.gp g = 2)) g) + (b01 (S.gp g = 2))))), (11, .int (nI ((sumN (fun g => b01 (S.gp g = 1)) g) + (b01 (S.gp g = 1))))), (15, .int (nI (((b01 (S.gp g = 1)) + (b01 (S.gp g = 2))) + (b01 (S.gp g = 3))))), (14, .int (nI g)), (13, .int (nI (sumN (fun g => b01 (S.gp g = 3)) g))), (9, .long dg), (0, .ref b), (1, .ref (ad 0)), (2, .int (nI time)), (3, .ref r), (5, .ref p9), (6, .int (nI P.nf)), (7, .int (nI P.ng)), (8, .int (nI step))]) dL_law_320 (by decide) rfl ?_
    refine sx_iload X 4 rfl dL_law_322 ?_
    refine sx_aload_n X 7 rfl dL_law_324 rfl ?_
    refine sx_iload X 3 rfl dL_law_325 ?_
    refine sx_kC X (k_wasStormed (l := l) (D := D) (T := T) (sd := sd) (ad := ad) (pa := pa) (da := da) hP hI hh hR (j := g) hg) qm_521 qm_522 qm_523 qm_13 qm_524 hd_X12_wasStormed ⟨rfl, rfl⟩ ⟨Nat.le_of_ble_eq_true rfl, Nat.le_of_ble_eq_true rfl⟩ rfl rfl (Nat.le_of_ble_eq_true rfl) dL_law_327 hRk hRn ?_
    refine sx_sel01 X dL_law_330 dL_law_333 dL_law_334 dL_law_337 ?_
    refine sx_iadd X dL_law_338 ?_
    refine sx_topi (y := nI ((sumN (fun g => b01 (S.gp g = 3)) g) + (b01 (S.gp g = 3)))) (nI_add _ _) ?_
    refine sx_istore X (lv' := [(13, .int (nI ((sumN (fun g => b01 (S.gp g = 3)) g) + (b01 (S.gp g = 3))))), (12, .int (nI ((sumN (fun g => b01 (S.gp g = 2)) g) + (b01 (S.gp g = 2))))), (11, .int (nI ((sumN (fun g => b01 (S.gp g = 1)) g) + (b01 (S.gp g = 1))))), (15, .int (nI (((b01 (S.gp g = 1)) + (b01 (S.gp g = 2))) + (b01 (S.gp g = 3))))), (14, .int (nI g)), (9, .long dg), (0, .ref b), (1, .ref (ad 0)), (2, .int (nI time)), (3, .ref r), (5, .ref p9), (6, .int (nI P.nf)), (7, .int (nI P.ng)), (8, .int (nI step))]) dL_law_339 (by decide) rfl ?_
    refine sx_aload X 10 rfl dL_law_341 ?_
    refine sx_get X kX18 59 LW_p 1 (Nat.le_of_ble_eq_true rfl) qm_1147 rfl dL_law_343 ?_
    refine sx_iload X 4 rfl dL_law_346 ?_
    refine sx_RldN X 61 LW_aG rfl hg (by omega) dL_law_348 ?_
    refine sx_astore X (lv' := [(16, .ref (rG g)), (13, .int (nI ((sumN (fun g => b01 (S.gp g = 3)) g) + (b01 (S.gp g = 3))))), (12, .int (nI ((sumN (fun g => b01 (S.gp g = 2)) g) + (b01 (S.gp g = 2))))), (11, .int (nI ((sumN (fun g => b01 (S.gp g = 1)) g) + (b01 (S.gp g = 1))))), (15, .int (nI (((b01 (S.gp g = 1)) + (b01 (S.gp g = 2))) + (b01 (S.gp g = 3))))), (14, .int (nI g)), (9, .long dg), (0, .ref b), (1, .ref (ad 0)), (2, .int (nI time)), (3, .ref r), (5, .ref p9), (6, .int (nI P.nf)), (7, .int (nI P.ng)), (8, .int (nI step))]) dL_law_349 (by decide) rfl ?_
    refine sx_iload X 4 rfl dL_law_351 ?_
    refine sx_iconst X (v := 1) dL_law_353 rfl ?_
    refine sx_icmp_gt X 449 dL_law_354 rfl (fun hc => absurd hc (nc_nlt (a := 1) (b := b01 (S.gp g = 1) + b01 (S.gp g = 2) + b01 (S.gp g = 3)) (pl_le _) (by decide))) (fun _ => ?_)
    refine sx_aload_n X 8 rfl dL_law_357 rfl ?_
    refine sx_iload X 5 rfl dL_law_358 ?_
    refine sx_kC X (k_isContent (l := l) (D := D) (T := T) (sd := sd) (ad := ad) (pa := pa) (da := da) hP hI hh hR (j := g) hg) qm_508 qm_509 qm_510 qm_13 qm_511 hd_X12_isContent ⟨rfl, rfl⟩ ⟨Nat.le_of_ble_eq_true rfl, Nat.le_of_ble_eq_true rfl⟩ rfl rfl (Nat.le_of_ble_eq_true rfl) dL_law_360 hRk hRn ?_
    have K410 : ∀ v, v = b01 (likeS P S g S.strength) → SxG p l e room_1 s m args below meth c D A 32 k n Q (LW T sd ad pa da p9 aF aG aO rF rG r P S (σ) x tl) [(16, .ref (rG g)), (13, .int (nI ((sumN (fun g => b01 (S.gp g = 3)) g) + (b01 (S.gp g = 3))))), (12, .int (nI ((sumN (fun g => b01 (S.gp g = 2)) g) + (b01 (S.gp g = 2))))), (11, .int (nI ((sumN (fun g => b01 (S.gp g = 1)) g) + (b01 (S.gp g = 1))))), (15, .int (nI (((b01 (S.gp g = 1)) + (b01 (S.gp g = 2))) + (b01 (S.gp g = 3))))), (14, .int (nI g)), (9, .long dg), (0, .ref b), (1, .ref (ad 0)), (2, .int (nI time)), (3, .ref r), (5, .ref p9), (6, .int (nI P.nf)), (7, .int (nI P.ng)), (8, .int (nI step))] 410 [.int (nI v), .int (nI (b01 (likeS P S g S.strength)))] := by
      intro v hv
      subst hv
      have K451 : SxG p l e room_1 s m args below meth c D A 32 k n Q (LW T sd ad pa da p9 aF aG aO rF rG r P S (σ) x tl) [(16, .ref (rG g)), (13, .int (nI ((sumN (fun g => b01 (S.gp g = 3)) g) + (b01 (S.gp g = 3))))), (12, .int (nI ((sumN (fun g => b01 (S.gp g = 2)) g) + (b01 (S.gp g = 2))))), (11, .int (nI ((sumN (fun g => b01 (S.gp g = 1)) g) + (b01 (S.gp g = 1))))), (15, .int (nI (((b01 (S.gp g = 1)) + (b01 (S.gp g = 2))) + (b01 (S.gp g = 3))))), (14, .int (nI g)), (9, .long dg), (0, .ref b), (1, .ref (ad 0)), (2, .int (nI time)), (3, .ref r), (5, .ref p9), (6, .int (nI P.nf)), (7, .int (nI P.ng)), (8, .int (nI step))] 451 [] := by
        refine sx_iinc X (v := nI (g + 1)) (lv' := [(14, .int (nI (g + 1))), (16, .ref (rG g)), (13, .int (nI ((sumN (fun g => b01 (S.gp g = 3)) g) + (b01 (S.gp g = 3))))), (12, .int (nI ((sumN (fun g => b01 (S.gp g = 2)) g) + (b01 (S.gp g = 2))))), (11, .int (nI ((sumN (fun g => b01 (S.gp g = 1)) g) + (b01 (S.gp g = 1))))), (15, .int (nI (((b01 (S.gp g = 1)) + (b01 (S.gp g = 2))) + (b01 (S.gp g = 3))))), (9, .long dg), (0, .ref b), (1, .ref (ad 0)), (2, .int (nI time)), (3, .ref r), (5, .ref p9), (6, .int (nI P.nf)), (7, .int (nI P.ng)), (8, .int (nI step))]) 5 rfl dL_law_451 (nI_add g 1) (by decide) rfl ?_
        refine sx_goto X 231 dL_law_454 rfl ?_
        refine sx_lsub [0, 4, 3, 2, 6, 7, 8, 9, 10, 11, 12, 13, 14] (lv' := [(14, .int (nI (g + 1))), (11, .int (nI (sumN (fun g => b01 (S.gp g = 1)) (g + 1)))), (12, .int (nI (sumN (fun g => b01 (S.gp g = 2)) (g + 1)))), (13, .int (nI (sumN (fun g => b01 (S.gp g = 3)) (g + 1)))), (9, .long dg), (0, .ref b), (1, .ref (ad 0)), (2, .int (nI time)), (3, .ref r), (5, .ref p9), (6, .int (nI P.nf)), (7, .int (nI P.ng)), (8, .int (nI step))]) rfl ?_
        exact ih (g + 1) (by omega)
      refine sx_icmp_ne X 449 dL_law_410 rfl (fun hc => absurd rfl hc) (fun _ => ?_)
      refine sx_aload_n X 8 rfl dL_law_413 rfl ?_
      refine sx_iload X 5 rfl dL_law_414 ?_
      refine sx_kC X (k_isSeated (l := l) (D := D) (T := T) (sd := sd) (ad := ad) (pa := pa) (da := da) hP hI hh hR (j := g) hg) qm_498 qm_499 qm_500 qm_13 qm_501 hd_X12_isSeated ⟨rfl, rfl⟩ ⟨Nat.le_of_ble_eq_true rfl, Nat.le_of_ble_eq_true rfl⟩ rfl rfl (Nat.le_of_ble_eq_true rfl) dL_law_416 hRk hRn ?_
      by_cases q : S.gp g = 1
      · refine sx_topi (y := nI 1) (congrArg nI (b01_1 q)) ?_
        refine sx_if_eq X 451 dL_law_419 rfl (fun hc => absurd hc (fun z => absurd z (by decide))) (fun _ => ?_)
        obtain ⟨-, q1, q2⟩ := (hI.2.1.2.2.1 g hg).2.mp q
        refine sx_aload_n X 8 rfl dL_law_422 rfl ?_
        refine sx_kC X (k_hour (l := l) (D := D) (T := T) (sd := sd) (ad := ad) (pa := pa) (da := da) hP hI hh hR) qm_348 qm_349 qm_350 qm_13 qm_351 hd_X12_hour ⟨rfl, rfl⟩ ⟨Nat.le_of_ble_eq_true rfl, Nat.le_of_ble_eq_true rfl⟩ rfl rfl (Nat.le_of_ble_eq_true rfl) dL_law_423 hRk hRn ?_
        refine sx_aload X 0 rfl dL_law_426 ?_
        refine sx_get X kX15 (62 + (P.nf + g)) (LW_gu hg) 0 (Nat.le_of_ble_eq_true rfl) qm_1363 rfl dL_law_428 ?_
        refine sx_icmp_lt X 449 dL_law_431 rfl (fun hc => absurd hc (nc_nlt q1 (by omega))) (fun _ => ?_)
        refine sx_aload_n X 8 rfl dL_law_434 rfl ?_
        refine sx_kC X (k_hour (l := l) (D := D) (T := T) (sd := sd) (ad := ad) (pa := pa) (da := da) hP hI hh hR) qm_348 qm_349 qm_350 qm_13 qm_351 hd_X12_hour ⟨rfl, rfl⟩ ⟨Nat.le_of_ble_eq_true rfl, Nat.le_of_ble_eq_true rfl⟩ rfl rfl (Nat.le_of_ble_eq_true rfl) dL_law_435 hRk hRn ?_
        refine sx_aload X 0 rfl dL_law_438 ?_
        refine sx_get X kX15 (62 + (P.nf + g)) (LW_gu hg) 0 (Nat.le_of_ble_eq_true rfl) qm_1363 rfl dL_law_440 ?_
        refine sx_bipush X (v := 8) dL_law_443 rfl ?_
        refine sx_iadd X dL_law_445 ?_
        refine sx_topi (y := nI ((P.gu g).1 + 8)) (nI_add _ 8) ?_
        refine sx_icmp_lt X 451 dL_law_446 rfl (fun _ => ?_) (fun hc => absurd (nc_lt q2 (by have := hgu.1; omega)) hc)
        exact K451
      · refine sx_topi (y := nI 0) (congrArg nI (b01_0 q)) ?_
        refine sx_if_eq X 451 dL_law_419 rfl (fun _ => ?_) (fun hc => absurd rfl hc)
        exact K451
    refine sx_aload_n X 8 rfl dL_law_363 rfl ?_
    refine sx_iload X 5 rfl dL_law_364 ?_
    refine sx_kC X (k_isSeated (l := l) (D := D) (T := T) (sd := sd) (ad := ad) (pa := pa) (da := da) hP hI hh hR (j := g) hg) qm_498 qm_499 qm_500 qm_13 qm_501 hd_X12_isSeated ⟨rfl, rfl⟩ ⟨Nat.le_of_ble_eq_true rfl, Nat.le_of_ble_eq_true rfl⟩ rfl rfl (Nat.le_of_ble_eq_true rfl) dL_law_366 hRk hRn ?_
    by_cases q : S.gp g = 1
    · refine sx_topi (y := nI 1) (congrArg nI (b01_1 q)) ?_
      refine sx_if_eq X 409 dL_law_369 rfl (fun hc => absurd hc (fun z => absurd z (by decide))) (fun _ => ?_)
      refine sx_aload_n X 8 rfl dL_law_372 rfl ?_
      refine sx_kC X (k_strength (l := l) (D := D) (T := T) (sd := sd) (ad := ad) (pa := pa) (da := da) hP hI hh hR) qm_356 qm_357 qm_358 qm_13 qm_359 hd_X12_strength ⟨rfl, rfl⟩ ⟨Nat.le_of_ble_eq_true rfl, Nat.le_of_ble_eq_true rfl⟩ rfl rfl (Nat.le_of_ble_eq_true rfl) dL_law_373 hRk hRn ?_
      refine sx_aload X 0 rfl dL_law_376 ?_
      refine sx_get X kX15 (62 + (P.nf + g)) (LW_gu hg) 1 (Nat.le_of_ble_eq_true rfl) qm_1366 rfl dL_law_378 ?_
      by_cases q2 : (P.gu g).2.1 ≤ S.strength
      · refine sx_icmp_lt X 409 dL_law_381 rfl (fun hc => absurd hc (nc_nlt q2 (by omega))) (fun _ => ?_)
        refine sx_aload_n X 8 rfl dL_law_384 rfl ?_
        refine sx_kC X (k_strength (l := l) (D := D) (T := T) (sd := sd) (ad := ad) (pa := pa) (da := da) hP hI hh hR) qm_356 qm_357 qm_358 qm_13 qm_359 hd_X12_strength ⟨rfl, rfl⟩ ⟨Nat.le_of_ble_eq_true rfl, Nat.le_of_ble_eq_true rfl⟩ rfl rfl (Nat.le_of_ble_eq_true rfl) dL_law_385 hRk hRn ?_
        refine sx_aload X 0 rfl dL_law_388 ?_
        refine sx_get X kX15 (62 + (P.nf + g)) (LW_gu hg) 2 (Nat.le_of_ble_eq_true rfl) qm_1368 rfl dL_law_390 ?_
        by_cases q3 : S.strength ≤ (P.gu g).2.2.1
        · refine sx_icmp_gt X 409 dL_law_393 rfl (fun hc => absurd hc (nc_nlt q3 (by have := hgu.2.2.2.1; omega))) (fun _ => ?_)
          refine sx_aload_n X 8 rfl dL_law_396 rfl ?_
          refine sx_kC X (k_warmth (l := l) (D := D) (T := T) (sd := sd) (ad := ad) (pa := pa) (da := da) hP hI hh hR) qm_352 qm_353 qm_354 qm_13 qm_355 hd_X12_warmth ⟨rfl, rfl⟩ ⟨Nat.le_of_ble_eq_true rfl, Nat.le_of_ble_eq_true rfl⟩ rfl rfl (Nat.le_of_ble_eq_true rfl) dL_law_397 hRk hRn ?_
          refine sx_bipush X (v := 14) dL_law_400 rfl ?_
          by_cases q4 : 14 < S.warmth
          · refine sx_icmp_le X 409 dL_law_402 rfl (fun hc => absurd hc (nc_nle (a := S.warmth) (b := 14) q4 (by omega))) (fun _ => ?_)
            refine sx_iconst X (v := 1) dL_law_405 rfl ?_
            refine sx_goto X 410 dL_law_406 rfl ?_
            exact K410 1 (b01_1 ⟨q, q2, q3, q4⟩).symm
          · refine sx_icmp_le X 409 dL_law_402 rfl (fun _ => ?_) (fun hc => absurd (nc_le (a := S.warmth) (b := 14) (by omega) (by decide)) hc)
            refine sx_iconst X (v := 0) dL_law_409 rfl ?_
            exact K410 0 (b01_0 (fun z => q4 z.2.2.2)).symm
        · refine sx_icmp_gt X 409 dL_law_393 rfl (fun _ => ?_) (fun hc => absurd (nc_lt (by omega) (by omega)) hc)
          refine sx_iconst X (v := 0) dL_law_409 rfl ?_
          exact K410 0 (b01_0 (fun z => q3 z.2.2.1)).symm
      · refine sx_icmp_lt X 409 dL_law_381 rfl (fun _ => ?_) (fun hc => absurd (nc_lt (by omega) (by have := hgu.2.1; omega)) hc)
        refine sx_iconst X (v := 0) dL_law_409 rfl ?_
        exact K410 0 (b01_0 (fun z => q2 z.2.1)).symm
    · refine sx_topi (y := nI 0) (congrArg nI (b01_0 q)) ?_
      refine sx_if_eq X 409 dL_law_369 rfl (fun _ => ?_) (fun hc => absurd rfl hc)
      refine sx_iconst X (v := 0) dL_law_409 rfl ?_
      exact K410 0 (b01_0 (fun z => q z.1)).symm
end LAWG
