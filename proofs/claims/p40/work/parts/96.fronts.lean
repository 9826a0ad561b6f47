/-! THE LAW'S LOOP over the fronts: while one hangs over; how many are content with it; the best one -/
theorem nc_m1 {c : Nat} (h : c < 2 ^ 31) : ¬ nI c ≤ (-1 : Int32) := fun q => by
  rw [Int32.le_iff_toInt_le, nI_toInt h] at q
  have : (-1 : Int32).toInt = -1 := rfl
  omega
theorem nc_m1l {c : Nat} (h : c < 2 ^ 31) : (-1 : Int32) < nI c := by
  rw [Int32.lt_iff_toInt_lt, nI_toInt h]
  have : (-1 : Int32).toInt = -1 := rfl
  omega
def MostN (P : Pl) (S : Sp) (N : Nat) (mv : Int32) : Prop := (mv = -1 ∧ ∀ f, f < N → S.fp f ≠ 1) ∨ ∃ M, mv = nI M ∧ M ≤ 7 ∧ (∃ f, f < N ∧ S.fp f = 1 ∧ cnF P S f = M) ∧ ∀ f, f < N → S.fp f = 1 → cnF P S f ≤ M
theorem MostN_0 (P : Pl) (S : Sp) : MostN P S 0 (-1) := Or.inl ⟨rfl, fun f hf => absurd hf (Nat.not_lt_zero f)⟩
theorem MostN_no {P : Pl} {S : Sp} {f : Nat} {mv : Int32} (h : MostN P S f mv) (hq : ¬ S.fp f = 1) : MostN P S (f + 1) mv := by
  rcases h with ⟨h1, h2⟩ | ⟨M, h1, h2, ⟨f', h3, h4, h5⟩, h6⟩
  · refine Or.inl ⟨h1, fun j hj => ?_⟩
    by_cases e : j = f
    · rw [e]; exact hq
    · exact h2 j (by omega)
  · refine Or.inr ⟨M, h1, h2, ⟨f', by omega, h4, h5⟩, fun j hj hj1 => ?_⟩
    by_cases e : j = f
    · rw [e] at hj1; exact absurd hj1 hq
    · exact h6 j (by omega) hj1
theorem MostN_up {P : Pl} (hP : PlOk P) {S : Sp} {f : Nat} {mv : Int32} (h : MostN P S f mv) (hq : S.fp f = 1) : MostN P S (f + 1) (if mv < nI (cnF P S f) then nI (cnF P S f) else mv) := by
  have hc := cnF_le hP S f
  rcases h with ⟨h1, h2⟩ | ⟨M, h1, h2, ⟨f', h3, h4, h5⟩, h6⟩
  · subst h1
    rw [if_pos (nc_m1l (by omega))]
    refine Or.inr ⟨cnF P S f, rfl, hc, ⟨f, by omega, hq, rfl⟩, fun j hj hj1 => ?_⟩
    by_cases e : j = f
    · rw [e]; exact Nat.le_refl _
    · exact absurd hj1 (h2 j (by omega))
  · subst h1
    by_cases q : M < cnF P S f
    · rw [if_pos (nc_lt q (by omega))]
      refine Or.inr ⟨cnF P S f, rfl, hc, ⟨f, by omega, hq, rfl⟩, fun j hj hj1 => ?_⟩
      by_cases e : j = f
      · rw [e]; exact Nat.le_refl _
      · have := h6 j (by omega) hj1
        omega
    · rw [if_neg (nc_nlt (by omega) (by omega))]
      refine Or.inr ⟨M, rfl, h2, ⟨f', by omega, h4, h5⟩, fun j hj hj1 => ?_⟩
      by_cases e : j = f
      · rw [e]; omega
      · exact h6 j (by omega) hj1
theorem best_cmp {P : Pl} (hP : PlOk P) {S : Sp} {v m mv : Int32} {f : Nat} (hB : BestN P S P.nf v m) (hM : MostN P S f mv) (hf : f < P.nf) (hq : S.fp f = 1) : ∃ f0, v = nI f0 ∧ f0 < P.nf ∧ S.fp f0 = 1 ∧ (f = f0 → ¬ nI (cnF P S f) ≤ mv) ∧ (f0 < f → nI (cnF P S f) ≤ mv) := by
  have hc := cnF_le hP S f
  rcases hB with ⟨-, -, h⟩ | ⟨f0, h1, h2, -, h4, h5, h6⟩
  · exact absurd hq (h f hf)
  · refine ⟨f0, h2, h1, h4, fun e => ?_, fun e => ?_⟩
    · rcases hM with ⟨g1, g2⟩ | ⟨M, g1, g2, ⟨f', g3, g4, g5⟩, g6⟩
      · rw [g1]; exact nc_m1 (by omega)
      · have := h5 f' (by omega) g4
        rw [g1]
        exact nc_nle (by rw [e]; omega) (by omega)
    · rcases hM with ⟨g1, g2⟩ | ⟨M, g1, g2, -, g6⟩
      · exact absurd h4 (g2 f0 e)
      · have a1 := g6 f0 e h4
        have a2 := h6 f e hf hq
        rw [g1]
        exact nc_le (by omega) (by omega)
section LAWF
variable {l : Launch} {D : va_G} {T : Nat → ClassId} {sd : SdT} {jd : JdT} {p : Program} {e : Env} {s : State} {m : MethodId} {args : Array Value} {below : List Frame} {meth : Method} {c : Code} {A : Nat → Prop} {Q : State → Prop} {ad pa da : Nat → Nat} {p9 aF aG aO r b time step k n : Nat} {rF rG rO : Nat → Nat} {P : Pl} {S : Sp} {σ : CSt} {x : Int32} {tl : va_W}
set_option maxRecDepth 100000 in
set_option maxHeartbeats 4000000 in
theorem lw_L (XY : LwX p s m args meth c D T A sd jd) (hRk : k ≤ 600086) (hRn : n ≤ 7301442) (hP : PlOk P) (hI : Iv P S) {dg : Int64} {v mv : Int32} {f z : Nat} (hz : z ≤ 60) (kk : SxG p l e room_1 s m args below meth c D A 32 k n Q (LW T sd ad pa da p9 aF aG aO rF rG r P S (σ) x tl) [(21, .int (nI P.ng)), (18, .int (nI (sumN (fun g => b01 (likeS P S g z)) P.ng))), (17, .int (nI z)), (19, .ref aG), (20, .int (nI P.ng)), (16, .int (nI f)), (15, .int mv), (14, .int v), (9, .long dg), (0, .ref b), (1, .ref (ad 0)), (2, .int (nI time)), (3, .ref r), (5, .ref p9), (6, .int (nI P.nf)), (7, .int (nI P.ng)), (8, .int (nI step))] 663 []) : ∀ d i, i + d = P.ng → SxG p l e room_1 s m args below meth c D A 32 k n Q (LW T sd ad pa da p9 aF aG aO rF rG r P S (σ) x tl) [(21, .int (nI i)), (18, .int (nI (sumN (fun g => b01 (likeS P S g z)) i))), (17, .int (nI z)), (19, .ref aG), (20, .int (nI P.ng)), (16, .int (nI f)), (15, .int mv), (14, .int v), (9, .long dg), (0, .ref b), (1, .ref (ad 0)), (2, .int (nI time)), (3, .ref r), (5, .ref p9), (6, .int (nI P.nf)), (7, .int (nI P.ng)), (8, .int (nI step))] 621 [] := by
  have X := XY.dn (SFx_ok sd)
  have hng := hP.2.1
  intro d
  induction d with
  | zero =>
    intro i hi
    have hi : i = P.ng := hi
    subst hi
    refine sx_iload X 0 rfl dL_law_621 ?_
    refine sx_iload X 4 rfl dL_law_623 ?_
    refine sx_icmp_ge X 663 dL_law_625 rfl (fun _ => ?_) (fun hc => absurd (Int32.le_refl _) hc)
    exact kk
  | succ d ih =>
    intro i hid
    have hi : i < P.ng := by omega
    refine sx_iload X 0 rfl dL_law_621 ?_
    refine sx_iload X 4 rfl dL_law_623 ?_
    refine sx_icmp_ge X 663 dL_law_625 rfl (fun hc => absurd hc (nc_nle hi (by omega))) (fun _ => ?_)
    refine sx_aload X 3 rfl dL_law_628 ?_
    refine sx_iload X 0 rfl dL_law_630 ?_
    refine sx_RldN X 61 LW_aG rfl hi (by omega) dL_law_632 ?_
    refine sx_astore X (lv' := [(22, .ref (rG i)), (21, .int (nI i)), (18, .int (nI (sumN (fun g => b01 (likeS P S g z)) i))), (17, .int (nI z)), (19, .ref aG), (20, .int (nI P.ng)), (16, .int (nI f)), (15, .int mv), (14, .int v), (9, .long dg), (0, .ref b), (1, .ref (ad 0)), (2, .int (nI time)), (3, .ref r), (5, .ref p9), (6, .int (nI P.nf)), (7, .int (nI P.ng)), (8, .int (nI step))]) dL_law_633 (by decide) rfl ?_
    refine sx_iload X 2 rfl dL_law_635 ?_
    refine sx_aload X 14 rfl dL_law_637 ?_
    refine sx_aload X 0 rfl dL_law_639 ?_
    refine sx_iload X 3 rfl dL_law_641 ?_
    refine law_likes XY hRk hRn hP hI (rest := [.int (nI (sumN (fun g => b01 (likeS P S g z)) i))]) (Nat.le_of_ble_eq_true rfl) hi hz ?_
    refine sx_sel01 X dL_law_646 dL_law_649 dL_law_650 dL_law_653 ?_
    refine sx_iadd X dL_law_654 ?_
    refine sx_topi (y := nI ((sumN (fun g => b01 (likeS P S g z)) i) + (b01 (likeS P S i z)))) (nI_add _ _) ?_
    refine sx_istore X (lv' := [(18, .int (nI ((sumN (fun g => b01 (likeS P S g z)) i) + (b01 (likeS P S i z))))), (22, .ref (rG i)), (21, .int (nI i)), (17, .int (nI z)), (19, .ref aG), (20, .int (nI P.ng)), (16, .int (nI f)), (15, .int mv), (14, .int v), (9, .long dg), (0, .ref b), (1, .ref (ad 0)), (2, .int (nI time)), (3, .ref r), (5, .ref p9), (6, .int (nI P.nf)), (7, .int (nI P.ng)), (8, .int (nI step))]) dL_law_655 (by decide) rfl ?_
    refine sx_iinc X (v := nI (i + 1)) (lv' := [(21, .int (nI (i + 1))), (18, .int (nI ((sumN (fun g => b01 (likeS P S g z)) i) + (b01 (likeS P S i z))))), (22, .ref (rG i)), (17, .int (nI z)), (19, .ref aG), (20, .int (nI P.ng)), (16, .int (nI f)), (15, .int mv), (14, .int v), (9, .long dg), (0, .ref b), (1, .ref (ad 0)), (2, .int (nI time)), (3, .ref r), (5, .ref p9), (6, .int (nI P.nf)), (7, .int (nI P.ng)), (8, .int (nI step))]) 2 rfl dL_law_657 (nI_add i 1) (by decide) rfl ?_
    refine sx_goto X 621 dL_law_660 rfl ?_
    refine sx_lsub [0, 1, 3, 4, 5, 6, 7, 8, 9, 10, 11, 12, 13, 14, 15, 16, 17] (lv' := [(21, .int (nI (i + 1))), (18, .int (nI (sumN (fun g => b01 (likeS P S g z)) (i + 1)))), (17, .int (nI z)), (19, .ref aG), (20, .int (nI P.ng)), (16, .int (nI f)), (15, .int mv), (14, .int v), (9, .long dg), (0, .ref b), (1, .ref (ad 0)), (2, .int (nI time)), (3, .ref r), (5, .ref p9), (6, .int (nI P.nf)), (7, .int (nI P.ng)), (8, .int (nI step))]) rfl ?_
    exact ih (i + 1) (by omega)
set_option maxRecDepth 100000 in
set_option maxHeartbeats 4000000 in
theorem lw_F (XY : LwX p s m args meth c D T A sd jd) (hRk : k ≤ 600086) (hRn : n ≤ 7301442) (hP : PlOk P) (hI : Iv P S) (hh : S.hour < 2 ^ 28) (hR : CR P S σ) {dg : Int64} {v m' : Int32} (hB : BestN P S P.nf v m') (kk : ∀ mv : Int32, SxG p l e room_1 s m args below meth c D A 32 k n Q (LW T sd ad pa da p9 aF aG aO rF rG r P S (σ) x tl) [(16, .int (nI P.nf)), (15, .int mv), (14, .int v), (9, .long dg), (0, .ref b), (1, .ref (ad 0)), (2, .int (nI time)), (3, .ref r), (5, .ref p9), (6, .int (nI P.nf)), (7, .int (nI P.ng)), (8, .int (nI step))] 713 []) : ∀ d f mv, f + d = P.nf → MostN P S f mv → SxG p l e room_1 s m args below meth c D A 32 k n Q (LW T sd ad pa da p9 aF aG aO rF rG r P S (σ) x tl) [(16, .int (nI f)), (15, .int mv), (14, .int v), (9, .long dg), (0, .ref b), (1, .ref (ad 0)), (2, .int (nI time)), (3, .ref r), (5, .ref p9), (6, .int (nI P.nf)), (7, .int (nI P.ng)), (8, .int (nI step))] 498 [] := by
  have X := XY.dn (SFx_ok sd)
  have hnf := hP.1
  have hng := hP.2.1
  have hSB := hI.1.2.1
  intro d
  induction d with
  | zero =>
    intro f mv hf hM
    have hf : f = P.nf := hf
    subst hf
    refine sx_iload X 0 rfl dL_law_498 ?_
    refine sx_iload X 9 rfl dL_law_500 ?_
    refine sx_icmp_ge X 713 dL_law_502 rfl (fun _ => ?_) (fun hc => absurd (Int32.le_refl _) hc)
    exact kk mv
  | succ d ih =>
    intro f mv hfd hM
    have hf : f < P.nf := by omega
    obtain ⟨hx0, hx1, hx2, hx3, hx4, hx5⟩ := hP.2.2.1 f hf
    refine sx_iload X 0 rfl dL_law_498 ?_
    refine sx_iload X 9 rfl dL_law_500 ?_
    refine sx_icmp_ge X 713 dL_law_502 rfl (fun hc => absurd hc (nc_nle hf (by omega))) (fun _ => ?_)
    refine sx_aload_n X 5 rfl dL_law_505 rfl ?_
    refine sx_iload X 0 rfl dL_law_506 ?_
    refine sx_kC X (k_isOver (l := l) (D := D) (T := T) (sd := sd) (ad := ad) (pa := pa) (da := da) hP hI hh hR (j := f) hf) qm_485 qm_486 qm_487 qm_13 qm_488 hd_X12_isOver ⟨rfl, rfl⟩ ⟨Nat.le_of_ble_eq_true rfl, Nat.le_of_ble_eq_true rfl⟩ rfl rfl (Nat.le_of_ble_eq_true rfl) dL_law_508 hRk hRn ?_
    by_cases q : S.fp f = 1
    · refine sx_topi (y := nI 1) (congrArg nI (b01_1 q)) ?_
      refine sx_if_eq X 573 dL_law_511 rfl (fun hc => absurd hc (fun z => absurd z (by decide))) (fun _ => ?_)
      obtain ⟨-, q1, q2⟩ := (hI.2.1.1 f hf).2.mp q
      refine sx_aload_n X 5 rfl dL_law_514 rfl ?_
      refine sx_iload X 0 rfl dL_law_515 ?_
      refine sx_kC X (k_isSteeped (l := l) (D := D) (T := T) (sd := sd) (ad := ad) (pa := pa) (da := da) hP hI hh hR (j := f) hf) qm_494 qm_495 qm_496 qm_13 qm_497 hd_X12_isSteeped ⟨rfl, rfl⟩ ⟨Nat.le_of_ble_eq_true rfl, Nat.le_of_ble_eq_true rfl⟩ rfl rfl (Nat.le_of_ble_eq_true rfl) dL_law_517 hRk hRn ?_
      refine sx_topi (y := nI 0) (congrArg nI (b01_0 (by omega))) ?_
      refine sx_if_ne X 571 dL_law_520 rfl (fun hc => absurd rfl hc) (fun _ => ?_)
      refine sx_aload_n X 5 rfl dL_law_523 rfl ?_
      refine sx_kC X (k_hour (l := l) (D := D) (T := T) (sd := sd) (ad := ad) (pa := pa) (da := da) hP hI hh hR) qm_348 qm_349 qm_350 qm_13 qm_351 hd_X12_hour ⟨rfl, rfl⟩ ⟨Nat.le_of_ble_eq_true rfl, Nat.le_of_ble_eq_true rfl⟩ rfl rfl (Nat.le_of_ble_eq_true rfl) dL_law_524 hRk hRn ?_
      refine sx_aload X 8 rfl dL_law_527 ?_
      refine sx_get X kX18 59 LW_p 0 (Nat.le_of_ble_eq_true rfl) qm_1144 rfl dL_law_529 ?_
      refine sx_iload X 0 rfl dL_law_532 ?_
      refine sx_RldN X 60 LW_aF rfl hf (by omega) dL_law_534 ?_
      refine sx_get X kX14 (62 + f) (LW_fr hf) 2 (Nat.le_of_ble_eq_true rfl) qm_1204 rfl dL_law_535 ?_
      refine sx_icmp_lt X 571 dL_law_538 rfl (fun hc => absurd hc (nc_nlt q1 (by omega))) (fun _ => ?_)
      refine sx_aload_n X 5 rfl dL_law_541 rfl ?_
      refine sx_kC X (k_hour (l := l) (D := D) (T := T) (sd := sd) (ad := ad) (pa := pa) (da := da) hP hI hh hR) qm_348 qm_349 qm_350 qm_13 qm_351 hd_X12_hour ⟨rfl, rfl⟩ ⟨Nat.le_of_ble_eq_true rfl, Nat.le_of_ble_eq_true rfl⟩ rfl rfl (Nat.le_of_ble_eq_true rfl) dL_law_542 hRk hRn ?_
      refine sx_aload X 8 rfl dL_law_545 ?_
      refine sx_get X kX18 59 LW_p 0 (Nat.le_of_ble_eq_true rfl) qm_1144 rfl dL_law_547 ?_
      refine sx_iload X 0 rfl dL_law_550 ?_
      refine sx_RldN X 60 LW_aF rfl hf (by omega) dL_law_552 ?_
      refine sx_get X kX14 (62 + f) (LW_fr hf) 2 (Nat.le_of_ble_eq_true rfl) qm_1204 rfl dL_law_553 ?_
      refine sx_aload X 8 rfl dL_law_556 ?_
      refine sx_get X kX18 59 LW_p 0 (Nat.le_of_ble_eq_true rfl) qm_1144 rfl dL_law_558 ?_
      refine sx_iload X 0 rfl dL_law_561 ?_
      refine sx_RldN X 60 LW_aF rfl hf (by omega) dL_law_563 ?_
      refine sx_get X kX14 (62 + f) (LW_fr hf) 3 (Nat.le_of_ble_eq_true rfl) qm_1206 rfl dL_law_564 ?_
      refine sx_iadd X dL_law_567 ?_
      refine sx_topi (y := nI (((P.fr f).2.2.1) + ((P.fr f).2.2.2))) (nI_add _ _) ?_
      refine sx_icmp_lt X 573 dL_law_568 rfl (fun _ => ?_) (fun hc => absurd (nc_lt q2 (by omega)) hc)
      refine sx_aload_n X 5 rfl dL_law_573 rfl ?_
      refine sx_iload X 0 rfl dL_law_574 ?_
      refine sx_kC X (k_isOver (l := l) (D := D) (T := T) (sd := sd) (ad := ad) (pa := pa) (da := da) hP hI hh hR (j := f) hf) qm_485 qm_486 qm_487 qm_13 qm_488 hd_X12_isOver ⟨rfl, rfl⟩ ⟨Nat.le_of_ble_eq_true rfl, Nat.le_of_ble_eq_true rfl⟩ rfl rfl (Nat.le_of_ble_eq_true rfl) dL_law_576 hRk hRn ?_
      refine sx_topi (y := nI 1) (congrArg nI (b01_1 q)) ?_
      refine sx_if_ne X 585 dL_law_579 rfl (fun _ => ?_) (fun hc => absurd hc (fun z => absurd z (by decide)))
      refine sx_bipush X (v := 30) dL_law_585 rfl ?_
      refine sx_aload_n X 5 rfl dL_law_587 rfl ?_
      refine sx_kC X (k_strength (l := l) (D := D) (T := T) (sd := sd) (ad := ad) (pa := pa) (da := da) hP hI hh hR) qm_356 qm_357 qm_358 qm_13 qm_359 hd_X12_strength ⟨rfl, rfl⟩ ⟨Nat.le_of_ble_eq_true rfl, Nat.le_of_ble_eq_true rfl⟩ rfl rfl (Nat.le_of_ble_eq_true rfl) dL_law_588 hRk hRn ?_
      refine sx_aload_n X 5 rfl dL_law_591 rfl ?_
      refine sx_iload X 0 rfl dL_law_592 ?_
      refine sx_kC X (k_forceOf (l := l) (D := D) (T := T) (sd := sd) (ad := ad) (pa := pa) (da := da) hP hI hh hR (j := f) hf) qm_406 qm_407 qm_408 qm_13 qm_409 hd_X12_forceOf ⟨rfl, rfl⟩ ⟨Nat.le_of_ble_eq_true rfl, Nat.le_of_ble_eq_true rfl⟩ rfl rfl (Nat.le_of_ble_eq_true rfl) dL_law_594 hRk hRn ?_
      refine sx_iadd X dL_law_597 ?_
      refine sx_topi (y := nI (S.strength + ((P.fr f).2.1))) (nI_add _ _) ?_
      refine sx_min X qm_1599 qm_594 qm_32 qm_595 (Nat.le_of_ble_eq_true rfl) (Nat.le_of_ble_eq_true rfl) hRk hRn dL_law_598 ?_
      refine sx_topi (y := nI (strF P S f)) (by (show (if nI (S.strength + (P.fr f).2.1) < nI 30 then nI (S.strength + (P.fr f).2.1) else nI 30) = nI (strF P S f)); unfold strF; by_cases z : S.strength + (P.fr f).2.1 < 30; (rw [if_pos (nc_lt z (by decide)), if_pos (by omega)]); (rw [if_neg (nc_nlt (by omega) (by omega))]); by_cases z2 : S.strength + (P.fr f).2.1 ≤ 30; (rw [if_pos z2]; exact congrArg nI (by omega)); (rw [if_neg z2])) ?_
      refine sx_istore X (lv' := [(17, .int (nI (strF P S f))), (16, .int (nI f)), (15, .int mv), (14, .int v), (9, .long dg), (0, .ref b), (1, .ref (ad 0)), (2, .int (nI time)), (3, .ref r), (5, .ref p9), (6, .int (nI P.nf)), (7, .int (nI P.ng)), (8, .int (nI step))]) dL_law_601 (by decide) rfl ?_
      refine sx_iconst X (v := 0) dL_law_603 rfl ?_
      refine sx_istore X (lv' := [(18, .int 0), (17, .int (nI (strF P S f))), (16, .int (nI f)), (15, .int mv), (14, .int v), (9, .long dg), (0, .ref b), (1, .ref (ad 0)), (2, .int (nI time)), (3, .ref r), (5, .ref p9), (6, .int (nI P.nf)), (7, .int (nI P.ng)), (8, .int (nI step))]) dL_law_604 (by decide) rfl ?_
      refine sx_aload X 10 rfl dL_law_606 ?_
      refine sx_get X kX18 59 LW_p 1 (Nat.le_of_ble_eq_true rfl) qm_1147 rfl dL_law_608 ?_
      refine sx_astore X (lv' := [(19, .ref aG), (18, .int 0), (17, .int (nI (strF P S f))), (16, .int (nI f)), (15, .int mv), (14, .int v), (9, .long dg), (0, .ref b), (1, .ref (ad 0)), (2, .int (nI time)), (3, .ref r), (5, .ref p9), (6, .int (nI P.nf)), (7, .int (nI P.ng)), (8, .int (nI step))]) dL_law_611 (by decide) rfl ?_
      refine sx_aload X 0 rfl dL_law_613 ?_
      refine sx_alen X (t0 := 6) (v := nI P.ng) 61 LW_aG rfl rfl dL_law_615 ?_
      refine sx_istore X (lv' := [(20, .int (nI P.ng)), (19, .ref aG), (18, .int 0), (17, .int (nI (strF P S f))), (16, .int (nI f)), (15, .int mv), (14, .int v), (9, .long dg), (0, .ref b), (1, .ref (ad 0)), (2, .int (nI time)), (3, .ref r), (5, .ref p9), (6, .int (nI P.nf)), (7, .int (nI P.ng)), (8, .int (nI step))]) dL_law_616 (by decide) rfl ?_
      refine sx_iconst X (v := 0) dL_law_618 rfl ?_
      refine sx_istore X (lv' := [(21, .int 0), (20, .int (nI P.ng)), (19, .ref aG), (18, .int 0), (17, .int (nI (strF P S f))), (16, .int (nI f)), (15, .int mv), (14, .int v), (9, .long dg), (0, .ref b), (1, .ref (ad 0)), (2, .int (nI time)), (3, .ref r), (5, .ref p9), (6, .int (nI P.nf)), (7, .int (nI P.ng)), (8, .int (nI step))]) dL_law_619 (by decide) rfl ?_
      refine sx_lsub [0, 3, 4, 2, 1, 5, 6, 7, 8, 9, 10, 11, 12, 13, 14, 15, 16] (lv' := [(21, .int (nI 0)), (18, .int (nI (sumN (fun g => b01 (likeS P S g (strF P S f))) 0))), (17, .int (nI (strF P S f))), (19, .ref aG), (20, .int (nI P.ng)), (16, .int (nI f)), (15, .int mv), (14, .int v), (9, .long dg), (0, .ref b), (1, .ref (ad 0)), (2, .int (nI time)), (3, .ref r), (5, .ref p9), (6, .int (nI P.nf)), (7, .int (nI P.ng)), (8, .int (nI step))]) rfl ?_
      refine lw_L XY hRk hRn hP hI (z := strF P S f) (by have := strF_le P S f; omega) ?_ P.ng 0 (Nat.zero_add _)
      refine sx_chg (ws' := LW T sd ad pa da p9 aF aG aO rF rG r P S (σ) x tl) (st' := []) rfl rfl ?_
      obtain ⟨f0, e0, hf0, hf1, c1, c2⟩ := best_cmp hP hB hM hf q
      have K698 : SxG p l e room_1 s m args below meth c D A 32 k n Q (LW T sd ad pa da p9 aF aG aO rF rG r P S (σ) x tl) [(21, .int (nI P.ng)), (18, .int (nI (cnF P S f))), (17, .int (nI (strF P S f))), (19, .ref aG), (20, .int (nI P.ng)), (16, .int (nI f)), (15, .int mv), (14, .int v), (9, .long dg), (0, .ref b), (1, .ref (ad 0)), (2, .int (nI time)), (3, .ref r), (5, .ref p9), (6, .int (nI P.nf)), (7, .int (nI P.ng)), (8, .int (nI step))] 698 [] := by
        refine sx_iload X 6 rfl dL_law_698 ?_
        refine sx_iload X 1 rfl dL_law_700 ?_
        refine sx_max X qm_1598 qm_597 qm_32 qm_598 (Nat.le_of_ble_eq_true rfl) (Nat.le_of_ble_eq_true rfl) hRk hRn dL_law_702 ?_
        refine sx_istore X (lv' := [(15, .int (if mv < nI (cnF P S f) then nI (cnF P S f) else mv)), (21, .int (nI P.ng)), (18, .int (nI (cnF P S f))), (17, .int (nI (strF P S f))), (19, .ref aG), (20, .int (nI P.ng)), (16, .int (nI f)), (14, .int v), (9, .long dg), (0, .ref b), (1, .ref (ad 0)), (2, .int (nI time)), (3, .ref r), (5, .ref p9), (6, .int (nI P.nf)), (7, .int (nI P.ng)), (8, .int (nI step))]) dL_law_705 (by decide) rfl ?_
        refine sx_iinc X (v := nI (f + 1)) (lv' := [(16, .int (nI (f + 1))), (15, .int (if mv < nI (cnF P S f) then nI (cnF P S f) else mv)), (21, .int (nI P.ng)), (18, .int (nI (cnF P S f))), (17, .int (nI (strF P S f))), (19, .ref aG), (20, .int (nI P.ng)), (14, .int v), (9, .long dg), (0, .ref b), (1, .ref (ad 0)), (2, .int (nI time)), (3, .ref r), (5, .ref p9), (6, .int (nI P.nf)), (7, .int (nI P.ng)), (8, .int (nI step))]) 6 rfl dL_law_707 (nI_add f 1) (by decide) rfl ?_
        refine sx_goto X 498 dL_law_710 rfl ?_
        refine sx_lsub [0, 1, 7, 8, 9, 10, 11, 12, 13, 14, 15, 16] (lv' := [(16, .int (nI (f + 1))), (15, .int (if mv < nI (cnF P S f) then nI (cnF P S f) else mv)), (14, .int v), (9, .long dg), (0, .ref b), (1, .ref (ad 0)), (2, .int (nI time)), (3, .ref r), (5, .ref p9), (6, .int (nI P.nf)), (7, .int (nI P.ng)), (8, .int (nI step))]) rfl ?_
        exact ih (f + 1) _ (by omega) (MostN_up hP hM q)
      refine sx_iload X 7 rfl dL_law_663 ?_
      subst e0
      refine sx_if_lt X 696 dL_law_665 rfl (fun hc => absurd hc (nc_nlt (a := f0) (b := 0) (Nat.zero_le _) (by omega))) (fun _ => ?_)
      refine sx_iload X 5 rfl dL_law_668 ?_
      refine sx_iload X 7 rfl dL_law_670 ?_
      by_cases z : f = f0
      · refine sx_icmp_ne X 682 dL_law_672 rfl (fun hc => absurd (congrArg nI z) hc) (fun _ => ?_)
        refine sx_iload X 1 rfl dL_law_675 ?_
        refine sx_iload X 6 rfl dL_law_677 ?_
        refine sx_icmp_le X 696 dL_law_679 rfl (fun hc => absurd hc (c1 z)) (fun _ => ?_)
        refine sx_iload X 5 rfl dL_law_682 ?_
        refine sx_iload X 7 rfl dL_law_684 ?_
        refine sx_icmp_le X 698 dL_law_686 rfl (fun _ => ?_) (fun hc => absurd (nc_le (a := f) (b := f0) (by omega) (by omega)) hc)
        exact K698
      · refine sx_icmp_ne X 682 dL_law_672 rfl (fun _ => ?_) (fun hc => absurd hc (nc_ne z (by omega) (by omega)))
        refine sx_iload X 5 rfl dL_law_682 ?_
        refine sx_iload X 7 rfl dL_law_684 ?_
        by_cases z3 : f ≤ f0
        · refine sx_icmp_le X 698 dL_law_686 rfl (fun _ => ?_) (fun hc => absurd (nc_le z3 (by omega)) hc)
          exact K698
        · refine sx_icmp_le X 698 dL_law_686 rfl (fun hc => absurd hc (nc_nle (by omega) (by omega))) (fun _ => ?_)
          refine sx_iload X 1 rfl dL_law_689 ?_
          refine sx_iload X 6 rfl dL_law_691 ?_
          refine sx_icmp_le X 698 dL_law_693 rfl (fun _ => ?_) (fun hc => absurd (c2 (by omega)) hc)
          exact K698
    · refine sx_topi (y := nI 0) (congrArg nI (b01_0 q)) ?_
      refine sx_if_eq X 573 dL_law_511 rfl (fun _ => ?_) (fun hc => absurd rfl hc)
      refine sx_aload_n X 5 rfl dL_law_573 rfl ?_
      refine sx_iload X 0 rfl dL_law_574 ?_
      refine sx_kC X (k_isOver (l := l) (D := D) (T := T) (sd := sd) (ad := ad) (pa := pa) (da := da) hP hI hh hR (j := f) hf) qm_485 qm_486 qm_487 qm_13 qm_488 hd_X12_isOver ⟨rfl, rfl⟩ ⟨Nat.le_of_ble_eq_true rfl, Nat.le_of_ble_eq_true rfl⟩ rfl rfl (Nat.le_of_ble_eq_true rfl) dL_law_576 hRk hRn ?_
      refine sx_topi (y := nI 0) (congrArg nI (b01_0 q)) ?_
      refine sx_if_ne X 585 dL_law_579 rfl (fun hc => absurd rfl hc) (fun _ => ?_)
      refine sx_goto X 707 dL_law_582 rfl ?_
      refine sx_iinc X (v := nI (f + 1)) (lv' := [(16, .int (nI (f + 1))), (15, .int mv), (14, .int v), (9, .long dg), (0, .ref b), (1, .ref (ad 0)), (2, .int (nI time)), (3, .ref r), (5, .ref p9), (6, .int (nI P.nf)), (7, .int (nI P.ng)), (8, .int (nI step))]) 0 rfl dL_law_707 (nI_add f 1) (by decide) rfl ?_
      refine sx_goto X 498 dL_law_710 rfl ?_
      refine sx_lsub [0, 1, 2, 3, 4, 5, 6, 7, 8, 9, 10, 11] (lv' := [(16, .int (nI (f + 1))), (15, .int mv), (14, .int v), (9, .long dg), (0, .ref b), (1, .ref (ad 0)), (2, .int (nI time)), (3, .ref r), (5, .ref p9), (6, .int (nI P.nf)), (7, .int (nI P.ng)), (8, .int (nI step))]) rfl ?_
      exact ih (f + 1) mv (by omega) (MostN_no hM q)
end LAWF
