/-! AN HOUR OF THE LAW: what was before it is written down, what is behind it is looked at -/
def bfill (q : Nat → Prop) [DecidablePred q] (g : Nat) : Nat → Int32 := fun j => if j < g then nI (b01 (q j)) else 0
theorem bfill_0 (q : Nat → Prop) [DecidablePred q] : (fun _ => 0 : Nat → Int32) = bfill q 0 := by
  funext j
  unfold bfill
  rw [if_neg (by omega)]
theorem bfill_up (q : Nat → Prop) [DecidablePred q] (g : Nat) : upd (bfill q g) g (nI (b01 (q g))) = bfill q (g + 1) := by
  funext j
  by_cases h : j = g
  · subst h
    rw [upd_same]
    unfold bfill
    rw [if_pos (by omega)]
  · rw [upd_else _ _ h]
    unfold bfill
    by_cases k : j < g
    · rw [if_pos k, if_pos (by omega)]
    · rw [if_neg k, if_neg (by omega)]
theorem bfill_at {q : Nat → Prop} [DecidablePred q] {n g : Nat} (h : g < n) : bfill q n g = nI (b01 (q g)) := if_pos h
section LAWH
variable {l : Launch} {D : va_G} {T : Nat → ClassId} {sd : SdT} {jd : JdT} {p : Program} {e : Env} {s : State} {m : MethodId} {args : Array Value} {below : List Frame} {meth : Method} {c : Code} {A : Nat → Prop} {Q : State → Prop} {ad pa da : Nat → Nat} {p9 aF aG aO r b time step k n : Nat} {rF rG rO : Nat → Nat} {P : Pl} {S : Sp} {σ : CSt} {x : Int32} {tl : va_W}
set_option maxRecDepth 100000 in
set_option maxHeartbeats 4000000 in
theorem lw_A (XY : LwX p s m args meth c D T A sd jd) (hRk : k ≤ 600086) (hRn : n ≤ 7301442) (hP : PlOk P) (hI : Iv P S) (hh : S.hour < 2 ^ 28) (hR : CR P S σ) {dg : Int64} {due u one un was did : Int32} {N hr q26 q27 q28 cn0 sm0 : Nat} (kk : SxG p l e room_1 s m args below meth c D A 32 k n Q (LW T sd ad pa da p9 aF aG aO rF rG r P S (σ) x (zZ T q28 P.ng (bfill (fun j => S.gp j = 3) P.ng) :: zZ T q27 P.ng (bfill (fun j => S.gp j = 2) P.ng) :: zZ T q26 P.ng (bfill (fun j => S.gp j = 1) P.ng) :: tl)) [(29, .int (nI P.ng)), (26, .ref q26), (27, .ref q27), (28, .ref q28), (24, .int (nI cn0)), (25, .int (nI sm0)), (16, .int (nI N)), (17, .int due), (18, .int u), (19, .int one), (20, .int un), (21, .int was), (22, .int did), (23, .int (nI hr)), (9, .long dg), (0, .ref b), (1, .ref (ad 0)), (2, .int (nI time)), (3, .ref r), (5, .ref p9), (6, .int (nI P.nf)), (7, .int (nI P.ng)), (8, .int (nI step))] 946 []) : ∀ d g, g + d = P.ng → SxG p l e room_1 s m args below meth c D A 32 k n Q (LW T sd ad pa da p9 aF aG aO rF rG r P S (σ) x (zZ T q28 P.ng (bfill (fun j => S.gp j = 3) g) :: zZ T q27 P.ng (bfill (fun j => S.gp j = 2) g) :: zZ T q26 P.ng (bfill (fun j => S.gp j = 1) g) :: tl)) [(29, .int (nI g)), (26, .ref q26), (27, .ref q27), (28, .ref q28), (24, .int (nI cn0)), (25, .int (nI sm0)), (16, .int (nI N)), (17, .int due), (18, .int u), (19, .int one), (20, .int un), (21, .int was), (22, .int did), (23, .int (nI hr)), (9, .long dg), (0, .ref b), (1, .ref (ad 0)), (2, .int (nI time)), (3, .ref r), (5, .ref p9), (6, .int (nI P.nf)), (7, .int (nI P.ng)), (8, .int (nI step))] 900 [] := by
  have X := XY.dn (SFx_ok sd)
  have hng := hP.2.1
  intro d
  induction d with
  | zero =>
    intro g hg
    have hg : g = P.ng := hg
    subst hg
    refine sx_iload X 0 rfl dL_law_900 ?_
    refine sx_iload X 21 rfl dL_law_902 ?_
    refine sx_icmp_ge X 946 dL_law_904 rfl (fun _ => ?_) (fun hc => absurd (Int32.le_refl _) hc)
    exact kk
  | succ d ih =>
    intro g hgd
    have hg : g < P.ng := by omega
    refine sx_iload X 0 rfl dL_law_900 ?_
    refine sx_iload X 21 rfl dL_law_902 ?_
    refine sx_icmp_ge X 946 dL_law_904 rfl (fun hc => absurd hc (nc_nle hg (by omega))) (fun _ => ?_)
    refine sx_aload X 1 rfl dL_law_907 ?_
    refine sx_iload X 0 rfl dL_law_909 ?_
    refine sx_aload_n X 16 rfl dL_law_911 rfl ?_
    refine sx_iload X 0 rfl dL_law_912 ?_
    refine sx_kC X (k_isSeated (l := l) (D := D) (T := T) (sd := sd) (ad := ad) (pa := pa) (da := da) hP hI hh hR (j := g) hg) qm_498 qm_499 qm_500 qm_13 qm_501 hd_X12_isSeated ⟨rfl, rfl⟩ ⟨Nat.le_of_ble_eq_true rfl, Nat.le_of_ble_eq_true rfl⟩ rfl rfl (Nat.le_of_ble_eq_true rfl) dL_law_914 hRk hRn ?_
    refine sx_zastN X (q := S.gp g = 1) (ws' := LW T sd ad pa da p9 aF aG aO rF rG r P S (σ) x (zZ T q28 P.ng (bfill (fun j => S.gp j = 3) g) :: zZ T q27 P.ng (bfill (fun j => S.gp j = 2) g) :: zZ T q26 P.ng (bfill (fun j => S.gp j = 1) (g + 1)) :: tl)) (62 + (P.nf + (P.ng + 3))) (LW_tl 3) hg (by omega) (by rw [bfill_up (fun j => S.gp j = 1)]; exact LW_set 2 _) dL_law_917 ?_
    refine sx_aload X 2 rfl dL_law_918 ?_
    refine sx_iload X 0 rfl dL_law_920 ?_
    refine sx_aload_n X 16 rfl dL_law_922 rfl ?_
    refine sx_iload X 0 rfl dL_law_923 ?_
    refine sx_kC X (k_wasServed (l := l) (D := D) (T := T) (sd := sd) (ad := ad) (pa := pa) (da := da) hP hI hh hR (j := g) hg) qm_517 qm_518 qm_519 qm_13 qm_520 hd_X12_wasServed ⟨rfl, rfl⟩ ⟨Nat.le_of_ble_eq_true rfl, Nat.le_of_ble_eq_true rfl⟩ rfl rfl (Nat.le_of_ble_eq_true rfl) dL_law_925 hRk hRn ?_
    refine sx_zastN X (q := S.gp g = 2) (ws' := LW T sd ad pa da p9 aF aG aO rF rG r P S (σ) x (zZ T q28 P.ng (bfill (fun j => S.gp j = 3) g) :: zZ T q27 P.ng (bfill (fun j => S.gp j = 2) (g + 1)) :: zZ T q26 P.ng (bfill (fun j => S.gp j = 1) (g + 1)) :: tl)) (62 + (P.nf + (P.ng + 2))) (LW_tl 2) hg (by omega) (by rw [bfill_up (fun j => S.gp j = 2)]; exact LW_set 1 _) dL_law_928 ?_
    refine sx_aload X 3 rfl dL_law_929 ?_
    refine sx_iload X 0 rfl dL_law_931 ?_
    refine sx_aload_n X 16 rfl dL_law_933 rfl ?_
    refine sx_iload X 0 rfl dL_law_934 ?_
    refine sx_kC X (k_wasStormed (l := l) (D := D) (T := T) (sd := sd) (ad := ad) (pa := pa) (da := da) hP hI hh hR (j := g) hg) qm_521 qm_522 qm_523 qm_13 qm_524 hd_X12_wasStormed ⟨rfl, rfl⟩ ⟨Nat.le_of_ble_eq_true rfl, Nat.le_of_ble_eq_true rfl⟩ rfl rfl (Nat.le_of_ble_eq_true rfl) dL_law_936 hRk hRn ?_
    refine sx_zastN X (q := S.gp g = 3) (ws' := LW T sd ad pa da p9 aF aG aO rF rG r P S (σ) x (zZ T q28 P.ng (bfill (fun j => S.gp j = 3) (g + 1)) :: zZ T q27 P.ng (bfill (fun j => S.gp j = 2) (g + 1)) :: zZ T q26 P.ng (bfill (fun j => S.gp j = 1) (g + 1)) :: tl)) (62 + (P.nf + (P.ng + 1))) (LW_tl 1) hg (by omega) (by rw [bfill_up (fun j => S.gp j = 3)]; exact LW_set 0 _) dL_law_939 ?_
    refine sx_iinc X (v := nI (g + 1)) (lv' := [(29, .int (nI (g + 1))), (26, .ref q26), (27, .ref q27), (28, .ref q28), (24, .int (nI cn0)), (25, .int (nI sm0)), (16, .int (nI N)), (17, .int due), (18, .int u), (19, .int one), (20, .int un), (21, .int was), (22, .int did), (23, .int (nI hr)), (9, .long dg), (0, .ref b), (1, .ref (ad 0)), (2, .int (nI time)), (3, .ref r), (5, .ref p9), (6, .int (nI P.nf)), (7, .int (nI P.ng)), (8, .int (nI step))]) 0 rfl dL_law_940 (nI_add g 1) (by decide) rfl ?_
    refine sx_goto X 900 dL_law_943 rfl ?_
    refine sx_lsub [0, 1, 2, 3, 4, 5, 6, 7, 8, 9, 10, 11, 12, 13, 14, 15, 16, 17, 18, 19, 20, 21, 22] (lv' := [(29, .int (nI (g + 1))), (26, .ref q26), (27, .ref q27), (28, .ref q28), (24, .int (nI cn0)), (25, .int (nI sm0)), (16, .int (nI N)), (17, .int due), (18, .int u), (19, .int one), (20, .int un), (21, .int was), (22, .int did), (23, .int (nI hr)), (9, .long dg), (0, .ref b), (1, .ref (ad 0)), (2, .int (nI time)), (3, .ref r), (5, .ref p9), (6, .int (nI P.nf)), (7, .int (nI P.ng)), (8, .int (nI step))]) rfl ?_
    exact ih (g + 1) (by omega)
set_option maxRecDepth 100000 in
set_option maxHeartbeats 4000000 in
theorem lw_H {Z : Sp} (XY : LwX p s m args meth c D T A sd jd) (hRk : k ≤ 600086) (hRn : n ≤ 7301442) (hP : PlOk P) (hI : Iv P Z) (hh : Z.hour < 2 ^ 28) (hR : CR P Z σ) {dg : Int64} {due u one un was did : Int32} {N hr q26 q27 q28 cn0 sm0 : Nat} {mny : Nat} (hm : mny ≤ 1) (hL : ∀ g, (S.gp g = 2 → Z.gp g = 2) ∧ (S.gp g = 3 → Z.gp g = 3) ∧ (Z.gp g = 2 → S.gp g ≠ 2 → S.gp g = 1) ∧ (Z.gp g = 3 → S.gp g ≠ 3 → mny = 1 ∧ S.gp g = 1 ∧ (P.gu g).2.2.2 < Z.charge + 12) ∧ (mny = 1 → g < P.ng → S.gp g = 1 → Z.gp g = 1 → ¬ (P.gu g).2.2.2 < Z.charge + 12)) (kk : SxG p l e room_1 s m args below meth c D A 32 k n Q (LW T sd ad pa da p9 aF aG aO rF rG r P Z (σ) x (zZ T q28 P.ng (bfill (fun j => S.gp j = 3) P.ng) :: zZ T q27 P.ng (bfill (fun j => S.gp j = 2) P.ng) :: zZ T q26 P.ng (bfill (fun j => S.gp j = 1) P.ng) :: tl)) [(31, .int (nI P.ng)), (30, .int (nI (sumN (fun g => b01 (Z.gp g = 2 ∧ ¬ S.gp g = 2)) P.ng))), (29, .int (nI mny)), (26, .ref q26), (27, .ref q27), (28, .ref q28), (24, .int (nI cn0)), (25, .int (nI sm0)), (16, .int (nI N)), (17, .int due), (18, .int u), (19, .int one), (20, .int un), (21, .int was), (22, .int did), (23, .int (nI hr)), (9, .long dg), (0, .ref b), (1, .ref (ad 0)), (2, .int (nI time)), (3, .ref r), (5, .ref p9), (6, .int (nI P.nf)), (7, .int (nI P.ng)), (8, .int (nI step))] 1228 []) : ∀ d g, g + d = P.ng → SxG p l e room_1 s m args below meth c D A 32 k n Q (LW T sd ad pa da p9 aF aG aO rF rG r P Z (σ) x (zZ T q28 P.ng (bfill (fun j => S.gp j = 3) P.ng) :: zZ T q27 P.ng (bfill (fun j => S.gp j = 2) P.ng) :: zZ T q26 P.ng (bfill (fun j => S.gp j = 1) P.ng) :: tl)) [(31, .int (nI g)), (30, .int (nI (sumN (fun g => b01 (Z.gp g = 2 ∧ ¬ S.gp g = 2)) g))), (29, .int (nI mny)), (26, .ref q26), (27, .ref q27), (28, .ref q28), (24, .int (nI cn0)), (25, .int (nI sm0)), (16, .int (nI N)), (17, .int due), (18, .int u), (19, .int one), (20, .int un), (21, .int was), (22, .int did), (23, .int (nI hr)), (9, .long dg), (0, .ref b), (1, .ref (ad 0)), (2, .int (nI time)), (3, .ref r), (5, .ref p9), (6, .int (nI P.nf)), (7, .int (nI P.ng)), (8, .int (nI step))] 1032 [] := by
  have X := XY.dn (SFx_ok sd)
  have hng := hP.2.1
  have hch := hI.1.2.2.1
  intro d
  induction d with
  | zero =>
    intro g hg
    have hg : g = P.ng := hg
    subst hg
    refine sx_iload X 0 rfl dL_law_1032 ?_
    refine sx_iload X 23 rfl dL_law_1034 ?_
    refine sx_icmp_ge X 1228 dL_law_1036 rfl (fun _ => ?_) (fun hc => absurd (Int32.le_refl _) hc)
    exact kk
  | succ d ih =>
    intro g hgd
    have hg : g < P.ng := by omega
    have hgu := hP.2.2.2.1 g hg
    have hgn : (P.gu g).2.2.2 ≤ 20 := hgu.2.2.2.2
    obtain ⟨g1, g2, g3, g4, g5⟩ := hL g
    have K1222 : SxG p l e room_1 s m args below meth c D A 32 k n Q (LW T sd ad pa da p9 aF aG aO rF rG r P Z (σ) x (zZ T q28 P.ng (bfill (fun j => S.gp j = 3) P.ng) :: zZ T q27 P.ng (bfill (fun j => S.gp j = 2) P.ng) :: zZ T q26 P.ng (bfill (fun j => S.gp j = 1) P.ng) :: tl)) [(31, .int (nI g)), (30, .int (nI ((sumN (fun g => b01 (Z.gp g = 2 ∧ ¬ S.gp g = 2)) g + b01 (Z.gp g = 2 ∧ ¬ S.gp g = 2))))), (29, .int (nI mny)), (26, .ref q26), (27, .ref q27), (28, .ref q28), (24, .int (nI cn0)), (25, .int (nI sm0)), (16, .int (nI N)), (17, .int due), (18, .int u), (19, .int one), (20, .int un), (21, .int was), (22, .int did), (23, .int (nI hr)), (9, .long dg), (0, .ref b), (1, .ref (ad 0)), (2, .int (nI time)), (3, .ref r), (5, .ref p9), (6, .int (nI P.nf)), (7, .int (nI P.ng)), (8, .int (nI step))] 1222 [] := by
      refine sx_iinc X (v := nI (g + 1)) (lv' := [(31, .int (nI (g + 1))), (30, .int (nI ((sumN (fun g => b01 (Z.gp g = 2 ∧ ¬ S.gp g = 2)) g + b01 (Z.gp g = 2 ∧ ¬ S.gp g = 2))))), (29, .int (nI mny)), (26, .ref q26), (27, .ref q27), (28, .ref q28), (24, .int (nI cn0)), (25, .int (nI sm0)), (16, .int (nI N)), (17, .int due), (18, .int u), (19, .int one), (20, .int un), (21, .int was), (22, .int did), (23, .int (nI hr)), (9, .long dg), (0, .ref b), (1, .ref (ad 0)), (2, .int (nI time)), (3, .ref r), (5, .ref p9), (6, .int (nI P.nf)), (7, .int (nI P.ng)), (8, .int (nI step))]) 0 rfl dL_law_1222 (nI_add g 1) (by decide) rfl ?_
      refine sx_goto X 1032 dL_law_1225 rfl ?_
      refine sx_lsub [0, 1, 2, 3, 4, 5, 6, 7, 8, 9, 10, 11, 12, 13, 14, 15, 16, 17, 18, 19, 20, 21, 22, 23, 24] (lv' := [(31, .int (nI (g + 1))), (30, .int (nI (sumN (fun g => b01 (Z.gp g = 2 ∧ ¬ S.gp g = 2)) (g + 1)))), (29, .int (nI mny)), (26, .ref q26), (27, .ref q27), (28, .ref q28), (24, .int (nI cn0)), (25, .int (nI sm0)), (16, .int (nI N)), (17, .int due), (18, .int u), (19, .int one), (20, .int un), (21, .int was), (22, .int did), (23, .int (nI hr)), (9, .long dg), (0, .ref b), (1, .ref (ad 0)), (2, .int (nI time)), (3, .ref r), (5, .ref p9), (6, .int (nI P.nf)), (7, .int (nI P.ng)), (8, .int (nI step))]) rfl ?_
      exact ih (g + 1) (by omega)
    have K1176 : SxG p l e room_1 s m args below meth c D A 32 k n Q (LW T sd ad pa da p9 aF aG aO rF rG r P Z (σ) x (zZ T q28 P.ng (bfill (fun j => S.gp j = 3) P.ng) :: zZ T q27 P.ng (bfill (fun j => S.gp j = 2) P.ng) :: zZ T q26 P.ng (bfill (fun j => S.gp j = 1) P.ng) :: tl)) [(31, .int (nI g)), (30, .int (nI ((sumN (fun g => b01 (Z.gp g = 2 ∧ ¬ S.gp g = 2)) g + b01 (Z.gp g = 2 ∧ ¬ S.gp g = 2))))), (29, .int (nI mny)), (26, .ref q26), (27, .ref q27), (28, .ref q28), (24, .int (nI cn0)), (25, .int (nI sm0)), (16, .int (nI N)), (17, .int due), (18, .int u), (19, .int one), (20, .int un), (21, .int was), (22, .int did), (23, .int (nI hr)), (9, .long dg), (0, .ref b), (1, .ref (ad 0)), (2, .int (nI time)), (3, .ref r), (5, .ref p9), (6, .int (nI P.nf)), (7, .int (nI P.ng)), (8, .int (nI step))] 1176 [] := by
      refine sx_iload X 2 rfl dL_law_1176 ?_
      refine sx_iconst X (v := 1) dL_law_1178 rfl ?_
      by_cases e : mny = 1
      · refine sx_icmp_ne X 1222 dL_law_1179 rfl (fun hc => absurd (congrArg nI e) hc) (fun _ => ?_)
        refine sx_aload X 3 rfl dL_law_1182 ?_
        refine sx_iload X 0 rfl dL_law_1184 ?_
        refine sx_zaldN X (62 + (P.nf + (P.ng + 3))) (LW_tl 3) hg (by omega) (bfill_at hg) dL_law_1186 ?_
        refine sx_chg (ws' := LW T sd ad pa da p9 aF aG aO rF rG r P Z (σ) x (zZ T q28 P.ng (bfill (fun j => S.gp j = 3) P.ng) :: zZ T q27 P.ng (bfill (fun j => S.gp j = 2) P.ng) :: zZ T q26 P.ng (bfill (fun j => S.gp j = 1) P.ng) :: tl)) (st' := [.int (nI (b01 (S.gp g = 1)))]) rfl rfl ?_
        by_cases q : S.gp g = 1
        · refine sx_topi (y := nI 1) (congrArg nI (b01_1 q)) ?_
          refine sx_if_eq X 1222 dL_law_1187 rfl (fun hc => absurd hc (fun z => absurd z (by decide))) (fun _ => ?_)
          refine sx_aload_n X 18 rfl dL_law_1190 rfl ?_
          refine sx_iload X 0 rfl dL_law_1191 ?_
          refine sx_kC X (k_isSeated (l := l) (D := D) (T := T) (sd := sd) (ad := ad) (pa := pa) (da := da) hP hI hh hR (j := g) hg) qm_498 qm_499 qm_500 qm_13 qm_501 hd_X12_isSeated ⟨rfl, rfl⟩ ⟨Nat.le_of_ble_eq_true rfl, Nat.le_of_ble_eq_true rfl⟩ rfl rfl (Nat.le_of_ble_eq_true rfl) dL_law_1193 hRk hRn ?_
          by_cases q3 : Z.gp g = 1
          · refine sx_topi (y := nI 1) (congrArg nI (b01_1 q3)) ?_
            refine sx_if_eq X 1222 dL_law_1196 rfl (fun hc => absurd hc (fun z => absurd z (by decide))) (fun _ => ?_)
            refine sx_aload X 21 rfl dL_law_1199 ?_
            refine sx_get X kX18 59 LW_p 1 (Nat.le_of_ble_eq_true rfl) qm_1147 rfl dL_law_1201 ?_
            refine sx_iload X 0 rfl dL_law_1204 ?_
            refine sx_RldN X 61 LW_aG rfl hg (by omega) dL_law_1206 ?_
            refine sx_get X kX15 (62 + (P.nf + g)) (LW_gu hg) 3 (Nat.le_of_ble_eq_true rfl) qm_1369 rfl dL_law_1207 ?_
            refine sx_aload_n X 18 rfl dL_law_1210 rfl ?_
            refine sx_kC X (k_charge (l := l) (D := D) (T := T) (sd := sd) (ad := ad) (pa := pa) (da := da) hP hI hh hR) qm_360 qm_361 qm_362 qm_13 qm_363 hd_X12_charge ⟨rfl, rfl⟩ ⟨Nat.le_of_ble_eq_true rfl, Nat.le_of_ble_eq_true rfl⟩ rfl rfl (Nat.le_of_ble_eq_true rfl) dL_law_1211 hRk hRn ?_
            refine sx_bipush X (v := 12) dL_law_1214 rfl ?_
            refine sx_iadd X dL_law_1216 ?_
            refine sx_topi (y := nI (Z.charge + 12)) (nI_add _ _) ?_
            refine sx_icmp_ge X 1222 dL_law_1217 rfl (fun _ => ?_) (fun hc => absurd (nc_le (a := Z.charge + 12) (b := (P.gu g).2.2.2) (Nat.le_of_not_lt (g5 e hg q q3)) (by omega)) hc)
            exact K1222
          · refine sx_topi (y := nI 0) (congrArg nI (b01_0 q3)) ?_
            refine sx_if_eq X 1222 dL_law_1196 rfl (fun _ => ?_) (fun hc => absurd rfl hc)
            exact K1222
        · refine sx_topi (y := nI 0) (congrArg nI (b01_0 q)) ?_
          refine sx_if_eq X 1222 dL_law_1187 rfl (fun _ => ?_) (fun hc => absurd rfl hc)
          exact K1222
      · refine sx_icmp_ne X 1222 dL_law_1179 rfl (fun _ => ?_) (fun hc => absurd hc (nc_ne e (by omega) (by decide)))
        exact K1222
    have K1125 : SxG p l e room_1 s m args below meth c D A 32 k n Q (LW T sd ad pa da p9 aF aG aO rF rG r P Z (σ) x (zZ T q28 P.ng (bfill (fun j => S.gp j = 3) P.ng) :: zZ T q27 P.ng (bfill (fun j => S.gp j = 2) P.ng) :: zZ T q26 P.ng (bfill (fun j => S.gp j = 1) P.ng) :: tl)) [(31, .int (nI g)), (30, .int (nI ((sumN (fun g => b01 (Z.gp g = 2 ∧ ¬ S.gp g = 2)) g + b01 (Z.gp g = 2 ∧ ¬ S.gp g = 2))))), (29, .int (nI mny)), (26, .ref q26), (27, .ref q27), (28, .ref q28), (24, .int (nI cn0)), (25, .int (nI sm0)), (16, .int (nI N)), (17, .int due), (18, .int u), (19, .int one), (20, .int un), (21, .int was), (22, .int did), (23, .int (nI hr)), (9, .long dg), (0, .ref b), (1, .ref (ad 0)), (2, .int (nI time)), (3, .ref r), (5, .ref p9), (6, .int (nI P.nf)), (7, .int (nI P.ng)), (8, .int (nI step))] 1125 [] := by
      refine sx_aload_n X 18 rfl dL_law_1125 rfl ?_
      refine sx_iload X 0 rfl dL_law_1126 ?_
      refine sx_kC X (k_wasStormed (l := l) (D := D) (T := T) (sd := sd) (ad := ad) (pa := pa) (da := da) hP hI hh hR (j := g) hg) qm_521 qm_522 qm_523 qm_13 qm_524 hd_X12_wasStormed ⟨rfl, rfl⟩ ⟨Nat.le_of_ble_eq_true rfl, Nat.le_of_ble_eq_true rfl⟩ rfl rfl (Nat.le_of_ble_eq_true rfl) dL_law_1128 hRk hRn ?_
      by_cases q : Z.gp g = 3
      · refine sx_topi (y := nI 1) (congrArg nI (b01_1 q)) ?_
        refine sx_if_eq X 1176 dL_law_1131 rfl (fun hc => absurd hc (fun z => absurd z (by decide))) (fun _ => ?_)
        refine sx_aload X 5 rfl dL_law_1134 ?_
        refine sx_iload X 0 rfl dL_law_1136 ?_
        refine sx_zaldN X (62 + (P.nf + (P.ng + 1))) (LW_tl 1) hg (by omega) (bfill_at hg) dL_law_1138 ?_
        refine sx_chg (ws' := LW T sd ad pa da p9 aF aG aO rF rG r P Z (σ) x (zZ T q28 P.ng (bfill (fun j => S.gp j = 3) P.ng) :: zZ T q27 P.ng (bfill (fun j => S.gp j = 2) P.ng) :: zZ T q26 P.ng (bfill (fun j => S.gp j = 1) P.ng) :: tl)) (st' := [.int (nI (b01 (S.gp g = 3)))]) rfl rfl ?_
        by_cases q2 : S.gp g = 3
        · refine sx_topi (y := nI 1) (congrArg nI (b01_1 q2)) ?_
          refine sx_if_ne X 1176 dL_law_1139 rfl (fun _ => ?_) (fun hc => absurd hc (fun z => absurd z (by decide)))
          exact K1176
        · refine sx_topi (y := nI 0) (congrArg nI (b01_0 q2)) ?_
          refine sx_if_ne X 1176 dL_law_1139 rfl (fun hc => absurd rfl hc) (fun _ => ?_)
          obtain ⟨e, q3, q4⟩ := g4 q q2
          refine sx_iload X 2 rfl dL_law_1142 ?_
          refine sx_if_eq X 1220 dL_law_1144 rfl (fun hc => absurd hc (nc_ne (a := mny) (b := 0) (by omega) (by omega) (by decide))) (fun _ => ?_)
          refine sx_aload X 3 rfl dL_law_1147 ?_
          refine sx_iload X 0 rfl dL_law_1149 ?_
          refine sx_zaldN X (62 + (P.nf + (P.ng + 3))) (LW_tl 3) hg (by omega) (bfill_at hg) dL_law_1151 ?_
          refine sx_chg (ws' := LW T sd ad pa da p9 aF aG aO rF rG r P Z (σ) x (zZ T q28 P.ng (bfill (fun j => S.gp j = 3) P.ng) :: zZ T q27 P.ng (bfill (fun j => S.gp j = 2) P.ng) :: zZ T q26 P.ng (bfill (fun j => S.gp j = 1) P.ng) :: tl)) (st' := [.int (nI (b01 (S.gp g = 1)))]) rfl rfl ?_
          refine sx_topi (y := nI 1) (congrArg nI (b01_1 q3)) ?_
          refine sx_if_eq X 1220 dL_law_1152 rfl (fun hc => absurd hc (fun z => absurd z (by decide))) (fun _ => ?_)
          refine sx_aload X 21 rfl dL_law_1155 ?_
          refine sx_get X kX18 59 LW_p 1 (Nat.le_of_ble_eq_true rfl) qm_1147 rfl dL_law_1157 ?_
          refine sx_iload X 0 rfl dL_law_1160 ?_
          refine sx_RldN X 61 LW_aG rfl hg (by omega) dL_law_1162 ?_
          refine sx_get X kX15 (62 + (P.nf + g)) (LW_gu hg) 3 (Nat.le_of_ble_eq_true rfl) qm_1369 rfl dL_law_1163 ?_
          refine sx_aload_n X 18 rfl dL_law_1166 rfl ?_
          refine sx_kC X (k_charge (l := l) (D := D) (T := T) (sd := sd) (ad := ad) (pa := pa) (da := da) hP hI hh hR) qm_360 qm_361 qm_362 qm_13 qm_363 hd_X12_charge ⟨rfl, rfl⟩ ⟨Nat.le_of_ble_eq_true rfl, Nat.le_of_ble_eq_true rfl⟩ rfl rfl (Nat.le_of_ble_eq_true rfl) dL_law_1167 hRk hRn ?_
          refine sx_bipush X (v := 12) dL_law_1170 rfl ?_
          refine sx_iadd X dL_law_1172 ?_
          refine sx_topi (y := nI (Z.charge + 12)) (nI_add _ _) ?_
          refine sx_icmp_ge X 1220 dL_law_1173 rfl (fun hc => absurd hc (nc_nle (a := Z.charge + 12) (b := (P.gu g).2.2.2) q4 (by omega))) (fun _ => ?_)
          exact K1176
      · refine sx_topi (y := nI 0) (congrArg nI (b01_0 q)) ?_
        refine sx_if_eq X 1176 dL_law_1131 rfl (fun _ => ?_) (fun hc => absurd rfl hc)
        exact K1176
    have K1100 : SxG p l e room_1 s m args below meth c D A 32 k n Q (LW T sd ad pa da p9 aF aG aO rF rG r P Z (σ) x (zZ T q28 P.ng (bfill (fun j => S.gp j = 3) P.ng) :: zZ T q27 P.ng (bfill (fun j => S.gp j = 2) P.ng) :: zZ T q26 P.ng (bfill (fun j => S.gp j = 1) P.ng) :: tl)) [(31, .int (nI g)), (30, .int (nI ((sumN (fun g => b01 (Z.gp g = 2 ∧ ¬ S.gp g = 2)) g + b01 (Z.gp g = 2 ∧ ¬ S.gp g = 2))))), (29, .int (nI mny)), (26, .ref q26), (27, .ref q27), (28, .ref q28), (24, .int (nI cn0)), (25, .int (nI sm0)), (16, .int (nI N)), (17, .int due), (18, .int u), (19, .int one), (20, .int un), (21, .int was), (22, .int did), (23, .int (nI hr)), (9, .long dg), (0, .ref b), (1, .ref (ad 0)), (2, .int (nI time)), (3, .ref r), (5, .ref p9), (6, .int (nI P.nf)), (7, .int (nI P.ng)), (8, .int (nI step))] 1100 [] := by
      refine sx_aload_n X 18 rfl dL_law_1100 rfl ?_
      refine sx_iload X 0 rfl dL_law_1101 ?_
      refine sx_kC X (k_wasServed (l := l) (D := D) (T := T) (sd := sd) (ad := ad) (pa := pa) (da := da) hP hI hh hR (j := g) hg) qm_517 qm_518 qm_519 qm_13 qm_520 hd_X12_wasServed ⟨rfl, rfl⟩ ⟨Nat.le_of_ble_eq_true rfl, Nat.le_of_ble_eq_true rfl⟩ rfl rfl (Nat.le_of_ble_eq_true rfl) dL_law_1103 hRk hRn ?_
      by_cases q : Z.gp g = 2
      · refine sx_topi (y := nI 1) (congrArg nI (b01_1 q)) ?_
        refine sx_if_eq X 1125 dL_law_1106 rfl (fun hc => absurd hc (fun z => absurd z (by decide))) (fun _ => ?_)
        refine sx_aload X 4 rfl dL_law_1109 ?_
        refine sx_iload X 0 rfl dL_law_1111 ?_
        refine sx_zaldN X (62 + (P.nf + (P.ng + 2))) (LW_tl 2) hg (by omega) (bfill_at hg) dL_law_1113 ?_
        refine sx_chg (ws' := LW T sd ad pa da p9 aF aG aO rF rG r P Z (σ) x (zZ T q28 P.ng (bfill (fun j => S.gp j = 3) P.ng) :: zZ T q27 P.ng (bfill (fun j => S.gp j = 2) P.ng) :: zZ T q26 P.ng (bfill (fun j => S.gp j = 1) P.ng) :: tl)) (st' := [.int (nI (b01 (S.gp g = 2)))]) rfl rfl ?_
        by_cases q2 : S.gp g = 2
        · refine sx_topi (y := nI 1) (congrArg nI (b01_1 q2)) ?_
          refine sx_if_ne X 1125 dL_law_1114 rfl (fun _ => ?_) (fun hc => absurd hc (fun z => absurd z (by decide)))
          exact K1125
        · refine sx_topi (y := nI 0) (congrArg nI (b01_0 q2)) ?_
          refine sx_if_ne X 1125 dL_law_1114 rfl (fun hc => absurd rfl hc) (fun _ => ?_)
          refine sx_aload X 3 rfl dL_law_1117 ?_
          refine sx_iload X 0 rfl dL_law_1119 ?_
          refine sx_zaldN X (62 + (P.nf + (P.ng + 3))) (LW_tl 3) hg (by omega) (bfill_at hg) dL_law_1121 ?_
          refine sx_chg (ws' := LW T sd ad pa da p9 aF aG aO rF rG r P Z (σ) x (zZ T q28 P.ng (bfill (fun j => S.gp j = 3) P.ng) :: zZ T q27 P.ng (bfill (fun j => S.gp j = 2) P.ng) :: zZ T q26 P.ng (bfill (fun j => S.gp j = 1) P.ng) :: tl)) (st' := [.int (nI (b01 (S.gp g = 1)))]) rfl rfl ?_
          refine sx_topi (y := nI 1) (congrArg nI (b01_1 (g3 q q2))) ?_
          refine sx_if_eq X 1220 dL_law_1122 rfl (fun hc => absurd hc (fun z => absurd z (by decide))) (fun _ => ?_)
          exact K1125
      · refine sx_topi (y := nI 0) (congrArg nI (b01_0 q)) ?_
        refine sx_if_eq X 1125 dL_law_1106 rfl (fun _ => ?_) (fun hc => absurd rfl hc)
        exact K1125
    have K1083 : SxG p l e room_1 s m args below meth c D A 32 k n Q (LW T sd ad pa da p9 aF aG aO rF rG r P Z (σ) x (zZ T q28 P.ng (bfill (fun j => S.gp j = 3) P.ng) :: zZ T q27 P.ng (bfill (fun j => S.gp j = 2) P.ng) :: zZ T q26 P.ng (bfill (fun j => S.gp j = 1) P.ng) :: tl)) [(31, .int (nI g)), (30, .int (nI ((sumN (fun g => b01 (Z.gp g = 2 ∧ ¬ S.gp g = 2)) g + b01 (Z.gp g = 2 ∧ ¬ S.gp g = 2))))), (29, .int (nI mny)), (26, .ref q26), (27, .ref q27), (28, .ref q28), (24, .int (nI cn0)), (25, .int (nI sm0)), (16, .int (nI N)), (17, .int due), (18, .int u), (19, .int one), (20, .int un), (21, .int was), (22, .int did), (23, .int (nI hr)), (9, .long dg), (0, .ref b), (1, .ref (ad 0)), (2, .int (nI time)), (3, .ref r), (5, .ref p9), (6, .int (nI P.nf)), (7, .int (nI P.ng)), (8, .int (nI step))] 1083 [] := by
      refine sx_aload X 5 rfl dL_law_1083 ?_
      refine sx_iload X 0 rfl dL_law_1085 ?_
      refine sx_zaldN X (62 + (P.nf + (P.ng + 1))) (LW_tl 1) hg (by omega) (bfill_at hg) dL_law_1087 ?_
      refine sx_chg (ws' := LW T sd ad pa da p9 aF aG aO rF rG r P Z (σ) x (zZ T q28 P.ng (bfill (fun j => S.gp j = 3) P.ng) :: zZ T q27 P.ng (bfill (fun j => S.gp j = 2) P.ng) :: zZ T q26 P.ng (bfill (fun j => S.gp j = 1) P.ng) :: tl)) (st' := [.int (nI (b01 (S.gp g = 3)))]) rfl rfl ?_
      by_cases q : S.gp g = 3
      · refine sx_topi (y := nI 1) (congrArg nI (b01_1 q)) ?_
        refine sx_if_eq X 1100 dL_law_1088 rfl (fun hc => absurd hc (fun z => absurd z (by decide))) (fun _ => ?_)
        refine sx_aload_n X 18 rfl dL_law_1091 rfl ?_
        refine sx_iload X 0 rfl dL_law_1092 ?_
        refine sx_kC X (k_wasStormed (l := l) (D := D) (T := T) (sd := sd) (ad := ad) (pa := pa) (da := da) hP hI hh hR (j := g) hg) qm_521 qm_522 qm_523 qm_13 qm_524 hd_X12_wasStormed ⟨rfl, rfl⟩ ⟨Nat.le_of_ble_eq_true rfl, Nat.le_of_ble_eq_true rfl⟩ rfl rfl (Nat.le_of_ble_eq_true rfl) dL_law_1094 hRk hRn ?_
        refine sx_topi (y := nI 1) (congrArg nI (b01_1 (g2 q))) ?_
        refine sx_if_eq X 1220 dL_law_1097 rfl (fun hc => absurd hc (fun z => absurd z (by decide))) (fun _ => ?_)
        exact K1100
      · refine sx_topi (y := nI 0) (congrArg nI (b01_0 q)) ?_
        refine sx_if_eq X 1100 dL_law_1088 rfl (fun _ => ?_) (fun hc => absurd rfl hc)
        exact K1100
    have K1063 : ∀ v, v = b01 (Z.gp g = 2 ∧ ¬ S.gp g = 2) → SxG p l e room_1 s m args below meth c D A 32 k n Q (LW T sd ad pa da p9 aF aG aO rF rG r P Z (σ) x (zZ T q28 P.ng (bfill (fun j => S.gp j = 3) P.ng) :: zZ T q27 P.ng (bfill (fun j => S.gp j = 2) P.ng) :: zZ T q26 P.ng (bfill (fun j => S.gp j = 1) P.ng) :: tl)) [(31, .int (nI g)), (30, .int (nI (sumN (fun g => b01 (Z.gp g = 2 ∧ ¬ S.gp g = 2)) g))), (29, .int (nI mny)), (26, .ref q26), (27, .ref q27), (28, .ref q28), (24, .int (nI cn0)), (25, .int (nI sm0)), (16, .int (nI N)), (17, .int due), (18, .int u), (19, .int one), (20, .int un), (21, .int was), (22, .int did), (23, .int (nI hr)), (9, .long dg), (0, .ref b), (1, .ref (ad 0)), (2, .int (nI time)), (3, .ref r), (5, .ref p9), (6, .int (nI P.nf)), (7, .int (nI P.ng)), (8, .int (nI step))] 1063 [.int (nI v), .int (nI (sumN (fun g => b01 (Z.gp g = 2 ∧ ¬ S.gp g = 2)) g))] := by
      intro v hv
      subst hv
      refine sx_iadd X dL_law_1063 ?_
      refine sx_topi (y := nI ((sumN (fun g => b01 (Z.gp g = 2 ∧ ¬ S.gp g = 2)) g) + (b01 (Z.gp g = 2 ∧ ¬ S.gp g = 2)))) (nI_add _ _) ?_
      refine sx_istore X (lv' := [(30, .int (nI ((sumN (fun g => b01 (Z.gp g = 2 ∧ ¬ S.gp g = 2)) g) + (b01 (Z.gp g = 2 ∧ ¬ S.gp g = 2))))), (31, .int (nI g)), (29, .int (nI mny)), (26, .ref q26), (27, .ref q27), (28, .ref q28), (24, .int (nI cn0)), (25, .int (nI sm0)), (16, .int (nI N)), (17, .int due), (18, .int u), (19, .int one), (20, .int un), (21, .int was), (22, .int did), (23, .int (nI hr)), (9, .long dg), (0, .ref b), (1, .ref (ad 0)), (2, .int (nI time)), (3, .ref r), (5, .ref p9), (6, .int (nI P.nf)), (7, .int (nI P.ng)), (8, .int (nI step))]) dL_law_1064 (by decide) rfl ?_
      refine sx_lsub [1, 0, 2, 3, 4, 5, 6, 7, 8, 9, 10, 11, 12, 13, 14, 15, 16, 17, 18, 19, 20, 21, 22, 23, 24] (lv' := [(31, .int (nI g)), (30, .int (nI ((sumN (fun g => b01 (Z.gp g = 2 ∧ ¬ S.gp g = 2)) g + b01 (Z.gp g = 2 ∧ ¬ S.gp g = 2))))), (29, .int (nI mny)), (26, .ref q26), (27, .ref q27), (28, .ref q28), (24, .int (nI cn0)), (25, .int (nI sm0)), (16, .int (nI N)), (17, .int due), (18, .int u), (19, .int one), (20, .int un), (21, .int was), (22, .int did), (23, .int (nI hr)), (9, .long dg), (0, .ref b), (1, .ref (ad 0)), (2, .int (nI time)), (3, .ref r), (5, .ref p9), (6, .int (nI P.nf)), (7, .int (nI P.ng)), (8, .int (nI step))]) rfl ?_
      refine sx_aload X 4 rfl dL_law_1066 ?_
      refine sx_iload X 0 rfl dL_law_1068 ?_
      refine sx_zaldN X (62 + (P.nf + (P.ng + 2))) (LW_tl 2) hg (by omega) (bfill_at hg) dL_law_1070 ?_
      refine sx_chg (ws' := LW T sd ad pa da p9 aF aG aO rF rG r P Z (σ) x (zZ T q28 P.ng (bfill (fun j => S.gp j = 3) P.ng) :: zZ T q27 P.ng (bfill (fun j => S.gp j = 2) P.ng) :: zZ T q26 P.ng (bfill (fun j => S.gp j = 1) P.ng) :: tl)) (st' := [.int (nI (b01 (S.gp g = 2)))]) rfl rfl ?_
      by_cases q : S.gp g = 2
      · refine sx_topi (y := nI 1) (congrArg nI (b01_1 q)) ?_
        refine sx_if_eq X 1083 dL_law_1071 rfl (fun hc => absurd hc (fun z => absurd z (by decide))) (fun _ => ?_)
        refine sx_aload_n X 18 rfl dL_law_1074 rfl ?_
        refine sx_iload X 0 rfl dL_law_1075 ?_
        refine sx_kC X (k_wasServed (l := l) (D := D) (T := T) (sd := sd) (ad := ad) (pa := pa) (da := da) hP hI hh hR (j := g) hg) qm_517 qm_518 qm_519 qm_13 qm_520 hd_X12_wasServed ⟨rfl, rfl⟩ ⟨Nat.le_of_ble_eq_true rfl, Nat.le_of_ble_eq_true rfl⟩ rfl rfl (Nat.le_of_ble_eq_true rfl) dL_law_1077 hRk hRn ?_
        refine sx_topi (y := nI 1) (congrArg nI (b01_1 (g1 q))) ?_
        refine sx_if_eq X 1220 dL_law_1080 rfl (fun hc => absurd hc (fun z => absurd z (by decide))) (fun _ => ?_)
        exact K1083
      · refine sx_topi (y := nI 0) (congrArg nI (b01_0 q)) ?_
        refine sx_if_eq X 1083 dL_law_1071 rfl (fun _ => ?_) (fun hc => absurd rfl hc)
        exact K1083
    refine sx_iload X 0 rfl dL_law_1032 ?_
    refine sx_iload X 23 rfl dL_law_1034 ?_
    refine sx_icmp_ge X 1228 dL_law_1036 rfl (fun hc => absurd hc (nc_nle hg (by omega))) (fun _ => ?_)
    refine sx_iload X 1 rfl dL_law_1039 ?_
    refine sx_aload_n X 18 rfl dL_law_1041 rfl ?_
    refine sx_iload X 0 rfl dL_law_1042 ?_
    refine sx_kC X (k_wasServed (l := l) (D := D) (T := T) (sd := sd) (ad := ad) (pa := pa) (da := da) hP hI hh hR (j := g) hg) qm_517 qm_518 qm_519 qm_13 qm_520 hd_X12_wasServed ⟨rfl, rfl⟩ ⟨Nat.le_of_ble_eq_true rfl, Nat.le_of_ble_eq_true rfl⟩ rfl rfl (Nat.le_of_ble_eq_true rfl) dL_law_1044 hRk hRn ?_
    by_cases q : Z.gp g = 2
    · refine sx_topi (y := nI 1) (congrArg nI (b01_1 q)) ?_
      refine sx_if_eq X 1062 dL_law_1047 rfl (fun hc => absurd hc (fun z => absurd z (by decide))) (fun _ => ?_)
      refine sx_aload X 4 rfl dL_law_1050 ?_
      refine sx_iload X 0 rfl dL_law_1052 ?_
      refine sx_zaldN X (62 + (P.nf + (P.ng + 2))) (LW_tl 2) hg (by omega) (bfill_at hg) dL_law_1054 ?_
      refine sx_chg (ws' := LW T sd ad pa da p9 aF aG aO rF rG r P Z (σ) x (zZ T q28 P.ng (bfill (fun j => S.gp j = 3) P.ng) :: zZ T q27 P.ng (bfill (fun j => S.gp j = 2) P.ng) :: zZ T q26 P.ng (bfill (fun j => S.gp j = 1) P.ng) :: tl)) (st' := [.int (nI (b01 (S.gp g = 2))), .int (nI (sumN (fun g => b01 (Z.gp g = 2 ∧ ¬ S.gp g = 2)) g))]) rfl rfl ?_
      by_cases q2 : S.gp g = 2
      · refine sx_topi (y := nI 1) (congrArg nI (b01_1 q2)) ?_
        refine sx_if_ne X 1062 dL_law_1055 rfl (fun _ => ?_) (fun hc => absurd hc (fun z => absurd z (by decide)))
        refine sx_iconst X (v := 0) dL_law_1062 rfl ?_
        exact K1063 0 (b01_0 (fun z => z.2 q2)).symm
      · refine sx_topi (y := nI 0) (congrArg nI (b01_0 q2)) ?_
        refine sx_if_ne X 1062 dL_law_1055 rfl (fun hc => absurd rfl hc) (fun _ => ?_)
        refine sx_iconst X (v := 1) dL_law_1058 rfl ?_
        refine sx_goto X 1063 dL_law_1059 rfl ?_
        exact K1063 1 (b01_1 ⟨q, q2⟩).symm
    · refine sx_topi (y := nI 0) (congrArg nI (b01_0 q)) ?_
      refine sx_if_eq X 1062 dL_law_1047 rfl (fun _ => ?_) (fun hc => absurd rfl hc)
      refine sx_iconst X (v := 0) dL_law_1062 rfl ?_
      exact K1063 0 (b01_0 (fun z => q z.1)).symm
end LAWH
