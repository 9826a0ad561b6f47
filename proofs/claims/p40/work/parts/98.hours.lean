/-! THE LAW'S HOURS: one after the other -/
theorem stormsS_mono {P : Pl} {S : Sp} {i : Nat} : ∀ d, stormsS P S i ≤ stormsS P S (i + d)
  | 0 => Nat.le_refl _
  | d + 1 => Nat.le_trans (stormsS_mono d) (Nat.le_add_right _ _)
theorem gp2_mono {P : Pl} (hP : PlOk P) {S : Sp} (hI : Iv P S) {i g : Nat} (h : (hoursS P S i).gp g = 2) : ∀ d, (hoursS P S (i + d)).gp g = 2
  | 0 => h
  | d + 1 => by
    have hi := Iv_hours hP hI (i + d)
    obtain ⟨-, -, -, l4, -⟩ := hour_law hP hi.1 hi.2.1
    exact (l4 g).1 (gp2_mono hP hI h d)
theorem m1_nI {a : Nat} (h : a < 2 ^ 31) : ¬ (-1 : Int32) = nI a := fun q => by
  have h1 := congrArg Int32.toInt q
  rw [nI_toInt h] at h1
  have : (-1 : Int32).toInt = -1 := rfl
  omega
theorem storm_hd {P : Pl} {S : Sp} {u : Int32} (hu : StormIn P S u) {i : Nat} (hi : i < 60) (hz : ¬ 0 < stormsS P S i) : stormy P (hoursS P S i) = 1 ↔ u = nI (i + 1) := by
  have e1 : stormsS P S (i + 1) = stormsS P S i + stormy P (hoursS P S i) := rfl
  have hle := stormy_le P (hoursS P S i)
  rcases hu with ⟨k, k1, k2, rfl, k3, k4⟩ | ⟨rfl, k4⟩
  · have hk : i < k := by
      refine Nat.lt_of_not_le (fun q => ?_)
      have := stormsS_mono (P := P) (S := S) (i := k) (i - k)
      rw [show k + (i - k) = i by omega] at this
      omega
    constructor
    · intro h
      have : ¬ i + 1 < k := fun q => by
        have := k4 (i + 1) q
        omega
      exact congrArg nI (by omega)
    · intro h
      have : k = i + 1 := (nI_eq (by omega) (by omega)).mp h
      subst this
      omega
  · constructor
    · intro h
      have := stormsS_mono (P := P) (S := S) (i := i + 1) (60 - (i + 1))
      rw [show i + 1 + (60 - (i + 1)) = 60 by omega] at this
      omega
    · intro h
      exact absurd h (m1_nI (by omega))
theorem serve_hw {P : Pl} (hP : PlOk P) {S : Sp} (hI : Iv P S) {un : Int32} {w : Nat} (hu : ServeIn P S w un) {i : Nat} (hi : i < 60) (hz : ¬ (hoursS P S i).gp w = 2) : (hourS P (hoursS P S i)).gp w = 2 ↔ un = nI (i + 1) := by
  rcases hu with ⟨k, k2, rfl, k3, k4⟩ | ⟨rfl, k4⟩
  · have hk : i < k := by
      refine Nat.lt_of_not_le (fun q => ?_)
      have := gp2_mono hP hI k3 (i - k)
      rw [show k + (i - k) = i by omega] at this
      exact hz this
    constructor
    · intro h
      have : ¬ i + 1 < k := fun q => k4 (i + 1) q h
      exact congrArg nI (by omega)
    · intro h
      have : k = i + 1 := (nI_eq (by omega) (by omega)).mp h
      subst this
      exact k3
  · constructor
    · intro h
      exact absurd h (k4 (i + 1) (by omega))
    · intro h
      exact absurd h (m1_nI (by omega))
section LAWJ
variable {l : Launch} {D : va_G} {T : Nat → ClassId} {sd : SdT} {jd : JdT} {p : Program} {e : Env} {s : State} {m : MethodId} {args : Array Value} {below : List Frame} {meth : Method} {c : Code} {A : Nat → Prop} {Q : State → Prop} {ad pa da : Nat → Nat} {p9 aF aG aO r b time step k n : Nat} {rF rG rO : Nat → Nat} {P : Pl} {S : Sp} {σ : CSt} {x : Int32} {tl : va_W}
set_option maxRecDepth 100000 in
set_option maxHeartbeats 4000000 in
theorem lw_hr (XY : LwX p s m args meth c D T A sd jd) (hRk : k + 3 ≤ 600086) (hRn : n + 21 ≤ 7301442) (hP : PlOk P) (hI : Iv P S) (hh : S.hour < 2 ^ 28) (hR : CR P S σ) (hh2 : S.hour < 2 ^ 27) (hT : TlOk T aO rO P tl) {dg : Int64} {due u one un was did : Int32} {N hr : Nat} (hN : hr ≤ N) (hN6 : N ≤ 6) {dq wq : Prop} [Decidable dq] [Decidable wq] (hdid : did = nI (b01 dq)) (hd : ¬ dq → (stormy P S = 1 ↔ u = nI hr)) (hone : one = -1 ∨ ∃ w, w < P.ng ∧ one = nI w ∧ was = nI (b01 wq) ∧ (¬ wq → ((hourS P S).gp w = 2 ↔ un = nI hr))) (kk : ∀ σ' did' was', CR P (hourS P S) σ' → did' = nI (b01 (dq ∨ 0 < stormy P S)) → ((one = -1 ∧ was' = was) ∨ ∃ w, w < P.ng ∧ one = nI w ∧ was' = nI (b01 (wq ∨ (hourS P S).gp w = 2))) → SxG p l e room_1 s m args below meth c D A 32 (k + 3) (n + 21) Q (LW T sd ad pa da p9 aF aG aO rF rG r P (hourS P S) (σ') x tl) [(16, .int (nI N)), (17, .int due), (18, .int u), (19, .int one), (20, .int un), (21, .int was'), (22, .int did'), (23, .int (nI (hr + 1))), (9, .long dg), (0, .ref b), (1, .ref (ad 0)), (2, .int (nI time)), (3, .ref r), (5, .ref p9), (6, .int (nI P.nf)), (7, .int (nI P.ng)), (8, .int (nI step))] 860 []) : SxG p l e room_1 s m args below meth c D A 32 k n Q (LW T sd ad pa da p9 aF aG aO rF rG r P S (σ) x tl) [(16, .int (nI N)), (17, .int due), (18, .int u), (19, .int one), (20, .int un), (21, .int was), (22, .int did), (23, .int (nI hr)), (9, .long dg), (0, .ref b), (1, .ref (ad 0)), (2, .int (nI time)), (3, .ref r), (5, .ref p9), (6, .int (nI P.nf)), (7, .int (nI P.ng)), (8, .int (nI step))] 860 [] := by
  have X := XY.dn (SFx_ok sd)
  have hng := hP.2.1
  have hnf := hP.1
  refine sx_iload X 7 rfl dL_law_860 ?_
  refine sx_iload X 0 rfl dL_law_862 ?_
  refine sx_icmp_gt X 1347 dL_law_864 rfl (fun hc => absurd hc (nc_nlt (a := N) (b := hr) hN (by omega))) (fun _ => ?_)
  refine sx_aload_n X 10 rfl dL_law_867 rfl ?_
  refine sx_kC X (k_coins (l := l) (D := D) (T := T) (sd := sd) (ad := ad) (pa := pa) (da := da) hP hI hh hR) qm_372 qm_373 qm_374 qm_13 qm_375 hd_X12_coins ⟨rfl, rfl⟩ ⟨Nat.le_of_ble_eq_true rfl, Nat.le_of_ble_eq_true rfl⟩ rfl rfl (Nat.le_of_ble_eq_true rfl) dL_law_868 (by show k ≤ 600086; omega) (by show n ≤ 7301442; omega) ?_
  refine sx_istore X (lv' := [(24, .int (nI S.coins)), (16, .int (nI N)), (17, .int due), (18, .int u), (19, .int one), (20, .int un), (21, .int was), (22, .int did), (23, .int (nI hr)), (9, .long dg), (0, .ref b), (1, .ref (ad 0)), (2, .int (nI time)), (3, .ref r), (5, .ref p9), (6, .int (nI P.nf)), (7, .int (nI P.ng)), (8, .int (nI step))]) dL_law_871 (by decide) rfl ?_
  refine sx_aload_n X 11 rfl dL_law_873 rfl ?_
  refine sx_kC X (k_storms (l := l) (D := D) (T := T) (sd := sd) (ad := ad) (pa := pa) (da := da) hP hI hh hR) qm_376 qm_377 qm_378 qm_13 qm_379 hd_X12_storms ⟨rfl, rfl⟩ ⟨Nat.le_of_ble_eq_true rfl, Nat.le_of_ble_eq_true rfl⟩ rfl rfl (Nat.le_of_ble_eq_true rfl) dL_law_874 (by show k ≤ 600086; omega) (by show n ≤ 7301442; omega) ?_
  refine sx_istore X (lv' := [(25, .int (nI S.storms)), (24, .int (nI S.coins)), (16, .int (nI N)), (17, .int due), (18, .int u), (19, .int one), (20, .int un), (21, .int was), (22, .int did), (23, .int (nI hr)), (9, .long dg), (0, .ref b), (1, .ref (ad 0)), (2, .int (nI time)), (3, .ref r), (5, .ref p9), (6, .int (nI P.nf)), (7, .int (nI P.ng)), (8, .int (nI step))]) dL_law_877 (by decide) rfl ?_
  refine sx_iload X 17 rfl dL_law_879 ?_
  refine sx_newz X (N' := P.ng) (nI_pos (by omega)) (nI_clamp (by omega)) (by omega) (by show k + 1 ≤ 600086; omega) (by show n + P.ng ≤ 7301442; omega) qm_173 dL_law_881 (fun q26 => ?_)
  refine sx_perm (LW_new _) ?_
  refine sx_chgw (congrArg (fun f : Nat → Int32 => LW T sd ad pa da p9 aF aG aO rF rG r P S σ x (zZ T q26 P.ng f :: tl)) (bfill_0 (fun j => S.gp j = 1))) ?_
  refine sx_chg (ws' := LW T sd ad pa da p9 aF aG aO rF rG r P S (σ) x (zZ T q26 P.ng (bfill (fun j => S.gp j = 1) 0) :: tl)) (st' := [.ref q26]) rfl rfl ?_
  refine sx_astore X (lv' := [(26, .ref q26), (25, .int (nI S.storms)), (24, .int (nI S.coins)), (16, .int (nI N)), (17, .int due), (18, .int u), (19, .int one), (20, .int un), (21, .int was), (22, .int did), (23, .int (nI hr)), (9, .long dg), (0, .ref b), (1, .ref (ad 0)), (2, .int (nI time)), (3, .ref r), (5, .ref p9), (6, .int (nI P.nf)), (7, .int (nI P.ng)), (8, .int (nI step))]) dL_law_883 (by decide) rfl ?_
  refine sx_iload X 18 rfl dL_law_885 ?_
  refine sx_newz X (N' := P.ng) (nI_pos (by omega)) (nI_clamp (by omega)) (by omega) (by show k + 2 ≤ 600086; omega) (by show n + P.ng + P.ng ≤ 7301442; omega) qm_173 dL_law_887 (fun q27 => ?_)
  refine sx_perm (LW_new _) ?_
  refine sx_chgw (congrArg (fun f : Nat → Int32 => LW T sd ad pa da p9 aF aG aO rF rG r P S σ x (zZ T q27 P.ng f :: zZ T q26 P.ng (bfill (fun j => S.gp j = 1) 0) :: tl)) (bfill_0 (fun j => S.gp j = 2))) ?_
  refine sx_chg (ws' := LW T sd ad pa da p9 aF aG aO rF rG r P S (σ) x (zZ T q27 P.ng (bfill (fun j => S.gp j = 2) 0) :: zZ T q26 P.ng (bfill (fun j => S.gp j = 1) 0) :: tl)) (st' := [.ref q27]) rfl rfl ?_
  refine sx_astore X (lv' := [(27, .ref q27), (26, .ref q26), (25, .int (nI S.storms)), (24, .int (nI S.coins)), (16, .int (nI N)), (17, .int due), (18, .int u), (19, .int one), (20, .int un), (21, .int was), (22, .int did), (23, .int (nI hr)), (9, .long dg), (0, .ref b), (1, .ref (ad 0)), (2, .int (nI time)), (3, .ref r), (5, .ref p9), (6, .int (nI P.nf)), (7, .int (nI P.ng)), (8, .int (nI step))]) dL_law_889 (by decide) rfl ?_
  refine sx_iload X 19 rfl dL_law_891 ?_
  refine sx_newz X (N' := P.ng) (nI_pos (by omega)) (nI_clamp (by omega)) (by omega) (by show k + 3 ≤ 600086; omega) (by show n + P.ng + P.ng + P.ng ≤ 7301442; omega) qm_173 dL_law_893 (fun q28 => ?_)
  refine sx_perm (LW_new _) ?_
  refine sx_chgw (congrArg (fun f : Nat → Int32 => LW T sd ad pa da p9 aF aG aO rF rG r P S σ x (zZ T q28 P.ng f :: zZ T q27 P.ng (bfill (fun j => S.gp j = 2) 0) :: zZ T q26 P.ng (bfill (fun j => S.gp j = 1) 0) :: tl)) (bfill_0 (fun j => S.gp j = 3))) ?_
  refine sx_chg (ws' := LW T sd ad pa da p9 aF aG aO rF rG r P S (σ) x (zZ T q28 P.ng (bfill (fun j => S.gp j = 3) 0) :: zZ T q27 P.ng (bfill (fun j => S.gp j = 2) 0) :: zZ T q26 P.ng (bfill (fun j => S.gp j = 1) 0) :: tl)) (st' := [.ref q28]) rfl rfl ?_
  refine sx_astore X (lv' := [(28, .ref q28), (27, .ref q27), (26, .ref q26), (25, .int (nI S.storms)), (24, .int (nI S.coins)), (16, .int (nI N)), (17, .int due), (18, .int u), (19, .int one), (20, .int un), (21, .int was), (22, .int did), (23, .int (nI hr)), (9, .long dg), (0, .ref b), (1, .ref (ad 0)), (2, .int (nI time)), (3, .ref r), (5, .ref p9), (6, .int (nI P.nf)), (7, .int (nI P.ng)), (8, .int (nI step))]) dL_law_895 (by decide) rfl ?_
  refine sx_widen (k' := k + 3) (n' := n + 21) (by omega) (by omega) ?_
  refine sx_iconst X (v := 0) dL_law_897 rfl ?_
  refine sx_istore X (lv' := [(29, .int 0), (28, .ref q28), (27, .ref q27), (26, .ref q26), (25, .int (nI S.storms)), (24, .int (nI S.coins)), (16, .int (nI N)), (17, .int due), (18, .int u), (19, .int one), (20, .int un), (21, .int was), (22, .int did), (23, .int (nI hr)), (9, .long dg), (0, .ref b), (1, .ref (ad 0)), (2, .int (nI time)), (3, .ref r), (5, .ref p9), (6, .int (nI P.nf)), (7, .int (nI P.ng)), (8, .int (nI step))]) dL_law_898 (by decide) rfl ?_
  refine sx_lsub [0, 3, 2, 1, 5, 4, 6, 7, 8, 9, 10, 11, 12, 13, 14, 15, 16, 17, 18, 19, 20, 21, 22] (lv' := [(29, .int (nI 0)), (26, .ref q26), (27, .ref q27), (28, .ref q28), (24, .int (nI S.coins)), (25, .int (nI S.storms)), (16, .int (nI N)), (17, .int due), (18, .int u), (19, .int one), (20, .int un), (21, .int was), (22, .int did), (23, .int (nI hr)), (9, .long dg), (0, .ref b), (1, .ref (ad 0)), (2, .int (nI time)), (3, .ref r), (5, .ref p9), (6, .int (nI P.nf)), (7, .int (nI P.ng)), (8, .int (nI step))]) rfl ?_
  refine lw_A (k := k + 3) (n := n + 21) XY hRk hRn hP hI hh hR ?_ P.ng 0 (Nat.zero_add _)
  have hT2 : TlOk T aO rO P (zZ T q28 P.ng (bfill (fun j => S.gp j = 3) P.ng) :: zZ T q27 P.ng (bfill (fun j => S.gp j = 2) P.ng) :: zZ T q26 P.ng (bfill (fun j => S.gp j = 1) P.ng) :: tl) := TlOk_mono hT (fun q hq => List.mem_cons_of_mem _ (List.mem_cons_of_mem _ (List.mem_cons_of_mem _ hq)))
  refine sx_aload_n X 16 rfl dL_law_946 rfl ?_
  refine sx_iconst X (v := 1) dL_law_947 rfl ?_
  refine law_hours (k := k + 3) (n := n + 21) XY hRk hRn hP hI hh hR (rest := []) (Nat.le_of_ble_eq_true rfl) (fun σ' hR' => ?_)
  have hR' : CR P (hourS P S) σ' := hR'
  refine sx_topi (y := nI (stormy P S)) (congrArg nI (Nat.zero_add _)) ?_
  refine sx_istore X (lv' := [(29, .int (nI (stormy P S))), (26, .ref q26), (27, .ref q27), (28, .ref q28), (24, .int (nI S.coins)), (25, .int (nI S.storms)), (16, .int (nI N)), (17, .int due), (18, .int u), (19, .int one), (20, .int un), (21, .int was), (22, .int did), (23, .int (nI hr)), (9, .long dg), (0, .ref b), (1, .ref (ad 0)), (2, .int (nI time)), (3, .ref r), (5, .ref p9), (6, .int (nI P.nf)), (7, .int (nI P.ng)), (8, .int (nI step))]) dL_law_951 (by decide) rfl ?_
  refine sx_iload X 0 rfl dL_law_953 ?_
  refine sx_aload X 19 rfl dL_law_955 ?_
  refine law_pass (k := k + 3) (n := n + 21) XY hRk hRn hP hI hh hT2 (rest := [.int (nI (stormy P S))]) (Nat.le_of_ble_eq_true rfl) ?_
  have hI' : Iv P (hourS P S) := Iv_hour hP hI
  have hho : (hourS P S).hour = S.hour + 1 := (SpB_hours (P := P) hI.1 1).2
  have hh' : (hourS P S).hour < 2 ^ 28 := by omega
  obtain ⟨l1, l2, l3, l4, l5, l6, l7⟩ := hour_law hP hI.1 hI.2.1
  have hsl := stormy_le P S
  have hst := hourS_st P hI.1
  have hco := Iv_coins hP hI
  have hco' := Iv_coins hP hI'
  have hsh := hI.2.2.2
  have hmo : sumN (fun g => b01 ((hourS P S).gp g = 2 ∧ ¬ S.gp g = 2)) P.ng + cntS P S 2 = cntS P (hourS P S) 2 := more_ok (P := P) (S := S) (S' := hourS P S) (fun g => (l4 g).1) P.ng
  have hcz := cntS_le hP (hourS P S) 2
  have hng := hP.2.1
  have hst2 := hI'.1.2.1
  refine sx_icmp_ne X 1024 dL_law_960 rfl (fun hc => absurd rfl hc) (fun _ => ?_)
  refine sx_iload X 0 rfl dL_law_963 ?_
  refine sx_iconst X (v := 1) dL_law_965 rfl ?_
  refine sx_icmp_gt X 1024 dL_law_966 rfl (fun hc => absurd hc (nc_nlt (a := 1) (b := stormy P S) hsl (by decide))) (fun _ => ?_)
  refine sx_iload X 0 rfl dL_law_969 ?_
  refine sx_if_lt X 1024 dL_law_971 rfl (fun hc => absurd hc (nc_nlt (a := stormy P S) (b := 0) (Nat.zero_le _) (by omega))) (fun _ => ?_)
  refine sx_aload_n X 16 rfl dL_law_974 rfl ?_
  refine sx_kC X (k_storms (l := l) (D := D) (T := T) (sd := sd) (ad := ad) (pa := pa) (da := da) hP hI' hh' hR') qm_376 qm_377 qm_378 qm_13 qm_379 hd_X12_storms ⟨rfl, rfl⟩ ⟨Nat.le_of_ble_eq_true rfl, Nat.le_of_ble_eq_true rfl⟩ rfl rfl (Nat.le_of_ble_eq_true rfl) dL_law_975 hRk hRn ?_
  refine sx_iload X 5 rfl dL_law_978 ?_
  refine sx_iload X 0 rfl dL_law_980 ?_
  refine sx_iadd X dL_law_982 ?_
  refine sx_topi (y := nI (S.storms + (stormy P S))) (nI_add _ _) ?_
  refine sx_icmp_ne X 1024 dL_law_983 rfl (fun hc => absurd (congrArg nI hst) hc) (fun _ => ?_)
  refine sx_lsub [0, 1, 2, 3, 4, 5, 6, 7, 8, 9, 10, 11, 12, 13, 14, 15, 16, 17, 18, 19, 20, 21, 22] (lv' := [(29, .int (nI (stormy P S))), (26, .ref q26), (27, .ref q27), (28, .ref q28), (24, .int (nI S.coins)), (25, .int (nI S.storms)), (16, .int (nI N)), (17, .int due), (18, .int u), (19, .int one), (20, .int un), (21, .int was), (22, .int did), (23, .int (nI hr)), (9, .long dg), (0, .ref b), (1, .ref (ad 0)), (2, .int (nI time)), (3, .ref r), (5, .ref p9), (6, .int (nI P.nf)), (7, .int (nI P.ng)), (8, .int (nI step))]) rfl ?_
  have K1341 : ∀ did' was', did' = nI (b01 (dq ∨ 0 < stormy P S)) → ((one = -1 ∧ was' = was) ∨ ∃ w, w < P.ng ∧ one = nI w ∧ was' = nI (b01 (wq ∨ (hourS P S).gp w = 2))) → SxG p l e room_1 s m args below meth c D A 32 (k + 3) (n + 21) Q (LW T sd ad pa da p9 aF aG aO rF rG r P (hourS P S) (σ') x (zZ T q28 P.ng (bfill (fun j => S.gp j = 3) P.ng) :: zZ T q27 P.ng (bfill (fun j => S.gp j = 2) P.ng) :: zZ T q26 P.ng (bfill (fun j => S.gp j = 1) P.ng) :: tl)) [(29, .int (nI (stormy P S))), (26, .ref q26), (27, .ref q27), (28, .ref q28), (24, .int (nI S.coins)), (25, .int (nI S.storms)), (16, .int (nI N)), (17, .int due), (18, .int u), (19, .int one), (20, .int un), (21, .int was'), (22, .int did'), (23, .int (nI hr)), (9, .long dg), (0, .ref b), (1, .ref (ad 0)), (2, .int (nI time)), (3, .ref r), (5, .ref p9), (6, .int (nI P.nf)), (7, .int (nI P.ng)), (8, .int (nI step))] 1341 [] := by
    intro did' was' hd' hw'
    refine sx_iinc X (v := nI (hr + 1)) (lv' := [(23, .int (nI (hr + 1))), (29, .int (nI (stormy P S))), (26, .ref q26), (27, .ref q27), (28, .ref q28), (24, .int (nI S.coins)), (25, .int (nI S.storms)), (16, .int (nI N)), (17, .int due), (18, .int u), (19, .int one), (20, .int un), (21, .int was'), (22, .int did'), (9, .long dg), (0, .ref b), (1, .ref (ad 0)), (2, .int (nI time)), (3, .ref r), (5, .ref p9), (6, .int (nI P.nf)), (7, .int (nI P.ng)), (8, .int (nI step))]) 13 rfl dL_law_1341 (nI_add hr 1) (by decide) rfl ?_
    refine sx_goto X 860 dL_law_1344 rfl ?_
    refine sx_lsub [7, 8, 9, 10, 11, 12, 13, 0, 14, 15, 16, 17, 18, 19, 20, 21, 22] (lv' := [(16, .int (nI N)), (17, .int due), (18, .int u), (19, .int one), (20, .int un), (21, .int was'), (22, .int did'), (23, .int (nI (hr + 1))), (9, .long dg), (0, .ref b), (1, .ref (ad 0)), (2, .int (nI time)), (3, .ref r), (5, .ref p9), (6, .int (nI P.nf)), (7, .int (nI P.ng)), (8, .int (nI step))]) rfl ?_
    refine LW_drop (tl := tl) [zZ T q28 P.ng (bfill (fun j => S.gp j = 3) P.ng), zZ T q27 P.ng (bfill (fun j => S.gp j = 2) P.ng), zZ T q26 P.ng (bfill (fun j => S.gp j = 1) P.ng)] ?_
    exact kk σ' did' was' hR' hd' hw'
  have K1304 : ∀ did', did' = nI (b01 (dq ∨ 0 < stormy P S)) → SxG p l e room_1 s m args below meth c D A 32 (k + 3) (n + 21) Q (LW T sd ad pa da p9 aF aG aO rF rG r P (hourS P S) (σ') x (zZ T q28 P.ng (bfill (fun j => S.gp j = 3) P.ng) :: zZ T q27 P.ng (bfill (fun j => S.gp j = 2) P.ng) :: zZ T q26 P.ng (bfill (fun j => S.gp j = 1) P.ng) :: tl)) [(29, .int (nI (stormy P S))), (26, .ref q26), (27, .ref q27), (28, .ref q28), (24, .int (nI S.coins)), (25, .int (nI S.storms)), (16, .int (nI N)), (17, .int due), (18, .int u), (19, .int one), (20, .int un), (21, .int was), (22, .int did'), (23, .int (nI hr)), (9, .long dg), (0, .ref b), (1, .ref (ad 0)), (2, .int (nI time)), (3, .ref r), (5, .ref p9), (6, .int (nI P.nf)), (7, .int (nI P.ng)), (8, .int (nI step))] 1304 [] := by
    intro did' hd'
    rcases hone with e1 | ⟨w, hw, e1, e2, hwq⟩
    · refine sx_iload X 9 rfl dL_law_1304 ?_
      subst e1
      refine sx_if_lt X 1341 dL_law_1306 rfl (fun _ => ?_) (fun hc => absurd (by decide) hc)
      exact K1341 did' was hd' (Or.inl ⟨rfl, rfl⟩)
    · refine sx_iload X 9 rfl dL_law_1304 ?_
      subst e1
      subst e2
      refine sx_if_lt X 1341 dL_law_1306 rfl (fun hc => absurd hc (nc_nlt (a := w) (b := 0) (Nat.zero_le _) (by omega))) (fun _ => ?_)
      refine sx_iload X 11 rfl dL_law_1309 ?_
      by_cases q : wq
      · refine sx_topi (y := nI 1) (congrArg nI (b01_1 q)) ?_
        refine sx_if_ne X 1341 dL_law_1311 rfl (fun _ => ?_) (fun hc => absurd hc (fun z => absurd z (by decide)))
        refine K1341 did' _ hd' (Or.inr ⟨w, hw, rfl, ?_⟩)
        rw [b01_1 q, b01_1 (Or.inl q)]
      · refine sx_topi (y := nI 0) (congrArg nI (b01_0 q)) ?_
        refine sx_if_ne X 1341 dL_law_1311 rfl (fun hc => absurd rfl hc) (fun _ => ?_)
        refine sx_aload_n X 16 rfl dL_law_1314 rfl ?_
        refine sx_iload X 9 rfl dL_law_1315 ?_
        refine sx_kC X (k_wasServed (l := l) (D := D) (T := T) (sd := sd) (ad := ad) (pa := pa) (da := da) hP hI' hh' hR' (j := w) hw) qm_517 qm_518 qm_519 qm_13 qm_520 hd_X12_wasServed ⟨rfl, rfl⟩ ⟨Nat.le_of_ble_eq_true rfl, Nat.le_of_ble_eq_true rfl⟩ rfl rfl (Nat.le_of_ble_eq_true rfl) dL_law_1317 hRk hRn ?_
        refine sx_istore X (lv' := [(21, .int (nI (b01 ((hourS P S).gp w = 2)))), (29, .int (nI (stormy P S))), (26, .ref q26), (27, .ref q27), (28, .ref q28), (24, .int (nI S.coins)), (25, .int (nI S.storms)), (16, .int (nI N)), (17, .int due), (18, .int u), (19, .int (nI w)), (20, .int un), (22, .int did'), (23, .int (nI hr)), (9, .long dg), (0, .ref b), (1, .ref (ad 0)), (2, .int (nI time)), (3, .ref r), (5, .ref p9), (6, .int (nI P.nf)), (7, .int (nI P.ng)), (8, .int (nI step))]) dL_law_1320 (by decide) rfl ?_
        refine sx_iload X 0 rfl dL_law_1322 ?_
        refine sx_iload X 11 rfl dL_law_1324 ?_
        refine sx_iload X 13 rfl dL_law_1326 ?_
        have K1336 : ∀ v, v = b01 ((hourS P S).gp w = 2) → SxG p l e room_1 s m args below meth c D A 32 (k + 3) (n + 21) Q (LW T sd ad pa da p9 aF aG aO rF rG r P (hourS P S) (σ') x (zZ T q28 P.ng (bfill (fun j => S.gp j = 3) P.ng) :: zZ T q27 P.ng (bfill (fun j => S.gp j = 2) P.ng) :: zZ T q26 P.ng (bfill (fun j => S.gp j = 1) P.ng) :: tl)) [(21, .int (nI (b01 ((hourS P S).gp w = 2)))), (29, .int (nI (stormy P S))), (26, .ref q26), (27, .ref q27), (28, .ref q28), (24, .int (nI S.coins)), (25, .int (nI S.storms)), (16, .int (nI N)), (17, .int due), (18, .int u), (19, .int (nI w)), (20, .int un), (22, .int did'), (23, .int (nI hr)), (9, .long dg), (0, .ref b), (1, .ref (ad 0)), (2, .int (nI time)), (3, .ref r), (5, .ref p9), (6, .int (nI P.nf)), (7, .int (nI P.ng)), (8, .int (nI step))] 1336 [.int (nI v), .int (nI (b01 ((hourS P S).gp w = 2)))] := by
          intro v hv
          subst hv
          refine sx_icmp_eq X 1341 dL_law_1336 rfl (fun _ => ?_) (fun hc => absurd rfl hc)
          refine sx_lsub [1, 2, 3, 4, 5, 6, 7, 8, 9, 10, 11, 0, 12, 13, 14, 15, 16, 17, 18, 19, 20, 21, 22] (lv' := [(29, .int (nI (stormy P S))), (26, .ref q26), (27, .ref q27), (28, .ref q28), (24, .int (nI S.coins)), (25, .int (nI S.storms)), (16, .int (nI N)), (17, .int due), (18, .int u), (19, .int (nI w)), (20, .int un), (21, .int (nI (b01 ((hourS P S).gp w = 2)))), (22, .int did'), (23, .int (nI hr)), (9, .long dg), (0, .ref b), (1, .ref (ad 0)), (2, .int (nI time)), (3, .ref r), (5, .ref p9), (6, .int (nI P.nf)), (7, .int (nI P.ng)), (8, .int (nI step))]) rfl ?_
          refine K1341 did' _ hd' (Or.inr ⟨w, hw, rfl, congrArg nI (b01_iff ⟨Or.inr, fun h => h.resolve_left q⟩)⟩)
        by_cases z : un = nI hr
        · refine sx_icmp_ne X 1335 dL_law_1328 rfl (fun hc => absurd z hc) (fun _ => ?_)
          refine sx_iconst X (v := 1) dL_law_1331 rfl ?_
          refine sx_goto X 1336 dL_law_1332 rfl ?_
          exact K1336 1 (b01_1 ((hwq q).mpr z)).symm
        · refine sx_icmp_ne X 1335 dL_law_1328 rfl (fun _ => ?_) (fun hc => absurd hc z)
          refine sx_iconst X (v := 0) dL_law_1335 rfl ?_
          exact K1336 0 (b01_0 (fun h => z ((hwq q).mp h))).symm
  have K1268 : SxG p l e room_1 s m args below meth c D A 32 (k + 3) (n + 21) Q (LW T sd ad pa da p9 aF aG aO rF rG r P (hourS P S) (σ') x (zZ T q28 P.ng (bfill (fun j => S.gp j = 3) P.ng) :: zZ T q27 P.ng (bfill (fun j => S.gp j = 2) P.ng) :: zZ T q26 P.ng (bfill (fun j => S.gp j = 1) P.ng) :: tl)) [(29, .int (nI (stormy P S))), (26, .ref q26), (27, .ref q27), (28, .ref q28), (24, .int (nI S.coins)), (25, .int (nI S.storms)), (16, .int (nI N)), (17, .int due), (18, .int u), (19, .int one), (20, .int un), (21, .int was), (22, .int did), (23, .int (nI hr)), (9, .long dg), (0, .ref b), (1, .ref (ad 0)), (2, .int (nI time)), (3, .ref r), (5, .ref p9), (6, .int (nI P.nf)), (7, .int (nI P.ng)), (8, .int (nI step))] 1268 [] := by
    refine sx_iload X 12 rfl dL_law_1268 ?_
    subst hdid
    by_cases q : dq
    · refine sx_topi (y := nI 1) (congrArg nI (b01_1 q)) ?_
      refine sx_if_ne X 1304 dL_law_1270 rfl (fun _ => ?_) (fun hc => absurd hc (fun z => absurd z (by decide)))
      refine K1304 _ ?_
      rw [b01_1 q, b01_1 (Or.inl q)]
    · refine sx_topi (y := nI 0) (congrArg nI (b01_0 q)) ?_
      refine sx_if_ne X 1304 dL_law_1270 rfl (fun hc => absurd rfl hc) (fun _ => ?_)
      refine sx_iload X 0 rfl dL_law_1273 ?_
      by_cases e : stormy P S = 1
      · refine sx_if_le X 1282 dL_law_1275 rfl (fun hc => absurd hc (nc_nle (a := stormy P S) (b := 0) (by omega) (by omega))) (fun _ => ?_)
        refine sx_iconst X (v := 1) dL_law_1278 rfl ?_
        refine sx_goto X 1283 dL_law_1279 rfl ?_
        refine sx_istore X (lv' := [(22, .int 1), (29, .int (nI (stormy P S))), (26, .ref q26), (27, .ref q27), (28, .ref q28), (24, .int (nI S.coins)), (25, .int (nI S.storms)), (16, .int (nI N)), (17, .int due), (18, .int u), (19, .int one), (20, .int un), (21, .int was), (23, .int (nI hr)), (9, .long dg), (0, .ref b), (1, .ref (ad 0)), (2, .int (nI time)), (3, .ref r), (5, .ref p9), (6, .int (nI P.nf)), (7, .int (nI P.ng)), (8, .int (nI step))]) dL_law_1283 (by decide) rfl ?_
        refine sx_iload X 0 rfl dL_law_1285 ?_
        refine sx_iload X 9 rfl dL_law_1287 ?_
        refine sx_iload X 13 rfl dL_law_1289 ?_
        refine sx_icmp_ne X 1298 dL_law_1291 rfl (fun hc => absurd ((hd q).mp e) hc) (fun _ => ?_)
        refine sx_iconst X (v := 1) dL_law_1294 rfl ?_
        refine sx_goto X 1299 dL_law_1295 rfl ?_
        refine sx_icmp_eq X 1304 dL_law_1299 rfl (fun _ => ?_) (fun hc => absurd rfl hc)
        refine sx_lsub [1, 2, 3, 4, 5, 6, 7, 8, 9, 10, 11, 12, 0, 13, 14, 15, 16, 17, 18, 19, 20, 21, 22] (lv' := [(29, .int (nI (stormy P S))), (26, .ref q26), (27, .ref q27), (28, .ref q28), (24, .int (nI S.coins)), (25, .int (nI S.storms)), (16, .int (nI N)), (17, .int due), (18, .int u), (19, .int one), (20, .int un), (21, .int was), (22, .int (nI 1)), (23, .int (nI hr)), (9, .long dg), (0, .ref b), (1, .ref (ad 0)), (2, .int (nI time)), (3, .ref r), (5, .ref p9), (6, .int (nI P.nf)), (7, .int (nI P.ng)), (8, .int (nI step))]) rfl ?_
        refine K1304 _ ?_
        rw [b01_1 (Or.inr (by omega))]
      · refine sx_if_le X 1282 dL_law_1275 rfl (fun _ => ?_) (fun hc => absurd (nc_le (a := stormy P S) (b := 0) (by omega) (by decide)) hc)
        refine sx_iconst X (v := 0) dL_law_1282 rfl ?_
        refine sx_istore X (lv' := [(22, .int 0), (29, .int (nI (stormy P S))), (26, .ref q26), (27, .ref q27), (28, .ref q28), (24, .int (nI S.coins)), (25, .int (nI S.storms)), (16, .int (nI N)), (17, .int due), (18, .int u), (19, .int one), (20, .int un), (21, .int was), (23, .int (nI hr)), (9, .long dg), (0, .ref b), (1, .ref (ad 0)), (2, .int (nI time)), (3, .ref r), (5, .ref p9), (6, .int (nI P.nf)), (7, .int (nI P.ng)), (8, .int (nI step))]) dL_law_1283 (by decide) rfl ?_
        refine sx_iload X 0 rfl dL_law_1285 ?_
        refine sx_iload X 9 rfl dL_law_1287 ?_
        refine sx_iload X 13 rfl dL_law_1289 ?_
        refine sx_icmp_ne X 1298 dL_law_1291 rfl (fun _ => ?_) (fun hc => absurd hc (fun h => e ((hd q).mpr h)))
        refine sx_iconst X (v := 0) dL_law_1298 rfl ?_
        refine sx_icmp_eq X 1304 dL_law_1299 rfl (fun _ => ?_) (fun hc => absurd rfl hc)
        refine sx_lsub [1, 2, 3, 4, 5, 6, 7, 8, 9, 10, 11, 12, 0, 13, 14, 15, 16, 17, 18, 19, 20, 21, 22] (lv' := [(29, .int (nI (stormy P S))), (26, .ref q26), (27, .ref q27), (28, .ref q28), (24, .int (nI S.coins)), (25, .int (nI S.storms)), (16, .int (nI N)), (17, .int due), (18, .int u), (19, .int one), (20, .int un), (21, .int was), (22, .int (nI 0)), (23, .int (nI hr)), (9, .long dg), (0, .ref b), (1, .ref (ad 0)), (2, .int (nI time)), (3, .ref r), (5, .ref p9), (6, .int (nI P.nf)), (7, .int (nI P.ng)), (8, .int (nI step))]) rfl ?_
        refine K1304 _ ?_
        rw [b01_0 (fun h => h.elim q (fun h2 => e (by omega)))]
  have K1242 : SxG p l e room_1 s m args below meth c D A 32 (k + 3) (n + 21) Q (LW T sd ad pa da p9 aF aG aO rF rG r P (hourS P S) (σ') x (zZ T q28 P.ng (bfill (fun j => S.gp j = 3) P.ng) :: zZ T q27 P.ng (bfill (fun j => S.gp j = 2) P.ng) :: zZ T q26 P.ng (bfill (fun j => S.gp j = 1) P.ng) :: tl)) [(31, .int (nI P.ng)), (30, .int (nI (sumN (fun g => b01 ((hourS P S).gp g = 2 ∧ ¬ S.gp g = 2)) P.ng))), (29, .int (nI (stormy P S))), (26, .ref q26), (27, .ref q27), (28, .ref q28), (24, .int (nI S.coins)), (25, .int (nI S.storms)), (16, .int (nI N)), (17, .int due), (18, .int u), (19, .int one), (20, .int un), (21, .int was), (22, .int did), (23, .int (nI hr)), (9, .long dg), (0, .ref b), (1, .ref (ad 0)), (2, .int (nI time)), (3, .ref r), (5, .ref p9), (6, .int (nI P.nf)), (7, .int (nI P.ng)), (8, .int (nI step))] 1242 [] := by
    refine sx_aload_n X 18 rfl dL_law_1242 rfl ?_
    refine sx_kC X (k_coins (l := l) (D := D) (T := T) (sd := sd) (ad := ad) (pa := pa) (da := da) hP hI' hh' hR') qm_372 qm_373 qm_374 qm_13 qm_375 hd_X12_coins ⟨rfl, rfl⟩ ⟨Nat.le_of_ble_eq_true rfl, Nat.le_of_ble_eq_true rfl⟩ rfl rfl (Nat.le_of_ble_eq_true rfl) dL_law_1243 hRk hRn ?_
    refine sx_iload X 6 rfl dL_law_1246 ?_
    refine sx_icmp_lt X 1266 dL_law_1248 rfl (fun hc => absurd hc (nc_nlt (a := (hourS P S).coins) (b := S.coins) l5 (by omega))) (fun _ => ?_)
    refine sx_aload_n X 18 rfl dL_law_1251 rfl ?_
    refine sx_kC X (k_coins (l := l) (D := D) (T := T) (sd := sd) (ad := ad) (pa := pa) (da := da) hP hI' hh' hR') qm_372 qm_373 qm_374 qm_13 qm_375 hd_X12_coins ⟨rfl, rfl⟩ ⟨Nat.le_of_ble_eq_true rfl, Nat.le_of_ble_eq_true rfl⟩ rfl rfl (Nat.le_of_ble_eq_true rfl) dL_law_1252 hRk hRn ?_
    refine sx_iload X 6 rfl dL_law_1255 ?_
    refine sx_bipush X (v := 30) dL_law_1257 rfl ?_
    refine sx_iload X 1 rfl dL_law_1259 ?_
    refine sx_imul X dL_law_1261 ?_
    refine sx_topi (y := nI (30 * (sumN (fun g => b01 ((hourS P S).gp g = 2 ∧ ¬ S.gp g = 2)) P.ng))) (nJ_mul 30 _) ?_
    refine sx_iadd X dL_law_1262 ?_
    refine sx_topi (y := nI (S.coins + (30 * (sumN (fun g => b01 ((hourS P S).gp g = 2 ∧ ¬ S.gp g = 2)) P.ng)))) (nI_add _ _) ?_
    refine sx_icmp_le X 1268 dL_law_1263 rfl (fun _ => ?_) (fun hc => absurd (nc_le (a := (hourS P S).coins) (b := S.coins + 30 * (sumN (fun g => b01 ((hourS P S).gp g = 2 ∧ ¬ S.gp g = 2)) P.ng)) (by omega) (by omega)) hc)
    refine sx_lsub [2, 3, 4, 5, 6, 7, 8, 9, 10, 11, 12, 13, 14, 15, 16, 17, 18, 19, 20, 21, 22, 23, 24] (lv' := [(29, .int (nI (stormy P S))), (26, .ref q26), (27, .ref q27), (28, .ref q28), (24, .int (nI S.coins)), (25, .int (nI S.storms)), (16, .int (nI N)), (17, .int due), (18, .int u), (19, .int one), (20, .int un), (21, .int was), (22, .int did), (23, .int (nI hr)), (9, .long dg), (0, .ref b), (1, .ref (ad 0)), (2, .int (nI time)), (3, .ref r), (5, .ref p9), (6, .int (nI P.nf)), (7, .int (nI P.ng)), (8, .int (nI step))]) rfl ?_
    exact K1268
  have K1228 : SxG p l e room_1 s m args below meth c D A 32 (k + 3) (n + 21) Q (LW T sd ad pa da p9 aF aG aO rF rG r P (hourS P S) (σ') x (zZ T q28 P.ng (bfill (fun j => S.gp j = 3) P.ng) :: zZ T q27 P.ng (bfill (fun j => S.gp j = 2) P.ng) :: zZ T q26 P.ng (bfill (fun j => S.gp j = 1) P.ng) :: tl)) [(31, .int (nI P.ng)), (30, .int (nI (sumN (fun g => b01 ((hourS P S).gp g = 2 ∧ ¬ S.gp g = 2)) P.ng))), (29, .int (nI (stormy P S))), (26, .ref q26), (27, .ref q27), (28, .ref q28), (24, .int (nI S.coins)), (25, .int (nI S.storms)), (16, .int (nI N)), (17, .int due), (18, .int u), (19, .int one), (20, .int un), (21, .int was), (22, .int did), (23, .int (nI hr)), (9, .long dg), (0, .ref b), (1, .ref (ad 0)), (2, .int (nI time)), (3, .ref r), (5, .ref p9), (6, .int (nI P.nf)), (7, .int (nI P.ng)), (8, .int (nI step))] 1228 [] := by
    refine sx_iload X 1 rfl dL_law_1228 ?_
    by_cases q : sumN (fun g => b01 ((hourS P S).gp g = 2 ∧ ¬ S.gp g = 2)) P.ng = 0
    · refine sx_topi (y := nI 0) (congrArg nI q) ?_
      refine sx_if_ne X 1242 dL_law_1230 rfl (fun hc => absurd rfl hc) (fun _ => ?_)
      refine sx_aload_n X 18 rfl dL_law_1233 rfl ?_
      refine sx_kC X (k_coins (l := l) (D := D) (T := T) (sd := sd) (ad := ad) (pa := pa) (da := da) hP hI' hh' hR') qm_372 qm_373 qm_374 qm_13 qm_375 hd_X12_coins ⟨rfl, rfl⟩ ⟨Nat.le_of_ble_eq_true rfl, Nat.le_of_ble_eq_true rfl⟩ rfl rfl (Nat.le_of_ble_eq_true rfl) dL_law_1234 hRk hRn ?_
      refine sx_iload X 6 rfl dL_law_1237 ?_
      refine sx_icmp_ne X 1266 dL_law_1239 rfl (fun hc => absurd (congrArg nI (l7 (by omega))) hc) (fun _ => ?_)
      exact K1242
    · refine sx_if_ne X 1242 dL_law_1230 rfl (fun _ => ?_) (fun hc => absurd hc (nc_ne (a := sumN (fun g => b01 ((hourS P S).gp g = 2 ∧ ¬ S.gp g = 2)) P.ng) (b := 0) q (by omega) (by decide)))
      exact K1242
  have K1015 : SxG p l e room_1 s m args below meth c D A 32 (k + 3) (n + 21) Q (LW T sd ad pa da p9 aF aG aO rF rG r P (hourS P S) (σ') x (zZ T q28 P.ng (bfill (fun j => S.gp j = 3) P.ng) :: zZ T q27 P.ng (bfill (fun j => S.gp j = 2) P.ng) :: zZ T q26 P.ng (bfill (fun j => S.gp j = 1) P.ng) :: tl)) [(29, .int (nI (stormy P S))), (26, .ref q26), (27, .ref q27), (28, .ref q28), (24, .int (nI S.coins)), (25, .int (nI S.storms)), (16, .int (nI N)), (17, .int due), (18, .int u), (19, .int one), (20, .int un), (21, .int was), (22, .int did), (23, .int (nI hr)), (9, .long dg), (0, .ref b), (1, .ref (ad 0)), (2, .int (nI time)), (3, .ref r), (5, .ref p9), (6, .int (nI P.nf)), (7, .int (nI P.ng)), (8, .int (nI step))] 1015 [] := by
    refine sx_aload_n X 16 rfl dL_law_1015 rfl ?_
    refine sx_kC X (k_charge (l := l) (D := D) (T := T) (sd := sd) (ad := ad) (pa := pa) (da := da) hP hI' hh' hR') qm_360 qm_361 qm_362 qm_13 qm_363 hd_X12_charge ⟨rfl, rfl⟩ ⟨Nat.le_of_ble_eq_true rfl, Nat.le_of_ble_eq_true rfl⟩ rfl rfl (Nat.le_of_ble_eq_true rfl) dL_law_1016 hRk hRn ?_
    refine sx_bipush X (v := 18) dL_law_1019 rfl ?_
    refine sx_icmp_le X 1026 dL_law_1021 rfl (fun _ => ?_) (fun hc => absurd (nc_le (a := (hourS P S).charge) (b := 18) l3 (by decide)) hc)
    refine sx_iconst X (v := 0) dL_law_1026 rfl ?_
    refine sx_istore X (lv' := [(30, .int 0), (29, .int (nI (stormy P S))), (26, .ref q26), (27, .ref q27), (28, .ref q28), (24, .int (nI S.coins)), (25, .int (nI S.storms)), (16, .int (nI N)), (17, .int due), (18, .int u), (19, .int one), (20, .int un), (21, .int was), (22, .int did), (23, .int (nI hr)), (9, .long dg), (0, .ref b), (1, .ref (ad 0)), (2, .int (nI time)), (3, .ref r), (5, .ref p9), (6, .int (nI P.nf)), (7, .int (nI P.ng)), (8, .int (nI step))]) dL_law_1027 (by decide) rfl ?_
    refine sx_iconst X (v := 0) dL_law_1029 rfl ?_
    refine sx_istore X (lv' := [(31, .int 0), (30, .int 0), (29, .int (nI (stormy P S))), (26, .ref q26), (27, .ref q27), (28, .ref q28), (24, .int (nI S.coins)), (25, .int (nI S.storms)), (16, .int (nI N)), (17, .int due), (18, .int u), (19, .int one), (20, .int un), (21, .int was), (22, .int did), (23, .int (nI hr)), (9, .long dg), (0, .ref b), (1, .ref (ad 0)), (2, .int (nI time)), (3, .ref r), (5, .ref p9), (6, .int (nI P.nf)), (7, .int (nI P.ng)), (8, .int (nI step))]) dL_law_1030 (by decide) rfl ?_
    refine sx_lsub [0, 1, 2, 3, 4, 5, 6, 7, 8, 9, 10, 11, 12, 13, 14, 15, 16, 17, 18, 19, 20, 21, 22, 23, 24] (lv' := [(31, .int (nI 0)), (30, .int (nI (sumN (fun g => b01 ((hourS P S).gp g = 2 ∧ ¬ S.gp g = 2)) 0))), (29, .int (nI (stormy P S))), (26, .ref q26), (27, .ref q27), (28, .ref q28), (24, .int (nI S.coins)), (25, .int (nI S.storms)), (16, .int (nI N)), (17, .int due), (18, .int u), (19, .int one), (20, .int un), (21, .int was), (22, .int did), (23, .int (nI hr)), (9, .long dg), (0, .ref b), (1, .ref (ad 0)), (2, .int (nI time)), (3, .ref r), (5, .ref p9), (6, .int (nI P.nf)), (7, .int (nI P.ng)), (8, .int (nI step))]) rfl ?_
    exact lw_H (Z := hourS P S) (S := S) (k := k + 3) (n := n + 21) XY hRk hRn hP hI' hh' hR' (mny := stormy P S) hsl l4 K1228 P.ng 0 (Nat.zero_add _)
  have K1000 : SxG p l e room_1 s m args below meth c D A 32 (k + 3) (n + 21) Q (LW T sd ad pa da p9 aF aG aO rF rG r P (hourS P S) (σ') x (zZ T q28 P.ng (bfill (fun j => S.gp j = 3) P.ng) :: zZ T q27 P.ng (bfill (fun j => S.gp j = 2) P.ng) :: zZ T q26 P.ng (bfill (fun j => S.gp j = 1) P.ng) :: tl)) [(29, .int (nI (stormy P S))), (26, .ref q26), (27, .ref q27), (28, .ref q28), (24, .int (nI S.coins)), (25, .int (nI S.storms)), (16, .int (nI N)), (17, .int due), (18, .int u), (19, .int one), (20, .int un), (21, .int was), (22, .int did), (23, .int (nI hr)), (9, .long dg), (0, .ref b), (1, .ref (ad 0)), (2, .int (nI time)), (3, .ref r), (5, .ref p9), (6, .int (nI P.nf)), (7, .int (nI P.ng)), (8, .int (nI step))] 1000 [] := by
    refine sx_iload X 0 rfl dL_law_1000 ?_
    refine sx_iconst X (v := 1) dL_law_1002 rfl ?_
    by_cases q : stormy P S = 1
    · refine sx_icmp_ne X 1015 dL_law_1003 rfl (fun hc => absurd (congrArg nI q) hc) (fun _ => ?_)
      refine sx_aload_n X 16 rfl dL_law_1006 rfl ?_
      refine sx_kC X (k_strength (l := l) (D := D) (T := T) (sd := sd) (ad := ad) (pa := pa) (da := da) hP hI' hh' hR') qm_356 qm_357 qm_358 qm_13 qm_359 hd_X12_strength ⟨rfl, rfl⟩ ⟨Nat.le_of_ble_eq_true rfl, Nat.le_of_ble_eq_true rfl⟩ rfl rfl (Nat.le_of_ble_eq_true rfl) dL_law_1007 hRk hRn ?_
      refine sx_bipush X (v := 15) dL_law_1010 rfl ?_
      refine sx_icmp_gt X 1024 dL_law_1012 rfl (fun hc => absurd hc (nc_nlt (a := 15) (b := (hourS P S).strength) (l2 q) (by decide))) (fun _ => ?_)
      exact K1015
    · refine sx_icmp_ne X 1015 dL_law_1003 rfl (fun _ => ?_) (fun hc => absurd hc (nc_ne (a := stormy P S) (b := 1) q (by omega) (by decide)))
      exact K1015
  refine sx_iload X 0 rfl dL_law_986 ?_
  by_cases q : stormy P S = 0
  · refine sx_topi (y := nI 0) (congrArg nI q) ?_
    refine sx_if_ne X 1000 dL_law_988 rfl (fun hc => absurd rfl hc) (fun _ => ?_)
    refine sx_aload_n X 16 rfl dL_law_991 rfl ?_
    refine sx_kC X (k_charge (l := l) (D := D) (T := T) (sd := sd) (ad := ad) (pa := pa) (da := da) hP hI' hh' hR') qm_360 qm_361 qm_362 qm_13 qm_363 hd_X12_charge ⟨rfl, rfl⟩ ⟨Nat.le_of_ble_eq_true rfl, Nat.le_of_ble_eq_true rfl⟩ rfl rfl (Nat.le_of_ble_eq_true rfl) dL_law_992 hRk hRn ?_
    refine sx_bipush X (v := 11) dL_law_995 rfl ?_
    refine sx_icmp_gt X 1024 dL_law_997 rfl (fun hc => absurd hc (nc_nlt (a := 11) (b := (hourS P S).charge) (l1 q) (by decide))) (fun _ => ?_)
    exact K1000
  · refine sx_if_ne X 1000 dL_law_988 rfl (fun _ => ?_) (fun hc => absurd hc (nc_ne (a := stormy P S) (b := 0) q (by omega) (by decide)))
    exact K1000
set_option maxRecDepth 100000 in
set_option maxHeartbeats 4000000 in
theorem lw_hours (XY : LwX p s m args meth c D T A sd jd) {k0 n0 : Nat} (hRk : k0 ≤ 600086) (hRn : n0 ≤ 7301442) (hP : PlOk P) (hI : Iv P S) (hh : S.hour < 2 ^ 26) (hT : TlOk T aO rO P tl) {dg : Int64} {due u one un : Int32} {N : Nat} (hN6 : N ≤ 6) (hu : StormIn P S u) (kk : ∀ σ' did was, CR P (hoursS P S N) σ' → SxG p l e room_1 s m args below meth c D A 32 k0 n0 Q (LW T sd ad pa da p9 aF aG aO rF rG r P (hoursS P S N) (σ') x tl) [(16, .int (nI N)), (17, .int due), (18, .int u), (19, .int one), (20, .int un), (21, .int was), (22, .int did), (23, .int (nI (N + 1))), (9, .long dg), (0, .ref b), (1, .ref (ad 0)), (2, .int (nI time)), (3, .ref r), (5, .ref p9), (6, .int (nI P.nf)), (7, .int (nI P.ng)), (8, .int (nI step))] 1347 []) : ∀ d i k n σ did was, i + d = N → k + 3 * d ≤ k0 → n + 21 * d ≤ n0 → CR P (hoursS P S i) σ → did = nI (b01 (0 < stormsS P S i)) → (one = -1 ∨ ∃ w, w < P.ng ∧ one = nI w ∧ ServeIn P S w un ∧ was = nI (b01 ((hoursS P S i).gp w = 2))) → SxG p l e room_1 s m args below meth c D A 32 k n Q (LW T sd ad pa da p9 aF aG aO rF rG r P (hoursS P S i) (σ) x tl) [(16, .int (nI N)), (17, .int due), (18, .int u), (19, .int one), (20, .int un), (21, .int was), (22, .int did), (23, .int (nI (i + 1))), (9, .long dg), (0, .ref b), (1, .ref (ad 0)), (2, .int (nI time)), (3, .ref r), (5, .ref p9), (6, .int (nI P.nf)), (7, .int (nI P.ng)), (8, .int (nI step))] 860 [] := by
  have X := XY.dn (SFx_ok sd)
  have hng := hP.2.1
  intro d
  induction d with
  | zero =>
    intro i k n σ did was hi hk hn hR hdid hone
    have hi : i = N := hi
    subst hi
    refine sx_widen hk hn ?_
    refine sx_iload X 7 rfl dL_law_860 ?_
    refine sx_iload X 0 rfl dL_law_862 ?_
    refine sx_icmp_gt X 1347 dL_law_864 rfl (fun _ => ?_) (fun hc => absurd (nc_lt (a := i) (b := i + 1) (by omega) (by omega)) hc)
    exact kk σ did was hR
  | succ d ih =>
    intro i k n σ did was hi hk hn hR hdid hone
    have hIi := Iv_hours hP hI i
    have hho := (SpB_hours (P := P) hI.1 i).2
    have hdn : ∀ did', did' = nI (b01 (0 < stormsS P S i ∨ 0 < stormy P (hoursS P S i))) → did' = nI (b01 (0 < stormsS P S (i + 1))) := fun did' h => h.trans (congrArg nI (b01_iff (by show _ ↔ 0 < stormsS P S i + stormy P (hoursS P S i); omega)))
    rcases hone with e1 | ⟨w, hw, e1, hsv, e2⟩
    · refine lw_hr (S := hoursS P S i) (hr := i + 1) XY (by omega) (by omega) hP hIi (by omega) hR (by omega) hT (by omega) hN6 (dq := 0 < stormsS P S i) (wq := False) hdid (fun hz => storm_hd hu (by omega) hz) (Or.inl e1) (fun σ' did' was' hR' hd' hw' => ?_)
      exact ih (i + 1) (k + 3) (n + 21) σ' did' was' (by omega) (by omega) (by omega) hR' (hdn did' hd') (Or.inl e1)
    · refine lw_hr (S := hoursS P S i) (hr := i + 1) XY (by omega) (by omega) hP hIi (by omega) hR (by omega) hT (by omega) hN6 (dq := 0 < stormsS P S i) (wq := (hoursS P S i).gp w = 2) hdid (fun hz => storm_hd hu (by omega) hz) (Or.inr ⟨w, hw, e1, e2, fun hz => serve_hw hP hI hsv (by omega) hz⟩) (fun σ' did' was' hR' hd' hw' => ?_)
      refine ih (i + 1) (k + 3) (n + 21) σ' did' was' (by omega) (by omega) (by omega) hR' (hdn did' hd') (Or.inr ⟨w, hw, e1, hsv, ?_⟩)
      rcases hw' with ⟨z, -⟩ | ⟨w2, hw2, z, z2⟩
      · exact absurd (z.symm.trans e1) (m1_nI (by omega))
      · have ew : w2 = w := (nI_eq (by omega) (by omega)).mp (z.symm.trans e1)
        subst ew
        exact z2.trans (congrArg nI (b01_iff ⟨fun h => h.elim (fun h => gp2_mono hP hI h 1) id, Or.inr⟩))
end LAWJ
