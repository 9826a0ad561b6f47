/-! THE JDK: whole numbers into texts, texts out of builders -/
section SX8
variable {p : Program} {l : Launch} {e : Env} {R : Room} {s : State} {m : MethodId} {args : Array Value} {below : List Frame} {meth : Method} {c : Code} {Q : State → Prop} {D : va_G} {A : Nat → Prop} {nL k n : Nat} {ws : va_W} {lv lv' : List (Nat × Value)} {pc : Nat} {st : List Value}
theorem sx_lvc (h : lv = lv') (kk : SxG p l e R s m args below meth c D A nL k n Q ws lv' pc st) : SxG p l e R s m args below meth c D A nL k n Q ws lv pc st := by subst h; exact kk
end SX8
/-- a number's digits, up to a million -/
def decL (v : Nat) : List Nat := if v < 10 then [48 + v] else if v < 100 then [48 + v / 10, 48 + v % 10] else if v < 1000 then [48 + v / 100, 48 + v / 10 % 10, 48 + v % 10] else if v < 10000 then [48 + v / 1000, 48 + v / 100 % 10, 48 + v / 10 % 10, 48 + v % 10] else if v < 100000 then [48 + v / 10000, 48 + v / 1000 % 10, 48 + v / 100 % 10, 48 + v / 10 % 10, 48 + v % 10] else [48 + v / 100000, 48 + v / 10000 % 10, 48 + v / 1000 % 10, 48 + v / 100 % 10, 48 + v / 10 % 10, 48 + v % 10]
theorem decL_len (v : Nat) : 1 ≤ (decL v).length ∧ (decL v).length ≤ 6 := by
  unfold decL
  constructor <;> (repeat' split) <;> (first | decide | simp)
theorem decL_128 {v : Nat} (h : v < 1000000) : ∀ x ∈ decL v, x < 128 := by
  unfold decL
  intro x hx
  repeat' split at hx
  all_goals simp only [List.mem_cons, List.not_mem_nil, or_false] at hx
  all_goals omega
theorem decL_1 {v : Nat} (h2 : v < 10) : decL v = [48 + v] := by
  unfold decL
  rw [if_pos (by omega)]
theorem decL_2 {v : Nat} (h1 : 10 ≤ v) (h2 : v < 100) : decL v = [48 + v / 10, 48 + v % 10] := by
  unfold decL
  rw [if_neg (by omega)]
  rw [if_pos (by omega)]
theorem decL_3 {v : Nat} (h1 : 100 ≤ v) (h2 : v < 1000) : decL v = [48 + v / 100, 48 + v / 10 % 10, 48 + v % 10] := by
  unfold decL
  rw [if_neg (by omega)]
  rw [if_neg (by omega)]
  rw [if_pos (by omega)]
theorem decL_4 {v : Nat} (h1 : 1000 ≤ v) (h2 : v < 10000) : decL v = [48 + v / 1000, 48 + v / 100 % 10, 48 + v / 10 % 10, 48 + v % 10] := by
  unfold decL
  rw [if_neg (by omega)]
  rw [if_neg (by omega)]
  rw [if_neg (by omega)]
  rw [if_pos (by omega)]
theorem decL_5 {v : Nat} (h1 : 10000 ≤ v) (h2 : v < 100000) : decL v = [48 + v / 10000, 48 + v / 1000 % 10, 48 + v / 100 % 10, 48 + v / 10 % 10, 48 + v % 10] := by
  unfold decL
  rw [if_neg (by omega)]
  rw [if_neg (by omega)]
  rw [if_neg (by omega)]
  rw [if_neg (by omega)]
  rw [if_pos (by omega)]
theorem decL_6 {v : Nat} (h1 : 100000 ≤ v) : decL v = [48 + v / 100000, 48 + v / 10000 % 10, 48 + v / 1000 % 10, 48 + v / 100 % 10, 48 + v / 10 % 10, 48 + v % 10] := by
  unfold decL
  rw [if_neg (by omega)]
  rw [if_neg (by omega)]
  rw [if_neg (by omega)]
  rw [if_neg (by omega)]
  rw [if_neg (by omega)]
theorem hd_strSize : SxDs yJ6_stringSize_0f7a4 1 := ⟨by decide, by decide, by decide +kernel⟩
set_option maxRecDepth 100000 in
theorem c_strSize {l : Launch} {D : va_G} {T : Nat → ClassId} {sd : SdT} {jd : JdT} (v : Nat) (hv : v < 1000000) : SxK (SFy sd jd) l D T yJ6_stringSize_0f7a4 cJ6_stringSize_0f7a4 4 (some .int) (rmL 0 0 0) [.int (nI v)] [] (fun _ : Unit => some (.int (nI (decL v).length))) (fun _ => []) () 0 0 := by
  refine sx_start (SFy_ok sd jd) (by decide +kernel) (Nat.le_of_ble_eq_true rfl) (fun p e s mi args below meth c A X hnm => ?_)
  have XY := X
  have X := XY.dn (SFx_ok sd)
  have XJ := XY.fz
  refine sx_iconst X (v := 1) dJ6_stringSize_0f7a4_0 rfl ?_
  refine sx_istore_n X (lv' := [(1, .int 1), (0, .int (nI v))]) dJ6_stringSize_0f7a4_1 rfl (by decide) rfl ?_
  refine sx_iload_n X 1 rfl dJ6_stringSize_0f7a4_2 rfl ?_
  refine sx_if_lt X 11 dJ6_stringSize_0f7a4_3 rfl (fun hc => absurd hc (nI_pos (by omega))) (fun _ => ?_)
  refine sx_iconst X (v := 0) dJ6_stringSize_0f7a4_6 rfl ?_
  refine sx_istore_n X (lv' := [(1, .int 0), (0, .int (nI v))]) dJ6_stringSize_0f7a4_7 rfl (by decide) rfl ?_
  refine sx_iload_n X 1 rfl dJ6_stringSize_0f7a4_8 rfl ?_
  refine sx_ineg X dJ6_stringSize_0f7a4_9 ?_
  refine sx_istore_n X (lv' := [(0, .int (-(nI v))), (1, .int 0)]) dJ6_stringSize_0f7a4_10 rfl (by decide) rfl ?_
  refine sx_bipush X (v := (-10)) dJ6_stringSize_0f7a4_11 rfl ?_
  refine sx_istore_n X (lv' := [(2, .int (-10)), (0, .int (-(nI v))), (1, .int 0)]) dJ6_stringSize_0f7a4_13 rfl (by decide) rfl ?_
  refine sx_iconst X (v := 1) dJ6_stringSize_0f7a4_14 rfl ?_
  refine sx_istore_n X (lv' := [(3, .int 1), (2, .int (-10)), (0, .int (-(nI v))), (1, .int 0)]) dJ6_stringSize_0f7a4_15 rfl (by decide) rfl ?_
  refine sx_lvc (lv' := [(3, .int 1), (2, .int (-10)), (0, .int (-(nI v))), (1, .int 0)]) rfl ?_
  refine sx_iload_n X 0 rfl dJ6_stringSize_0f7a4_16 rfl ?_
  refine sx_bipush X (v := 10) dJ6_stringSize_0f7a4_17 rfl ?_
  refine sx_icmp_ge X 42 dJ6_stringSize_0f7a4_19 rfl (fun hc => absurd hc (by decide)) (fun _ => ?_)
  refine sx_iload_n X 2 rfl dJ6_stringSize_0f7a4_22 rfl ?_
  refine sx_iload_n X 1 rfl dJ6_stringSize_0f7a4_23 rfl ?_
  by_cases h1 : v < 10
  · refine sx_icmp_le X 31 dJ6_stringSize_0f7a4_24 rfl (fun hc => absurd hc (fun z => by have := (sb_nle (a := v) (b := 10) (by omega) (by decide)).mp z; omega)) (fun _ => ?_)
    refine sx_iload_n X 0 rfl dJ6_stringSize_0f7a4_27 rfl ?_
    refine sx_iload_n X 3 rfl dJ6_stringSize_0f7a4_28 rfl ?_
    refine sx_iadd X dJ6_stringSize_0f7a4_29 ?_
    refine sx_topi (y := nI (decL v).length) (by rw [decL_1 (by omega)]; show _ = nI 1; decide) ?_
    exact sx_iret X rfl dJ6_stringSize_0f7a4_30 rfl rfl rfl
  · refine sx_icmp_le X 31 dJ6_stringSize_0f7a4_24 rfl (fun _ => ?_) (fun hc => absurd ((sb_nle (a := v) (b := 10) (by omega) (by decide)).mpr (by omega)) hc)
    refine sx_bipush X (v := 10) dJ6_stringSize_0f7a4_31 rfl ?_
    refine sx_iload_n X 1 rfl dJ6_stringSize_0f7a4_33 rfl ?_
    refine sx_imul X dJ6_stringSize_0f7a4_34 ?_
    refine sx_topi (y := (-nI 100)) (by decide) ?_
    refine sx_istore_n X (lv' := [(2, .int (-nI 100)), (3, .int 1), (0, .int (-(nI v))), (1, .int 0)]) dJ6_stringSize_0f7a4_35 rfl (by decide) rfl ?_
    refine sx_iinc X (v := (1 + 1)) (lv' := [(3, .int (1 + 1)), (2, .int (-nI 100)), (0, .int (-(nI v))), (1, .int 0)]) 1 rfl dJ6_stringSize_0f7a4_36 rfl (by decide) rfl ?_
    refine sx_goto X 16 dJ6_stringSize_0f7a4_39 rfl ?_
    refine sx_iload_n X 0 rfl dJ6_stringSize_0f7a4_16 rfl ?_
    refine sx_bipush X (v := 10) dJ6_stringSize_0f7a4_17 rfl ?_
    refine sx_icmp_ge X 42 dJ6_stringSize_0f7a4_19 rfl (fun hc => absurd hc (by decide)) (fun _ => ?_)
    refine sx_iload_n X 2 rfl dJ6_stringSize_0f7a4_22 rfl ?_
    refine sx_iload_n X 1 rfl dJ6_stringSize_0f7a4_23 rfl ?_
    by_cases h2 : v < 100
    · refine sx_icmp_le X 31 dJ6_stringSize_0f7a4_24 rfl (fun hc => absurd hc (fun z => by have := (sb_nle (a := v) (b := 100) (by omega) (by decide)).mp z; omega)) (fun _ => ?_)
      refine sx_iload_n X 0 rfl dJ6_stringSize_0f7a4_27 rfl ?_
      refine sx_iload_n X 3 rfl dJ6_stringSize_0f7a4_28 rfl ?_
      refine sx_iadd X dJ6_stringSize_0f7a4_29 ?_
      refine sx_topi (y := nI (decL v).length) (by rw [decL_2 (by omega) (by omega)]; show _ = nI 2; decide) ?_
      exact sx_iret X rfl dJ6_stringSize_0f7a4_30 rfl rfl rfl
    · refine sx_icmp_le X 31 dJ6_stringSize_0f7a4_24 rfl (fun _ => ?_) (fun hc => absurd ((sb_nle (a := v) (b := 100) (by omega) (by decide)).mpr (by omega)) hc)
      refine sx_bipush X (v := 10) dJ6_stringSize_0f7a4_31 rfl ?_
      refine sx_iload_n X 1 rfl dJ6_stringSize_0f7a4_33 rfl ?_
      refine sx_imul X dJ6_stringSize_0f7a4_34 ?_
      refine sx_topi (y := (-nI 1000)) (by decide) ?_
      refine sx_istore_n X (lv' := [(2, .int (-nI 1000)), (3, .int (1 + 1)), (0, .int (-(nI v))), (1, .int 0)]) dJ6_stringSize_0f7a4_35 rfl (by decide) rfl ?_
      refine sx_iinc X (v := ((1 + 1) + 1)) (lv' := [(3, .int ((1 + 1) + 1)), (2, .int (-nI 1000)), (0, .int (-(nI v))), (1, .int 0)]) 1 rfl dJ6_stringSize_0f7a4_36 rfl (by decide) rfl ?_
      refine sx_goto X 16 dJ6_stringSize_0f7a4_39 rfl ?_
      refine sx_iload_n X 0 rfl dJ6_stringSize_0f7a4_16 rfl ?_
      refine sx_bipush X (v := 10) dJ6_stringSize_0f7a4_17 rfl ?_
      refine sx_icmp_ge X 42 dJ6_stringSize_0f7a4_19 rfl (fun hc => absurd hc (by decide)) (fun _ => ?_)
      refine sx_iload_n X 2 rfl dJ6_stringSize_0f7a4_22 rfl ?_
      refine sx_iload_n X 1 rfl dJ6_stringSize_0f7a4_23 rfl ?_
      by_cases h3 : v < 1000
      · refine sx_icmp_le X 31 dJ6_stringSize_0f7a4_24 rfl (fun hc => absurd hc (fun z => by have := (sb_nle (a := v) (b := 1000) (by omega) (by decide)).mp z; omega)) (fun _ => ?_)
        refine sx_iload_n X 0 rfl dJ6_stringSize_0f7a4_27 rfl ?_
        refine sx_iload_n X 3 rfl dJ6_stringSize_0f7a4_28 rfl ?_
        refine sx_iadd X dJ6_stringSize_0f7a4_29 ?_
        refine sx_topi (y := nI (decL v).length) (by rw [decL_3 (by omega) (by omega)]; show _ = nI 3; decide) ?_
        exact sx_iret X rfl dJ6_stringSize_0f7a4_30 rfl rfl rfl
      · refine sx_icmp_le X 31 dJ6_stringSize_0f7a4_24 rfl (fun _ => ?_) (fun hc => absurd ((sb_nle (a := v) (b := 1000) (by omega) (by decide)).mpr (by omega)) hc)
        refine sx_bipush X (v := 10) dJ6_stringSize_0f7a4_31 rfl ?_
        refine sx_iload_n X 1 rfl dJ6_stringSize_0f7a4_33 rfl ?_
        refine sx_imul X dJ6_stringSize_0f7a4_34 ?_
        refine sx_topi (y := (-nI 10000)) (by decide) ?_
        refine sx_istore_n X (lv' := [(2, .int (-nI 10000)), (3, .int ((1 + 1) + 1)), (0, .int (-(nI v))), (1, .int 0)]) dJ6_stringSize_0f7a4_35 rfl (by decide) rfl ?_
        refine sx_iinc X (v := (((1 + 1) + 1) + 1)) (lv' := [(3, .int (((1 + 1) + 1) + 1)), (2, .int (-nI 10000)), (0, .int (-(nI v))), (1, .int 0)]) 1 rfl dJ6_stringSize_0f7a4_36 rfl (by decide) rfl ?_
        refine sx_goto X 16 dJ6_stringSize_0f7a4_39 rfl ?_
        refine sx_iload_n X 0 rfl dJ6_stringSize_0f7a4_16 rfl ?_
        refine sx_bipush X (v := 10) dJ6_stringSize_0f7a4_17 rfl ?_
        refine sx_icmp_ge X 42 dJ6_stringSize_0f7a4_19 rfl (fun hc => absurd hc (by decide)) (fun _ => ?_)
        refine sx_iload_n X 2 rfl dJ6_stringSize_0f7a4_22 rfl ?_
        refine sx_iload_n X 1 rfl dJ6_stringSize_0f7a4_23 rfl ?_
        by_cases h4 : v < 10000
        · refine sx_icmp_le X 31 dJ6_stringSize_0f7a4_24 rfl (fun hc => absurd hc (fun z => by have := (sb_nle (a := v) (b := 10000) (by omega) (by decide)).mp z; omega)) (fun _ => ?_)
          refine sx_iload_n X 0 rfl dJ6_stringSize_0f7a4_27 rfl ?_
          refine sx_iload_n X 3 rfl dJ6_stringSize_0f7a4_28 rfl ?_
          refine sx_iadd X dJ6_stringSize_0f7a4_29 ?_
          refine sx_topi (y := nI (decL v).length) (by rw [decL_4 (by omega) (by omega)]; show _ = nI 4; decide) ?_
          exact sx_iret X rfl dJ6_stringSize_0f7a4_30 rfl rfl rfl
        · refine sx_icmp_le X 31 dJ6_stringSize_0f7a4_24 rfl (fun _ => ?_) (fun hc => absurd ((sb_nle (a := v) (b := 10000) (by omega) (by decide)).mpr (by omega)) hc)
          refine sx_bipush X (v := 10) dJ6_stringSize_0f7a4_31 rfl ?_
          refine sx_iload_n X 1 rfl dJ6_stringSize_0f7a4_33 rfl ?_
          refine sx_imul X dJ6_stringSize_0f7a4_34 ?_
          refine sx_topi (y := (-nI 100000)) (by decide) ?_
          refine sx_istore_n X (lv' := [(2, .int (-nI 100000)), (3, .int (((1 + 1) + 1) + 1)), (0, .int (-(nI v))), (1, .int 0)]) dJ6_stringSize_0f7a4_35 rfl (by decide) rfl ?_
          refine sx_iinc X (v := ((((1 + 1) + 1) + 1) + 1)) (lv' := [(3, .int ((((1 + 1) + 1) + 1) + 1)), (2, .int (-nI 100000)), (0, .int (-(nI v))), (1, .int 0)]) 1 rfl dJ6_stringSize_0f7a4_36 rfl (by decide) rfl ?_
          refine sx_goto X 16 dJ6_stringSize_0f7a4_39 rfl ?_
          refine sx_iload_n X 0 rfl dJ6_stringSize_0f7a4_16 rfl ?_
          refine sx_bipush X (v := 10) dJ6_stringSize_0f7a4_17 rfl ?_
          refine sx_icmp_ge X 42 dJ6_stringSize_0f7a4_19 rfl (fun hc => absurd hc (by decide)) (fun _ => ?_)
          refine sx_iload_n X 2 rfl dJ6_stringSize_0f7a4_22 rfl ?_
          refine sx_iload_n X 1 rfl dJ6_stringSize_0f7a4_23 rfl ?_
          by_cases h5 : v < 100000
          · refine sx_icmp_le X 31 dJ6_stringSize_0f7a4_24 rfl (fun hc => absurd hc (fun z => by have := (sb_nle (a := v) (b := 100000) (by omega) (by decide)).mp z; omega)) (fun _ => ?_)
            refine sx_iload_n X 0 rfl dJ6_stringSize_0f7a4_27 rfl ?_
            refine sx_iload_n X 3 rfl dJ6_stringSize_0f7a4_28 rfl ?_
            refine sx_iadd X dJ6_stringSize_0f7a4_29 ?_
            refine sx_topi (y := nI (decL v).length) (by rw [decL_5 (by omega) (by omega)]; show _ = nI 5; decide) ?_
            exact sx_iret X rfl dJ6_stringSize_0f7a4_30 rfl rfl rfl
          · refine sx_icmp_le X 31 dJ6_stringSize_0f7a4_24 rfl (fun _ => ?_) (fun hc => absurd ((sb_nle (a := v) (b := 100000) (by omega) (by decide)).mpr (by omega)) hc)
            refine sx_bipush X (v := 10) dJ6_stringSize_0f7a4_31 rfl ?_
            refine sx_iload_n X 1 rfl dJ6_stringSize_0f7a4_33 rfl ?_
            refine sx_imul X dJ6_stringSize_0f7a4_34 ?_
            refine sx_topi (y := (-nI 1000000)) (by decide) ?_
            refine sx_istore_n X (lv' := [(2, .int (-nI 1000000)), (3, .int ((((1 + 1) + 1) + 1) + 1)), (0, .int (-(nI v))), (1, .int 0)]) dJ6_stringSize_0f7a4_35 rfl (by decide) rfl ?_
            refine sx_iinc X (v := (((((1 + 1) + 1) + 1) + 1) + 1)) (lv' := [(3, .int (((((1 + 1) + 1) + 1) + 1) + 1)), (2, .int (-nI 1000000)), (0, .int (-(nI v))), (1, .int 0)]) 1 rfl dJ6_stringSize_0f7a4_36 rfl (by decide) rfl ?_
            refine sx_goto X 16 dJ6_stringSize_0f7a4_39 rfl ?_
            refine sx_iload_n X 0 rfl dJ6_stringSize_0f7a4_16 rfl ?_
            refine sx_bipush X (v := 10) dJ6_stringSize_0f7a4_17 rfl ?_
            refine sx_icmp_ge X 42 dJ6_stringSize_0f7a4_19 rfl (fun hc => absurd hc (by decide)) (fun _ => ?_)
            refine sx_iload_n X 2 rfl dJ6_stringSize_0f7a4_22 rfl ?_
            refine sx_iload_n X 1 rfl dJ6_stringSize_0f7a4_23 rfl ?_
            refine sx_icmp_le X 31 dJ6_stringSize_0f7a4_24 rfl (fun hc => absurd hc (fun z => by have := (sb_nle (a := v) (b := 1000000) (by omega) (by decide)).mp z; omega)) (fun _ => ?_)
            refine sx_iload_n X 0 rfl dJ6_stringSize_0f7a4_27 rfl ?_
            refine sx_iload_n X 3 rfl dJ6_stringSize_0f7a4_28 rfl ?_
            refine sx_iadd X dJ6_stringSize_0f7a4_29 ?_
            refine sx_topi (y := nI (decL v).length) (by rw [decL_6 (by omega)]; show _ = nI 6; decide) ?_
            exact sx_iret X rfl dJ6_stringSize_0f7a4_30 rfl rfl rfl
theorem hd_getChars : SxDs yJ6_getChars_ba4f3 3 := ⟨by decide, by decide, by decide +kernel⟩
theorem fit48 {c : Nat} (h : c < 128) : fits .byte (.int (nI c)) = true := fit128 h
set_option maxRecDepth 100000 in
theorem c_getChars {l : Launch} {D : va_G} {T : Nat → ClassId} {sd : SdT} {jd : JdT} (q m n v : Nat) (f : Nat → Int32) (hv : v < 1000000) (hm : n + (decL v).length ≤ m) (hm3 : m ≤ 3000) (hf : sb_Fit f) : SxKP (SFy sd jd) l D T yJ6_getChars_ba4f3 cJ6_getChars_ba4f3 7 (some .int) (rmL 0 0 0) [.int (nI v), .int (nI (n + (decL v).length)), .ref q] [zB T q m f] (fun _ : Nat → Int32 => some (.int (nI n))) (fun g => [zB T q m g]) (fun g => sb_Fit g ∧ (∀ j, j < n → g j = f j) ∧ ∀ i, i < (decL v).length → g (n + i) = nI ((decL v).getD i 0)) 0 0 := by
  refine sx_startP (SFy_ok sd jd) (by decide +kernel) (Nat.le_of_ble_eq_true rfl) (fun p e s mi args below meth c A X hnm => ?_)
  have XY := X
  have X := XY.dn (SFx_ok sd)
  have XJ := XY.fz
  by_cases h1 : v < 10
  · have hL : (decL v).length = 1 := by
      rw [decL_1 (by omega)]
      rfl
    rw [hL] at hm ⊢
    refine sx_iload_n X 1 rfl dJ6_getChars_ba4f3_0 rfl ?_
    refine sx_istore X (lv' := [(5, .int (nI (n + 1))), (0, .int (nI v)), (1, .int (nI (n + 1))), (2, .ref q)]) dJ6_getChars_ba4f3_1 (by decide) rfl ?_
    refine sx_iload_n X 1 rfl dJ6_getChars_ba4f3_3 rfl ?_
    refine sx_if_ge X 11 dJ6_getChars_ba4f3_4 rfl (fun _ => ?_) (fun hc => absurd (nI_pos' (by omega)) hc)
    refine sx_iconst X (v := 0) dJ6_getChars_ba4f3_11 rfl ?_
    refine sx_istore X (lv' := [(6, .int 0), (5, .int (nI (n + 1))), (0, .int (nI v)), (1, .int (nI (n + 1))), (2, .ref q)]) dJ6_getChars_ba4f3_12 (by decide) rfl ?_
    refine sx_iload X 0 rfl dJ6_getChars_ba4f3_14 ?_
    refine sx_if_ne X 22 dJ6_getChars_ba4f3_16 rfl (fun hc => absurd rfl hc) (fun _ => ?_)
    refine sx_iload_n X 2 rfl dJ6_getChars_ba4f3_19 rfl ?_
    refine sx_ineg X dJ6_getChars_ba4f3_20 ?_
    refine sx_istore_n X (lv' := [(0, .int (-(nI v))), (6, .int 0), (5, .int (nI (n + 1))), (1, .int (nI (n + 1))), (2, .ref q)]) dJ6_getChars_ba4f3_21 rfl (by decide) rfl ?_
    refine sx_iload_n X 0 rfl dJ6_getChars_ba4f3_22 rfl ?_
    refine sx_bipush X (v := (-100)) dJ6_getChars_ba4f3_23 rfl ?_
    refine sx_icmp_gt X 72 dJ6_getChars_ba4f3_25 rfl (fun _ => ?_) (fun hc => absurd ((sb_nlt (a := 100) (b := v) (by decide) (by omega)).mpr (by omega)) hc)
    refine sx_aload_n X 4 rfl dJ6_getChars_ba4f3_72 rfl ?_
    refine sx_iinc X (v := ((nI (n + 1)) + (-1))) (lv' := [(5, .int ((nI (n + 1)) + (-1))), (0, .int (-(nI v))), (6, .int 0), (1, .int (nI (n + 1))), (2, .ref q)]) 2 rfl dJ6_getChars_ba4f3_73 rfl (by decide) rfl ?_
    refine sx_lvc (lv' := [(5, .int (nI n)), (0, .int (-(nI v))), (6, .int 0), (1, .int (nI (n + 1))), (2, .ref q)]) (by rw [show nI (n + 1) + (-1) = nI n from pk_m1 n]) ?_
    refine sx_iload X 0 rfl dJ6_getChars_ba4f3_76 ?_
    refine sx_gst X XJ.1 qm_1341 dJ6_getChars_ba4f3_78 ?_
    refine sx_iload_n X 1 rfl dJ6_getChars_ba4f3_81 rfl ?_
    refine sx_ineg X dJ6_getChars_ba4f3_82 ?_
    refine sx_topi (y := nI v) Int32.neg_neg ?_
    refine sx_stb X (v := .int (nI (48 + v % 10))) XJ.2.1 (nI_in (by omega) (by omega)) (by rw [nI_clamp (by omega)]) dJ6_getChars_ba4f3_83 ?_
    refine sx_bast X (ws' := [zB T q m (upd f n (nI (48 + v % 10)))]) 0 rfl (nI_in (by omega) (by omega)) (by rw [nI_clamp (by omega), nar128 (by omega)]; rfl) dJ6_getChars_ba4f3_84 ?_
    refine sx_iload_n X 1 rfl dJ6_getChars_ba4f3_85 rfl ?_
    refine sx_bipush X (v := (-9)) dJ6_getChars_ba4f3_86 rfl ?_
    refine sx_icmp_ge X 104 dJ6_getChars_ba4f3_88 rfl (fun _ => ?_) (fun hc => absurd ((sb_nle (a := 9) (b := v) (by decide) (by omega)).mpr (by omega)) hc)
    refine sx_iload X 2 rfl dJ6_getChars_ba4f3_104 ?_
    refine sx_if_eq X 118 dJ6_getChars_ba4f3_106 rfl (fun _ => ?_) (fun hc => absurd rfl hc)
    refine sx_iload X 0 rfl dJ6_getChars_ba4f3_118 ?_
    refine sx_pick (upd f n (nI (48 + v % 10))) ⟨sb_fitU (hf) (fit48 (by omega)), fun j hj => by rw [pk_un (by omega)], ?_⟩ ?_
    · rw [decL_1 (by omega)]
      intro i hi
      have hi : i < 1 := hi
      have h9 : i = 0 := by omega
      rcases h9 with rfl
      · have h8 : (upd f n (nI (48 + v % 10))) (n) = nI (48 + v % 10) := by rw [pk_us]
        exact h8.trans (congrArg nI (by show 48 + v % 10 = 48 + v; omega))
    exact sx_iret X rfl dJ6_getChars_ba4f3_120 rfl rfl rfl
  · by_cases h2 : v < 100
    · have hL : (decL v).length = 2 := by
        rw [decL_2 (by omega) (by omega)]
        rfl
      rw [hL] at hm ⊢
      refine sx_iload_n X 1 rfl dJ6_getChars_ba4f3_0 rfl ?_
      refine sx_istore X (lv' := [(5, .int (nI (n + 2))), (0, .int (nI v)), (1, .int (nI (n + 2))), (2, .ref q)]) dJ6_getChars_ba4f3_1 (by decide) rfl ?_
      refine sx_iload_n X 1 rfl dJ6_getChars_ba4f3_3 rfl ?_
      refine sx_if_ge X 11 dJ6_getChars_ba4f3_4 rfl (fun _ => ?_) (fun hc => absurd (nI_pos' (by omega)) hc)
      refine sx_iconst X (v := 0) dJ6_getChars_ba4f3_11 rfl ?_
      refine sx_istore X (lv' := [(6, .int 0), (5, .int (nI (n + 2))), (0, .int (nI v)), (1, .int (nI (n + 2))), (2, .ref q)]) dJ6_getChars_ba4f3_12 (by decide) rfl ?_
      refine sx_iload X 0 rfl dJ6_getChars_ba4f3_14 ?_
      refine sx_if_ne X 22 dJ6_getChars_ba4f3_16 rfl (fun hc => absurd rfl hc) (fun _ => ?_)
      refine sx_iload_n X 2 rfl dJ6_getChars_ba4f3_19 rfl ?_
      refine sx_ineg X dJ6_getChars_ba4f3_20 ?_
      refine sx_istore_n X (lv' := [(0, .int (-(nI v))), (6, .int 0), (5, .int (nI (n + 2))), (1, .int (nI (n + 2))), (2, .ref q)]) dJ6_getChars_ba4f3_21 rfl (by decide) rfl ?_
      refine sx_iload_n X 0 rfl dJ6_getChars_ba4f3_22 rfl ?_
      refine sx_bipush X (v := (-100)) dJ6_getChars_ba4f3_23 rfl ?_
      refine sx_icmp_gt X 72 dJ6_getChars_ba4f3_25 rfl (fun _ => ?_) (fun hc => absurd ((sb_nlt (a := 100) (b := v) (by decide) (by omega)).mpr (by omega)) hc)
      refine sx_aload_n X 4 rfl dJ6_getChars_ba4f3_72 rfl ?_
      refine sx_iinc X (v := ((nI (n + 2)) + (-1))) (lv' := [(5, .int ((nI (n + 2)) + (-1))), (0, .int (-(nI v))), (6, .int 0), (1, .int (nI (n + 2))), (2, .ref q)]) 2 rfl dJ6_getChars_ba4f3_73 rfl (by decide) rfl ?_
      refine sx_lvc (lv' := [(5, .int (nI (n + 1))), (0, .int (-(nI v))), (6, .int 0), (1, .int (nI (n + 2))), (2, .ref q)]) (by rw [show nI (n + 2) + (-1) = nI (n + 1) from pk_m1 (n + 1)]) ?_
      refine sx_iload X 0 rfl dJ6_getChars_ba4f3_76 ?_
      refine sx_gst X XJ.1 qm_1341 dJ6_getChars_ba4f3_78 ?_
      refine sx_iload_n X 1 rfl dJ6_getChars_ba4f3_81 rfl ?_
      refine sx_ineg X dJ6_getChars_ba4f3_82 ?_
      refine sx_topi (y := nI v) Int32.neg_neg ?_
      refine sx_stb X (v := .int (nI (48 + v % 10))) XJ.2.1 (nI_in (by omega) (by omega)) (by rw [nI_clamp (by omega)]) dJ6_getChars_ba4f3_83 ?_
      refine sx_bast X (ws' := [zB T q m (upd f (n + 1) (nI (48 + v % 10)))]) 0 rfl (nI_in (by omega) (by omega)) (by rw [nI_clamp (by omega), nar128 (by omega)]; rfl) dJ6_getChars_ba4f3_84 ?_
      refine sx_iload_n X 1 rfl dJ6_getChars_ba4f3_85 rfl ?_
      refine sx_bipush X (v := (-9)) dJ6_getChars_ba4f3_86 rfl ?_
      refine sx_icmp_ge X 104 dJ6_getChars_ba4f3_88 rfl (fun hc => absurd hc (fun z => by have := (sb_nle (a := 9) (b := v) (by decide) (by omega)).mp z; omega)) (fun _ => ?_)
      refine sx_aload_n X 4 rfl dJ6_getChars_ba4f3_91 rfl ?_
      refine sx_iinc X (v := ((nI (n + 1)) + (-1))) (lv' := [(5, .int ((nI (n + 1)) + (-1))), (0, .int (-(nI v))), (6, .int 0), (1, .int (nI (n + 2))), (2, .ref q)]) 0 rfl dJ6_getChars_ba4f3_92 rfl (by decide) rfl ?_
      refine sx_lvc (lv' := [(5, .int (nI n)), (0, .int (-(nI v))), (6, .int 0), (1, .int (nI (n + 2))), (2, .ref q)]) (by rw [show nI (n + 1) + (-1) = nI n from pk_m1 n]) ?_
      refine sx_iload X 0 rfl dJ6_getChars_ba4f3_95 ?_
      refine sx_gst X XJ.2.2.1 qm_1343 dJ6_getChars_ba4f3_97 ?_
      refine sx_iload_n X 1 rfl dJ6_getChars_ba4f3_100 rfl ?_
      refine sx_ineg X dJ6_getChars_ba4f3_101 ?_
      refine sx_topi (y := nI v) Int32.neg_neg ?_
      refine sx_stb X (v := .int (nI (48 + v / 10))) XJ.2.2.2.1 (nI_in (by omega) (by omega)) (by rw [nI_clamp (by omega)]) dJ6_getChars_ba4f3_102 ?_
      refine sx_bast X (ws' := [zB T q m (upd (upd f (n + 1) (nI (48 + v % 10))) n (nI (48 + v / 10)))]) 0 rfl (nI_in (by omega) (by omega)) (by rw [nI_clamp (by omega), nar128 (by omega)]; rfl) dJ6_getChars_ba4f3_103 ?_
      refine sx_iload X 2 rfl dJ6_getChars_ba4f3_104 ?_
      refine sx_if_eq X 118 dJ6_getChars_ba4f3_106 rfl (fun _ => ?_) (fun hc => absurd rfl hc)
      refine sx_iload X 0 rfl dJ6_getChars_ba4f3_118 ?_
      refine sx_pick (upd (upd f (n + 1) (nI (48 + v % 10))) n (nI (48 + v / 10))) ⟨sb_fitU (sb_fitU (hf) (fit48 (by omega))) (fit48 (by omega)), fun j hj => by rw [pk_un (by omega), pk_un (by omega)], ?_⟩ ?_
      · rw [decL_2 (by omega) (by omega)]
        intro i hi
        have hi : i < 2 := hi
        have h9 : i = 0 ∨ i = 1 := by omega
        rcases h9 with rfl | rfl
        · have h8 : (upd (upd f (n + 1) (nI (48 + v % 10))) n (nI (48 + v / 10))) (n) = nI (48 + v / 10) := by rw [pk_us]
          exact h8.trans (congrArg nI (by show 48 + v / 10 = 48 + v / 10; omega))
        · have h8 : (upd (upd f (n + 1) (nI (48 + v % 10))) n (nI (48 + v / 10))) (n + 1) = nI (48 + v % 10) := by rw [pk_un (by omega), pk_us]
          exact h8.trans (congrArg nI (by show 48 + v % 10 = 48 + v % 10; omega))
      exact sx_iret X rfl dJ6_getChars_ba4f3_120 rfl rfl rfl
    · by_cases h3 : v < 1000
      · have hL : (decL v).length = 3 := by
          rw [decL_3 (by omega) (by omega)]
          rfl
        rw [hL] at hm ⊢
        refine sx_iload_n X 1 rfl dJ6_getChars_ba4f3_0 rfl ?_
        refine sx_istore X (lv' := [(5, .int (nI (n + 3))), (0, .int (nI v)), (1, .int (nI (n + 3))), (2, .ref q)]) dJ6_getChars_ba4f3_1 (by decide) rfl ?_
        refine sx_iload_n X 1 rfl dJ6_getChars_ba4f3_3 rfl ?_
        refine sx_if_ge X 11 dJ6_getChars_ba4f3_4 rfl (fun _ => ?_) (fun hc => absurd (nI_pos' (by omega)) hc)
        refine sx_iconst X (v := 0) dJ6_getChars_ba4f3_11 rfl ?_
        refine sx_istore X (lv' := [(6, .int 0), (5, .int (nI (n + 3))), (0, .int (nI v)), (1, .int (nI (n + 3))), (2, .ref q)]) dJ6_getChars_ba4f3_12 (by decide) rfl ?_
        refine sx_iload X 0 rfl dJ6_getChars_ba4f3_14 ?_
        refine sx_if_ne X 22 dJ6_getChars_ba4f3_16 rfl (fun hc => absurd rfl hc) (fun _ => ?_)
        refine sx_iload_n X 2 rfl dJ6_getChars_ba4f3_19 rfl ?_
        refine sx_ineg X dJ6_getChars_ba4f3_20 ?_
        refine sx_istore_n X (lv' := [(0, .int (-(nI v))), (6, .int 0), (5, .int (nI (n + 3))), (1, .int (nI (n + 3))), (2, .ref q)]) dJ6_getChars_ba4f3_21 rfl (by decide) rfl ?_
        refine sx_iload_n X 0 rfl dJ6_getChars_ba4f3_22 rfl ?_
        refine sx_bipush X (v := (-100)) dJ6_getChars_ba4f3_23 rfl ?_
        refine sx_icmp_gt X 72 dJ6_getChars_ba4f3_25 rfl (fun hc => absurd hc (fun z => by have := (sb_nlt (a := 100) (b := v) (by decide) (by omega)).mp z; omega)) (fun _ => ?_)
        refine sx_iload_n X 0 rfl dJ6_getChars_ba4f3_28 rfl ?_
        refine sx_bipush X (v := 100) dJ6_getChars_ba4f3_29 rfl ?_
        refine sx_idiv X (by decide) dJ6_getChars_ba4f3_31 ?_
        refine sx_topi (y := (-nI (v / 100))) (sb_ndiv (by omega)) ?_
        refine sx_istore_n X (lv' := [(3, .int (-nI (v / 100))), (0, .int (-(nI v))), (6, .int 0), (5, .int (nI (n + 3))), (1, .int (nI (n + 3))), (2, .ref q)]) dJ6_getChars_ba4f3_32 rfl (by decide) rfl ?_
        refine sx_iload_n X 0 rfl dJ6_getChars_ba4f3_33 rfl ?_
        refine sx_bipush X (v := 100) dJ6_getChars_ba4f3_34 rfl ?_
        refine sx_imul X dJ6_getChars_ba4f3_36 ?_
        refine sx_iload_n X 1 rfl dJ6_getChars_ba4f3_37 rfl ?_
        refine sx_isub X dJ6_getChars_ba4f3_38 ?_
        refine sx_topi (y := nI (v % 100)) (sb_nrem (by omega)) ?_
        refine sx_istore X (lv' := [(4, .int (nI (v % 100))), (3, .int (-nI (v / 100))), (0, .int (-(nI v))), (6, .int 0), (5, .int (nI (n + 3))), (1, .int (nI (n + 3))), (2, .ref q)]) dJ6_getChars_ba4f3_39 (by decide) rfl ?_
        refine sx_iload_n X 1 rfl dJ6_getChars_ba4f3_41 rfl ?_
        refine sx_istore_n X (lv' := [(0, .int (-nI (v / 100))), (4, .int (nI (v % 100))), (3, .int (-nI (v / 100))), (6, .int 0), (5, .int (nI (n + 3))), (1, .int (nI (n + 3))), (2, .ref q)]) dJ6_getChars_ba4f3_42 rfl (by decide) rfl ?_
        refine sx_aload_n X 6 rfl dJ6_getChars_ba4f3_43 rfl ?_
        refine sx_iinc X (v := ((nI (n + 3)) + (-1))) (lv' := [(5, .int ((nI (n + 3)) + (-1))), (0, .int (-nI (v / 100))), (4, .int (nI (v % 100))), (3, .int (-nI (v / 100))), (6, .int 0), (1, .int (nI (n + 3))), (2, .ref q)]) 4 rfl dJ6_getChars_ba4f3_44 rfl (by decide) rfl ?_
        refine sx_lvc (lv' := [(5, .int (nI (n + 2))), (0, .int (-nI (v / 100))), (4, .int (nI (v % 100))), (3, .int (-nI (v / 100))), (6, .int 0), (1, .int (nI (n + 3))), (2, .ref q)]) (by rw [show nI (n + 3) + (-1) = nI (n + 2) from pk_m1 (n + 2)]) ?_
        refine sx_iload X 0 rfl dJ6_getChars_ba4f3_47 ?_
        refine sx_gst X XJ.1 qm_1341 dJ6_getChars_ba4f3_49 ?_
        refine sx_iload X 2 rfl dJ6_getChars_ba4f3_52 ?_
        refine sx_stb X (v := .int (nI (48 + v % 100 % 10))) XJ.2.1 (nI_in (by omega) (by omega)) (by rw [nI_clamp (by omega)]) dJ6_getChars_ba4f3_54 ?_
        refine sx_bast X (ws' := [zB T q m (upd f (n + 2) (nI (48 + v % 100 % 10)))]) 0 rfl (nI_in (by omega) (by omega)) (by rw [nI_clamp (by omega), nar128 (by omega)]; rfl) dJ6_getChars_ba4f3_55 ?_
        refine sx_aload_n X 6 rfl dJ6_getChars_ba4f3_56 rfl ?_
        refine sx_iinc X (v := ((nI (n + 2)) + (-1))) (lv' := [(5, .int ((nI (n + 2)) + (-1))), (0, .int (-nI (v / 100))), (4, .int (nI (v % 100))), (3, .int (-nI (v / 100))), (6, .int 0), (1, .int (nI (n + 3))), (2, .ref q)]) 0 rfl dJ6_getChars_ba4f3_57 rfl (by decide) rfl ?_
        refine sx_lvc (lv' := [(5, .int (nI (n + 1))), (0, .int (-nI (v / 100))), (4, .int (nI (v % 100))), (3, .int (-nI (v / 100))), (6, .int 0), (1, .int (nI (n + 3))), (2, .ref q)]) (by rw [show nI (n + 2) + (-1) = nI (n + 1) from pk_m1 (n + 1)]) ?_
        refine sx_iload X 0 rfl dJ6_getChars_ba4f3_60 ?_
        refine sx_gst X XJ.2.2.1 qm_1343 dJ6_getChars_ba4f3_62 ?_
        refine sx_iload X 2 rfl dJ6_getChars_ba4f3_65 ?_
        refine sx_stb X (v := .int (nI (48 + v % 100 / 10))) XJ.2.2.2.1 (nI_in (by omega) (by omega)) (by rw [nI_clamp (by omega)]) dJ6_getChars_ba4f3_67 ?_
        refine sx_bast X (ws' := [zB T q m (upd (upd f (n + 2) (nI (48 + v % 100 % 10))) (n + 1) (nI (48 + v % 100 / 10)))]) 0 rfl (nI_in (by omega) (by omega)) (by rw [nI_clamp (by omega), nar128 (by omega)]; rfl) dJ6_getChars_ba4f3_68 ?_
        refine sx_goto X 22 dJ6_getChars_ba4f3_69 rfl ?_
        refine sx_iload_n X 1 rfl dJ6_getChars_ba4f3_22 rfl ?_
        refine sx_bipush X (v := (-100)) dJ6_getChars_ba4f3_23 rfl ?_
        refine sx_icmp_gt X 72 dJ6_getChars_ba4f3_25 rfl (fun _ => ?_) (fun hc => absurd ((sb_nlt (a := 100) (b := (v / 100)) (by decide) (by omega)).mpr (by omega)) hc)
        refine sx_aload_n X 6 rfl dJ6_getChars_ba4f3_72 rfl ?_
        refine sx_iinc X (v := ((nI (n + 1)) + (-1))) (lv' := [(5, .int ((nI (n + 1)) + (-1))), (0, .int (-nI (v / 100))), (4, .int (nI (v % 100))), (3, .int (-nI (v / 100))), (6, .int 0), (1, .int (nI (n + 3))), (2, .ref q)]) 0 rfl dJ6_getChars_ba4f3_73 rfl (by decide) rfl ?_
        refine sx_lvc (lv' := [(5, .int (nI n)), (0, .int (-nI (v / 100))), (4, .int (nI (v % 100))), (3, .int (-nI (v / 100))), (6, .int 0), (1, .int (nI (n + 3))), (2, .ref q)]) (by rw [show nI (n + 1) + (-1) = nI n from pk_m1 n]) ?_
        refine sx_iload X 0 rfl dJ6_getChars_ba4f3_76 ?_
        refine sx_gst X XJ.1 qm_1341 dJ6_getChars_ba4f3_78 ?_
        refine sx_iload_n X 1 rfl dJ6_getChars_ba4f3_81 rfl ?_
        refine sx_ineg X dJ6_getChars_ba4f3_82 ?_
        refine sx_topi (y := nI (v / 100)) Int32.neg_neg ?_
        refine sx_stb X (v := .int (nI (48 + (v / 100) % 10))) XJ.2.1 (nI_in (by omega) (by omega)) (by rw [nI_clamp (by omega)]) dJ6_getChars_ba4f3_83 ?_
        refine sx_bast X (ws' := [zB T q m (upd (upd (upd f (n + 2) (nI (48 + v % 100 % 10))) (n + 1) (nI (48 + v % 100 / 10))) n (nI (48 + (v / 100) % 10)))]) 0 rfl (nI_in (by omega) (by omega)) (by rw [nI_clamp (by omega), nar128 (by omega)]; rfl) dJ6_getChars_ba4f3_84 ?_
        refine sx_iload_n X 1 rfl dJ6_getChars_ba4f3_85 rfl ?_
        refine sx_bipush X (v := (-9)) dJ6_getChars_ba4f3_86 rfl ?_
        refine sx_icmp_ge X 104 dJ6_getChars_ba4f3_88 rfl (fun _ => ?_) (fun hc => absurd ((sb_nle (a := 9) (b := (v / 100)) (by decide) (by omega)).mpr (by omega)) hc)
        refine sx_iload X 4 rfl dJ6_getChars_ba4f3_104 ?_
        refine sx_if_eq X 118 dJ6_getChars_ba4f3_106 rfl (fun _ => ?_) (fun hc => absurd rfl hc)
        refine sx_iload X 0 rfl dJ6_getChars_ba4f3_118 ?_
        refine sx_pick (upd (upd (upd f (n + 2) (nI (48 + v % 100 % 10))) (n + 1) (nI (48 + v % 100 / 10))) n (nI (48 + (v / 100) % 10))) ⟨sb_fitU (sb_fitU (sb_fitU (hf) (fit48 (by omega))) (fit48 (by omega))) (fit48 (by omega)), fun j hj => by rw [pk_un (by omega), pk_un (by omega), pk_un (by omega)], ?_⟩ ?_
        · rw [decL_3 (by omega) (by omega)]
          intro i hi
          have hi : i < 3 := hi
          have h9 : i = 0 ∨ i = 1 ∨ i = 2 := by omega
          rcases h9 with rfl | rfl | rfl
          · have h8 : (upd (upd (upd f (n + 2) (nI (48 + v % 100 % 10))) (n + 1) (nI (48 + v % 100 / 10))) n (nI (48 + (v / 100) % 10))) (n) = nI (48 + (v / 100) % 10) := by rw [pk_us]
            exact h8.trans (congrArg nI (by show 48 + (v / 100) % 10 = 48 + v / 100; omega))
          · have h8 : (upd (upd (upd f (n + 2) (nI (48 + v % 100 % 10))) (n + 1) (nI (48 + v % 100 / 10))) n (nI (48 + (v / 100) % 10))) (n + 1) = nI (48 + v % 100 / 10) := by rw [pk_un (by omega), pk_us]
            exact h8.trans (congrArg nI (by show 48 + v % 100 / 10 = 48 + v / 10 % 10; omega))
          · have h8 : (upd (upd (upd f (n + 2) (nI (48 + v % 100 % 10))) (n + 1) (nI (48 + v % 100 / 10))) n (nI (48 + (v / 100) % 10))) (n + 2) = nI (48 + v % 100 % 10) := by rw [pk_un (by omega), pk_un (by omega), pk_us]
            exact h8.trans (congrArg nI (by show 48 + v % 100 % 10 = 48 + v % 10; omega))
        exact sx_iret X rfl dJ6_getChars_ba4f3_120 rfl rfl rfl
      · by_cases h4 : v < 10000
        · have hL : (decL v).length = 4 := by
            rw [decL_4 (by omega) (by omega)]
            rfl
          rw [hL] at hm ⊢
          refine sx_iload_n X 1 rfl dJ6_getChars_ba4f3_0 rfl ?_
          refine sx_istore X (lv' := [(5, .int (nI (n + 4))), (0, .int (nI v)), (1, .int (nI (n + 4))), (2, .ref q)]) dJ6_getChars_ba4f3_1 (by decide) rfl ?_
          refine sx_iload_n X 1 rfl dJ6_getChars_ba4f3_3 rfl ?_
          refine sx_if_ge X 11 dJ6_getChars_ba4f3_4 rfl (fun _ => ?_) (fun hc => absurd (nI_pos' (by omega)) hc)
          refine sx_iconst X (v := 0) dJ6_getChars_ba4f3_11 rfl ?_
          refine sx_istore X (lv' := [(6, .int 0), (5, .int (nI (n + 4))), (0, .int (nI v)), (1, .int (nI (n + 4))), (2, .ref q)]) dJ6_getChars_ba4f3_12 (by decide) rfl ?_
          refine sx_iload X 0 rfl dJ6_getChars_ba4f3_14 ?_
          refine sx_if_ne X 22 dJ6_getChars_ba4f3_16 rfl (fun hc => absurd rfl hc) (fun _ => ?_)
          refine sx_iload_n X 2 rfl dJ6_getChars_ba4f3_19 rfl ?_
          refine sx_ineg X dJ6_getChars_ba4f3_20 ?_
          refine sx_istore_n X (lv' := [(0, .int (-(nI v))), (6, .int 0), (5, .int (nI (n + 4))), (1, .int (nI (n + 4))), (2, .ref q)]) dJ6_getChars_ba4f3_21 rfl (by decide) rfl ?_
          refine sx_iload_n X 0 rfl dJ6_getChars_ba4f3_22 rfl ?_
          refine sx_bipush X (v := (-100)) dJ6_getChars_ba4f3_23 rfl ?_
          refine sx_icmp_gt X 72 dJ6_getChars_ba4f3_25 rfl (fun hc => absurd hc (fun z => by have := (sb_nlt (a := 100) (b := v) (by decide) (by omega)).mp z; omega)) (fun _ => ?_)
          refine sx_iload_n X 0 rfl dJ6_getChars_ba4f3_28 rfl ?_
          refine sx_bipush X (v := 100) dJ6_getChars_ba4f3_29 rfl ?_
          refine sx_idiv X (by decide) dJ6_getChars_ba4f3_31 ?_
          refine sx_topi (y := (-nI (v / 100))) (sb_ndiv (by omega)) ?_
          refine sx_istore_n X (lv' := [(3, .int (-nI (v / 100))), (0, .int (-(nI v))), (6, .int 0), (5, .int (nI (n + 4))), (1, .int (nI (n + 4))), (2, .ref q)]) dJ6_getChars_ba4f3_32 rfl (by decide) rfl ?_
          refine sx_iload_n X 0 rfl dJ6_getChars_ba4f3_33 rfl ?_
          refine sx_bipush X (v := 100) dJ6_getChars_ba4f3_34 rfl ?_
          refine sx_imul X dJ6_getChars_ba4f3_36 ?_
          refine sx_iload_n X 1 rfl dJ6_getChars_ba4f3_37 rfl ?_
          refine sx_isub X dJ6_getChars_ba4f3_38 ?_
          refine sx_topi (y := nI (v % 100)) (sb_nrem (by omega)) ?_
          refine sx_istore X (lv' := [(4, .int (nI (v % 100))), (3, .int (-nI (v / 100))), (0, .int (-(nI v))), (6, .int 0), (5, .int (nI (n + 4))), (1, .int (nI (n + 4))), (2, .ref q)]) dJ6_getChars_ba4f3_39 (by decide) rfl ?_
          refine sx_iload_n X 1 rfl dJ6_getChars_ba4f3_41 rfl ?_
          refine sx_istore_n X (lv' := [(0, .int (-nI (v / 100))), (4, .int (nI (v % 100))), (3, .int (-nI (v / 100))), (6, .int 0), (5, .int (nI (n + 4))), (1, .int (nI (n + 4))), (2, .ref q)]) dJ6_getChars_ba4f3_42 rfl (by decide) rfl ?_
          refine sx_aload_n X 6 rfl dJ6_getChars_ba4f3_43 rfl ?_
          refine sx_iinc X (v := ((nI (n + 4)) + (-1))) (lv' := [(5, .int ((nI (n + 4)) + (-1))), (0, .int (-nI (v / 100))), (4, .int (nI (v % 100))), (3, .int (-nI (v / 100))), (6, .int 0), (1, .int (nI (n + 4))), (2, .ref q)]) 4 rfl dJ6_getChars_ba4f3_44 rfl (by decide) rfl ?_
          refine sx_lvc (lv' := [(5, .int (nI (n + 3))), (0, .int (-nI (v / 100))), (4, .int (nI (v % 100))), (3, .int (-nI (v / 100))), (6, .int 0), (1, .int (nI (n + 4))), (2, .ref q)]) (by rw [show nI (n + 4) + (-1) = nI (n + 3) from pk_m1 (n + 3)]) ?_
          refine sx_iload X 0 rfl dJ6_getChars_ba4f3_47 ?_
          refine sx_gst X XJ.1 qm_1341 dJ6_getChars_ba4f3_49 ?_
          refine sx_iload X 2 rfl dJ6_getChars_ba4f3_52 ?_
          refine sx_stb X (v := .int (nI (48 + v % 100 % 10))) XJ.2.1 (nI_in (by omega) (by omega)) (by rw [nI_clamp (by omega)]) dJ6_getChars_ba4f3_54 ?_
          refine sx_bast X (ws' := [zB T q m (upd f (n + 3) (nI (48 + v % 100 % 10)))]) 0 rfl (nI_in (by omega) (by omega)) (by rw [nI_clamp (by omega), nar128 (by omega)]; rfl) dJ6_getChars_ba4f3_55 ?_
          refine sx_aload_n X 6 rfl dJ6_getChars_ba4f3_56 rfl ?_
          refine sx_iinc X (v := ((nI (n + 3)) + (-1))) (lv' := [(5, .int ((nI (n + 3)) + (-1))), (0, .int (-nI (v / 100))), (4, .int (nI (v % 100))), (3, .int (-nI (v / 100))), (6, .int 0), (1, .int (nI (n + 4))), (2, .ref q)]) 0 rfl dJ6_getChars_ba4f3_57 rfl (by decide) rfl ?_
          refine sx_lvc (lv' := [(5, .int (nI (n + 2))), (0, .int (-nI (v / 100))), (4, .int (nI (v % 100))), (3, .int (-nI (v / 100))), (6, .int 0), (1, .int (nI (n + 4))), (2, .ref q)]) (by rw [show nI (n + 3) + (-1) = nI (n + 2) from pk_m1 (n + 2)]) ?_
          refine sx_iload X 0 rfl dJ6_getChars_ba4f3_60 ?_
          refine sx_gst X XJ.2.2.1 qm_1343 dJ6_getChars_ba4f3_62 ?_
          refine sx_iload X 2 rfl dJ6_getChars_ba4f3_65 ?_
          refine sx_stb X (v := .int (nI (48 + v % 100 / 10))) XJ.2.2.2.1 (nI_in (by omega) (by omega)) (by rw [nI_clamp (by omega)]) dJ6_getChars_ba4f3_67 ?_
          refine sx_bast X (ws' := [zB T q m (upd (upd f (n + 3) (nI (48 + v % 100 % 10))) (n + 2) (nI (48 + v % 100 / 10)))]) 0 rfl (nI_in (by omega) (by omega)) (by rw [nI_clamp (by omega), nar128 (by omega)]; rfl) dJ6_getChars_ba4f3_68 ?_
          refine sx_goto X 22 dJ6_getChars_ba4f3_69 rfl ?_
          refine sx_iload_n X 1 rfl dJ6_getChars_ba4f3_22 rfl ?_
          refine sx_bipush X (v := (-100)) dJ6_getChars_ba4f3_23 rfl ?_
          refine sx_icmp_gt X 72 dJ6_getChars_ba4f3_25 rfl (fun _ => ?_) (fun hc => absurd ((sb_nlt (a := 100) (b := (v / 100)) (by decide) (by omega)).mpr (by omega)) hc)
          refine sx_aload_n X 6 rfl dJ6_getChars_ba4f3_72 rfl ?_
          refine sx_iinc X (v := ((nI (n + 2)) + (-1))) (lv' := [(5, .int ((nI (n + 2)) + (-1))), (0, .int (-nI (v / 100))), (4, .int (nI (v % 100))), (3, .int (-nI (v / 100))), (6, .int 0), (1, .int (nI (n + 4))), (2, .ref q)]) 0 rfl dJ6_getChars_ba4f3_73 rfl (by decide) rfl ?_
          refine sx_lvc (lv' := [(5, .int (nI (n + 1))), (0, .int (-nI (v / 100))), (4, .int (nI (v % 100))), (3, .int (-nI (v / 100))), (6, .int 0), (1, .int (nI (n + 4))), (2, .ref q)]) (by rw [show nI (n + 2) + (-1) = nI (n + 1) from pk_m1 (n + 1)]) ?_
          refine sx_iload X 0 rfl dJ6_getChars_ba4f3_76 ?_
          refine sx_gst X XJ.1 qm_1341 dJ6_getChars_ba4f3_78 ?_
          refine sx_iload_n X 1 rfl dJ6_getChars_ba4f3_81 rfl ?_
          refine sx_ineg X dJ6_getChars_ba4f3_82 ?_
          refine sx_topi (y := nI (v / 100)) Int32.neg_neg ?_
          refine sx_stb X (v := .int (nI (48 + (v / 100) % 10))) XJ.2.1 (nI_in (by omega) (by omega)) (by rw [nI_clamp (by omega)]) dJ6_getChars_ba4f3_83 ?_
          refine sx_bast X (ws' := [zB T q m (upd (upd (upd f (n + 3) (nI (48 + v % 100 % 10))) (n + 2) (nI (48 + v % 100 / 10))) (n + 1) (nI (48 + (v / 100) % 10)))]) 0 rfl (nI_in (by omega) (by omega)) (by rw [nI_clamp (by omega), nar128 (by omega)]; rfl) dJ6_getChars_ba4f3_84 ?_
          refine sx_iload_n X 1 rfl dJ6_getChars_ba4f3_85 rfl ?_
          refine sx_bipush X (v := (-9)) dJ6_getChars_ba4f3_86 rfl ?_
          refine sx_icmp_ge X 104 dJ6_getChars_ba4f3_88 rfl (fun hc => absurd hc (fun z => by have := (sb_nle (a := 9) (b := (v / 100)) (by decide) (by omega)).mp z; omega)) (fun _ => ?_)
          refine sx_aload_n X 6 rfl dJ6_getChars_ba4f3_91 rfl ?_
          refine sx_iinc X (v := ((nI (n + 1)) + (-1))) (lv' := [(5, .int ((nI (n + 1)) + (-1))), (0, .int (-nI (v / 100))), (4, .int (nI (v % 100))), (3, .int (-nI (v / 100))), (6, .int 0), (1, .int (nI (n + 4))), (2, .ref q)]) 0 rfl dJ6_getChars_ba4f3_92 rfl (by decide) rfl ?_
          refine sx_lvc (lv' := [(5, .int (nI n)), (0, .int (-nI (v / 100))), (4, .int (nI (v % 100))), (3, .int (-nI (v / 100))), (6, .int 0), (1, .int (nI (n + 4))), (2, .ref q)]) (by rw [show nI (n + 1) + (-1) = nI n from pk_m1 n]) ?_
          refine sx_iload X 0 rfl dJ6_getChars_ba4f3_95 ?_
          refine sx_gst X XJ.2.2.1 qm_1343 dJ6_getChars_ba4f3_97 ?_
          refine sx_iload_n X 1 rfl dJ6_getChars_ba4f3_100 rfl ?_
          refine sx_ineg X dJ6_getChars_ba4f3_101 ?_
          refine sx_topi (y := nI (v / 100)) Int32.neg_neg ?_
          refine sx_stb X (v := .int (nI (48 + (v / 100) / 10))) XJ.2.2.2.1 (nI_in (by omega) (by omega)) (by rw [nI_clamp (by omega)]) dJ6_getChars_ba4f3_102 ?_
          refine sx_bast X (ws' := [zB T q m (upd (upd (upd (upd f (n + 3) (nI (48 + v % 100 % 10))) (n + 2) (nI (48 + v % 100 / 10))) (n + 1) (nI (48 + (v / 100) % 10))) n (nI (48 + (v / 100) / 10)))]) 0 rfl (nI_in (by omega) (by omega)) (by rw [nI_clamp (by omega), nar128 (by omega)]; rfl) dJ6_getChars_ba4f3_103 ?_
          refine sx_iload X 4 rfl dJ6_getChars_ba4f3_104 ?_
          refine sx_if_eq X 118 dJ6_getChars_ba4f3_106 rfl (fun _ => ?_) (fun hc => absurd rfl hc)
          refine sx_iload X 0 rfl dJ6_getChars_ba4f3_118 ?_
          refine sx_pick (upd (upd (upd (upd f (n + 3) (nI (48 + v % 100 % 10))) (n + 2) (nI (48 + v % 100 / 10))) (n + 1) (nI (48 + (v / 100) % 10))) n (nI (48 + (v / 100) / 10))) ⟨sb_fitU (sb_fitU (sb_fitU (sb_fitU (hf) (fit48 (by omega))) (fit48 (by omega))) (fit48 (by omega))) (fit48 (by omega)), fun j hj => by rw [pk_un (by omega), pk_un (by omega), pk_un (by omega), pk_un (by omega)], ?_⟩ ?_
          · rw [decL_4 (by omega) (by omega)]
            intro i hi
            have hi : i < 4 := hi
            have h9 : i = 0 ∨ i = 1 ∨ i = 2 ∨ i = 3 := by omega
            rcases h9 with rfl | rfl | rfl | rfl
            · have h8 : (upd (upd (upd (upd f (n + 3) (nI (48 + v % 100 % 10))) (n + 2) (nI (48 + v % 100 / 10))) (n + 1) (nI (48 + (v / 100) % 10))) n (nI (48 + (v / 100) / 10))) (n) = nI (48 + (v / 100) / 10) := by rw [pk_us]
              exact h8.trans (congrArg nI (by show 48 + (v / 100) / 10 = 48 + v / 1000; omega))
            · have h8 : (upd (upd (upd (upd f (n + 3) (nI (48 + v % 100 % 10))) (n + 2) (nI (48 + v % 100 / 10))) (n + 1) (nI (48 + (v / 100) % 10))) n (nI (48 + (v / 100) / 10))) (n + 1) = nI (48 + (v / 100) % 10) := by rw [pk_un (by omega), pk_us]
              exact h8.trans (congrArg nI (by show 48 + (v / 100) % 10 = 48 + v / 100 % 10; omega))
            · have h8 : (upd (upd (upd (upd f (n + 3) (nI (48 + v % 100 % 10))) (n + 2) (nI (48 + v % 100 / 10))) (n + 1) (nI (48 + (v / 100) % 10))) n (nI (48 + (v / 100) / 10))) (n + 2) = nI (48 + v % 100 / 10) := by rw [pk_un (by omega), pk_un (by omega), pk_us]
              exact h8.trans (congrArg nI (by show 48 + v % 100 / 10 = 48 + v / 10 % 10; omega))
            · have h8 : (upd (upd (upd (upd f (n + 3) (nI (48 + v % 100 % 10))) (n + 2) (nI (48 + v % 100 / 10))) (n + 1) (nI (48 + (v / 100) % 10))) n (nI (48 + (v / 100) / 10))) (n + 3) = nI (48 + v % 100 % 10) := by rw [pk_un (by omega), pk_un (by omega), pk_un (by omega), pk_us]
              exact h8.trans (congrArg nI (by show 48 + v % 100 % 10 = 48 + v % 10; omega))
          exact sx_iret X rfl dJ6_getChars_ba4f3_120 rfl rfl rfl
        · by_cases h5 : v < 100000
          · have hL : (decL v).length = 5 := by
              rw [decL_5 (by omega) (by omega)]
              rfl
            rw [hL] at hm ⊢
            refine sx_iload_n X 1 rfl dJ6_getChars_ba4f3_0 rfl ?_
            refine sx_istore X (lv' := [(5, .int (nI (n + 5))), (0, .int (nI v)), (1, .int (nI (n + 5))), (2, .ref q)]) dJ6_getChars_ba4f3_1 (by decide) rfl ?_
            refine sx_iload_n X 1 rfl dJ6_getChars_ba4f3_3 rfl ?_
            refine sx_if_ge X 11 dJ6_getChars_ba4f3_4 rfl (fun _ => ?_) (fun hc => absurd (nI_pos' (by omega)) hc)
            refine sx_iconst X (v := 0) dJ6_getChars_ba4f3_11 rfl ?_
            refine sx_istore X (lv' := [(6, .int 0), (5, .int (nI (n + 5))), (0, .int (nI v)), (1, .int (nI (n + 5))), (2, .ref q)]) dJ6_getChars_ba4f3_12 (by decide) rfl ?_
            refine sx_iload X 0 rfl dJ6_getChars_ba4f3_14 ?_
            refine sx_if_ne X 22 dJ6_getChars_ba4f3_16 rfl (fun hc => absurd rfl hc) (fun _ => ?_)
            refine sx_iload_n X 2 rfl dJ6_getChars_ba4f3_19 rfl ?_
            refine sx_ineg X dJ6_getChars_ba4f3_20 ?_
            refine sx_istore_n X (lv' := [(0, .int (-(nI v))), (6, .int 0), (5, .int (nI (n + 5))), (1, .int (nI (n + 5))), (2, .ref q)]) dJ6_getChars_ba4f3_21 rfl (by decide) rfl ?_
            refine sx_iload_n X 0 rfl dJ6_getChars_ba4f3_22 rfl ?_
            refine sx_bipush X (v := (-100)) dJ6_getChars_ba4f3_23 rfl ?_
            refine sx_icmp_gt X 72 dJ6_getChars_ba4f3_25 rfl (fun hc => absurd hc (fun z => by have := (sb_nlt (a := 100) (b := v) (by decide) (by omega)).mp z; omega)) (fun _ => ?_)
            refine sx_iload_n X 0 rfl dJ6_getChars_ba4f3_28 rfl ?_
            refine sx_bipush X (v := 100) dJ6_getChars_ba4f3_29 rfl ?_
            refine sx_idiv X (by decide) dJ6_getChars_ba4f3_31 ?_
            refine sx_topi (y := (-nI (v / 100))) (sb_ndiv (by omega)) ?_
            refine sx_istore_n X (lv' := [(3, .int (-nI (v / 100))), (0, .int (-(nI v))), (6, .int 0), (5, .int (nI (n + 5))), (1, .int (nI (n + 5))), (2, .ref q)]) dJ6_getChars_ba4f3_32 rfl (by decide) rfl ?_
            refine sx_iload_n X 0 rfl dJ6_getChars_ba4f3_33 rfl ?_
            refine sx_bipush X (v := 100) dJ6_getChars_ba4f3_34 rfl ?_
            refine sx_imul X dJ6_getChars_ba4f3_36 ?_
            refine sx_iload_n X 1 rfl dJ6_getChars_ba4f3_37 rfl ?_
            refine sx_isub X dJ6_getChars_ba4f3_38 ?_
            refine sx_topi (y := nI (v % 100)) (sb_nrem (by omega)) ?_
            refine sx_istore X (lv' := [(4, .int (nI (v % 100))), (3, .int (-nI (v / 100))), (0, .int (-(nI v))), (6, .int 0), (5, .int (nI (n + 5))), (1, .int (nI (n + 5))), (2, .ref q)]) dJ6_getChars_ba4f3_39 (by decide) rfl ?_
            refine sx_iload_n X 1 rfl dJ6_getChars_ba4f3_41 rfl ?_
            refine sx_istore_n X (lv' := [(0, .int (-nI (v / 100))), (4, .int (nI (v % 100))), (3, .int (-nI (v / 100))), (6, .int 0), (5, .int (nI (n + 5))), (1, .int (nI (n + 5))), (2, .ref q)]) dJ6_getChars_ba4f3_42 rfl (by decide) rfl ?_
            refine sx_aload_n X 6 rfl dJ6_getChars_ba4f3_43 rfl ?_
            refine sx_iinc X (v := ((nI (n + 5)) + (-1))) (lv' := [(5, .int ((nI (n + 5)) + (-1))), (0, .int (-nI (v / 100))), (4, .int (nI (v % 100))), (3, .int (-nI (v / 100))), (6, .int 0), (1, .int (nI (n + 5))), (2, .ref q)]) 4 rfl dJ6_getChars_ba4f3_44 rfl (by decide) rfl ?_
            refine sx_lvc (lv' := [(5, .int (nI (n + 4))), (0, .int (-nI (v / 100))), (4, .int (nI (v % 100))), (3, .int (-nI (v / 100))), (6, .int 0), (1, .int (nI (n + 5))), (2, .ref q)]) (by rw [show nI (n + 5) + (-1) = nI (n + 4) from pk_m1 (n + 4)]) ?_
            refine sx_iload X 0 rfl dJ6_getChars_ba4f3_47 ?_
            refine sx_gst X XJ.1 qm_1341 dJ6_getChars_ba4f3_49 ?_
            refine sx_iload X 2 rfl dJ6_getChars_ba4f3_52 ?_
            refine sx_stb X (v := .int (nI (48 + v % 100 % 10))) XJ.2.1 (nI_in (by omega) (by omega)) (by rw [nI_clamp (by omega)]) dJ6_getChars_ba4f3_54 ?_
            refine sx_bast X (ws' := [zB T q m (upd f (n + 4) (nI (48 + v % 100 % 10)))]) 0 rfl (nI_in (by omega) (by omega)) (by rw [nI_clamp (by omega), nar128 (by omega)]; rfl) dJ6_getChars_ba4f3_55 ?_
            refine sx_aload_n X 6 rfl dJ6_getChars_ba4f3_56 rfl ?_
            refine sx_iinc X (v := ((nI (n + 4)) + (-1))) (lv' := [(5, .int ((nI (n + 4)) + (-1))), (0, .int (-nI (v / 100))), (4, .int (nI (v % 100))), (3, .int (-nI (v / 100))), (6, .int 0), (1, .int (nI (n + 5))), (2, .ref q)]) 0 rfl dJ6_getChars_ba4f3_57 rfl (by decide) rfl ?_
            refine sx_lvc (lv' := [(5, .int (nI (n + 3))), (0, .int (-nI (v / 100))), (4, .int (nI (v % 100))), (3, .int (-nI (v / 100))), (6, .int 0), (1, .int (nI (n + 5))), (2, .ref q)]) (by rw [show nI (n + 4) + (-1) = nI (n + 3) from pk_m1 (n + 3)]) ?_
            refine sx_iload X 0 rfl dJ6_getChars_ba4f3_60 ?_
            refine sx_gst X XJ.2.2.1 qm_1343 dJ6_getChars_ba4f3_62 ?_
            refine sx_iload X 2 rfl dJ6_getChars_ba4f3_65 ?_
            refine sx_stb X (v := .int (nI (48 + v % 100 / 10))) XJ.2.2.2.1 (nI_in (by omega) (by omega)) (by rw [nI_clamp (by omega)]) dJ6_getChars_ba4f3_67 ?_
            refine sx_bast X (ws' := [zB T q m (upd (upd f (n + 4) (nI (48 + v % 100 % 10))) (n + 3) (nI (48 + v % 100 / 10)))]) 0 rfl (nI_in (by omega) (by omega)) (by rw [nI_clamp (by omega), nar128 (by omega)]; rfl) dJ6_getChars_ba4f3_68 ?_
            refine sx_goto X 22 dJ6_getChars_ba4f3_69 rfl ?_
            refine sx_iload_n X 1 rfl dJ6_getChars_ba4f3_22 rfl ?_
            refine sx_bipush X (v := (-100)) dJ6_getChars_ba4f3_23 rfl ?_
            refine sx_icmp_gt X 72 dJ6_getChars_ba4f3_25 rfl (fun hc => absurd hc (fun z => by have := (sb_nlt (a := 100) (b := (v / 100)) (by decide) (by omega)).mp z; omega)) (fun _ => ?_)
            refine sx_iload_n X 1 rfl dJ6_getChars_ba4f3_28 rfl ?_
            refine sx_bipush X (v := 100) dJ6_getChars_ba4f3_29 rfl ?_
            refine sx_idiv X (by decide) dJ6_getChars_ba4f3_31 ?_
            refine sx_topi (y := (-nI ((v / 100) / 100))) (sb_ndiv (by omega)) ?_
            refine sx_istore_n X (lv' := [(3, .int (-nI ((v / 100) / 100))), (5, .int (nI (n + 3))), (0, .int (-nI (v / 100))), (4, .int (nI (v % 100))), (6, .int 0), (1, .int (nI (n + 5))), (2, .ref q)]) dJ6_getChars_ba4f3_32 rfl (by decide) rfl ?_
            refine sx_iload_n X 0 rfl dJ6_getChars_ba4f3_33 rfl ?_
            refine sx_bipush X (v := 100) dJ6_getChars_ba4f3_34 rfl ?_
            refine sx_imul X dJ6_getChars_ba4f3_36 ?_
            refine sx_iload_n X 2 rfl dJ6_getChars_ba4f3_37 rfl ?_
            refine sx_isub X dJ6_getChars_ba4f3_38 ?_
            refine sx_topi (y := nI ((v / 100) % 100)) (sb_nrem (by omega)) ?_
            refine sx_istore X (lv' := [(4, .int (nI ((v / 100) % 100))), (3, .int (-nI ((v / 100) / 100))), (5, .int (nI (n + 3))), (0, .int (-nI (v / 100))), (6, .int 0), (1, .int (nI (n + 5))), (2, .ref q)]) dJ6_getChars_ba4f3_39 (by decide) rfl ?_
            refine sx_iload_n X 1 rfl dJ6_getChars_ba4f3_41 rfl ?_
            refine sx_istore_n X (lv' := [(0, .int (-nI ((v / 100) / 100))), (4, .int (nI ((v / 100) % 100))), (3, .int (-nI ((v / 100) / 100))), (5, .int (nI (n + 3))), (6, .int 0), (1, .int (nI (n + 5))), (2, .ref q)]) dJ6_getChars_ba4f3_42 rfl (by decide) rfl ?_
            refine sx_aload_n X 6 rfl dJ6_getChars_ba4f3_43 rfl ?_
            refine sx_iinc X (v := ((nI (n + 3)) + (-1))) (lv' := [(5, .int ((nI (n + 3)) + (-1))), (0, .int (-nI ((v / 100) / 100))), (4, .int (nI ((v / 100) % 100))), (3, .int (-nI ((v / 100) / 100))), (6, .int 0), (1, .int (nI (n + 5))), (2, .ref q)]) 3 rfl dJ6_getChars_ba4f3_44 rfl (by decide) rfl ?_
            refine sx_lvc (lv' := [(5, .int (nI (n + 2))), (0, .int (-nI ((v / 100) / 100))), (4, .int (nI ((v / 100) % 100))), (3, .int (-nI ((v / 100) / 100))), (6, .int 0), (1, .int (nI (n + 5))), (2, .ref q)]) (by rw [show nI (n + 3) + (-1) = nI (n + 2) from pk_m1 (n + 2)]) ?_
            refine sx_iload X 0 rfl dJ6_getChars_ba4f3_47 ?_
            refine sx_gst X XJ.1 qm_1341 dJ6_getChars_ba4f3_49 ?_
            refine sx_iload X 2 rfl dJ6_getChars_ba4f3_52 ?_
            refine sx_stb X (v := .int (nI (48 + (v / 100) % 100 % 10))) XJ.2.1 (nI_in (by omega) (by omega)) (by rw [nI_clamp (by omega)]) dJ6_getChars_ba4f3_54 ?_
            refine sx_bast X (ws' := [zB T q m (upd (upd (upd f (n + 4) (nI (48 + v % 100 % 10))) (n + 3) (nI (48 + v % 100 / 10))) (n + 2) (nI (48 + (v / 100) % 100 % 10)))]) 0 rfl (nI_in (by omega) (by omega)) (by rw [nI_clamp (by omega), nar128 (by omega)]; rfl) dJ6_getChars_ba4f3_55 ?_
            refine sx_aload_n X 6 rfl dJ6_getChars_ba4f3_56 rfl ?_
            refine sx_iinc X (v := ((nI (n + 2)) + (-1))) (lv' := [(5, .int ((nI (n + 2)) + (-1))), (0, .int (-nI ((v / 100) / 100))), (4, .int (nI ((v / 100) % 100))), (3, .int (-nI ((v / 100) / 100))), (6, .int 0), (1, .int (nI (n + 5))), (2, .ref q)]) 0 rfl dJ6_getChars_ba4f3_57 rfl (by decide) rfl ?_
            refine sx_lvc (lv' := [(5, .int (nI (n + 1))), (0, .int (-nI ((v / 100) / 100))), (4, .int (nI ((v / 100) % 100))), (3, .int (-nI ((v / 100) / 100))), (6, .int 0), (1, .int (nI (n + 5))), (2, .ref q)]) (by rw [show nI (n + 2) + (-1) = nI (n + 1) from pk_m1 (n + 1)]) ?_
            refine sx_iload X 0 rfl dJ6_getChars_ba4f3_60 ?_
            refine sx_gst X XJ.2.2.1 qm_1343 dJ6_getChars_ba4f3_62 ?_
            refine sx_iload X 2 rfl dJ6_getChars_ba4f3_65 ?_
            refine sx_stb X (v := .int (nI (48 + (v / 100) % 100 / 10))) XJ.2.2.2.1 (nI_in (by omega) (by omega)) (by rw [nI_clamp (by omega)]) dJ6_getChars_ba4f3_67 ?_
            refine sx_bast X (ws' := [zB T q m (upd (upd (upd (upd f (n + 4) (nI (48 + v % 100 % 10))) (n + 3) (nI (48 + v % 100 / 10))) (n + 2) (nI (48 + (v / 100) % 100 % 10))) (n + 1) (nI (48 + (v / 100) % 100 / 10)))]) 0 rfl (nI_in (by omega) (by omega)) (by rw [nI_clamp (by omega), nar128 (by omega)]; rfl) dJ6_getChars_ba4f3_68 ?_
            refine sx_goto X 22 dJ6_getChars_ba4f3_69 rfl ?_
            refine sx_iload_n X 1 rfl dJ6_getChars_ba4f3_22 rfl ?_
            refine sx_bipush X (v := (-100)) dJ6_getChars_ba4f3_23 rfl ?_
            refine sx_icmp_gt X 72 dJ6_getChars_ba4f3_25 rfl (fun _ => ?_) (fun hc => absurd ((sb_nlt (a := 100) (b := ((v / 100) / 100)) (by decide) (by omega)).mpr (by omega)) hc)
            refine sx_aload_n X 6 rfl dJ6_getChars_ba4f3_72 rfl ?_
            refine sx_iinc X (v := ((nI (n + 1)) + (-1))) (lv' := [(5, .int ((nI (n + 1)) + (-1))), (0, .int (-nI ((v / 100) / 100))), (4, .int (nI ((v / 100) % 100))), (3, .int (-nI ((v / 100) / 100))), (6, .int 0), (1, .int (nI (n + 5))), (2, .ref q)]) 0 rfl dJ6_getChars_ba4f3_73 rfl (by decide) rfl ?_
            refine sx_lvc (lv' := [(5, .int (nI n)), (0, .int (-nI ((v / 100) / 100))), (4, .int (nI ((v / 100) % 100))), (3, .int (-nI ((v / 100) / 100))), (6, .int 0), (1, .int (nI (n + 5))), (2, .ref q)]) (by rw [show nI (n + 1) + (-1) = nI n from pk_m1 n]) ?_
            refine sx_iload X 0 rfl dJ6_getChars_ba4f3_76 ?_
            refine sx_gst X XJ.1 qm_1341 dJ6_getChars_ba4f3_78 ?_
            refine sx_iload_n X 1 rfl dJ6_getChars_ba4f3_81 rfl ?_
            refine sx_ineg X dJ6_getChars_ba4f3_82 ?_
            refine sx_topi (y := nI ((v / 100) / 100)) Int32.neg_neg ?_
            refine sx_stb X (v := .int (nI (48 + ((v / 100) / 100) % 10))) XJ.2.1 (nI_in (by omega) (by omega)) (by rw [nI_clamp (by omega)]) dJ6_getChars_ba4f3_83 ?_
            refine sx_bast X (ws' := [zB T q m (upd (upd (upd (upd (upd f (n + 4) (nI (48 + v % 100 % 10))) (n + 3) (nI (48 + v % 100 / 10))) (n + 2) (nI (48 + (v / 100) % 100 % 10))) (n + 1) (nI (48 + (v / 100) % 100 / 10))) n (nI (48 + ((v / 100) / 100) % 10)))]) 0 rfl (nI_in (by omega) (by omega)) (by rw [nI_clamp (by omega), nar128 (by omega)]; rfl) dJ6_getChars_ba4f3_84 ?_
            refine sx_iload_n X 1 rfl dJ6_getChars_ba4f3_85 rfl ?_
            refine sx_bipush X (v := (-9)) dJ6_getChars_ba4f3_86 rfl ?_
            refine sx_icmp_ge X 104 dJ6_getChars_ba4f3_88 rfl (fun _ => ?_) (fun hc => absurd ((sb_nle (a := 9) (b := ((v / 100) / 100)) (by decide) (by omega)).mpr (by omega)) hc)
            refine sx_iload X 4 rfl dJ6_getChars_ba4f3_104 ?_
            refine sx_if_eq X 118 dJ6_getChars_ba4f3_106 rfl (fun _ => ?_) (fun hc => absurd rfl hc)
            refine sx_iload X 0 rfl dJ6_getChars_ba4f3_118 ?_
            refine sx_pick (upd (upd (upd (upd (upd f (n + 4) (nI (48 + v % 100 % 10))) (n + 3) (nI (48 + v % 100 / 10))) (n + 2) (nI (48 + (v / 100) % 100 % 10))) (n + 1) (nI (48 + (v / 100) % 100 / 10))) n (nI (48 + ((v / 100) / 100) % 10))) ⟨sb_fitU (sb_fitU (sb_fitU (sb_fitU (sb_fitU (hf) (fit48 (by omega))) (fit48 (by omega))) (fit48 (by omega))) (fit48 (by omega))) (fit48 (by omega)), fun j hj => by rw [pk_un (by omega), pk_un (by omega), pk_un (by omega), pk_un (by omega), pk_un (by omega)], ?_⟩ ?_
            · rw [decL_5 (by omega) (by omega)]
              intro i hi
              have hi : i < 5 := hi
              have h9 : i = 0 ∨ i = 1 ∨ i = 2 ∨ i = 3 ∨ i = 4 := by omega
              rcases h9 with rfl | rfl | rfl | rfl | rfl
              · have h8 : (upd (upd (upd (upd (upd f (n + 4) (nI (48 + v % 100 % 10))) (n + 3) (nI (48 + v % 100 / 10))) (n + 2) (nI (48 + (v / 100) % 100 % 10))) (n + 1) (nI (48 + (v / 100) % 100 / 10))) n (nI (48 + ((v / 100) / 100) % 10))) (n) = nI (48 + ((v / 100) / 100) % 10) := by rw [pk_us]
                exact h8.trans (congrArg nI (by show 48 + ((v / 100) / 100) % 10 = 48 + v / 10000; omega))
              · have h8 : (upd (upd (upd (upd (upd f (n + 4) (nI (48 + v % 100 % 10))) (n + 3) (nI (48 + v % 100 / 10))) (n + 2) (nI (48 + (v / 100) % 100 % 10))) (n + 1) (nI (48 + (v / 100) % 100 / 10))) n (nI (48 + ((v / 100) / 100) % 10))) (n + 1) = nI (48 + (v / 100) % 100 / 10) := by rw [pk_un (by omega), pk_us]
                exact h8.trans (congrArg nI (by show 48 + (v / 100) % 100 / 10 = 48 + v / 1000 % 10; omega))
              · have h8 : (upd (upd (upd (upd (upd f (n + 4) (nI (48 + v % 100 % 10))) (n + 3) (nI (48 + v % 100 / 10))) (n + 2) (nI (48 + (v / 100) % 100 % 10))) (n + 1) (nI (48 + (v / 100) % 100 / 10))) n (nI (48 + ((v / 100) / 100) % 10))) (n + 2) = nI (48 + (v / 100) % 100 % 10) := by rw [pk_un (by omega), pk_un (by omega), pk_us]
                exact h8.trans (congrArg nI (by show 48 + (v / 100) % 100 % 10 = 48 + v / 100 % 10; omega))
              · have h8 : (upd (upd (upd (upd (upd f (n + 4) (nI (48 + v % 100 % 10))) (n + 3) (nI (48 + v % 100 / 10))) (n + 2) (nI (48 + (v / 100) % 100 % 10))) (n + 1) (nI (48 + (v / 100) % 100 / 10))) n (nI (48 + ((v / 100) / 100) % 10))) (n + 3) = nI (48 + v % 100 / 10) := by rw [pk_un (by omega), pk_un (by omega), pk_un (by omega), pk_us]
                exact h8.trans (congrArg nI (by show 48 + v % 100 / 10 = 48 + v / 10 % 10; omega))
              · have h8 : (upd (upd (upd (upd (upd f (n + 4) (nI (48 + v % 100 % 10))) (n + 3) (nI (48 + v % 100 / 10))) (n + 2) (nI (48 + (v / 100) % 100 % 10))) (n + 1) (nI (48 + (v / 100) % 100 / 10))) n (nI (48 + ((v / 100) / 100) % 10))) (n + 4) = nI (48 + v % 100 % 10) := by rw [pk_un (by omega), pk_un (by omega), pk_un (by omega), pk_un (by omega), pk_us]
                exact h8.trans (congrArg nI (by show 48 + v % 100 % 10 = 48 + v % 10; omega))
            exact sx_iret X rfl dJ6_getChars_ba4f3_120 rfl rfl rfl
          · have hL : (decL v).length = 6 := by
              rw [decL_6 (by omega)]
              rfl
            rw [hL] at hm ⊢
            refine sx_iload_n X 1 rfl dJ6_getChars_ba4f3_0 rfl ?_
            refine sx_istore X (lv' := [(5, .int (nI (n + 6))), (0, .int (nI v)), (1, .int (nI (n + 6))), (2, .ref q)]) dJ6_getChars_ba4f3_1 (by decide) rfl ?_
            refine sx_iload_n X 1 rfl dJ6_getChars_ba4f3_3 rfl ?_
            refine sx_if_ge X 11 dJ6_getChars_ba4f3_4 rfl (fun _ => ?_) (fun hc => absurd (nI_pos' (by omega)) hc)
            refine sx_iconst X (v := 0) dJ6_getChars_ba4f3_11 rfl ?_
            refine sx_istore X (lv' := [(6, .int 0), (5, .int (nI (n + 6))), (0, .int (nI v)), (1, .int (nI (n + 6))), (2, .ref q)]) dJ6_getChars_ba4f3_12 (by decide) rfl ?_
            refine sx_iload X 0 rfl dJ6_getChars_ba4f3_14 ?_
            refine sx_if_ne X 22 dJ6_getChars_ba4f3_16 rfl (fun hc => absurd rfl hc) (fun _ => ?_)
            refine sx_iload_n X 2 rfl dJ6_getChars_ba4f3_19 rfl ?_
            refine sx_ineg X dJ6_getChars_ba4f3_20 ?_
            refine sx_istore_n X (lv' := [(0, .int (-(nI v))), (6, .int 0), (5, .int (nI (n + 6))), (1, .int (nI (n + 6))), (2, .ref q)]) dJ6_getChars_ba4f3_21 rfl (by decide) rfl ?_
            refine sx_iload_n X 0 rfl dJ6_getChars_ba4f3_22 rfl ?_
            refine sx_bipush X (v := (-100)) dJ6_getChars_ba4f3_23 rfl ?_
            refine sx_icmp_gt X 72 dJ6_getChars_ba4f3_25 rfl (fun hc => absurd hc (fun z => by have := (sb_nlt (a := 100) (b := v) (by decide) (by omega)).mp z; omega)) (fun _ => ?_)
            refine sx_iload_n X 0 rfl dJ6_getChars_ba4f3_28 rfl ?_
            refine sx_bipush X (v := 100) dJ6_getChars_ba4f3_29 rfl ?_
            refine sx_idiv X (by decide) dJ6_getChars_ba4f3_31 ?_
            refine sx_topi (y := (-nI (v / 100))) (sb_ndiv (by omega)) ?_
            refine sx_istore_n X (lv' := [(3, .int (-nI (v / 100))), (0, .int (-(nI v))), (6, .int 0), (5, .int (nI (n + 6))), (1, .int (nI (n + 6))), (2, .ref q)]) dJ6_getChars_ba4f3_32 rfl (by decide) rfl ?_
            refine sx_iload_n X 0 rfl dJ6_getChars_ba4f3_33 rfl ?_
            refine sx_bipush X (v := 100) dJ6_getChars_ba4f3_34 rfl ?_
            refine sx_imul X dJ6_getChars_ba4f3_36 ?_
            refine sx_iload_n X 1 rfl dJ6_getChars_ba4f3_37 rfl ?_
            refine sx_isub X dJ6_getChars_ba4f3_38 ?_
            refine sx_topi (y := nI (v % 100)) (sb_nrem (by omega)) ?_
            refine sx_istore X (lv' := [(4, .int (nI (v % 100))), (3, .int (-nI (v / 100))), (0, .int (-(nI v))), (6, .int 0), (5, .int (nI (n + 6))), (1, .int (nI (n + 6))), (2, .ref q)]) dJ6_getChars_ba4f3_39 (by decide) rfl ?_
            refine sx_iload_n X 1 rfl dJ6_getChars_ba4f3_41 rfl ?_
            refine sx_istore_n X (lv' := [(0, .int (-nI (v / 100))), (4, .int (nI (v % 100))), (3, .int (-nI (v / 100))), (6, .int 0), (5, .int (nI (n + 6))), (1, .int (nI (n + 6))), (2, .ref q)]) dJ6_getChars_ba4f3_42 rfl (by decide) rfl ?_
            refine sx_aload_n X 6 rfl dJ6_getChars_ba4f3_43 rfl ?_
            refine sx_iinc X (v := ((nI (n + 6)) + (-1))) (lv' := [(5, .int ((nI (n + 6)) + (-1))), (0, .int (-nI (v / 100))), (4, .int (nI (v % 100))), (3, .int (-nI (v / 100))), (6, .int 0), (1, .int (nI (n + 6))), (2, .ref q)]) 4 rfl dJ6_getChars_ba4f3_44 rfl (by decide) rfl ?_
            refine sx_lvc (lv' := [(5, .int (nI (n + 5))), (0, .int (-nI (v / 100))), (4, .int (nI (v % 100))), (3, .int (-nI (v / 100))), (6, .int 0), (1, .int (nI (n + 6))), (2, .ref q)]) (by rw [show nI (n + 6) + (-1) = nI (n + 5) from pk_m1 (n + 5)]) ?_
            refine sx_iload X 0 rfl dJ6_getChars_ba4f3_47 ?_
            refine sx_gst X XJ.1 qm_1341 dJ6_getChars_ba4f3_49 ?_
            refine sx_iload X 2 rfl dJ6_getChars_ba4f3_52 ?_
            refine sx_stb X (v := .int (nI (48 + v % 100 % 10))) XJ.2.1 (nI_in (by omega) (by omega)) (by rw [nI_clamp (by omega)]) dJ6_getChars_ba4f3_54 ?_
            refine sx_bast X (ws' := [zB T q m (upd f (n + 5) (nI (48 + v % 100 % 10)))]) 0 rfl (nI_in (by omega) (by omega)) (by rw [nI_clamp (by omega), nar128 (by omega)]; rfl) dJ6_getChars_ba4f3_55 ?_
            refine sx_aload_n X 6 rfl dJ6_getChars_ba4f3_56 rfl ?_
            refine sx_iinc X (v := ((nI (n + 5)) + (-1))) (lv' := [(5, .int ((nI (n + 5)) + (-1))), (0, .int (-nI (v / 100))), (4, .int (nI (v % 100))), (3, .int (-nI (v / 100))), (6, .int 0), (1, .int (nI (n + 6))), (2, .ref q)]) 0 rfl dJ6_getChars_ba4f3_57 rfl (by decide) rfl ?_
            refine sx_lvc (lv' := [(5, .int (nI (n + 4))), (0, .int (-nI (v / 100))), (4, .int (nI (v % 100))), (3, .int (-nI (v / 100))), (6, .int 0), (1, .int (nI (n + 6))), (2, .ref q)]) (by rw [show nI (n + 5) + (-1) = nI (n + 4) from pk_m1 (n + 4)]) ?_
            refine sx_iload X 0 rfl dJ6_getChars_ba4f3_60 ?_
            refine sx_gst X XJ.2.2.1 qm_1343 dJ6_getChars_ba4f3_62 ?_
            refine sx_iload X 2 rfl dJ6_getChars_ba4f3_65 ?_
            refine sx_stb X (v := .int (nI (48 + v % 100 / 10))) XJ.2.2.2.1 (nI_in (by omega) (by omega)) (by rw [nI_clamp (by omega)]) dJ6_getChars_ba4f3_67 ?_
            refine sx_bast X (ws' := [zB T q m (upd (upd f (n + 5) (nI (48 + v % 100 % 10))) (n + 4) (nI (48 + v % 100 / 10)))]) 0 rfl (nI_in (by omega) (by omega)) (by rw [nI_clamp (by omega), nar128 (by omega)]; rfl) dJ6_getChars_ba4f3_68 ?_
            refine sx_goto X 22 dJ6_getChars_ba4f3_69 rfl ?_
            refine sx_iload_n X 1 rfl dJ6_getChars_ba4f3_22 rfl ?_
            refine sx_bipush X (v := (-100)) dJ6_getChars_ba4f3_23 rfl ?_
            refine sx_icmp_gt X 72 dJ6_getChars_ba4f3_25 rfl (fun hc => absurd hc (fun z => by have := (sb_nlt (a := 100) (b := (v / 100)) (by decide) (by omega)).mp z; omega)) (fun _ => ?_)
            refine sx_iload_n X 1 rfl dJ6_getChars_ba4f3_28 rfl ?_
            refine sx_bipush X (v := 100) dJ6_getChars_ba4f3_29 rfl ?_
            refine sx_idiv X (by decide) dJ6_getChars_ba4f3_31 ?_
            refine sx_topi (y := (-nI ((v / 100) / 100))) (sb_ndiv (by omega)) ?_
            refine sx_istore_n X (lv' := [(3, .int (-nI ((v / 100) / 100))), (5, .int (nI (n + 4))), (0, .int (-nI (v / 100))), (4, .int (nI (v % 100))), (6, .int 0), (1, .int (nI (n + 6))), (2, .ref q)]) dJ6_getChars_ba4f3_32 rfl (by decide) rfl ?_
            refine sx_iload_n X 0 rfl dJ6_getChars_ba4f3_33 rfl ?_
            refine sx_bipush X (v := 100) dJ6_getChars_ba4f3_34 rfl ?_
            refine sx_imul X dJ6_getChars_ba4f3_36 ?_
            refine sx_iload_n X 2 rfl dJ6_getChars_ba4f3_37 rfl ?_
            refine sx_isub X dJ6_getChars_ba4f3_38 ?_
            refine sx_topi (y := nI ((v / 100) % 100)) (sb_nrem (by omega)) ?_
            refine sx_istore X (lv' := [(4, .int (nI ((v / 100) % 100))), (3, .int (-nI ((v / 100) / 100))), (5, .int (nI (n + 4))), (0, .int (-nI (v / 100))), (6, .int 0), (1, .int (nI (n + 6))), (2, .ref q)]) dJ6_getChars_ba4f3_39 (by decide) rfl ?_
            refine sx_iload_n X 1 rfl dJ6_getChars_ba4f3_41 rfl ?_
            refine sx_istore_n X (lv' := [(0, .int (-nI ((v / 100) / 100))), (4, .int (nI ((v / 100) % 100))), (3, .int (-nI ((v / 100) / 100))), (5, .int (nI (n + 4))), (6, .int 0), (1, .int (nI (n + 6))), (2, .ref q)]) dJ6_getChars_ba4f3_42 rfl (by decide) rfl ?_
            refine sx_aload_n X 6 rfl dJ6_getChars_ba4f3_43 rfl ?_
            refine sx_iinc X (v := ((nI (n + 4)) + (-1))) (lv' := [(5, .int ((nI (n + 4)) + (-1))), (0, .int (-nI ((v / 100) / 100))), (4, .int (nI ((v / 100) % 100))), (3, .int (-nI ((v / 100) / 100))), (6, .int 0), (1, .int (nI (n + 6))), (2, .ref q)]) 3 rfl dJ6_getChars_ba4f3_44 rfl (by decide) rfl ?_
            refine sx_lvc (lv' := [(5, .int (nI (n + 3))), (0, .int (-nI ((v / 100) / 100))), (4, .int (nI ((v / 100) % 100))), (3, .int (-nI ((v / 100) / 100))), (6, .int 0), (1, .int (nI (n + 6))), (2, .ref q)]) (by rw [show nI (n + 4) + (-1) = nI (n + 3) from pk_m1 (n + 3)]) ?_
            refine sx_iload X 0 rfl dJ6_getChars_ba4f3_47 ?_
            refine sx_gst X XJ.1 qm_1341 dJ6_getChars_ba4f3_49 ?_
            refine sx_iload X 2 rfl dJ6_getChars_ba4f3_52 ?_
            refine sx_stb X (v := .int (nI (48 + (v / 100) % 100 % 10))) XJ.2.1 (nI_in (by omega) (by omega)) (by rw [nI_clamp (by omega)]) dJ6_getChars_ba4f3_54 ?_
            refine sx_bast X (ws' := [zB T q m (upd (upd (upd f (n + 5) (nI (48 + v % 100 % 10))) (n + 4) (nI (48 + v % 100 / 10))) (n + 3) (nI (48 + (v / 100) % 100 % 10)))]) 0 rfl (nI_in (by omega) (by omega)) (by rw [nI_clamp (by omega), nar128 (by omega)]; rfl) dJ6_getChars_ba4f3_55 ?_
            refine sx_aload_n X 6 rfl dJ6_getChars_ba4f3_56 rfl ?_
            refine sx_iinc X (v := ((nI (n + 3)) + (-1))) (lv' := [(5, .int ((nI (n + 3)) + (-1))), (0, .int (-nI ((v / 100) / 100))), (4, .int (nI ((v / 100) % 100))), (3, .int (-nI ((v / 100) / 100))), (6, .int 0), (1, .int (nI (n + 6))), (2, .ref q)]) 0 rfl dJ6_getChars_ba4f3_57 rfl (by decide) rfl ?_
            refine sx_lvc (lv' := [(5, .int (nI (n + 2))), (0, .int (-nI ((v / 100) / 100))), (4, .int (nI ((v / 100) % 100))), (3, .int (-nI ((v / 100) / 100))), (6, .int 0), (1, .int (nI (n + 6))), (2, .ref q)]) (by rw [show nI (n + 3) + (-1) = nI (n + 2) from pk_m1 (n + 2)]) ?_
            refine sx_iload X 0 rfl dJ6_getChars_ba4f3_60 ?_
            refine sx_gst X XJ.2.2.1 qm_1343 dJ6_getChars_ba4f3_62 ?_
            refine sx_iload X 2 rfl dJ6_getChars_ba4f3_65 ?_
            refine sx_stb X (v := .int (nI (48 + (v / 100) % 100 / 10))) XJ.2.2.2.1 (nI_in (by omega) (by omega)) (by rw [nI_clamp (by omega)]) dJ6_getChars_ba4f3_67 ?_
            refine sx_bast X (ws' := [zB T q m (upd (upd (upd (upd f (n + 5) (nI (48 + v % 100 % 10))) (n + 4) (nI (48 + v % 100 / 10))) (n + 3) (nI (48 + (v / 100) % 100 % 10))) (n + 2) (nI (48 + (v / 100) % 100 / 10)))]) 0 rfl (nI_in (by omega) (by omega)) (by rw [nI_clamp (by omega), nar128 (by omega)]; rfl) dJ6_getChars_ba4f3_68 ?_
            refine sx_goto X 22 dJ6_getChars_ba4f3_69 rfl ?_
            refine sx_iload_n X 1 rfl dJ6_getChars_ba4f3_22 rfl ?_
            refine sx_bipush X (v := (-100)) dJ6_getChars_ba4f3_23 rfl ?_
            refine sx_icmp_gt X 72 dJ6_getChars_ba4f3_25 rfl (fun _ => ?_) (fun hc => absurd ((sb_nlt (a := 100) (b := ((v / 100) / 100)) (by decide) (by omega)).mpr (by omega)) hc)
            refine sx_aload_n X 6 rfl dJ6_getChars_ba4f3_72 rfl ?_
            refine sx_iinc X (v := ((nI (n + 2)) + (-1))) (lv' := [(5, .int ((nI (n + 2)) + (-1))), (0, .int (-nI ((v / 100) / 100))), (4, .int (nI ((v / 100) % 100))), (3, .int (-nI ((v / 100) / 100))), (6, .int 0), (1, .int (nI (n + 6))), (2, .ref q)]) 0 rfl dJ6_getChars_ba4f3_73 rfl (by decide) rfl ?_
            refine sx_lvc (lv' := [(5, .int (nI (n + 1))), (0, .int (-nI ((v / 100) / 100))), (4, .int (nI ((v / 100) % 100))), (3, .int (-nI ((v / 100) / 100))), (6, .int 0), (1, .int (nI (n + 6))), (2, .ref q)]) (by rw [show nI (n + 2) + (-1) = nI (n + 1) from pk_m1 (n + 1)]) ?_
            refine sx_iload X 0 rfl dJ6_getChars_ba4f3_76 ?_
            refine sx_gst X XJ.1 qm_1341 dJ6_getChars_ba4f3_78 ?_
            refine sx_iload_n X 1 rfl dJ6_getChars_ba4f3_81 rfl ?_
            refine sx_ineg X dJ6_getChars_ba4f3_82 ?_
            refine sx_topi (y := nI ((v / 100) / 100)) Int32.neg_neg ?_
            refine sx_stb X (v := .int (nI (48 + ((v / 100) / 100) % 10))) XJ.2.1 (nI_in (by omega) (by omega)) (by rw [nI_clamp (by omega)]) dJ6_getChars_ba4f3_83 ?_
            refine sx_bast X (ws' := [zB T q m (upd (upd (upd (upd (upd f (n + 5) (nI (48 + v % 100 % 10))) (n + 4) (nI (48 + v % 100 / 10))) (n + 3) (nI (48 + (v / 100) % 100 % 10))) (n + 2) (nI (48 + (v / 100) % 100 / 10))) (n + 1) (nI (48 + ((v / 100) / 100) % 10)))]) 0 rfl (nI_in (by omega) (by omega)) (by rw [nI_clamp (by omega), nar128 (by omega)]; rfl) dJ6_getChars_ba4f3_84 ?_
            refine sx_iload_n X 1 rfl dJ6_getChars_ba4f3_85 rfl ?_
            refine sx_bipush X (v := (-9)) dJ6_getChars_ba4f3_86 rfl ?_
            refine sx_icmp_ge X 104 dJ6_getChars_ba4f3_88 rfl (fun hc => absurd hc (fun z => by have := (sb_nle (a := 9) (b := ((v / 100) / 100)) (by decide) (by omega)).mp z; omega)) (fun _ => ?_)
            refine sx_aload_n X 6 rfl dJ6_getChars_ba4f3_91 rfl ?_
            refine sx_iinc X (v := ((nI (n + 1)) + (-1))) (lv' := [(5, .int ((nI (n + 1)) + (-1))), (0, .int (-nI ((v / 100) / 100))), (4, .int (nI ((v / 100) % 100))), (3, .int (-nI ((v / 100) / 100))), (6, .int 0), (1, .int (nI (n + 6))), (2, .ref q)]) 0 rfl dJ6_getChars_ba4f3_92 rfl (by decide) rfl ?_
            refine sx_lvc (lv' := [(5, .int (nI n)), (0, .int (-nI ((v / 100) / 100))), (4, .int (nI ((v / 100) % 100))), (3, .int (-nI ((v / 100) / 100))), (6, .int 0), (1, .int (nI (n + 6))), (2, .ref q)]) (by rw [show nI (n + 1) + (-1) = nI n from pk_m1 n]) ?_
            refine sx_iload X 0 rfl dJ6_getChars_ba4f3_95 ?_
            refine sx_gst X XJ.2.2.1 qm_1343 dJ6_getChars_ba4f3_97 ?_
            refine sx_iload_n X 1 rfl dJ6_getChars_ba4f3_100 rfl ?_
            refine sx_ineg X dJ6_getChars_ba4f3_101 ?_
            refine sx_topi (y := nI ((v / 100) / 100)) Int32.neg_neg ?_
            refine sx_stb X (v := .int (nI (48 + ((v / 100) / 100) / 10))) XJ.2.2.2.1 (nI_in (by omega) (by omega)) (by rw [nI_clamp (by omega)]) dJ6_getChars_ba4f3_102 ?_
            refine sx_bast X (ws' := [zB T q m (upd (upd (upd (upd (upd (upd f (n + 5) (nI (48 + v % 100 % 10))) (n + 4) (nI (48 + v % 100 / 10))) (n + 3) (nI (48 + (v / 100) % 100 % 10))) (n + 2) (nI (48 + (v / 100) % 100 / 10))) (n + 1) (nI (48 + ((v / 100) / 100) % 10))) n (nI (48 + ((v / 100) / 100) / 10)))]) 0 rfl (nI_in (by omega) (by omega)) (by rw [nI_clamp (by omega), nar128 (by omega)]; rfl) dJ6_getChars_ba4f3_103 ?_
            refine sx_iload X 4 rfl dJ6_getChars_ba4f3_104 ?_
            refine sx_if_eq X 118 dJ6_getChars_ba4f3_106 rfl (fun _ => ?_) (fun hc => absurd rfl hc)
            refine sx_iload X 0 rfl dJ6_getChars_ba4f3_118 ?_
            refine sx_pick (upd (upd (upd (upd (upd (upd f (n + 5) (nI (48 + v % 100 % 10))) (n + 4) (nI (48 + v % 100 / 10))) (n + 3) (nI (48 + (v / 100) % 100 % 10))) (n + 2) (nI (48 + (v / 100) % 100 / 10))) (n + 1) (nI (48 + ((v / 100) / 100) % 10))) n (nI (48 + ((v / 100) / 100) / 10))) ⟨sb_fitU (sb_fitU (sb_fitU (sb_fitU (sb_fitU (sb_fitU (hf) (fit48 (by omega))) (fit48 (by omega))) (fit48 (by omega))) (fit48 (by omega))) (fit48 (by omega))) (fit48 (by omega)), fun j hj => by rw [pk_un (by omega), pk_un (by omega), pk_un (by omega), pk_un (by omega), pk_un (by omega), pk_un (by omega)], ?_⟩ ?_
            · rw [decL_6 (by omega)]
              intro i hi
              have hi : i < 6 := hi
              have h9 : i = 0 ∨ i = 1 ∨ i = 2 ∨ i = 3 ∨ i = 4 ∨ i = 5 := by omega
              rcases h9 with rfl | rfl | rfl | rfl | rfl | rfl
              · have h8 : (upd (upd (upd (upd (upd (upd f (n + 5) (nI (48 + v % 100 % 10))) (n + 4) (nI (48 + v % 100 / 10))) (n + 3) (nI (48 + (v / 100) % 100 % 10))) (n + 2) (nI (48 + (v / 100) % 100 / 10))) (n + 1) (nI (48 + ((v / 100) / 100) % 10))) n (nI (48 + ((v / 100) / 100) / 10))) (n) = nI (48 + ((v / 100) / 100) / 10) := by rw [pk_us]
                exact h8.trans (congrArg nI (by show 48 + ((v / 100) / 100) / 10 = 48 + v / 100000; omega))
              · have h8 : (upd (upd (upd (upd (upd (upd f (n + 5) (nI (48 + v % 100 % 10))) (n + 4) (nI (48 + v % 100 / 10))) (n + 3) (nI (48 + (v / 100) % 100 % 10))) (n + 2) (nI (48 + (v / 100) % 100 / 10))) (n + 1) (nI (48 + ((v / 100) / 100) % 10))) n (nI (48 + ((v / 100) / 100) / 10))) (n + 1) = nI (48 + ((v / 100) / 100) % 10) := by rw [pk_un (by omega), pk_us]
                exact h8.trans (congrArg nI (by show 48 + ((v / 100) / 100) % 10 = 48 + v / 10000 % 10; omega))
              · have h8 : (upd (upd (upd (upd (upd (upd f (n + 5) (nI (48 + v % 100 % 10))) (n + 4) (nI (48 + v % 100 / 10))) (n + 3) (nI (48 + (v / 100) % 100 % 10))) (n + 2) (nI (48 + (v / 100) % 100 / 10))) (n + 1) (nI (48 + ((v / 100) / 100) % 10))) n (nI (48 + ((v / 100) / 100) / 10))) (n + 2) = nI (48 + (v / 100) % 100 / 10) := by rw [pk_un (by omega), pk_un (by omega), pk_us]
                exact h8.trans (congrArg nI (by show 48 + (v / 100) % 100 / 10 = 48 + v / 1000 % 10; omega))
              · have h8 : (upd (upd (upd (upd (upd (upd f (n + 5) (nI (48 + v % 100 % 10))) (n + 4) (nI (48 + v % 100 / 10))) (n + 3) (nI (48 + (v / 100) % 100 % 10))) (n + 2) (nI (48 + (v / 100) % 100 / 10))) (n + 1) (nI (48 + ((v / 100) / 100) % 10))) n (nI (48 + ((v / 100) / 100) / 10))) (n + 3) = nI (48 + (v / 100) % 100 % 10) := by rw [pk_un (by omega), pk_un (by omega), pk_un (by omega), pk_us]
                exact h8.trans (congrArg nI (by show 48 + (v / 100) % 100 % 10 = 48 + v / 100 % 10; omega))
              · have h8 : (upd (upd (upd (upd (upd (upd f (n + 5) (nI (48 + v % 100 % 10))) (n + 4) (nI (48 + v % 100 / 10))) (n + 3) (nI (48 + (v / 100) % 100 % 10))) (n + 2) (nI (48 + (v / 100) % 100 / 10))) (n + 1) (nI (48 + ((v / 100) / 100) % 10))) n (nI (48 + ((v / 100) / 100) / 10))) (n + 4) = nI (48 + v % 100 / 10) := by rw [pk_un (by omega), pk_un (by omega), pk_un (by omega), pk_un (by omega), pk_us]
                exact h8.trans (congrArg nI (by show 48 + v % 100 / 10 = 48 + v / 10 % 10; omega))
              · have h8 : (upd (upd (upd (upd (upd (upd f (n + 5) (nI (48 + v % 100 % 10))) (n + 4) (nI (48 + v % 100 / 10))) (n + 3) (nI (48 + (v / 100) % 100 % 10))) (n + 2) (nI (48 + (v / 100) % 100 / 10))) (n + 1) (nI (48 + ((v / 100) / 100) % 10))) n (nI (48 + ((v / 100) / 100) / 10))) (n + 5) = nI (48 + v % 100 % 10) := by rw [pk_un (by omega), pk_un (by omega), pk_un (by omega), pk_un (by omega), pk_un (by omega), pk_us]
                exact h8.trans (congrArg nI (by show 48 + v % 100 % 10 = 48 + v % 10; omega))
            exact sx_iret X rfl dJ6_getChars_ba4f3_120 rfl rfl rfl
theorem SBf_put {t1 t2 : List Nat} {m m' : Nat} {f g : Nat → Int32} (h : SBf t1 m f) (hr : (t1 ++ t2).length ≤ m') (hm' : m' ≤ 3000) (hg : sb_Fit g) (hk : ∀ j, j < t1.length → g j = f j) (hs : ∀ i, i < t2.length → g (t1.length + i) = nI (t2.getD i 0)) (h2 : ∀ x ∈ t2, x < 128) : SBf (t1 ++ t2) m' g := by
  obtain ⟨a1, a2, a3, a4, a5⟩ := h
  refine ⟨hr, hm', hg, fun x hx => (List.mem_append.mp hx).elim (a4 x) (h2 x), fun j hj => ?_⟩
  rw [List.length_append] at hj
  by_cases e : j < t1.length
  · rw [hk j e, a5 j e, gd_l e]
  · obtain ⟨i, rfl⟩ : ∃ i, j = t1.length + i := ⟨j - t1.length, by omega⟩
    rw [hs i (by omega), gd_r (by omega), Nat.add_sub_cancel_left]
section SX9
variable {p : Program} {l : Launch} {e : Env} {R : Room} {s : State} {m : MethodId} {args : Array Value} {below : List Frame} {meth : Method} {c : Code} {Q : State → Prop} {cc : ByteArray} {own : String} {nL : Nat} {ret : Option FieldType} {D : va_G} {T : Nat → ClassId} {A : Nat → Prop} {SF SF2 : (Nat → Prop) → State → Heap → Prop} {k n : Nat} {ws : va_W} {lv : List (Nat × Value)} {pc : Nat} {st : List Value}
theorem findB (X : SxC p s m args meth c cc own nL ret D T A SF) : s.vm.findClass "[B" = some (T 2) := (X.2.2.2.2.2.1.2 2 (T 2, .byte) rfl).2
theorem sx_castB (X : SxC p s m args meth c cc own nL ret D T A SF) {idx a N : Nat} {f : Nat → Int32} (q0 : Nat) (he : ws[q0]? = some (zB T a N f)) (hl : Cond.classLink own idx "[B" ∈ BIG) (hdg : decode cc pc = .ok (.checkcast idx, 3)) (kk : SxG p l e R s m args below meth c D A nL k n Q ws lv (pc + 3) (.ref a :: st)) : SxG p l e R s m args below meth c D A nL k n Q ws lv pc (.ref a :: st) :=
  fun H locs ls hP b d h => va_castA X.1 X.2.1 X.2.2.2.1 (X.2.2.2.2.1 _ hl) hP q0 he (findB X) hdg (kk H locs ls hP b d h)
theorem sx_clone (X : SxC p s m args meth c cc own nL ret D T A SF) {idx a N : Nat} {f : Nat → Int32} (hf : sb_Fit f) (q0 : Nat) (he : ws[q0]? = some (zB T a N f)) (hlink : Cond.methodLink own idx ⟨"[B", "clone", "()Ljava/lang/Object;"⟩ ∈ BIG) (hsame : Cond.sameMethod "[B" "java/lang/Object" "clone" "()Ljava/lang/Object;" ∈ BIG) (hnat : Cond.native ⟨"java/lang/Object", "clone", "()Ljava/lang/Object;"⟩ ∈ BIG) (hinst : Cond.instanceMethod ⟨"java/lang/Object", "clone", "()Ljava/lang/Object;"⟩ ∈ BIG) (hsel : Cond.selects "[B" ⟨"[B", "clone", "()Ljava/lang/Object;"⟩ ⟨"java/lang/Object", "clone", "()Ljava/lang/Object;"⟩ ∈ BIG) (hcl : va_Nw (.castable "[B" "java/lang/Cloneable") s) (hframes : 1 ≤ R.frames) (hlocals : (st.map fun v => v.category).sum + 14 ≤ R.locals) (hcells : k + 1 ≤ R.cells) (hslots : n + N ≤ R.slots) (hdg : decode cc pc = .ok (.invokevirtual idx, 3))
    (kk : ∀ q : Nat, SxG p l e R s m args below meth c D A nL (k + 1) (n + N) Q (ws ++ [zB T q N f]) lv (pc + 3) (.ref q :: st)) : SxG p l e R s m args below meth c D A nL k n Q ws lv pc (.ref a :: st) :=
  fun H locs ls hP b d h => va_clone X.1 X.2.1 (X.2.2.1.trans h.1.symm) X.2.2.2.1 (X.2.2.2.2.1 _ hlink) (X.2.2.2.2.1 _ hsame) (X.2.2.2.2.1 _ hnat) (X.2.2.2.2.1 _ hinst) (X.2.2.2.2.1 _ hsel) hcl X.2.2.2.2.2.1 hP b d X.2.2.2.2.2.2.1 q0 2 he rfl (findB X) (fun i v hv => by
    have hv' : (arrV (T 2) N (fun j => .int (f j))).slots[i]? = some v := hv
    by_cases hi : i < N
    · rw [arrV_read _ _ hi] at hv'
      cases hv'
      exact hf i
    · rw [Array.getElem?_eq_none (by rw [arrV_size]; omega)] at hv'
      cases hv') hframes hlocals hcells hslots hdg (fun q H1 hK1 p1 d1 s1 => kk q H1 locs ls p1 d1 s1 h)
variable {Res : Type} {y : MethodName} {cy : ByteArray} {maxLy : Nat} {rty : Option FieldType} {rmy : Room} {As rest : List Value} {wc wr : va_W} {vf : Res → Option Value} {wf : Res → va_W} {P : Res → Prop} {mc ms : Nat}
/-- a method that stands in another's place -/
theorem sx_pO (X : SxC p s m args meth c cc own nL ret D T A SF) {b : Nat} (hM : SxKP SF2 l D T y cy maxLy rty rmy (.ref b :: As) wc vf wf P mc ms) (hF : SxM s D A SF2 wc wr) {C owner : String} {x : MethodName} {idx nA : Nat} {b0 : ByteArray} {m0 : Nat} {r0 : Option FieldType} (hrc : ∀ H locs, va_P D vwCl (wc ++ wr) H → va_S A s.heap H locs → ∃ cellB : Cell, H[b]? = some cellB ∧ cellB.vm.isStatics = false ∧ s.vm.findClass C = some cellB.cls) (h1 : Cond.methodLink own idx x ∈ BIG) (h1s : Cond.sameMethod x.cls owner x.name x.desc ∈ BIG) (hio : Cond.instanceMethod ⟨owner, x.name, x.desc⟩ ∈ BIG) (h0 : Cond.code ⟨owner, x.name, x.desc⟩ b0 m0 r0 ∈ BIG) (h3 : Cond.selects C x y ∈ BIG) (h2 : Cond.instanceMethod y ∈ BIG) (h4 : Cond.initialized y.cls ∈ BIG) (h5 : Cond.code y cy maxLy rty ∈ BIG) (hd : owner ≠ "java/lang/invoke/MethodHandle" ∧ owner ≠ "java/lang/invoke/VarHandle" ∧ (parseMethodDescriptor x.desc).map (fun d => d.parameters.length) = some nA) (hrm : rmy.cells = mc ∧ rmy.slots = ms) (hR : rmy.frames + 1 ≤ R.frames ∧ 8 + (maxLy + 11) + rmy.locals ≤ R.locals) (hn : As.length = nA) (hst : st = As.reverse ++ .ref b :: rest) (hroom : (rest.map fun v => v.category).sum ≤ 8) (hcs : k + mc ≤ R.cells ∧ n + ms ≤ R.slots) (hdg : decode cc pc = .ok (.invokevirtual idx, 3)) (hw : ws = wc ++ wr)
    (kk : ∀ r, P r → SxG p l e R s m args below meth c D A nL (k + mc) (n + ms) Q (wf r ++ wr) lv (pc + 3) ((vf r).toList ++ rest)) : SxG p l e R s m args below meth c D A nL k n Q ws lv pc st := by
  subst hst
  subst hw
  have hG : GoodIn BIG (va_wsO own idx C owner x y (Cond.code y cy maxLy rty :: BIG)) := fun w hw => by
    unfold va_wsO at hw
    rcases List.mem_append.mp hw with h | h
    · have h' : w ∈ BIG := by
        simp only [List.mem_cons, List.not_mem_nil, or_false] at h
        rcases h with rfl | rfl | rfl | rfl | rfl | rfl
        · exact h1
        · exact h1s
        · exact hio
        · exact h3
        · exact h2
        · exact h4
      exact ⟨h', big_good _ h'⟩
    · exact big_in h5 w h
  intro H locs ls hP hD hS h
  have hFr := sx_freeA X.2.2.2.2.2.2.1 hD hS
  have hpre := sx_preP X hF hP hD hS (.ref b :: As)
  refine sx_afterP (va_runU (As := As) (rest := rest) ⟨X.1, X.2.1, X.2.2.1, X.2.2.2.1, X.2.2.2.2.1⟩ (hM H.size) (va_cwO nA X.2.2.2.2.1 hG rfl hrm.1 hrm.2 h0 hd hR) ⟨hpre.1, hrc H locs hP hS, hpre.2⟩ rfl hn (h.1) rfl (lv_room hroom) hdg hcs) hS (fun q _ h => hFr q h) hFr (fun r hPr t H1 locs1 ht hB hz hk hS1 => ?_)
  obtain ⟨hP1, hD1⟩ := hB
  rw [ht] at hP1
  obtain ⟨p2, d2⟩ := sx_back hP hD (fun q hq => X.2.2.2.2.2.2.1 q (Nat.le_trans hS.1 hq)) hk hP1 hD1
  exact kk r hPr H1 locs1 ls p2 d2 hS1 h
end SX9
theorem hd_apI : SxDs yJ5_append_c97b9 1 := ⟨by decide, by decide, by decide +kernel⟩
set_option maxRecDepth 100000 in
theorem c_apI {l : Launch} {D : va_G} {T : Nat → ClassId} {sd : SdT} {jd : JdT} (b q m v : Nat) (t1 : List Nat) (f : Nat → Int32) (hS : SBf t1 m f) (hv : v < 1000000) (hlen : t1.length + (decL v).length ≤ 1500) : SxKP (SFy sd jd) l D T yJ5_append_c97b9 cJ5_append_c97b9 4 (some (.object "java/lang/AbstractStringBuilder")) (rmL 4 1 3000) [.ref b, .int (nI v)] [oSB b q t1.length, zB T q m f] (fun _ : Nat × Nat × (Nat → Int32) => some (.ref b)) (fun w => [oSB b w.1 (t1 ++ decL v).length, zB T w.1 w.2.1 w.2.2]) (fun w => SBf (t1 ++ decL v) w.2.1 w.2.2) 1 3000 := by
  refine sx_startP (SFy_ok sd jd) (by decide +kernel) (Nat.le_of_ble_eq_true rfl) (fun p e s mi args below meth c A X hnm => ?_)
  have XY := X
  have X := XY.dn (SFx_ok sd)
  have XJ := XY.fz
  refine sx_aload_n X 0 rfl dJ5_append_c97b9_0 rfl ?_
  refine sx_get X kJ4 0 rfl 3 (Nat.le_of_ble_eq_true rfl) qm_1450 rfl dJ5_append_c97b9_1 ?_
  refine sx_istore_n X (lv' := [(2, .int (nI t1.length)), (0, .ref b), (1, .int (nI v))]) dJ5_append_c97b9_4 rfl (by decide) rfl ?_
  refine sx_iload_n X 0 rfl dJ5_append_c97b9_5 rfl ?_
  refine sx_iload_n X 2 rfl dJ5_append_c97b9_6 rfl ?_
  refine sx_pS X ((c_strSize (l := l) (D := D) (T := T) (sd := sd) (jd := jd) v hv).toP) XY.M (wr := [zO b 1 [.ref q, .int 0, .int 0, .int (nI t1.length)], zB T q m f]) qm_1335 qm_1336 qm_37 qm_1337 hd_strSize ⟨rfl, rfl⟩ ⟨Nat.le_of_ble_eq_true rfl, Nat.le_of_ble_eq_true rfl⟩ rfl rfl (Nat.le_of_ble_eq_true rfl) ⟨Nat.le_of_ble_eq_true rfl, Nat.le_of_ble_eq_true rfl⟩ dJ5_append_c97b9_7 rfl (fun u9 hu9 => ?_)
  refine sx_chg (ws' := [zO b 1 [.ref q, .int 0, .int 0, .int (nI t1.length)], zB T q m f]) (st' := [.int (nI (decL v).length), .int (nI t1.length)]) rfl rfl ?_
  refine sx_iadd X dJ5_append_c97b9_10 ?_
  refine sx_topi (y := nI (t1.length + (decL v).length)) (nI_add _ _) ?_
  refine sx_istore_n X (lv' := [(3, .int (nI (t1.length + (decL v).length))), (2, .int (nI t1.length)), (0, .ref b), (1, .int (nI v))]) dJ5_append_c97b9_11 rfl (by decide) rfl ?_
  refine sx_aload_n X 2 rfl dJ5_append_c97b9_12 rfl ?_
  refine sx_iload_n X 0 rfl dJ5_append_c97b9_13 rfl ?_
  refine sx_pP X (c_ens (l := l) (D := D) (T := T) (sd := sd) (jd := jd) b q t1.length m (t1.length + (decL v).length) f hS.2.1 hlen hS.2.2.1) XY.M (wr := []) (sx_rcv X (q0 := 0) (w := [zO b 1 [.ref q, .int 0, .int 0, .int (nI t1.length)], zB T q m f]) rfl rfl) qm_1234 qm_1606 (XJ.2.2.2.2.2.2.2.2.2.2.2.2 _ (List.mem_of_getElem? (i := 1) rfl)) qm_1236 qm_25 qm_1237 hd_ens ⟨rfl, rfl⟩ ⟨Nat.le_of_ble_eq_true rfl, Nat.le_of_ble_eq_true rfl⟩ rfl rfl (Nat.le_of_ble_eq_true rfl) ⟨Nat.le_of_ble_eq_true rfl, Nat.le_of_ble_eq_true rfl⟩ dJ5_append_c97b9_14 rfl (fun w hw => ?_)
  refine sx_chg (ws' := [zO b 1 [.ref w.1, .int 0, .int 0, .int (nI t1.length)], zB T w.1 w.2.1 w.2.2]) (st' := []) rfl rfl ?_
  refine sx_aload_n X 2 rfl dJ5_append_c97b9_17 rfl ?_
  refine sx_pU X ((c_sbLat (l := l) (D := D) (T := T) (sd := sd) (jd := jd) b w.1 t1.length).toP) XY.M (wr := [zB T w.1 w.2.1 w.2.2]) (sx_rcv X (q0 := 0) (w := [zO b 1 [.ref w.1, .int 0, .int 0, .int (nI t1.length)], zB T w.1 w.2.1 w.2.2]) rfl rfl) qm_1265 qm_1267 qm_1268 qm_1266 qm_25 qm_1269 rfl hd_sbLat ⟨rfl, rfl⟩ ⟨Nat.le_of_ble_eq_true rfl, Nat.le_of_ble_eq_true rfl⟩ rfl rfl (Nat.le_of_ble_eq_true rfl) ⟨Nat.le_of_ble_eq_true rfl, Nat.le_of_ble_eq_true rfl⟩ dJ5_append_c97b9_18 rfl (fun u9 hu9 => ?_)
  refine sx_chg (ws' := [zO b 1 [.ref w.1, .int 0, .int 0, .int (nI t1.length)], zB T w.1 w.2.1 w.2.2]) (st' := [.int 1]) rfl rfl ?_
  refine sx_if_eq X 37 dJ5_append_c97b9_21 rfl (fun hc => absurd hc (by decide)) (fun _ => ?_)
  refine sx_iload_n X 3 rfl dJ5_append_c97b9_24 rfl ?_
  refine sx_iload_n X 0 rfl dJ5_append_c97b9_25 rfl ?_
  refine sx_aload_n X 2 rfl dJ5_append_c97b9_26 rfl ?_
  refine sx_get X kJ4 0 rfl 0 (Nat.le_of_ble_eq_true rfl) qm_1447 rfl dJ5_append_c97b9_27 ?_
  refine sx_wsub (ws' := [zB T w.1 w.2.1 w.2.2, zO b 1 [.ref w.1, .int 0, .int 0, .int (nI t1.length)]]) [1, 0] rfl rfl ?_
  refine sx_pS X (c_getChars (l := l) (D := D) (T := T) (sd := sd) (jd := jd) w.1 w.2.1 t1.length v w.2.2 hv hw.1 hw.2.1 hw.2.2.2.1) XY.M (wr := [zO b 1 [.ref w.1, .int 0, .int 0, .int (nI t1.length)]]) qm_1338 qm_1339 qm_37 qm_1340 hd_getChars ⟨rfl, rfl⟩ ⟨Nat.le_of_ble_eq_true rfl, Nat.le_of_ble_eq_true rfl⟩ rfl rfl (Nat.le_of_ble_eq_true rfl) ⟨Nat.le_of_ble_eq_true rfl, Nat.le_of_ble_eq_true rfl⟩ dJ5_append_c97b9_30 rfl (fun g hg => ?_)
  refine sx_chg (ws' := [zB T w.1 w.2.1 g, zO b 1 [.ref w.1, .int 0, .int 0, .int (nI t1.length)]]) (st' := [.int (nI t1.length)]) rfl rfl ?_
  refine sx_wsub (ws' := [zO b 1 [.ref w.1, .int 0, .int 0, .int (nI t1.length)], zB T w.1 w.2.1 g]) [1, 0] rfl rfl ?_
  refine sx_pop X dJ5_append_c97b9_33 rfl ?_
  refine sx_goto X 48 dJ5_append_c97b9_34 rfl ?_
  refine sx_aload_n X 2 rfl dJ5_append_c97b9_48 rfl ?_
  refine sx_iload_n X 0 rfl dJ5_append_c97b9_49 rfl ?_
  refine sx_topi (y := nI (t1 ++ decL v).length) (by rw [List.length_append]) ?_
  refine sx_put X (ws' := [zO b 1 [.ref w.1, .int 0, .int 0, .int (nI (t1 ++ decL v).length)], zB T w.1 w.2.1 g]) kJ4 0 rfl 3 (Nat.le_of_ble_eq_true rfl) qm_1450 rfl rfl rfl (Nat.le_of_ble_eq_true rfl) rfl dJ5_append_c97b9_50 ?_
  refine sx_aload_n X 2 rfl dJ5_append_c97b9_53 rfl ?_
  refine sx_pick (w.1, w.2.1, g) (SBf_put hS (by rw [List.length_append]; exact hw.1) hw.2.1 hg.1 (fun j hj => (hg.2.1 j hj).trans (hw.2.2.2.2 j (Nat.lt_of_lt_of_le hj hS.1))) hg.2.2 (decL_128 hv)) ?_
  exact sx_aret X dJ5_append_c97b9_54 rfl rfl rfl
theorem hd_sbI : SxDs yJ4_append_bf812 1 := ⟨by decide, by decide, by decide +kernel⟩
theorem he_apI : yJ5_append_c97b9.name ≠ "<init>" ∧ (parseMethodDescriptor yJ5_append_c97b9.desc).map (fun d => d.parameters.length) = some 1 := ⟨by decide, by decide +kernel⟩
set_option maxRecDepth 100000 in
theorem c_sbI {l : Launch} {D : va_G} {T : Nat → ClassId} {sd : SdT} {jd : JdT} (b q m v : Nat) (t1 : List Nat) (f : Nat → Int32) (hS : SBf t1 m f) (hv : v < 1000000) (hlen : t1.length + (decL v).length ≤ 1500) : SxKP (SFy sd jd) l D T yJ4_append_bf812 cJ4_append_bf812 2 (some (.object "java/lang/StringBuilder")) (rmL 5 1 3000) [.ref b, .int (nI v)] [oSB b q t1.length, zB T q m f] (fun _ : Nat × Nat × (Nat → Int32) => some (.ref b)) (fun w => [oSB b w.1 (t1 ++ decL v).length, zB T w.1 w.2.1 w.2.2]) (fun w => SBf (t1 ++ decL v) w.2.1 w.2.2) 1 3000 := by
  refine sx_startP (SFy_ok sd jd) (by decide +kernel) (Nat.le_of_ble_eq_true rfl) (fun p e s mi args below meth c A X hnm => ?_)
  have XY := X
  have X := XY.dn (SFx_ok sd)
  have XJ := XY.fz
  refine sx_aload_n X 0 rfl dJ4_append_bf812_0 rfl ?_
  refine sx_iload_n X 1 rfl dJ4_append_bf812_1 rfl ?_
  refine sx_pSU X (c_apI (l := l) (D := D) (T := T) (sd := sd) (jd := jd) b q m v t1 f hS hv hlen) XY.M (wr := []) (ci0 := 1) rfl rfl (sx_rcv X (q0 := 0) (w := [zO b 1 [.ref q, .int 0, .int 0, .int (nI t1.length)], zB T q m f]) rfl rfl) qm_1332 qm_1611 (big_of (i := 1227) (by decide +kernel) (by decide +kernel)) qm_1333 qm_25 qm_1334 he_apI ⟨rfl, rfl⟩ ⟨Nat.le_of_ble_eq_true rfl, Nat.le_of_ble_eq_true rfl⟩ rfl rfl (Nat.le_of_ble_eq_true rfl) ⟨Nat.le_of_ble_eq_true rfl, Nat.le_of_ble_eq_true rfl⟩ dJ4_append_bf812_2 rfl (fun w hw => ?_)
  refine sx_chg (ws' := [zO b 1 [.ref w.1, .int 0, .int 0, .int (nI (t1 ++ decL v).length)], zB T w.1 w.2.1 w.2.2]) (st' := [.ref b]) rfl rfl ?_
  refine sx_pop X dJ4_append_bf812_5 rfl ?_
  refine sx_aload_n X 0 rfl dJ4_append_bf812_6 rfl ?_
  refine sx_pick w hw ?_
  exact sx_aret X dJ4_append_bf812_7 rfl rfl rfl
theorem hd_ckLen : SxDs yJ7_checkLength_df160 2 := ⟨by decide, by decide, by decide +kernel⟩
set_option maxRecDepth 100000 in
theorem c_ckLen {l : Launch} {D : va_G} {T : Nat → ClassId} {sd : SdT} {jd : JdT} (n : Nat) (hn : n ≤ 3000) : SxK (SFy sd jd) l D T yJ7_checkLength_df160 cJ7_checkLength_df160 2 none (rmL 0 0 0) [.int 0, .int (nI n)] [] (fun _ : Unit => none) (fun _ => []) () 0 0 := by
  refine sx_start (SFy_ok sd jd) (by decide +kernel) (Nat.le_of_ble_eq_true rfl) (fun p e s mi args below meth c A X hnm => ?_)
  have XY := X
  have X := XY.dn (SFx_ok sd)
  have XJ := XY.fz
  refine sx_iload_n X 1 rfl dJ7_checkLength_df160_0 rfl ?_
  refine sx_iload_n X 0 rfl dJ7_checkLength_df160_1 rfl ?_
  refine sx_icmp_ge X 37 dJ7_checkLength_df160_2 rfl (fun _ => ?_) (fun hc => absurd (nI_pos' (by omega)) hc)
  exact sx_vret X dJ7_checkLength_df160_37 rfl rfl rfl
theorem hd_copyRB : SxDs yJ7_copyOfRangeByte_39247 3 := ⟨by decide, by decide, by decide +kernel⟩
theorem mn_nI2 {y z : Nat} (hy : y < 2 ^ 31) (hz : z < 2 ^ 31) (h : y ≤ z) : (if nI y < nI z then nI y else nI z) = nI y := by
  by_cases e : y < z
  · exact if_pos (nI_lt e hz)
  · rw [if_neg (nI_nlt (by omega) hy), show z = y by omega]
set_option maxRecDepth 100000 in
theorem c_copyRB {l : Launch} {D : va_G} {T : Nat → ClassId} {sd : SdT} {jd : JdT} (q m n : Nat) (f : Nat → Int32) (hn : n ≤ m) (hm : m ≤ 3000) (hf : sb_Fit f) : SxKP (SFy sd jd) l D T yJ7_copyOfRangeByte_39247 cJ7_copyOfRangeByte_39247 5 (some (.array .byte)) (rmL 1 1 3000) [.ref q, .int 0, .int (nI n)] [zB T q m f] (fun r : Nat × (Nat → Int32) => some (.ref r.1)) (fun r => [zB T q m f, zB T r.1 n r.2]) (fun r => ∀ j, j < n → r.2 j = f j) 1 3000 := by
  refine sx_startP (SFy_ok sd jd) (by decide +kernel) (Nat.le_of_ble_eq_true rfl) (fun p e s mi args below meth c A X hnm => ?_)
  have XY := X
  have X := XY.dn (SFx_ok sd)
  have XJ := XY.fz
  refine sx_iload_n X 1 rfl dJ7_copyOfRangeByte_39247_0 rfl ?_
  refine sx_iload_n X 2 rfl dJ7_copyOfRangeByte_39247_1 rfl ?_
  refine sx_pS X ((c_ckLen (l := l) (D := D) (T := T) (sd := sd) (jd := jd) n (by omega)).toP) XY.M (wr := [zB T q m f]) qm_1495 qm_1496 qm_33 qm_1497 hd_ckLen ⟨rfl, rfl⟩ ⟨Nat.le_of_ble_eq_true rfl, Nat.le_of_ble_eq_true rfl⟩ rfl rfl (Nat.le_of_ble_eq_true rfl) ⟨Nat.le_of_ble_eq_true rfl, Nat.le_of_ble_eq_true rfl⟩ dJ7_copyOfRangeByte_39247_2 rfl (fun u9 hu9 => ?_)
  refine sx_chg (ws' := [zB T q m f]) (st' := []) rfl rfl ?_
  refine sx_iload_n X 2 rfl dJ7_copyOfRangeByte_39247_5 rfl ?_
  refine sx_iload_n X 1 rfl dJ7_copyOfRangeByte_39247_6 rfl ?_
  refine sx_isub X dJ7_copyOfRangeByte_39247_7 ?_
  refine sx_topi (y := nI n) (Int32.sub_zero _) ?_
  refine sx_istore_n X (lv' := [(3, .int (nI n)), (0, .ref q), (1, .int 0), (2, .int (nI n))]) dJ7_copyOfRangeByte_39247_8 rfl (by decide) rfl ?_
  refine sx_iload_n X 0 rfl dJ7_copyOfRangeByte_39247_9 rfl ?_
  refine sx_newb X (N' := n) (nI_pos (by omega)) (nI_clamp (by omega)) (by omega) (Nat.le_of_ble_eq_true rfl) (by show _ ≤ 3000; omega) qm_73 dJ7_copyOfRangeByte_39247_10 (fun q2 => ?_)
  refine sx_chg (ws' := [zB T q m f, zB T q2 n (fun _ => 0)]) (st' := [.ref q2]) rfl rfl ?_
  refine sx_astore X (lv' := [(4, .ref q2), (3, .int (nI n)), (0, .ref q), (1, .int 0), (2, .int (nI n))]) dJ7_copyOfRangeByte_39247_12 (by decide) rfl ?_
  refine sx_aload_n X 2 rfl dJ7_copyOfRangeByte_39247_14 rfl ?_
  refine sx_iload_n X 3 rfl dJ7_copyOfRangeByte_39247_15 rfl ?_
  refine sx_aload X 0 rfl dJ7_copyOfRangeByte_39247_16 ?_
  refine sx_iconst X (v := 0) dJ7_copyOfRangeByte_39247_18 rfl ?_
  refine sx_aload_n X 2 rfl dJ7_copyOfRangeByte_39247_19 rfl ?_
  refine sx_alen X (t0 := 2) (v := nI m) 0 rfl rfl rfl dJ7_copyOfRangeByte_39247_20 ?_
  refine sx_iload_n X 3 rfl dJ7_copyOfRangeByte_39247_21 rfl ?_
  refine sx_isub X dJ7_copyOfRangeByte_39247_22 ?_
  refine sx_topi (y := nI m) (Int32.sub_zero _) ?_
  refine sx_iload_n X 1 rfl dJ7_copyOfRangeByte_39247_23 rfl ?_
  refine sx_min X qm_1261 qm_594 qm_32 qm_595 (Nat.le_of_ble_eq_true rfl) (Nat.le_of_ble_eq_true rfl) (Nat.le_of_ble_eq_true rfl) (by show _ ≤ 3000; omega) dJ7_copyOfRangeByte_39247_24 ?_
  refine sx_topi (y := nI n) (mn_nI2 (by omega) (by omega) (by omega)) ?_
  refine sx_copyb X (ws' := [zB T q m f, zB T q2 n (va_cpy f (fun _ => 0) 0 0 (nI n).toNatClampNeg)]) 0 1 rfl rfl ⟨nI_pos (by omega), by rw [nI_clamp (by omega)]; omega, by rw [nI_clamp (by omega)]; omega⟩ (fun i _ => hf i) qm_1262 qm_1264 qm_1263 qm_34 (Nat.le_of_ble_eq_true rfl) (Nat.le_of_ble_eq_true rfl) rfl dJ7_copyOfRangeByte_39247_27 ?_
  refine sx_aload X 0 rfl dJ7_copyOfRangeByte_39247_30 ?_
  refine sx_widen (k' := 1) (n' := 3000) (Nat.le_of_ble_eq_true rfl) (by show 0 + n ≤ 3000; omega) ?_
  refine sx_pick (q2, va_cpy f (fun _ => 0) 0 0 (nI n).toNatClampNeg) (fun j hj => ?_) ?_
  · rw [nI_clamp (by omega)]
    exact sb_cpy0 (f := f) (g := fun _ => 0) hj
  exact sx_aretA X dJ7_copyOfRangeByte_39247_32 rfl rfl rfl
theorem hd_copyR : SxDs yJ7_copyOfRange_39247 3 := ⟨by decide, by decide, by decide +kernel⟩
set_option maxRecDepth 100000 in
theorem c_copyR {l : Launch} {D : va_G} {T : Nat → ClassId} {sd : SdT} {jd : JdT} (q m n : Nat) (f : Nat → Int32) (hn : n ≤ m) (hm : m ≤ 3000) (hf : sb_Fit f) : SxKP (SFy sd jd) l D T yJ7_copyOfRange_39247 cJ7_copyOfRange_39247 3 (some (.array .byte)) (rmL 2 1 3000) [.ref q, .int 0, .int (nI n)] [zB T q m f] (fun r : Nat × (Nat → Int32) => some (.ref r.1)) (fun r => [zB T q m f, zB T r.1 n r.2]) (fun r => ∀ j, j < n → r.2 j = f j) 1 3000 := by
  refine sx_startP (SFy_ok sd jd) (by decide +kernel) (Nat.le_of_ble_eq_true rfl) (fun p e s mi args below meth c A X hnm => ?_)
  have XY := X
  have X := XY.dn (SFx_ok sd)
  have XJ := XY.fz
  refine sx_iload_n X 1 rfl dJ7_copyOfRange_39247_0 rfl ?_
  refine sx_if_ne X 10 dJ7_copyOfRange_39247_1 rfl (fun hc => absurd rfl hc) (fun _ => ?_)
  refine sx_iload_n X 2 rfl dJ7_copyOfRange_39247_4 rfl ?_
  refine sx_aload_n X 0 rfl dJ7_copyOfRange_39247_5 rfl ?_
  refine sx_alen X (t0 := 2) (v := nI m) 0 rfl rfl rfl dJ7_copyOfRange_39247_6 ?_
  by_cases hnm2 : n = m
  · refine sx_icmp_eq X 17 dJ7_copyOfRange_39247_7 rfl (fun _ => ?_) (fun hc => absurd ((nI_eq (by omega) (by omega)).mpr hnm2) hc)
    refine sx_aload_n X 0 rfl dJ7_copyOfRange_39247_17 rfl ?_
    refine sx_clone X hf 0 rfl qm_1254 qm_1255 qm_1256 qm_1257 qm_1258 (X.sf.2.2.1.2.2.1 _ (List.mem_of_getElem? (i := 3) rfl)) (Nat.le_of_ble_eq_true rfl) (Nat.le_of_ble_eq_true rfl) (Nat.le_of_ble_eq_true rfl) (by show _ ≤ 3000; omega) dJ7_copyOfRange_39247_18 (fun q2 => ?_)
    refine sx_chg (ws' := [zB T q m f, zB T q2 m f]) (st' := [.ref q2]) rfl rfl ?_
    refine sx_castB X 1 rfl qm_1260 dJ7_copyOfRange_39247_21 ?_
    refine sx_widen (k' := 1) (n' := 3000) (Nat.le_of_ble_eq_true rfl) (by show 0 + m ≤ 3000; omega) ?_
    subst hnm2
    refine sx_pick (q2, f) (fun j hj => rfl) ?_
    exact sx_aretA X dJ7_copyOfRange_39247_24 rfl rfl rfl
  · refine sx_icmp_eq X 17 dJ7_copyOfRange_39247_7 rfl (fun hc => absurd hc (fun z => hnm2 ((nI_eq (by omega) (by omega)).mp z))) (fun _ => ?_)
    refine sx_aload_n X 0 rfl dJ7_copyOfRange_39247_10 rfl ?_
    refine sx_iload_n X 1 rfl dJ7_copyOfRange_39247_11 rfl ?_
    refine sx_iload_n X 2 rfl dJ7_copyOfRange_39247_12 rfl ?_
    refine sx_pS X (c_copyRB (l := l) (D := D) (T := T) (sd := sd) (jd := jd) q m n f hn hm hf) XY.M (wr := []) qm_1492 qm_1493 qm_33 qm_1494 hd_copyRB ⟨rfl, rfl⟩ ⟨Nat.le_of_ble_eq_true rfl, Nat.le_of_ble_eq_true rfl⟩ rfl rfl (Nat.le_of_ble_eq_true rfl) ⟨Nat.le_of_ble_eq_true rfl, Nat.le_of_ble_eq_true rfl⟩ dJ7_copyOfRange_39247_13 rfl (fun w hw => ?_)
    refine sx_chg (ws' := [zB T q m f, zB T w.1 n w.2]) (st' := [.ref w.1]) rfl rfl ?_
    refine sx_pick w hw ?_
    exact sx_aretA X dJ7_copyOfRange_39247_16 rfl rfl rfl
theorem hd_sbLen4 : SxDs yJ4_length_8abf5 0 := ⟨by decide, by decide, by decide +kernel⟩
theorem he_len : yJ5_length_8abf5.name ≠ "<init>" ∧ (parseMethodDescriptor yJ5_length_8abf5.desc).map (fun d => d.parameters.length) = some 0 := ⟨by decide, by decide +kernel⟩
set_option maxRecDepth 100000 in
theorem c_sbLen4 {l : Launch} {D : va_G} {T : Nat → ClassId} {sd : SdT} {jd : JdT} (b q n : Nat) : SxK (SFy sd jd) l D T yJ4_length_8abf5 cJ4_length_8abf5 1 (some .int) (rmL 1 0 0) [.ref b] [oSB b q n] (fun _ : Unit => some (.int (nI n))) (fun _ => [oSB b q n]) () 0 0 := by
  refine sx_start (SFy_ok sd jd) (by decide +kernel) (Nat.le_of_ble_eq_true rfl) (fun p e s mi args below meth c A X hnm => ?_)
  have XY := X
  have X := XY.dn (SFx_ok sd)
  have XJ := XY.fz
  refine sx_aload_n X 0 rfl dJ4_length_8abf5_0 rfl ?_
  refine sx_pSU X ((c_sbLen (l := l) (D := D) (T := T) (sd := sd) (jd := jd) b q n).toP) XY.M (wr := []) (ci0 := 1) rfl rfl (sx_rcv X (q0 := 0) (w := [zO b 1 [.ref q, .int 0, .int 0, .int (nI n)]]) rfl rfl) qm_1486 qm_1482 (big_of (i := 1227) (by decide +kernel) (by decide +kernel)) qm_1481 qm_25 qm_1487 he_len ⟨rfl, rfl⟩ ⟨Nat.le_of_ble_eq_true rfl, Nat.le_of_ble_eq_true rfl⟩ rfl rfl (Nat.le_of_ble_eq_true rfl) ⟨Nat.le_of_ble_eq_true rfl, Nat.le_of_ble_eq_true rfl⟩ dJ4_length_8abf5_1 rfl (fun u9 hu9 => ?_)
  refine sx_chg (ws' := [zO b 1 [.ref q, .int 0, .int 0, .int (nI n)]]) (st' := [.int (nI n)]) rfl rfl ?_
  exact sx_iret X rfl dJ4_length_8abf5_4 rfl rfl rfl
theorem hd_stIn2 : SxDs yJ0_init_db425 2 := ⟨by decide, by decide, by decide +kernel⟩
set_option maxRecDepth 100000 in
theorem c_stIn2 {l : Launch} {D : va_G} {T : Nat → ClassId} {sd : SdT} {jd : JdT} (a b q m n : Nat) (f : Nat → Int32) (hn : n ≤ m) (hm : m ≤ 3000) (hf : sb_Fit f) : SxKP (SFy sd jd) l D T yJ0_init_db425 cJ0_init_db425 5 none (rmL 3 1 3000) [.ref a, .ref b, .null] [zO a 0 [.null, .int 0, .int 0, .int 0], oSB b q n, zB T q m f] (fun _ : Nat × (Nat → Int32) => none) (fun w => [oST a w.1, oSB b q n, zB T q m f, zB T w.1 n w.2]) (fun w => ∀ j, j < n → w.2 j = f j) 1 3000 := by
  refine sx_startP (SFy_ok sd jd) (by decide +kernel) (Nat.le_of_ble_eq_true rfl) (fun p e s mi args below meth c A X hnm => ?_)
  have XY := X
  have X := XY.dn (SFx_ok sd)
  have XJ := XY.fz
  refine sx_aload_n X 0 rfl dJ0_init_db425_0 rfl ?_
  refine sx_objInit X qm_1474 qm_56 qm_57 dJ0_init_db425_1 (Nat.le_of_ble_eq_true rfl) (Nat.le_of_ble_eq_true rfl) ?_
  refine sx_aload_n X 1 rfl dJ0_init_db425_4 rfl ?_
  refine sx_wsub (ws' := [zO b 1 [.ref q, .int 0, .int 0, .int (nI n)], zO a 0 [.null, .int 0, .int 0, .int 0], zB T q m f]) [1, 0, 2] rfl rfl ?_
  refine sx_pU X ((c_sbVal (l := l) (D := D) (T := T) (sd := sd) (jd := jd) b q n).toP) XY.M (wr := [zO a 0 [.null, .int 0, .int 0, .int 0], zB T q m f]) (sx_rcv X (q0 := 0) (w := [zO b 1 [.ref q, .int 0, .int 0, .int (nI n)], zO a 0 [.null, .int 0, .int 0, .int 0], zB T q m f]) rfl rfl) qm_1475 qm_1477 qm_1478 qm_1476 qm_25 qm_1479 rfl hd_sbVal ⟨rfl, rfl⟩ ⟨Nat.le_of_ble_eq_true rfl, Nat.le_of_ble_eq_true rfl⟩ rfl rfl (Nat.le_of_ble_eq_true rfl) ⟨Nat.le_of_ble_eq_true rfl, Nat.le_of_ble_eq_true rfl⟩ dJ0_init_db425_5 rfl (fun u9 hu9 => ?_)
  refine sx_chg (ws' := [zO b 1 [.ref q, .int 0, .int 0, .int (nI n)], zO a 0 [.null, .int 0, .int 0, .int 0], zB T q m f]) (st' := [.ref q]) rfl rfl ?_
  refine sx_astore_n X (lv' := [(3, .ref q), (0, .ref a), (1, .ref b), (2, .null)]) dJ0_init_db425_8 rfl (by decide) rfl ?_
  refine sx_aload_n X 2 rfl dJ0_init_db425_9 rfl ?_
  refine sx_pO X ((c_sbLen4 (l := l) (D := D) (T := T) (sd := sd) (jd := jd) b q n).toP) XY.M (wr := [zO a 0 [.null, .int 0, .int 0, .int 0], zB T q m f]) (sx_rcv X (q0 := 0) (w := [zO b 1 [.ref q, .int 0, .int 0, .int (nI n)], zO a 0 [.null, .int 0, .int 0, .int 0], zB T q m f]) rfl rfl) qm_1480 qm_1482 qm_1481 qm_1487 qm_1483 qm_1484 qm_26 qm_1485 hd_sbLen ⟨rfl, rfl⟩ ⟨Nat.le_of_ble_eq_true rfl, Nat.le_of_ble_eq_true rfl⟩ rfl rfl (Nat.le_of_ble_eq_true rfl) ⟨Nat.le_of_ble_eq_true rfl, Nat.le_of_ble_eq_true rfl⟩ dJ0_init_db425_10 rfl (fun u9 hu9 => ?_)
  refine sx_chg (ws' := [zO b 1 [.ref q, .int 0, .int 0, .int (nI n)], zO a 0 [.null, .int 0, .int 0, .int 0], zB T q m f]) (st' := [.int (nI n)]) rfl rfl ?_
  refine sx_istore X (lv' := [(4, .int (nI n)), (3, .ref q), (0, .ref a), (1, .ref b), (2, .null)]) dJ0_init_db425_13 (by decide) rfl ?_
  refine sx_aload_n X 3 rfl dJ0_init_db425_15 rfl ?_
  refine sx_pU X ((c_sbLat (l := l) (D := D) (T := T) (sd := sd) (jd := jd) b q n).toP) XY.M (wr := [zO a 0 [.null, .int 0, .int 0, .int 0], zB T q m f]) (sx_rcv X (q0 := 0) (w := [zO b 1 [.ref q, .int 0, .int 0, .int (nI n)], zO a 0 [.null, .int 0, .int 0, .int 0], zB T q m f]) rfl rfl) qm_1488 qm_1267 qm_1268 qm_1266 qm_25 qm_1269 rfl hd_sbLat ⟨rfl, rfl⟩ ⟨Nat.le_of_ble_eq_true rfl, Nat.le_of_ble_eq_true rfl⟩ rfl rfl (Nat.le_of_ble_eq_true rfl) ⟨Nat.le_of_ble_eq_true rfl, Nat.le_of_ble_eq_true rfl⟩ dJ0_init_db425_16 rfl (fun u9 hu9 => ?_)
  refine sx_chg (ws' := [zO b 1 [.ref q, .int 0, .int 0, .int (nI n)], zO a 0 [.null, .int 0, .int 0, .int 0], zB T q m f]) (st' := [.int 1]) rfl rfl ?_
  refine sx_if_eq X 41 dJ0_init_db425_19 rfl (fun hc => absurd hc (by decide)) (fun _ => ?_)
  refine sx_aload_n X 2 rfl dJ0_init_db425_22 rfl ?_
  refine sx_iconst X (v := 0) dJ0_init_db425_23 rfl ?_
  refine sx_putF X hnm (ws' := [zO b 1 [.ref q, .int 0, .int 0, .int (nI n)], zO a 0 [.null, .int 0, .int 0, .int 0], zB T q m f]) kJ0 1 rfl 1 (Nat.le_of_ble_eq_true rfl) qm_1509 rfl rfl rfl rfl (Nat.le_of_ble_eq_true rfl) rfl dJ0_init_db425_24 ?_
  refine sx_aload_n X 2 rfl dJ0_init_db425_27 rfl ?_
  refine sx_aload_n X 1 rfl dJ0_init_db425_28 rfl ?_
  refine sx_iconst X (v := 0) dJ0_init_db425_29 rfl ?_
  refine sx_iload X 0 rfl dJ0_init_db425_30 ?_
  refine sx_wsub (ws' := [zB T q m f, zO b 1 [.ref q, .int 0, .int 0, .int (nI n)], zO a 0 [.null, .int 0, .int 0, .int 0]]) [2, 0, 1] rfl rfl ?_
  refine sx_pS X (c_copyR (l := l) (D := D) (T := T) (sd := sd) (jd := jd) q m n f hn hm hf) XY.M (wr := [zO b 1 [.ref q, .int 0, .int 0, .int (nI n)], zO a 0 [.null, .int 0, .int 0, .int 0]]) qm_1489 qm_1490 qm_33 qm_1491 hd_copyR ⟨rfl, rfl⟩ ⟨Nat.le_of_ble_eq_true rfl, Nat.le_of_ble_eq_true rfl⟩ rfl rfl (Nat.le_of_ble_eq_true rfl) ⟨Nat.le_of_ble_eq_true rfl, Nat.le_of_ble_eq_true rfl⟩ dJ0_init_db425_32 rfl (fun w hw => ?_)
  refine sx_chg (ws' := [zB T q m f, zB T w.1 n w.2, zO b 1 [.ref q, .int 0, .int 0, .int (nI n)], zO a 0 [.null, .int 0, .int 0, .int 0]]) (st' := [.ref w.1, .ref a]) rfl rfl ?_
  refine sx_putF X hnm (ws' := [zB T q m f, zB T w.1 n w.2, zO b 1 [.ref q, .int 0, .int 0, .int (nI n)], zO a 0 [.ref w.1, .int 0, .int 0, .int 0]]) kJ0 3 rfl 0 (Nat.le_of_ble_eq_true rfl) qm_1508 rfl rfl rfl rfl (Nat.le_of_ble_eq_true rfl) rfl dJ0_init_db425_35 ?_
  refine sx_goto X 97 dJ0_init_db425_38 rfl ?_
  refine sx_wsub (ws' := [zO a 0 [.ref w.1, .int 0, .int 0, .int 0], zO b 1 [.ref q, .int 0, .int 0, .int (nI n)], zB T q m f, zB T w.1 n w.2]) [3, 2, 0, 1] rfl rfl ?_
  refine sx_pick w hw ?_
  exact sx_vret X dJ0_init_db425_97 rfl rfl rfl
theorem hd_stIn1 : SxDs yJ0_init_81219 1 := ⟨by decide, by decide, by decide +kernel⟩
set_option maxRecDepth 100000 in
theorem c_stIn1 {l : Launch} {D : va_G} {T : Nat → ClassId} {sd : SdT} {jd : JdT} (a b q m n : Nat) (f : Nat → Int32) (hn : n ≤ m) (hm : m ≤ 3000) (hf : sb_Fit f) : SxKP (SFy sd jd) l D T yJ0_init_81219 cJ0_init_81219 2 none (rmL 4 1 3000) [.ref a, .ref b] [zO a 0 [.null, .int 0, .int 0, .int 0], oSB b q n, zB T q m f] (fun _ : Nat × (Nat → Int32) => none) (fun w => [oST a w.1, oSB b q n, zB T q m f, zB T w.1 n w.2]) (fun w => ∀ j, j < n → w.2 j = f j) 1 3000 := by
  refine sx_startP (SFy_ok sd jd) (by decide +kernel) (Nat.le_of_ble_eq_true rfl) (fun p e s mi args below meth c A X hnm => ?_)
  have XY := X
  have X := XY.dn (SFx_ok sd)
  have XJ := XY.fz
  refine sx_aload_n X 0 rfl dJ0_init_81219_0 rfl ?_
  refine sx_aload_n X 1 rfl dJ0_init_81219_1 rfl ?_
  refine sx_null X dJ0_init_81219_2 ?_
  refine sx_pI X (c_stIn2 (l := l) (D := D) (T := T) (sd := sd) (jd := jd) a b q m n f hn hm hf) XY.M (wr := []) qm_1471 qm_1472 qm_27 qm_1473 rfl hd_stIn2 ⟨rfl, rfl⟩ ⟨Nat.le_of_ble_eq_true rfl, Nat.le_of_ble_eq_true rfl⟩ rfl rfl (Nat.le_of_ble_eq_true rfl) ⟨Nat.le_of_ble_eq_true rfl, Nat.le_of_ble_eq_true rfl⟩ dJ0_init_81219_3 rfl (fun w hw => ?_)
  refine sx_chg (ws' := [zO a 0 [.ref w.1, .int 0, .int 0, .int 0], zO b 1 [.ref q, .int 0, .int 0, .int (nI n)], zB T q m f, zB T w.1 n w.2]) (st' := []) rfl rfl ?_
  refine sx_pick w hw ?_
  exact sx_vret X dJ0_init_81219_6 rfl rfl rfl
theorem hd_sbStr : SxDs yJ4_toString_0e30d 0 := ⟨by decide, by decide, by decide +kernel⟩
set_option maxRecDepth 100000 in
theorem c_sbStr {l : Launch} {D : va_G} {T : Nat → ClassId} {sd : SdT} {jd : JdT} (b q m : Nat) (tx : List Nat) (f : Nat → Int32) (hS : SBf tx m f) : SxKP (SFy sd jd) l D T yJ4_toString_0e30d cJ4_toString_0e30d 1 (some (.object "java/lang/String")) (rmL 5 2 3004) [.ref b] [oSB b q tx.length, zB T q m f] (fun w : Nat × Nat × (Nat → Int32) => some (.ref w.1)) (fun w => [oSB b q tx.length, zB T q m f, oST w.1 w.2.1, zB T w.2.1 tx.length w.2.2]) (fun w => ∀ j, j < tx.length → w.2.2 j = nI (tx.getD j 0)) 2 3004 := by
  refine sx_startP (SFy_ok sd jd) (by decide +kernel) (Nat.le_of_ble_eq_true rfl) (fun p e s mi args below meth c A X hnm => ?_)
  have XY := X
  have X := XY.dn (SFx_ok sd)
  have XJ := XY.fz
  refine sx_new X (fs := [.null, .int 0, .int 0, .int 0]) kJ0 qm_1466 qm_1467 qm_27 (by decide) (Nat.le_of_ble_eq_true rfl) (Nat.le_of_ble_eq_true rfl) dJ4_toString_0e30d_0 (fun a => ?_)
  refine sx_chg (ws' := [zO b 1 [.ref q, .int 0, .int 0, .int (nI tx.length)], zB T q m f, zO a 0 [.null, .int 0, .int 0, .int 0]]) (st' := [.ref a]) rfl rfl ?_
  refine sx_dup X dJ4_toString_0e30d_3 rfl ?_
  refine sx_aload_n X 0 rfl dJ4_toString_0e30d_4 rfl ?_
  refine sx_wsub (ws' := [zO a 0 [.null, .int 0, .int 0, .int 0], zO b 1 [.ref q, .int 0, .int 0, .int (nI tx.length)], zB T q m f]) [2, 0, 1] rfl rfl ?_
  refine sx_pI X (c_stIn1 (l := l) (D := D) (T := T) (sd := sd) (jd := jd) a b q m tx.length f hS.1 hS.2.1 hS.2.2.1) XY.M (wr := []) qm_1468 qm_1469 qm_27 qm_1470 rfl hd_stIn1 ⟨rfl, rfl⟩ ⟨Nat.le_of_ble_eq_true rfl, Nat.le_of_ble_eq_true rfl⟩ rfl rfl (Nat.le_of_ble_eq_true rfl) ⟨Nat.le_of_ble_eq_true rfl, Nat.le_of_ble_eq_true rfl⟩ dJ4_toString_0e30d_5 rfl (fun w hw => ?_)
  refine sx_chg (ws' := [zO a 0 [.ref w.1, .int 0, .int 0, .int 0], zO b 1 [.ref q, .int 0, .int 0, .int (nI tx.length)], zB T q m f, zB T w.1 tx.length w.2]) (st' := [.ref a]) rfl rfl ?_
  refine sx_wsub (ws' := [zO b 1 [.ref q, .int 0, .int 0, .int (nI tx.length)], zB T q m f, zO a 0 [.ref w.1, .int 0, .int 0, .int 0], zB T w.1 tx.length w.2]) [1, 2, 0, 3] rfl rfl ?_
  refine sx_pick (a, w.1, w.2) (fun j hj => (hw j hj).trans (hS.2.2.2.2 j hj)) ?_
  exact sx_aret X dJ4_toString_0e30d_8 rfl rfl rfl
theorem hd_asbIn : SxDs yJ5_init_d00df 1 := ⟨by decide, by decide, by decide +kernel⟩
set_option maxRecDepth 100000 in
theorem c_asbIn {l : Launch} {D : va_G} {T : Nat → ClassId} {sd : SdT} {jd : JdT} (b : Nat) : SxKP (SFy sd jd) l D T yJ5_init_d00df cJ5_init_d00df 2 none (rmL 0 1 16) [.ref b, .int 16] [zO b 1 [.null, .int 0, .int 0, .int 0]] (fun _ : Nat => none) (fun q => [oSB b q 0, zB T q 16 (fun _ => 0)]) (fun _ => True) 1 16 := by
  refine sx_startP (SFy_ok sd jd) (by decide +kernel) (Nat.le_of_ble_eq_true rfl) (fun p e s mi args below meth c A X hnm => ?_)
  have XY := X
  have X := XY.dn (SFx_ok sd)
  have XJ := XY.fz
  refine sx_aload_n X 0 rfl dJ5_init_d00df_0 rfl ?_
  refine sx_objInit X qm_1446 qm_56 qm_57 dJ5_init_d00df_1 (Nat.le_of_ble_eq_true rfl) (Nat.le_of_ble_eq_true rfl) ?_
  refine sx_gst X X.sf.2.1.2.2.2.2.2.2.1 qm_1270 dJ5_init_d00df_4 ?_
  refine sx_if_eq X 25 dJ5_init_d00df_7 rfl (fun hc => absurd hc (by decide)) (fun _ => ?_)
  refine sx_aload_n X 0 rfl dJ5_init_d00df_10 rfl ?_
  refine sx_iload_n X 1 rfl dJ5_init_d00df_11 rfl ?_
  refine sx_newb X (N' := 16) (by decide) rfl (by decide) (Nat.le_of_ble_eq_true rfl) (Nat.le_of_ble_eq_true rfl) qm_73 dJ5_init_d00df_12 (fun q => ?_)
  refine sx_chg (ws' := [zO b 1 [.null, .int 0, .int 0, .int 0], zB T q 16 (fun _ => 0)]) (st' := [.ref q, .ref b]) rfl rfl ?_
  refine sx_put X (ws' := [zO b 1 [.ref q, .int 0, .int 0, .int 0], zB T q 16 (fun _ => 0)]) kJ4 0 rfl 0 (Nat.le_of_ble_eq_true rfl) qm_1447 rfl rfl rfl (Nat.le_of_ble_eq_true rfl) rfl dJ5_init_d00df_14 ?_
  refine sx_aload_n X 0 rfl dJ5_init_d00df_17 rfl ?_
  refine sx_iconst X (v := 0) dJ5_init_d00df_18 rfl ?_
  refine sx_put X (ws' := [zO b 1 [.ref q, .int 0, .int 0, .int 0], zB T q 16 (fun _ => 0)]) kJ4 0 rfl 1 (Nat.le_of_ble_eq_true rfl) qm_1448 rfl rfl rfl (Nat.le_of_ble_eq_true rfl) rfl dJ5_init_d00df_19 ?_
  refine sx_goto X 38 dJ5_init_d00df_22 rfl ?_
  refine sx_pick q trivial ?_
  exact sx_vret X dJ5_init_d00df_38 rfl rfl rfl
theorem hd_sbIn : SxDs yJ4_init_da8c8 0 := ⟨by decide, by decide, by decide +kernel⟩
set_option maxRecDepth 100000 in
theorem c_sbIn {l : Launch} {D : va_G} {T : Nat → ClassId} {sd : SdT} {jd : JdT} (b : Nat) : SxKP (SFy sd jd) l D T yJ4_init_da8c8 cJ4_init_da8c8 1 none (rmL 1 1 16) [.ref b] [zO b 1 [.null, .int 0, .int 0, .int 0]] (fun _ : Nat => none) (fun q => [oSB b q 0, zB T q 16 (fun _ => 0)]) (fun _ => True) 1 16 := by
  refine sx_startP (SFy_ok sd jd) (by decide +kernel) (Nat.le_of_ble_eq_true rfl) (fun p e s mi args below meth c A X hnm => ?_)
  have XY := X
  have X := XY.dn (SFx_ok sd)
  have XJ := XY.fz
  refine sx_aload_n X 0 rfl dJ4_init_da8c8_0 rfl ?_
  refine sx_bipush X (v := 16) dJ4_init_da8c8_1 rfl ?_
  refine sx_pI X (c_asbIn (l := l) (D := D) (T := T) (sd := sd) (jd := jd) b) XY.M (wr := []) qm_1443 qm_1444 qm_25 qm_1445 rfl hd_asbIn ⟨rfl, rfl⟩ ⟨Nat.le_of_ble_eq_true rfl, Nat.le_of_ble_eq_true rfl⟩ rfl rfl (Nat.le_of_ble_eq_true rfl) ⟨Nat.le_of_ble_eq_true rfl, Nat.le_of_ble_eq_true rfl⟩ dJ4_init_da8c8_3 rfl (fun q hq => ?_)
  refine sx_chg (ws' := [zO b 1 [.ref q, .int 0, .int 0, .int (nI 0)], zB T q 16 (fun _ => 0)]) (st' := []) rfl rfl ?_
  refine sx_pick q trivial ?_
  exact sx_vret X dJ4_init_da8c8_6 rfl rfl rfl
theorem SBf_0 : SBf [] 16 (fun _ => 0) := ⟨Nat.zero_le _, by decide, sb_fit0, fun _ h => absurd h List.not_mem_nil, fun _ h => absurd h (Nat.not_lt_zero _)⟩
