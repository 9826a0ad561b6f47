/-! feed and trim -/
theorem by_sx (y : Int32) : ∃ v, v < 256 ∧ vp_nar .byte (Int8.toInt32 (Int32.toInt8 y)) = sx v ∧ y &&& 255 = nI v := by
  have hv : y.toBitVec.toNat % 256 < 256 := Nat.mod_lt _ (by omega)
  have hi : y.toInt % 256 = ((y.toBitVec.toNat % 256 : Nat) : Int) := by
    rw [← Int32.toInt_toBitVec, BitVec.toInt_eq_toNat_cond]
    have := y.toBitVec.isLt
    split <;> omega
  refine ⟨y.toBitVec.toNat % 256, hv, ?_, ?_⟩
  · rw [vp_nar_byte, Int8.toInt8_toInt32]
    apply Int32.toInt_inj.1
    rw [Int8.toInt_toInt32, Int32.toInt_toInt8, Int.bmod_def]
    have e8 : ((2 ^ 8 : Nat) : Int) = 256 := rfl
    rw [e8, hi]
    generalize y.toBitVec.toNat % 256 = v at hv
    unfold sx
    by_cases q : v < 128
    · rw [if_pos q, if_pos (by omega)]
      exact (Int32.toInt_ofNat_of_lt (by omega)).symm
    · rw [if_neg q, if_neg (by omega), nJ_subI (by omega) (by omega)]
      rfl
  · apply Int32.toBitVec_inj.1
    apply BitVec.eq_of_toNat_eq
    have e1 : (y &&& 255).toBitVec = y.toBitVec &&& 255#32 := rfl
    have e2 : (nI (y.toBitVec.toNat % 256)).toBitVec = BitVec.ofNat 32 (y.toBitVec.toNat % 256) := rfl
    have e3 : (255#32).toNat = 2 ^ 8 - 1 := rfl
    have e4 : (BitVec.ofNat 32 (y.toBitVec.toNat % 256)).toNat = (y.toBitVec.toNat % 256) % 2 ^ 32 := BitVec.toNat_ofNat _ _
    rw [e1, e2, e4, BitVec.toNat_and, e3, Nat.and_two_pow_sub_one_eq_mod]
    omega
/-- the tape, alike -/
def TPR (bT ta : Nat → Int32) (len : Nat) : Prop := len ≤ 2000 ∧ ∀ i, i < len → ∃ v, v < 256 ∧ bT i = sx v ∧ ta i = nI v
theorem TPE_of {bT ta : Nat → Int32} {len : Nat} (h : TPR bT ta len) : ∃ Y, TPE Y len bT ta := by
  refine ⟨fun i => if q : i < len then Classical.choose (h.2 i q) else 256, h.1, fun i hi => ?_, fun i hi => dif_neg (by omega)⟩
  have hc := Classical.choose_spec (h.2 i hi)
  have e : (if q : i < len then Classical.choose (h.2 i q) else 256) = Classical.choose (h.2 i hi) := dif_pos hi
  show (if q : i < len then Classical.choose (h.2 i q) else 256) < 256 ∧ bT i = sx (if q : i < len then Classical.choose (h.2 i q) else 256) ∧ ta i = nI (if q : i < len then Classical.choose (h.2 i q) else 256)
  rw [e]
  exact hc
theorem TPR_cut {bT ta : Nat → Int32} {len l : Nat} (h : TPR bT ta len) (hl : l ≤ len) : TPR bT ta l := ⟨by have := h.1; omega, fun i hi => h.2 i (by omega)⟩
def cB (x s : Int32) : Int32 := vp_nar .byte (Int8.toInt32 (Int32.toInt8 (x >>> (s &&& 31))))
def mB (x s : Int32) : Int32 := (x >>> (s &&& 31)) &&& 255
theorem TPR_add {bT ta : Nat → Int32} {len : Nat} (h : TPR bT ta len) (hl : len < 2000) (x s : Int32) : TPR (upd bT len (cB x s)) (upd ta len (mB x s)) (len + 1) := by
  refine ⟨by omega, fun i hi => ?_⟩
  by_cases e : i = len
  · rw [e, upd_same, upd_same]
    exact by_sx _
  · rw [upd_else _ _ e, upd_else _ _ e]
    exact h.2 i (by omega)
def ap4 (f : Int32 → Int32 → Int32) (b : Nat → Int32) (l : Nat) (x : Int32) : Nat → Int32 := upd (upd (upd (upd b l (f x 24)) (l + 1) (f x (24 + -8))) (l + 2) (f x (24 + -8 + -8))) (l + 3) (f x (24 + -8 + -8 + -8))
theorem TPR_4 {bT ta : Nat → Int32} {len : Nat} (h : TPR bT ta len) (hl : len + 4 ≤ 2000) (x : Int32) : TPR (ap4 cB bT len x) (ap4 mB ta len x) (len + 4) := TPR_add (TPR_add (TPR_add (TPR_add h (by omega) x _) (by omega) x _) (by omega) x _) (by omega) x _
section P68
variable {n : Nat} {bT : Nat → Int32} {th bs ea tk wr er et dp : Int32} {ta kd nu po ln fn gn va kp : Nat → Int32}
variable {N : Nat → Int32} {len l : Nat} {bh : bX12} {b : bX10}
theorem ap_step (x s : Int32) (hs : ¬ s < 0) (hl : l < 2000) : f_X10_append_L3 n x b x s bT (nI l) = some (.inl (s + (-8), upd bT l (cB x s), nI (l + 1))) := by
  unfold f_X10_append_L3
  rw [if_neg hs, if_neg (show ¬ (2000 : Int32) ≤ nI l by rw [nL_2000, nJ_le (by omega) (by omega)]; omega), if_neg (show ¬ (nI l < 0 ∨ 2000 ≤ (nI l).toNatClampNeg) by rw [nJ_clamp (by omega), nL_0, nJ_lt (by omega) (by omega)]; omega), nJ_clamp (by omega), show nI l + 1 = nI (l + 1) from nJ_add l 1]
  rfl
theorem ap_end (x s : Int32) (hs : s < 0) : f_X10_append_L3 n x b x s bT (nI l) = some (.inr (bT, nI l)) := by
  unfold f_X10_append_L3
  rw [if_pos hs]
theorem c_append (hn : 2100 < n) (x : Int32) (hl : len + 4 ≤ 2000) : f_X10_append n x (bT, nI len) = some (ap4 cB bT len x, nI (len + 4)) := by
  unfold f_X10_append
  obtain ⟨q, hq⟩ : ∃ q, n = q + 1 + 1 + 1 + 1 + 1 := ⟨n - 5, by omega⟩
  have hB : ∀ (s : Int32) (f : Nat → Int32) (l : Nat), ¬ s < 0 → l < 2000 → (fun s : Int32 × (Nat → Int32) × Int32 => f_X10_append_L3 n x (bT, nI len) x s.1 s.2.1 s.2.2) (s, f, nI l) = some (.inl (s + (-8), upd f l (cB x s), nI (l + 1))) := fun s f l h1 h2 => ap_step x s h1 h2
  have hE : ∀ (s : Int32) (f : Nat → Int32) (l : Nat), s < 0 → (fun s : Int32 × (Nat → Int32) × Int32 => f_X10_append_L3 n x (bT, nI len) x s.1 s.2.1 s.2.2) (s, f, nI l) = some (.inr (f, nI l)) := fun s f l h1 => ap_end x s h1
  generalize (fun s : Int32 × (Nat → Int32) × Int32 => f_X10_append_L3 n x (bT, nI len) x s.1 s.2.1 s.2.2) = body at hB hE
  rw [hq]
  show iter body (q + 1 + 1 + 1 + 1 + 1) (24, bT, nI len) = _
  rw [iter_inl (hB 24 bT len (by decide) (by omega)), iter_inl (hB _ _ _ (by decide) (by omega)), iter_inl (hB _ _ _ (by decide) (by omega)), iter_inl (hB _ _ _ (by decide) (by omega)), iter_inr (hE _ _ _ (by decide))]
  rfl
theorem m_ap (hn : 2100 < n) {x0 x1 x2 x3 x4 v8 w x : Int32} {B : bX14} {q2 : Nat → Int32} {f : Nat → Int32} {v9 : Int32} (hl : l + 4 ≤ 2000) : iter (fun s : Int32 × (Nat → Int32) × Int32 => f_X14_feed_L81 n x0 x1 x2 x3 x4 B v8 v9 x s.1 w s.2.1 s.2.2 q2) n (24, f, nI l) = some (.inl (v9 + 1, ap4 mB f l x, nI (l + 4))) := by
  obtain ⟨q, hq⟩ : ∃ q, n = q + 1 + 1 + 1 + 1 + 1 := ⟨n - 5, by omega⟩
  have hB : ∀ (s : Int32) (f : Nat → Int32) (l : Nat), ¬ s < 0 → l < 2000 → (fun s : Int32 × (Nat → Int32) × Int32 => f_X14_feed_L81 n x0 x1 x2 x3 x4 B v8 v9 x s.1 w s.2.1 s.2.2 q2) (s, f, nI l) = some (.inl (s + (-8), upd f l (mB x s), nI (l + 1))) := by
    intro s f l h1 h2
    show f_X14_feed_L81 n x0 x1 x2 x3 x4 B v8 v9 x s w f (nI l) q2 = _
    unfold f_X14_feed_L81
    rw [if_neg h1, if_neg (show ¬ (nI l < 0 ∨ 2000 ≤ (nI l).toNatClampNeg) by rw [nJ_clamp (by omega), nL_0, nJ_lt (by omega) (by omega)]; omega), nJ_clamp (by omega), show nI l + 1 = nI (l + 1) from nJ_add l 1]
    rfl
  have hE : ∀ (s : Int32) (f : Nat → Int32) (l : Nat), s < 0 → (fun s : Int32 × (Nat → Int32) × Int32 => f_X14_feed_L81 n x0 x1 x2 x3 x4 B v8 v9 x s.1 w s.2.1 s.2.2 q2) (s, f, nI l) = some (.inr (.inl (v9 + 1, f, nI l))) := by
    intro s f l h1
    show f_X14_feed_L81 n x0 x1 x2 x3 x4 B v8 v9 x s w f (nI l) q2 = _
    unfold f_X14_feed_L81
    rw [if_pos h1]
  generalize (fun s : Int32 × (Nat → Int32) × Int32 => f_X14_feed_L81 n x0 x1 x2 x3 x4 B v8 v9 x s.1 w s.2.1 s.2.2 q2) = body at hB hE
  rw [hq]
  rw [iter_inl (hB 24 f l (by decide) (by omega)), iter_inl (hB _ _ _ (by decide) (by omega)), iter_inl (hB _ _ _ (by decide) (by omega)), iter_inl (hB _ _ _ (by decide) (by omega)), iter_inr (hE _ _ _ (by decide))]
  rfl
def ap20 (f : Int32 → Int32 → Int32) (b : Nat → Int32) (l : Nat) (x0 x1 x2 x3 x4 : Int32) : Nat → Int32 := ap4 f (ap4 f (ap4 f (ap4 f (ap4 f b l x0) (l + 4) x1) (l + 4 + 4) x2) (l + 4 + 4 + 4) x3) (l + 4 + 4 + 4 + 4) x4
theorem TPR_20 {ta : Nat → Int32} (h : TPR bT ta len) (hl : len + 20 ≤ 2000) (x0 x1 x2 x3 x4 : Int32) : TPR (ap20 cB bT len x0 x1 x2 x3 x4) (ap20 mB ta len x0 x1 x2 x3 x4) (len + 20) := TPR_4 (TPR_4 (TPR_4 (TPR_4 (TPR_4 h (by omega) x0) (by omega) x1) (by omega) x2) (by omega) x3) (by omega) x4
theorem c_feed (hn : 2100 < n) (hl : len ≤ 2000) (x0 x1 x2 x3 x4 : Int32) : f_X12_feed n x0 x1 x2 x3 x4 bh (bT, nI len) = some (if len + 20 ≤ 2000 then .inl (nI (len + 20), ap20 cB bT len x0 x1 x2 x3 x4, nI (len + 20)) else .inr ("java/lang/IllegalStateException", bT, nI len)) := by
  unfold f_X12_feed
  by_cases q : len + 20 ≤ 2000
  · rw [if_pos q, if_pos (show (X10_length (bT, nI len)) + 20 ≤ (2000 : Int32) by rw [show X10_length (bT, nI len) = nI len from rfl, nL_20, nL_2000, nJ_add, nJ_le (by omega) (by omega)]; exact q)]
    rw [bd (c_append (bT := bT) hn x0 (len := len) (by omega))]
    refine (bd (c_append hn x1 (len := len + 4) (by omega)) _).trans ?_
    refine (bd (c_append hn x2 (len := len + 4 + 4) (by omega)) _).trans ?_
    refine (bd (c_append hn x3 (len := len + 4 + 4 + 4) (by omega)) _).trans ?_
    exact (bd (c_append hn x4 (len := len + 4 + 4 + 4 + 4) (by omega)) _).trans rfl
  · rw [if_neg q, if_neg (show ¬ (X10_length (bT, nI len)) + 20 ≤ (2000 : Int32) by rw [show X10_length (bT, nI len) = nI len from rfl, nL_20, nL_2000, nJ_add, nJ_le (by omega) (by omega)]; exact q)]
theorem m_feed (hn : 2100 < n) (hl : len ≤ 2000) (x0 x1 x2 x3 x4 : Int32) : f_X14_feed n x0 x1 x2 x3 x4 (th, ta, nI len, ea, kd, nu, po, ln, tk, wr, er, et, dp, fn, gn, va, N, kp) = some (if len + 20 ≤ 2000 then (nI (len + 20), nI 0, ap20 mB ta len x0 x1 x2 x3 x4, nI (len + 20)) else (nI 0, nI 1, ta, nI len)) := by
  unfold f_X14_feed
  by_cases q : len + 20 ≤ 2000
  · rw [if_pos q, if_pos (show (X14_bytes (th, ta, nI len, ea, kd, nu, po, ln, tk, wr, er, et, dp, fn, gn, va, N, kp)) + 20 ≤ (2000 : Int32) by rw [show X14_bytes (th, ta, nI len, ea, kd, nu, po, ln, tk, wr, er, et, dp, fn, gn, va, N, kp) = nI len from rfl, nL_20, nL_2000, nJ_add, nJ_le (by omega) (by omega)]; exact q)]
    rw [if_neg (by decide), if_neg (by decide), if_neg (by decide), if_neg (by decide), if_neg (by decide)]
    obtain ⟨k, hk⟩ : ∃ k, n = k + 1 + 1 + 1 + 1 + 1 + 1 := ⟨n - 6, by omega⟩
    have hq : ∀ (j : Nat) (f : Nat → Int32) (l : Nat) (x : Int32), j < 5 → l + 4 ≤ 2000 → (upd (upd (upd (upd (upd (fun _ => 0) (0 : Int32).toNatClampNeg x0) (1 : Int32).toNatClampNeg x1) (2 : Int32).toNatClampNeg x2) (3 : Int32).toNatClampNeg x3) (4 : Int32).toNatClampNeg x4) j = x → (fun s : Int32 × (Nat → Int32) × Int32 => f_X14_feed_L63 n x0 x1 x2 x3 x4 (th, ta, nI len, ea, kd, nu, po, ln, tk, wr, er, et, dp, fn, gn, va, N, kp) 5 s.1 0 s.2.1 s.2.2 (upd (upd (upd (upd (upd (fun _ => 0) (0 : Int32).toNatClampNeg x0) (1 : Int32).toNatClampNeg x1) (2 : Int32).toNatClampNeg x2) (3 : Int32).toNatClampNeg x3) (4 : Int32).toNatClampNeg x4)) (nI j, f, nI l) = some (.inl (nI (j + 1), ap4 mB f l x, nI (l + 4))) := by
      intro j f l x hj hl hx
      show f_X14_feed_L63 n x0 x1 x2 x3 x4 (th, ta, nI len, ea, kd, nu, po, ln, tk, wr, er, et, dp, fn, gn, va, N, kp) 5 (nI j) 0 f (nI l) (upd (upd (upd (upd (upd (fun _ => 0) (0 : Int32).toNatClampNeg x0) (1 : Int32).toNatClampNeg x1) (2 : Int32).toNatClampNeg x2) (3 : Int32).toNatClampNeg x3) (4 : Int32).toNatClampNeg x4) = _
      unfold f_X14_feed_L63
      rw [if_neg (show ¬ (5 : Int32) ≤ nI j by rw [nL_5, nJ_le (by omega) (by omega)]; omega), if_neg (show ¬ (nI j < 0 ∨ 5 ≤ (nI j).toNatClampNeg) by rw [nJ_clamp (by omega), nL_0, nJ_lt (by omega) (by omega)]; omega), nJ_clamp (by omega), hx, m_ap hn hl, show nI j + 1 = nI (j + 1) from nJ_add j 1]
    have hE : ∀ (f : Nat → Int32) (l : Nat), (fun s : Int32 × (Nat → Int32) × Int32 => f_X14_feed_L63 n x0 x1 x2 x3 x4 (th, ta, nI len, ea, kd, nu, po, ln, tk, wr, er, et, dp, fn, gn, va, N, kp) 5 s.1 0 s.2.1 s.2.2 (upd (upd (upd (upd (upd (fun _ => 0) (0 : Int32).toNatClampNeg x0) (1 : Int32).toNatClampNeg x1) (2 : Int32).toNatClampNeg x2) (3 : Int32).toNatClampNeg x3) (4 : Int32).toNatClampNeg x4)) (nI 5, f, nI l) = some (.inr (nI l, 0, f, nI l)) := by
      intro f l
      show f_X14_feed_L63 n x0 x1 x2 x3 x4 (th, ta, nI len, ea, kd, nu, po, ln, tk, wr, er, et, dp, fn, gn, va, N, kp) 5 (nI 5) 0 f (nI l) _ = _
      unfold f_X14_feed_L63
      rw [if_pos (show (5 : Int32) ≤ nI 5 by decide)]
    generalize (fun s : Int32 × (Nat → Int32) × Int32 => f_X14_feed_L63 n x0 x1 x2 x3 x4 (th, ta, nI len, ea, kd, nu, po, ln, tk, wr, er, et, dp, fn, gn, va, N, kp) 5 s.1 0 s.2.1 s.2.2 (upd (upd (upd (upd (upd (fun _ => 0) (0 : Int32).toNatClampNeg x0) (1 : Int32).toNatClampNeg x1) (2 : Int32).toNatClampNeg x2) (3 : Int32).toNatClampNeg x3) (4 : Int32).toNatClampNeg x4)) = body at hq hE ⊢
    rw [hk]
    show iter body (k + 1 + 1 + 1 + 1 + 1 + 1) (nI 0, ta, nI len) = _
    rw [iter_inl (hq 0 ta len x0 (by omega) (by omega) rfl), iter_inl (hq 1 _ _ x1 (by omega) (by omega) rfl), iter_inl (hq 2 _ _ x2 (by omega) (by omega) rfl), iter_inl (hq 3 _ _ x3 (by omega) (by omega) rfl), iter_inl (hq 4 _ _ x4 (by omega) (by omega) rfl), iter_inr (hE _ _)]
    rfl
  · rw [if_neg q, if_neg (show ¬ (X14_bytes (th, ta, nI len, ea, kd, nu, po, ln, tk, wr, er, et, dp, fn, gn, va, N, kp)) + 20 ≤ (2000 : Int32) by rw [show X14_bytes (th, ta, nI len, ea, kd, nu, po, ln, tk, wr, er, et, dp, fn, gn, va, N, kp) = nI len from rfl, nL_20, nL_2000, nJ_add, nJ_le (by omega) (by omega)]; exact q)]
    rfl
end P68
