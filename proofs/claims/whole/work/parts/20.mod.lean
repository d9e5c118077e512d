/-! THE REFERENCE: ground, men, pad -/
theorem inL_I (x lo hi : Int32) : inL x.toInt64 lo.toInt64 hi.toInt64 = inR x lo hi := by
  unfold inL inR
  have w : ∀ a b : Int32, a.toInt64 ≤ b.toInt64 ↔ a ≤ b := fun a b => by
    rw [Int64.le_iff_toInt_le, Int32.le_iff_toInt_le, Int32.toInt_toInt64, Int32.toInt_toInt64]
  exact decide_eq_decide.mpr (and_congr (w lo x) (w x hi))
theorem ct_X7_inI {x lo hi : Int32} {l2 h2 : Int64} {h : Wd} (e1 : lo.toInt64 = l2) (e2 : hi.toInt64 = h2) : Ct mX7_in [.long x.toInt64, .long l2, .long h2] h (some (.int (bI (inR x lo hi)))) h := by
  subst e1; subst e2
  rw [← inL_I]
  exact ct_X7_in
theorem isC_R (x : Int32) : inR x 0 63 = isC x := by
  unfold inR isC
  refine decide_eq_decide.mpr ⟨fun h => ⟨h.1, ?_⟩, fun h => ⟨h.1, ?_⟩⟩
  · have := Int32.le_iff_toInt_le.mp h.2
    rw [Int32.lt_iff_toInt_lt]
    have e1 : (63 : Int32).toInt = 63 := by decide
    have e2 : (64 : Int32).toInt = 64 := by decide
    omega
  · have := Int32.lt_iff_toInt_lt.mp h.2
    rw [Int32.le_iff_toInt_le]
    have e1 : (63 : Int32).toInt = 63 := by decide
    have e2 : (64 : Int32).toInt = 64 := by decide
    omega
theorem isM_R (x : Int32) : inR x 0 5 = isM x := by
  unfold inR isM
  refine decide_eq_decide.mpr ⟨fun h => ⟨h.1, ?_⟩, fun h => ⟨h.1, ?_⟩⟩
  · have := Int32.le_iff_toInt_le.mp h.2
    rw [Int32.lt_iff_toInt_lt]
    have e1 : (5 : Int32).toInt = 5 := by decide
    have e2 : (6 : Int32).toInt = 6 := by decide
    omega
  · have := Int32.lt_iff_toInt_lt.mp h.2
    rw [Int32.le_iff_toInt_le]
    have e1 : (5 : Int32).toInt = 5 := by decide
    have e2 : (6 : Int32).toInt = 6 := by decide
    omega
theorem ct_X7_isCell {x : Int32} {h : Wd} : Ct mX7_isCell [.int x] h (some (.int (bI (isC x)))) h := by
  refine Ct.of (Z := List.replicate 0 .null) (by decide) (Nat.le_of_ble_eq_true rfl) (fun z hz => List.eq_of_mem_replicate hz) ?_
  show WW mX7_isCell 0 [.int x] [] _ _ _
  refine r_iload_0 (pc := 0) dX7_isCell_0 ?_
  refine r_i2l (pc := 1) dX7_isCell_1 ?_
  refine r_lconst (pc := 2) 0 dX7_isCell_2 (by decide) ?_
  refine r_ldc2 (pc := 3) dX7_isCell_3 kl_X7_84 ?_
  refine r_cS1_3 (pc := 6) (ct_X7_inI (lo := 0) (hi := 63) (by decide) (by decide)) cs_X7_in ⟨Nat.le_of_ble_eq_true rfl, Nat.le_of_ble_eq_true rfl⟩ ml_X7_86 dX7_isCell_6 rfl (Nat.le_of_ble_eq_true rfl) ?_
  refine r_zret (pc := 9) dX7_isCell_9 rfl (by first | rfl | exact bI_nar _) (by rw [isC_R]) rfl
theorem ones_s : ∀ l, l < 64 → l ≠ 0 → nI l &&& (nI l - 1) = nI (l &&& (l - 1)) ∧ cnt (bt (nI (l &&& (l - 1)))) 32 + 1 = cnt (bt (nI l)) 32 ∧ l &&& (l - 1) < l := by decide +kernel
theorem lp_X7_ones {h : Wd} {x : Int32} : ∀ n l a, l ≤ n → l < 64 → WW mX7_ones 4 [.int x, .int (nI a), .int (nI l)] [] h (some (.int (nI (a + cnt (bt (nI l)) 32)))) h := by
  intro n
  induction n with
  | zero =>
    intro l a hl h6
    obtain rfl : l = 0 := by omega
    refine r_iload_2 (pc := 4) dX7_ones_4 ?_
    refine r_if_eq (pc := 5) 20 dX7_ones_5 (by decide) (fun _ => ?_) (fun c5 => absurd (rfl) (c5))
    refine r_iload_1 (pc := 20) dX7_ones_20 ?_
    refine r_iret (pc := 21) dX7_ones_21 rfl (by first | rfl | simp_all [bI]) rfl
  | succ n ih =>
    intro l a hl h6
    by_cases e : l = 0
    · subst e
      refine r_iload_2 (pc := 4) dX7_ones_4 ?_
      refine r_if_eq (pc := 5) 20 dX7_ones_5 (by decide) (fun _ => ?_) (fun c5 => absurd (rfl) (c5))
      refine r_iload_1 (pc := 20) dX7_ones_20 ?_
      refine r_iret (pc := 21) dX7_ones_21 rfl (by first | rfl | simp_all [bI]) rfl
    · obtain ⟨e1, e2, e3⟩ := ones_s l h6 e
      refine r_iload_2 (pc := 4) dX7_ones_4 ?_
      refine r_if_eq (pc := 5) 20 dX7_ones_5 (by decide) (fun c5 => absurd c5 (nI_ne0 (by omega) (by omega))) (fun _ => ?_)
      refine r_inc_1 (pc := 8) dX7_ones_8 rfl (by decide) ?_
      refine r_iload_2 (pc := 11) dX7_ones_11 ?_
      refine r_iload_2 (pc := 12) dX7_ones_12 ?_
      refine r_iconst (pc := 13) 1 dX7_ones_13 (by decide) ?_
      refine r_isub (pc := 14) dX7_ones_14 ?_
      refine r_iand (pc := 15) dX7_ones_15 ?_
      refine r_istore_2 (pc := 16) dX7_ones_16 rfl (by decide) ?_
      refine r_goto (pc := 17) 4 dX7_ones_17 (by decide) ?_
      rw [e1]
      exact (ih _ (a + 1) (by omega) (by omega)).r (by rw [show a + 1 + cnt (bt (nI (l &&& (l - 1)))) 32 = a + cnt (bt (nI l)) 32 by omega])
theorem ct_X7_ones {h : Wd} {x : Int32} (hx : ∃ l, l < 64 ∧ x = nI l) : Ct mX7_ones [.int x] h (some (.int (nI (cnt (bt x) 32)))) h := by
  obtain ⟨l, hl, rfl⟩ := hx
  refine Ct.of (Z := List.replicate 2 .null) (by decide) (Nat.le_of_ble_eq_true rfl) (fun z hz => List.eq_of_mem_replicate hz) ?_
  show WW mX7_ones 0 [.int (nI l), .null, .null] [] _ _ _
  refine r_iconst (pc := 0) 0 dX7_ones_0 (by decide) ?_
  refine r_istore_1 (pc := 1) dX7_ones_1 rfl (by decide) ?_
  refine r_iload_0 (pc := 2) dX7_ones_2 ?_
  refine r_istore_2 (pc := 3) dX7_ones_3 rfl (by decide) ?_
  exact (lp_X7_ones 64 l 0 (by omega) hl).r (by rw [Nat.zero_add])
theorem ct_X7_apart {a b : Int32} {h : Wd} : Ct mX7_apart [.int a, .int b] h (some (.int ((if a / 8 - b / 8 < 0 then -(a / 8 - b / 8) else a / 8 - b / 8) + (if (a - a / 8 * 8) - (b - b / 8 * 8) < 0 then -((a - a / 8 * 8) - (b - b / 8 * 8)) else (a - a / 8 * 8) - (b - b / 8 * 8))))) h := by
  refine Ct.of (Z := List.replicate 2 .null) (by decide) (Nat.le_of_ble_eq_true rfl) (fun z hz => List.eq_of_mem_replicate hz) ?_
  show WW mX7_apart 0 [.int a, .int b, .null, .null] [] _ _ _
  refine r_iload_0 (pc := 0) dX7_apart_0 ?_
  refine r_bipush (pc := 1) 8 dX7_apart_1 (by decide) ?_
  refine r_idiv (pc := 3) dX7_apart_3 (by decide) ?_
  refine r_iload_1 (pc := 4) dX7_apart_4 ?_
  refine r_bipush (pc := 5) 8 dX7_apart_5 (by decide) ?_
  refine r_idiv (pc := 7) dX7_apart_7 (by decide) ?_
  refine r_isub (pc := 8) dX7_apart_8 ?_
  refine r_istore_2 (pc := 9) dX7_apart_9 rfl (by decide) ?_
  refine r_iload_0 (pc := 10) dX7_apart_10 ?_
  refine r_bipush (pc := 11) 8 dX7_apart_11 (by decide) ?_
  refine r_irem (pc := 13) dX7_apart_13 (by decide) ?_
  refine r_iload_1 (pc := 14) dX7_apart_14 ?_
  refine r_bipush (pc := 15) 8 dX7_apart_15 (by decide) ?_
  refine r_irem (pc := 17) dX7_apart_17 (by decide) ?_
  refine r_isub (pc := 18) dX7_apart_18 ?_
  refine r_istore_3 (pc := 19) dX7_apart_19 rfl (by decide) ?_
  refine r_iload_2 (pc := 20) dX7_apart_20 ?_
  refine r_if_ge (pc := 21) 29 dX7_apart_21 (by decide) (fun c21 => ?_) (fun c21 => ?_)
  · refine r_iload_2 (pc := 29) dX7_apart_29 ?_
    refine r_iload_3 (pc := 30) dX7_apart_30 ?_
    refine r_if_ge (pc := 31) 39 dX7_apart_31 (by decide) (fun c31 => ?_) (fun c31 => ?_)
    · refine r_iload_3 (pc := 39) dX7_apart_39 ?_
      refine r_iadd (pc := 40) dX7_apart_40 ?_
      refine r_iret (pc := 41) dX7_apart_41 rfl (by first | rw [if_neg (Int32.not_lt.mpr c21), if_neg (Int32.not_lt.mpr c31)] | rw [if_neg (Int32.not_lt.mpr c21), if_pos (i_nle c31)] | rw [if_pos (i_nle c21), if_neg (Int32.not_lt.mpr c31)] | rw [if_pos (i_nle c21), if_pos (i_nle c31)]) rfl
    · refine r_iload_3 (pc := 34) dX7_apart_34 ?_
      refine r_ineg (pc := 35) dX7_apart_35 ?_
      refine r_goto (pc := 36) 40 dX7_apart_36 (by decide) ?_
      refine r_iadd (pc := 40) dX7_apart_40 ?_
      refine r_iret (pc := 41) dX7_apart_41 rfl (by first | rw [if_neg (Int32.not_lt.mpr c21), if_neg (Int32.not_lt.mpr c31)] | rw [if_neg (Int32.not_lt.mpr c21), if_pos (i_nle c31)] | rw [if_pos (i_nle c21), if_neg (Int32.not_lt.mpr c31)] | rw [if_pos (i_nle c21), if_pos (i_nle c31)]) rfl
  · refine r_iload_2 (pc := 24) dX7_apart_24 ?_
    refine r_ineg (pc := 25) dX7_apart_25 ?_
    refine r_goto (pc := 26) 30 dX7_apart_26 (by decide) ?_
    refine r_iload_3 (pc := 30) dX7_apart_30 ?_
    refine r_if_ge (pc := 31) 39 dX7_apart_31 (by decide) (fun c31 => ?_) (fun c31 => ?_)
    · refine r_iload_3 (pc := 39) dX7_apart_39 ?_
      refine r_iadd (pc := 40) dX7_apart_40 ?_
      refine r_iret (pc := 41) dX7_apart_41 rfl (by first | rw [if_neg (Int32.not_lt.mpr c21), if_neg (Int32.not_lt.mpr c31)] | rw [if_neg (Int32.not_lt.mpr c21), if_pos (i_nle c31)] | rw [if_pos (i_nle c21), if_neg (Int32.not_lt.mpr c31)] | rw [if_pos (i_nle c21), if_pos (i_nle c31)]) rfl
    · refine r_iload_3 (pc := 34) dX7_apart_34 ?_
      refine r_ineg (pc := 35) dX7_apart_35 ?_
      refine r_goto (pc := 36) 40 dX7_apart_36 (by decide) ?_
      refine r_iadd (pc := 40) dX7_apart_40 ?_
      refine r_iret (pc := 41) dX7_apart_41 rfl (by first | rw [if_neg (Int32.not_lt.mpr c21), if_neg (Int32.not_lt.mpr c31)] | rw [if_neg (Int32.not_lt.mpr c21), if_pos (i_nle c31)] | rw [if_pos (i_nle c21), if_neg (Int32.not_lt.mpr c31)] | rw [if_pos (i_nle c21), if_pos (i_nle c31)]) rfl
theorem dist_n : ∀ a, a < 64 → ∀ b, b < 64 → ((if nI a / 8 - nI b / 8 < 0 then -(nI a / 8 - nI b / 8) else nI a / 8 - nI b / 8) + (if (nI a - nI a / 8 * 8) - (nI b - nI b / 8 * 8) < 0 then -((nI a - nI a / 8 * 8) - (nI b - nI b / 8 * 8)) else (nI a - nI a / 8 * 8) - (nI b - nI b / 8 * 8))) = dist (nI b) (nI a) ∧ dist (nI b) (nI a) = dist (nI a) (nI b) := by decide +kernel
theorem ct_X7_apartN {a b : Nat} {h : Wd} (ha : a < 64) (hb : b < 64) : Ct mX7_apart [.int (nI a), .int (nI b)] h (some (.int (dist (nI b) (nI a)))) h := by
  rw [← (dist_n a ha b hb).1]
  exact ct_X7_apart
theorem ct_X7_isMan {h : Wd} {k : Nat} {c : Mod} {x : Int32} (hk : k + 24 < 76) : Ct mX7_isMan [.ref k, .int x] (wm h k c) (some (.int (bI (hasB (wm_men c) x)))) (wm h k c) := by
  refine Ct.of (Z := List.replicate 0 .null) (by decide) (Nat.le_of_ble_eq_true rfl) (fun z hz => List.eq_of_mem_replicate hz) ?_
  show WW mX7_isMan 0 [.ref k, .int x] [] _ _ _
  refine r_iload_1 (pc := 0) dX7_isMan_0 ?_
  refine r_i2l (pc := 1) dX7_isMan_1 ?_
  refine r_lconst (pc := 2) 0 dX7_isMan_2 (by decide) ?_
  refine r_ldc2 (pc := 3) dX7_isMan_3 kl_X7_90 ?_
  refine r_cS1_3 (pc := 6) (ct_X7_inI (lo := 0) (hi := 5) (by decide) (by decide)) cs_X7_in ⟨Nat.le_of_ble_eq_true rfl, Nat.le_of_ble_eq_true rfl⟩ ml_X7_86 dX7_isMan_6 rfl (Nat.le_of_ble_eq_true rfl) ?_
  refine r_if_eq (pc := 9) 28 dX7_isMan_9 (by decide) (fun c9 => ?_) (fun c9 => ?_)
  · rw [isM_R, bI_0] at c9
    refine r_iconst (pc := 28) 0 dX7_isMan_28 (by decide) ?_
    refine r_zret (pc := 29) dX7_isMan_29 rfl (by first | rfl | exact bI_nar _) (by simp_all [bI, hasB]) rfl
  · rw [isM_R, bI_n0] at c9
    refine r_aload_0 (pc := 12) dX7_isMan_12 ?_
    refine r_wm_get_men (pc := 13) hk fl_X7_92 dX7_isMan_13 ?_
    refine r_iload_1 (pc := 16) dX7_isMan_16 ?_
    refine r_ishr (pc := 17) dX7_isMan_17 ?_
    refine r_iconst (pc := 18) 1 dX7_isMan_18 (by decide) ?_
    refine r_iand (pc := 19) dX7_isMan_19 ?_
    refine r_iconst (pc := 20) 1 dX7_isMan_20 (by decide) ?_
    refine r_icmp_ne (pc := 21) 28 dX7_isMan_21 (by decide) (fun c21 => ?_) (fun c21 => ?_)
    · refine r_iconst (pc := 28) 0 dX7_isMan_28 (by decide) ?_
      refine r_zret (pc := 29) dX7_isMan_29 rfl (by first | rfl | exact bI_nar _) (by simp_all [bI, hasB]) rfl
    · refine r_iconst (pc := 24) 1 dX7_isMan_24 (by decide) ?_
      refine r_goto (pc := 25) 29 dX7_isMan_25 (by decide) ?_
      refine r_zret (pc := 29) dX7_isMan_29 rfl (by first | rfl | exact bI_nar _) (by simp_all [bI, hasB]) rfl
theorem ct_X7_isKnown {h : Wd} {k m j : Nat} {c : Mod} (hk : k + 24 < 76) (hm : m < 6) (hj : j < 64) : Ct mX7_isKnown [.ref k, .int (nI m), .int (nI j)] (wm h k c) (some (.int (bI (kb (wm_knows c m) j)))) (wm h k c) := by
  refine Ct.of (Z := List.replicate 0 .null) (by decide) (Nat.le_of_ble_eq_true rfl) (fun z hz => List.eq_of_mem_replicate hz) ?_
  show WW mX7_isKnown 0 [.ref k, .int (nI m), .int (nI j)] [] _ _ _
  refine r_aload_0 (pc := 0) dX7_isKnown_0 ?_
  refine r_wm_get_knows (pc := 1) hk fl_X7_19 dX7_isKnown_1 ?_
  refine r_iload_1 (pc := 4) dX7_isKnown_4 ?_
  refine r_wm_ld_knows (pc := 5) hk (by omega) dX7_isKnown_5 ?_
  refine r_iload_2 (pc := 6) dX7_isKnown_6 ?_
  refine r_lshr (pc := 7) dX7_isKnown_7 ?_
  refine r_lconst (pc := 8) 1 dX7_isKnown_8 (by decide) ?_
  refine r_land (pc := 9) dX7_isKnown_9 ?_
  refine r_lconst (pc := 10) 1 dX7_isKnown_10 (by decide) ?_
  refine r_lcmp_ne (pc := 11) 19 dX7_isKnown_11 dX7_isKnown_12 (by decide) (fun c11 => ?_) (fun c11 => ?_)
  · refine r_iconst (pc := 19) 0 dX7_isKnown_19 (by decide) ?_
    refine r_zret (pc := 20) dX7_isKnown_20 rfl (by first | rfl | exact bI_nar _) (by rw [Bool.eq_false_iff.mpr (fun z => c11 ((kb_s _ hj).mpr z))]; rfl) rfl
  · refine r_iconst (pc := 15) 1 dX7_isKnown_15 (by decide) ?_
    refine r_goto (pc := 16) 20 dX7_isKnown_16 (by decide) ?_
    refine r_zret (pc := 20) dX7_isKnown_20 rfl (by first | rfl | exact bI_nar _) (by rw [(kb_s _ hj).mp c11]; rfl) rfl
theorem lp_X7_knownBy {h : Wd} {k m : Nat} {c : Mod} (hk : k + 24 < 76) (hm : m < 6) : ∀ n j, j + n = 64 → WW mX7_knownBy 4 [.ref k, .int (nI m), .int (nI (cnt (kb (wm_knows c m)) j)), .int (nI j)] [] (wm h k c) (some (.int (nI (cnt (kb (wm_knows c m)) 64)))) (wm h k c) := by
  intro n
  induction n with
  | zero =>
    intro j hj
    obtain rfl : j = 64 := by omega
    refine r_iload_3 (pc := 4) dX7_knownBy_4 ?_
    refine r_bipush (pc := 5) 64 dX7_knownBy_5 (by decide) ?_
    refine r_icmp_ge (pc := 7) 33 dX7_knownBy_7 (by decide) (fun _ => ?_) (fun c7 => absurd (nI_le (a := 64) (b := 64) (by omega) (by omega)) (c7))
    refine r_iload_2 (pc := 33) dX7_knownBy_33 ?_
    refine r_iret (pc := 34) dX7_knownBy_34 rfl (by first | rfl | simp_all [bI]) rfl
  | succ n ih =>
    intro j hj
    refine r_iload_3 (pc := 4) dX7_knownBy_4 ?_
    refine r_bipush (pc := 5) 64 dX7_knownBy_5 (by decide) ?_
    refine r_icmp_ge (pc := 7) 33 dX7_knownBy_7 (by decide) (fun c7 => absurd c7 (nI_ge (a := j) (b := 64) (by omega) (by decide))) (fun _ => ?_)
    refine r_iload_2 (pc := 10) dX7_knownBy_10 ?_
    refine r_aload_0 (pc := 11) dX7_knownBy_11 ?_
    refine r_iload_1 (pc := 12) dX7_knownBy_12 ?_
    refine r_iload_3 (pc := 13) dX7_knownBy_13 ?_
    refine r_cV1_2 (pc := 14) (ct_X7_isKnown hk hm (by omega)) cv_X7_isKnown ⟨Nat.le_of_ble_eq_true rfl, Nat.le_of_ble_eq_true rfl⟩ ml_X7_114 dX7_knownBy_14 (by omega) (wm_o _ _ _) rfl rfl (Nat.le_of_ble_eq_true rfl) ?_
    refine r_if_eq (pc := 17) 24 dX7_knownBy_17 (by decide) (fun c17 => ?_) (fun c17 => ?_)
    · rw [bI_0] at c17
      refine r_iconst (pc := 24) 0 dX7_knownBy_24 (by decide) ?_
      refine r_iadd (pc := 25) dX7_knownBy_25 ?_
      refine r_istore_2 (pc := 26) dX7_knownBy_26 rfl (by decide) ?_
      refine r_inc_3 (pc := 27) dX7_knownBy_27 rfl (by decide) ?_
      refine r_goto (pc := 30) 4 dX7_knownBy_30 (by decide) ?_
      exact (ih (j + 1) (by omega)).L (by rw [cnt, c17, Int32.add_zero]; rfl)
    · rw [bI_n0] at c17
      refine r_iconst (pc := 20) 1 dX7_knownBy_20 (by decide) ?_
      refine r_goto (pc := 21) 25 dX7_knownBy_21 (by decide) ?_
      refine r_iadd (pc := 25) dX7_knownBy_25 ?_
      refine r_istore_2 (pc := 26) dX7_knownBy_26 rfl (by decide) ?_
      refine r_inc_3 (pc := 27) dX7_knownBy_27 rfl (by decide) ?_
      refine r_goto (pc := 30) 4 dX7_knownBy_30 (by decide) ?_
      exact (ih (j + 1) (by omega)).L (by rw [cnt, c17, ← nI_succ]; rfl)
theorem ct_X7_knownBy {h : Wd} {k m : Nat} {c : Mod} (hk : k + 24 < 76) (hm : m < 6) : Ct mX7_knownBy [.ref k, .int (nI m)] (wm h k c) (some (.int (nI (cnt (kb (wm_knows c m)) 64)))) (wm h k c) := by
  refine Ct.of (Z := List.replicate 2 .null) (by decide) (Nat.le_of_ble_eq_true rfl) (fun z hz => List.eq_of_mem_replicate hz) ?_
  show WW mX7_knownBy 0 [.ref k, .int (nI m), .null, .null] [] _ _ _
  refine r_iconst (pc := 0) 0 dX7_knownBy_0 (by decide) ?_
  refine r_istore_2 (pc := 1) dX7_knownBy_1 rfl (by decide) ?_
  refine r_iconst (pc := 2) 0 dX7_knownBy_2 (by decide) ?_
  refine r_istore_3 (pc := 3) dX7_knownBy_3 rfl (by decide) ?_
  exact lp_X7_knownBy hk hm 64 0 rfl
theorem lp_X7_claimedBy {h : Wd} {k : Nat} {c : Mod} {m : Int32} (hk : k + 24 < 76) : ∀ n j, j + n = 64 → WW mX7_claimedBy 4 [.ref k, .int m, .int (nI (cnt (fun j => decide (wm_owner c j = m)) j)), .int (nI j)] [] (wm h k c) (some (.int (nI (cntC (wm_owner c) m)))) (wm h k c) := by
  intro n
  induction n with
  | zero =>
    intro j hj
    obtain rfl : j = 64 := by omega
    refine r_iload_3 (pc := 4) dX7_claimedBy_4 ?_
    refine r_bipush (pc := 5) 64 dX7_claimedBy_5 (by decide) ?_
    refine r_icmp_ge (pc := 7) 34 dX7_claimedBy_7 (by decide) (fun _ => ?_) (fun c7 => absurd (nI_le (a := 64) (b := 64) (by omega) (by omega)) (c7))
    refine r_iload_2 (pc := 34) dX7_claimedBy_34 ?_
    refine r_iret (pc := 35) dX7_claimedBy_35 rfl (by first | rfl | simp_all [bI]) rfl
  | succ n ih =>
    intro j hj
    refine r_iload_3 (pc := 4) dX7_claimedBy_4 ?_
    refine r_bipush (pc := 5) 64 dX7_claimedBy_5 (by decide) ?_
    refine r_icmp_ge (pc := 7) 34 dX7_claimedBy_7 (by decide) (fun c7 => absurd c7 (nI_ge (a := j) (b := 64) (by omega) (by decide))) (fun _ => ?_)
    refine r_iload_2 (pc := 10) dX7_claimedBy_10 ?_
    refine r_aload_0 (pc := 11) dX7_claimedBy_11 ?_
    refine r_wm_get_owner (pc := 12) hk fl_X7_13 dX7_claimedBy_12 ?_
    refine r_iload_3 (pc := 15) dX7_claimedBy_15 ?_
    refine r_wm_ld_owner (pc := 16) hk (by omega) dX7_claimedBy_16 ?_
    refine r_iload_1 (pc := 17) dX7_claimedBy_17 ?_
    refine r_icmp_ne (pc := 18) 25 dX7_claimedBy_18 (by decide) (fun c18 => ?_) (fun c18 => ?_)
    · refine r_iconst (pc := 25) 0 dX7_claimedBy_25 (by decide) ?_
      refine r_iadd (pc := 26) dX7_claimedBy_26 ?_
      refine r_istore_2 (pc := 27) dX7_claimedBy_27 rfl (by decide) ?_
      refine r_inc_3 (pc := 28) dX7_claimedBy_28 rfl (by decide) ?_
      refine r_goto (pc := 31) 4 dX7_claimedBy_31 (by decide) ?_
      exact (ih (j + 1) (by omega)).L (by rw [cnt, decide_eq_false c18, Int32.add_zero]; rfl)
    · refine r_iconst (pc := 21) 1 dX7_claimedBy_21 (by decide) ?_
      refine r_goto (pc := 22) 26 dX7_claimedBy_22 (by decide) ?_
      refine r_iadd (pc := 26) dX7_claimedBy_26 ?_
      refine r_istore_2 (pc := 27) dX7_claimedBy_27 rfl (by decide) ?_
      refine r_inc_3 (pc := 28) dX7_claimedBy_28 rfl (by decide) ?_
      refine r_goto (pc := 31) 4 dX7_claimedBy_31 (by decide) ?_
      exact (ih (j + 1) (by omega)).L (by rw [cnt, decide_eq_true c18, ← nI_succ]; rfl)
theorem ct_X7_claimedBy {h : Wd} {k : Nat} {c : Mod} {m : Int32} (hk : k + 24 < 76) : Ct mX7_claimedBy [.ref k, .int m] (wm h k c) (some (.int (nI (cntC (wm_owner c) m)))) (wm h k c) := by
  refine Ct.of (Z := List.replicate 2 .null) (by decide) (Nat.le_of_ble_eq_true rfl) (fun z hz => List.eq_of_mem_replicate hz) ?_
  show WW mX7_claimedBy 0 [.ref k, .int m, .null, .null] [] _ _ _
  refine r_iconst (pc := 0) 0 dX7_claimedBy_0 (by decide) ?_
  refine r_istore_2 (pc := 1) dX7_claimedBy_1 rfl (by decide) ?_
  refine r_iconst (pc := 2) 0 dX7_claimedBy_2 (by decide) ?_
  refine r_istore_3 (pc := 3) dX7_claimedBy_3 rfl (by decide) ?_
  exact lp_X7_claimedBy hk 64 0 rfl
theorem ct_X7_claimedCells {h : Wd} {k : Nat} {c : Mod} (hk : k + 24 < 76) : Ct mX7_claimedCells [.ref k] (wm h k c) (some (.int (64 - nI (cntC (wm_owner c) (-6))))) (wm h k c) := by
  refine Ct.of (Z := List.replicate 0 .null) (by decide) (Nat.le_of_ble_eq_true rfl) (fun z hz => List.eq_of_mem_replicate hz) ?_
  show WW mX7_claimedCells 0 [.ref k] [] _ _ _
  refine r_bipush (pc := 0) 64 dX7_claimedCells_0 (by decide) ?_
  refine r_aload_0 (pc := 2) dX7_claimedCells_2 ?_
  refine r_bipush (pc := 3) (-6) dX7_claimedCells_3 (by decide) ?_
  refine r_cV1_1 (pc := 5) (ct_X7_claimedBy hk) cv_X7_claimedBy ⟨Nat.le_of_ble_eq_true rfl, Nat.le_of_ble_eq_true rfl⟩ ml_X7_118 dX7_claimedCells_5 (by omega) (wm_o _ _ _) rfl rfl (Nat.le_of_ble_eq_true rfl) ?_
  refine r_isub (pc := 8) dX7_claimedCells_8 ?_
  refine r_iret (pc := 9) dX7_claimedCells_9 rfl (by first | rfl | simp_all [bI]) rfl
theorem lp_X7_snoreBy {h : Wd} {k m : Nat} {c : Mod} {b : Int32} (hk : k + 24 < 76) (hm : m < 6) : ∀ n j, j + n = 64 → WW mX7_snoreBy 7 [.ref k, .int (nI m), .int b, .int (3 * b + gsum (wm_ore c) (wm_knows c m) j), .int (nI j)] [] (wm h k c) (some (.int (if 99 < (if wm_whistles c m = 1 then (3 * b + gsum (wm_ore c) (wm_knows c m) 64) / 2 else 3 * b + gsum (wm_ore c) (wm_knows c m) 64) then 99 else (if wm_whistles c m = 1 then (3 * b + gsum (wm_ore c) (wm_knows c m) 64) / 2 else 3 * b + gsum (wm_ore c) (wm_knows c m) 64)))) (wm h k c) := by
  intro n
  induction n with
  | zero =>
    intro j hj
    obtain rfl : j = 64 := by omega
    refine r_iload_4 (pc := 7) dX7_snoreBy_7 ?_
    refine r_bipush (pc := 9) 64 dX7_snoreBy_9 (by decide) ?_
    refine r_icmp_ge (pc := 11) 44 dX7_snoreBy_11 (by decide) (fun _ => ?_) (fun c11 => absurd (nI_le (a := 64) (b := 64) (by omega) (by omega)) (c11))
    refine r_aload_0 (pc := 44) dX7_snoreBy_44 ?_
    refine r_wm_get_whistles (pc := 45) hk fl_X7_26 dX7_snoreBy_45 ?_
    refine r_iload_1 (pc := 48) dX7_snoreBy_48 ?_
    refine r_wm_ld_whistles (pc := 49) hk (by omega) dX7_snoreBy_49 ?_
    refine r_iconst (pc := 50) 1 dX7_snoreBy_50 (by decide) ?_
    refine r_icmp_ne (pc := 51) 60 dX7_snoreBy_51 (by decide) (fun c51 => ?_) (fun c51 => ?_)
    · refine r_iload_3 (pc := 60) dX7_snoreBy_60 ?_
      refine r_istore_4 (pc := 61) dX7_snoreBy_61 rfl (by decide) ?_
      refine r_iload_4 (pc := 63) dX7_snoreBy_63 ?_
      refine r_bipush (pc := 65) 99 dX7_snoreBy_65 (by decide) ?_
      refine r_icmp_le (pc := 67) 75 dX7_snoreBy_67 (by decide) (fun c67 => ?_) (fun c67 => ?_)
      · refine r_iload_4 (pc := 75) dX7_snoreBy_75 ?_
        refine r_iret (pc := 77) dX7_snoreBy_77 rfl (by first | simp only [if_pos c51, if_neg (Int32.not_lt.mpr c67)] | simp only [if_pos c51, if_pos (i_nle c67)] | simp only [if_neg c51, if_neg (Int32.not_lt.mpr c67)] | simp only [if_neg c51, if_pos (i_nle c67)]) rfl
      · refine r_bipush (pc := 70) 99 dX7_snoreBy_70 (by decide) ?_
        refine r_goto (pc := 72) 77 dX7_snoreBy_72 (by decide) ?_
        refine r_iret (pc := 77) dX7_snoreBy_77 rfl (by first | simp only [if_pos c51, if_neg (Int32.not_lt.mpr c67)] | simp only [if_pos c51, if_pos (i_nle c67)] | simp only [if_neg c51, if_neg (Int32.not_lt.mpr c67)] | simp only [if_neg c51, if_pos (i_nle c67)]) rfl
    · refine r_iload_3 (pc := 54) dX7_snoreBy_54 ?_
      refine r_iconst (pc := 55) 2 dX7_snoreBy_55 (by decide) ?_
      refine r_idiv (pc := 56) dX7_snoreBy_56 (by decide) ?_
      refine r_goto (pc := 57) 61 dX7_snoreBy_57 (by decide) ?_
      refine r_istore_4 (pc := 61) dX7_snoreBy_61 rfl (by decide) ?_
      refine r_iload_4 (pc := 63) dX7_snoreBy_63 ?_
      refine r_bipush (pc := 65) 99 dX7_snoreBy_65 (by decide) ?_
      refine r_icmp_le (pc := 67) 75 dX7_snoreBy_67 (by decide) (fun c67 => ?_) (fun c67 => ?_)
      · refine r_iload_4 (pc := 75) dX7_snoreBy_75 ?_
        refine r_iret (pc := 77) dX7_snoreBy_77 rfl (by first | simp only [if_pos c51, if_neg (Int32.not_lt.mpr c67)] | simp only [if_pos c51, if_pos (i_nle c67)] | simp only [if_neg c51, if_neg (Int32.not_lt.mpr c67)] | simp only [if_neg c51, if_pos (i_nle c67)]) rfl
      · refine r_bipush (pc := 70) 99 dX7_snoreBy_70 (by decide) ?_
        refine r_goto (pc := 72) 77 dX7_snoreBy_72 (by decide) ?_
        refine r_iret (pc := 77) dX7_snoreBy_77 rfl (by first | simp only [if_pos c51, if_neg (Int32.not_lt.mpr c67)] | simp only [if_pos c51, if_pos (i_nle c67)] | simp only [if_neg c51, if_neg (Int32.not_lt.mpr c67)] | simp only [if_neg c51, if_pos (i_nle c67)]) rfl
  | succ n ih =>
    intro j hj
    refine r_iload_4 (pc := 7) dX7_snoreBy_7 ?_
    refine r_bipush (pc := 9) 64 dX7_snoreBy_9 (by decide) ?_
    refine r_icmp_ge (pc := 11) 44 dX7_snoreBy_11 (by decide) (fun c11 => absurd c11 (nI_ge (a := j) (b := 64) (by omega) (by decide))) (fun _ => ?_)
    refine r_iload_3 (pc := 14) dX7_snoreBy_14 ?_
    refine r_aload_0 (pc := 15) dX7_snoreBy_15 ?_
    refine r_iload_1 (pc := 16) dX7_snoreBy_16 ?_
    refine r_iload_4 (pc := 17) dX7_snoreBy_17 ?_
    refine r_cV1_2 (pc := 19) (ct_X7_isKnown hk hm (by omega)) cv_X7_isKnown ⟨Nat.le_of_ble_eq_true rfl, Nat.le_of_ble_eq_true rfl⟩ ml_X7_114 dX7_snoreBy_19 (by omega) (wm_o _ _ _) rfl rfl (Nat.le_of_ble_eq_true rfl) ?_
    refine r_if_eq (pc := 22) 35 dX7_snoreBy_22 (by decide) (fun c22 => ?_) (fun c22 => ?_)
    · rw [bI_0] at c22
      refine r_iconst (pc := 35) 0 dX7_snoreBy_35 (by decide) ?_
      refine r_iadd (pc := 36) dX7_snoreBy_36 ?_
      refine r_istore_3 (pc := 37) dX7_snoreBy_37 rfl (by decide) ?_
      refine r_inc_4 (pc := 38) dX7_snoreBy_38 rfl (by decide) ?_
      refine r_goto (pc := 41) 7 dX7_snoreBy_41 (by decide) ?_
      exact (ih (j + 1) (by omega)).L (by rw [gsum, isum, if_neg (by rw [c22]; decide), Int32.add_zero, Int32.add_zero] <;> rfl)
    · rw [bI_n0] at c22
      refine r_aload_0 (pc := 25) dX7_snoreBy_25 ?_
      refine r_wm_get_ore (pc := 26) hk fl_X7_7 dX7_snoreBy_26 ?_
      refine r_iload_4 (pc := 29) dX7_snoreBy_29 ?_
      refine r_wm_ld_ore (pc := 31) hk (by omega) dX7_snoreBy_31 ?_
      refine r_goto (pc := 32) 36 dX7_snoreBy_32 (by decide) ?_
      refine r_iadd (pc := 36) dX7_snoreBy_36 ?_
      refine r_istore_3 (pc := 37) dX7_snoreBy_37 rfl (by decide) ?_
      refine r_inc_4 (pc := 38) dX7_snoreBy_38 rfl (by decide) ?_
      refine r_goto (pc := 41) 7 dX7_snoreBy_41 (by decide) ?_
      exact (ih (j + 1) (by omega)).L (by rw [gsum, isum, if_pos c22, Int32.add_assoc] <;> rfl)
theorem ct_X7_snoreBy {h : Wd} {k m : Nat} {c : Mod} {b : Bool} (hk : k + 24 < 76) (hm : m < 6) : Ct mX7_snoreBy [.ref k, .int (nI m), .int (bI b)] (wm h k c) (some (.int (snv (wm_ore c) (wm_knows c m) b (decide (wm_whistles c m = 1))))) (wm h k c) := by
  have e : ∀ s : Int32, 3 * bI b + s = s + (if b then 3 else 0) := fun s => by
    rw [Int32.add_comm]
    cases b <;> rfl
  refine Ct.of (Z := List.replicate 2 .null) (by decide) (Nat.le_of_ble_eq_true rfl) (fun z hz => List.eq_of_mem_replicate hz) ?_
  show WW mX7_snoreBy 0 [.ref k, .int (nI m), .int (bI b), .null, .null] [] _ _ _
  refine r_iconst (pc := 0) 3 dX7_snoreBy_0 (by decide) ?_
  refine r_iload_2 (pc := 1) dX7_snoreBy_1 ?_
  refine r_imul (pc := 2) dX7_snoreBy_2 ?_
  refine r_istore_3 (pc := 3) dX7_snoreBy_3 rfl (by decide) ?_
  refine r_iconst (pc := 4) 0 dX7_snoreBy_4 (by decide) ?_
  refine r_istore_4 (pc := 5) dX7_snoreBy_5 rfl (by decide) ?_
  exact ((lp_X7_snoreBy (b := bI b) hk hm 64 0 rfl).L (by rw [gsum, isum, Int32.add_zero] <;> rfl)).r (by simp only [snv, e, decide_eq_true_eq])
def coB (c : Mod) (m : Nat) : Bool := decide (wm_cold c m = 1)
def whB (c : Mod) (m : Nat) : Bool := decide (wm_whistles c m = 1)
def ok01 (f : Nat → Int32) : Prop := ∀ m, m < 6 → f m = 0 ∨ f m = 1
theorem ok01_b {f : Nat → Int32} {m : Nat} (h : ok01 f) (hm : m < 6) : f m = bI (decide (f m = 1)) := by
  rcases h m hm with e | e <;> rw [e] <;> rfl
def snM (c : Mod) (m : Nat) : Int32 := snv (wm_ore c) (wm_knows c m) (coB c m) (whB c m)
theorem ct_X7_snore {h : Wd} {k m : Nat} {c : Mod} (hk : k + 24 < 76) (hm : m < 6) (ho : ok01 (wm_cold c)) : Ct mX7_snore [.ref k, .int (nI m)] (wm h k c) (some (.int (snM c m))) (wm h k c) := by
  refine Ct.of (Z := List.replicate 0 .null) (by decide) (Nat.le_of_ble_eq_true rfl) (fun z hz => List.eq_of_mem_replicate hz) ?_
  show WW mX7_snore 0 [.ref k, .int (nI m)] [] _ _ _
  refine r_aload_0 (pc := 0) dX7_snore_0 ?_
  refine r_iload_1 (pc := 1) dX7_snore_1 ?_
  refine r_aload_0 (pc := 2) dX7_snore_2 ?_
  refine r_wm_get_cold (pc := 3) hk fl_X7_23 dX7_snore_3 ?_
  refine r_iload_1 (pc := 6) dX7_snore_6 ?_
  refine r_wm_ld_cold (pc := 7) hk (by omega) dX7_snore_7 ?_
  rw [ok01_b ho hm]
  refine r_cV1_2 (pc := 8) (ct_X7_snoreBy hk hm) cv_X7_snoreBy ⟨Nat.le_of_ble_eq_true rfl, Nat.le_of_ble_eq_true rfl⟩ ml_X7_210 dX7_snore_8 (by omega) (wm_o _ _ _) rfl rfl (Nat.le_of_ble_eq_true rfl) ?_
  refine r_iret (pc := 11) dX7_snore_11 rfl (by first | rfl | simp_all [bI]) rfl
theorem ovr_mx (x : Int32) : (if x < 0 then 0 else x) = mx0 x := by
  unfold mx0
  by_cases h : x < 0
  · rw [if_pos h, if_neg (by intro z; have := Int32.lt_iff_toInt_lt.mp z; have := Int32.lt_iff_toInt_lt.mp h; omega)]
  · rw [if_neg h]
    by_cases h2 : 0 < x
    · rw [if_pos h2]
    · rw [if_neg h2]
      exact Int32.le_antisymm (Int32.not_lt.mp h2) (Int32.not_lt.mp h)
theorem lp_X7_heardAt {h : Wd} {k t : Nat} {c : Mod} {un : Int32} (hk : k + 24 < 76) (ht : t < 64) (hT : okT (wm_tent c)) (ho : ok01 (wm_cold c)) : ∀ n j, j + n = 6 → WW mX7_heardAt 5 [.ref k, .int (nI t), .int un, .int (hrd (wm_men c) (snM c) (wm_tent c) un (nI t) j), .int (nI j)] [] (wm h k c) (some (.int (hrd (wm_men c) (snM c) (wm_tent c) un (nI t) 6))) (wm h k c) := by
  intro n
  induction n with
  | zero =>
    intro j hj
    obtain rfl : j = 6 := by omega
    refine r_iload_4 (pc := 5) dX7_heardAt_5 ?_
    refine r_bipush (pc := 7) 6 dX7_heardAt_7 (by decide) ?_
    refine r_icmp_ge (pc := 9) 61 dX7_heardAt_9 (by decide) (fun _ => ?_) (fun c9 => absurd (nI_le (a := 6) (b := 6) (by omega) (by omega)) (c9))
    refine r_iload_3 (pc := 61) dX7_heardAt_61 ?_
    refine r_iret (pc := 62) dX7_heardAt_62 rfl (by first | rfl | simp_all [bI]) rfl
  | succ n ih =>
    intro j hj
    obtain ⟨t2, ht2, et2⟩ := hT j (by omega)
    refine r_iload_4 (pc := 5) dX7_heardAt_5 ?_
    refine r_bipush (pc := 7) 6 dX7_heardAt_7 (by decide) ?_
    refine r_icmp_ge (pc := 9) 61 dX7_heardAt_9 (by decide) (fun c9 => absurd c9 (nI_ge (a := j) (b := 6) (by omega) (by decide))) (fun _ => ?_)
    refine r_iload_3 (pc := 12) dX7_heardAt_12 ?_
    refine r_aload_0 (pc := 13) dX7_heardAt_13 ?_
    refine r_iload_4 (pc := 14) dX7_heardAt_14 ?_
    refine r_cV1_1 (pc := 16) (ct_X7_isMan hk) cv_X7_isMan ⟨Nat.le_of_ble_eq_true rfl, Nat.le_of_ble_eq_true rfl⟩ ml_X7_106 dX7_heardAt_16 (by omega) (wm_o _ _ _) rfl rfl (Nat.le_of_ble_eq_true rfl) ?_
    refine r_if_eq (pc := 19) 52 dX7_heardAt_19 (by decide) (fun c19 => ?_) (fun c19 => ?_)
    · rw [hasB_n (by omega), bI_0] at c19
      refine r_iconst (pc := 52) 0 dX7_heardAt_52 (by decide) ?_
      refine r_iadd (pc := 53) dX7_heardAt_53 ?_
      refine r_istore_3 (pc := 54) dX7_heardAt_54 rfl (by decide) ?_
      refine r_inc_4 (pc := 55) dX7_heardAt_55 rfl (by decide) ?_
      refine r_goto (pc := 58) 5 dX7_heardAt_58 (by decide) ?_
      exact (ih (j + 1) (by omega)).L (by rw [hrd, isum, if_neg (fun z => by rw [c19] at z; cases z.2), Int32.add_zero] <;> rfl)
    · rw [hasB_n (by omega), bI_n0] at c19
      refine r_iload_4 (pc := 22) dX7_heardAt_22 ?_
      refine r_iload_2 (pc := 24) dX7_heardAt_24 ?_
      refine r_icmp_eq (pc := 25) 52 dX7_heardAt_25 (by decide) (fun c25 => ?_) (fun c25 => ?_)
      · refine r_iconst (pc := 52) 0 dX7_heardAt_52 (by decide) ?_
        refine r_iadd (pc := 53) dX7_heardAt_53 ?_
        refine r_istore_3 (pc := 54) dX7_heardAt_54 rfl (by decide) ?_
        refine r_inc_4 (pc := 55) dX7_heardAt_55 rfl (by decide) ?_
        refine r_goto (pc := 58) 5 dX7_heardAt_58 (by decide) ?_
        exact (ih (j + 1) (by omega)).L (by rw [hrd, isum, if_neg (fun z => z.1 c25), Int32.add_zero] <;> rfl)
      · refine r_aload_0 (pc := 28) dX7_heardAt_28 ?_
        refine r_iload_4 (pc := 29) dX7_heardAt_29 ?_
        refine r_cV1_1 (pc := 31) (ct_X7_snore hk (by omega) ho) cv_X7_snore ⟨Nat.le_of_ble_eq_true rfl, Nat.le_of_ble_eq_true rfl⟩ ml_X7_213 dX7_heardAt_31 (by omega) (wm_o _ _ _) rfl rfl (Nat.le_of_ble_eq_true rfl) ?_
        refine r_iload_1 (pc := 34) dX7_heardAt_34 ?_
        refine r_aload_0 (pc := 35) dX7_heardAt_35 ?_
        refine r_wm_get_tent (pc := 36) hk fl_X7_16 dX7_heardAt_36 ?_
        refine r_iload_4 (pc := 39) dX7_heardAt_39 ?_
        refine r_wm_ld_tent (pc := 41) hk (by omega) dX7_heardAt_41 ?_
        rw [et2]
        refine r_cS1_2 (pc := 42) (ct_X7_apartN ht ht2) cs_X7_apart ⟨Nat.le_of_ble_eq_true rfl, Nat.le_of_ble_eq_true rfl⟩ ml_X7_216 dX7_heardAt_42 rfl (Nat.le_of_ble_eq_true rfl) ?_
        refine r_isub (pc := 45) dX7_heardAt_45 ?_
        refine r_cS1_1 (pc := 46) (ct_X7_over) cs_X7_over ⟨Nat.le_of_ble_eq_true rfl, Nat.le_of_ble_eq_true rfl⟩ ml_X7_219 dX7_heardAt_46 rfl (Nat.le_of_ble_eq_true rfl) ?_
        rw [ovr_mx]
        refine r_goto (pc := 49) 53 dX7_heardAt_49 (by decide) ?_
        refine r_iadd (pc := 53) dX7_heardAt_53 ?_
        refine r_istore_3 (pc := 54) dX7_heardAt_54 rfl (by decide) ?_
        refine r_inc_4 (pc := 55) dX7_heardAt_55 rfl (by decide) ?_
        refine r_goto (pc := 58) 5 dX7_heardAt_58 (by decide) ?_
        exact (ih (j + 1) (by omega)).L (by rw [hrd, isum, if_pos (And.intro c25 c19), et2] <;> rfl)
theorem ct_X7_heardAt {h : Wd} {k t : Nat} {c : Mod} {un : Int32} (hk : k + 24 < 76) (ht : t < 64) (hT : okT (wm_tent c)) (ho : ok01 (wm_cold c)) : Ct mX7_heardAt [.ref k, .int (nI t), .int un] (wm h k c) (some (.int (hrd (wm_men c) (snM c) (wm_tent c) un (nI t) 6))) (wm h k c) := by
  refine Ct.of (Z := List.replicate 2 .null) (by decide) (Nat.le_of_ble_eq_true rfl) (fun z hz => List.eq_of_mem_replicate hz) ?_
  show WW mX7_heardAt 0 [.ref k, .int (nI t), .int un, .null, .null] [] _ _ _
  refine r_iconst (pc := 0) 0 dX7_heardAt_0 (by decide) ?_
  refine r_istore_3 (pc := 1) dX7_heardAt_1 rfl (by decide) ?_
  refine r_iconst (pc := 2) 0 dX7_heardAt_2 (by decide) ?_
  refine r_istore_4 (pc := 3) dX7_heardAt_3 rfl (by decide) ?_
  exact lp_X7_heardAt hk ht hT ho 6 0 rfl
