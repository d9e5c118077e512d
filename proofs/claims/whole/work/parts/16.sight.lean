/-! SIGHTS AND TALES -/
theorem ct_X3_size {h : Wd} {k : Nat} {c : Sights} (hk : k + 0 < 76) : Ct mX3_size [.ref k] (wg h k c) (some (.int (wg_count c))) (wg h k c) := by
  refine Ct.of (Z := List.replicate 0 .null) (by decide) (Nat.le_of_ble_eq_true rfl) (fun z hz => List.eq_of_mem_replicate hz) ?_
  show WW mX3_size 0 [.ref k] [] _ _ _
  refine r_aload_0 (pc := 0) dX3_size_0 ?_
  refine r_wg_get_count (pc := 1) hk fl_X3_17 dX3_size_1 ?_
  refine r_iret (pc := 4) dX3_size_4 rfl (by first | rfl | simp_all [bI]) rfl
theorem ct_X3_clear {h : Wd} {k : Nat} {c : Sights} (hk : k + 0 < 76) : Ct mX3_clear [.ref k] (wg h k c) none (wg h k (70368744177663, 0)) := by
  refine Ct.of (Z := List.replicate 0 .null) (by decide) (Nat.le_of_ble_eq_true rfl) (fun z hz => List.eq_of_mem_replicate hz) ?_
  show WW mX3_clear 0 [.ref k] [] _ _ _
  refine r_aload_0 (pc := 0) dX3_clear_0 ?_
  refine r_ldc2 (pc := 1) dX3_clear_1 kl_X3_11 ?_
  refine r_wg_put_fitting (pc := 4) hk fl_X3_13 dX3_clear_4 ?_
  refine r_aload_0 (pc := 7) dX3_clear_7 ?_
  refine r_iconst (pc := 8) 0 dX3_clear_8 (by decide) ?_
  refine r_wg_put_count (pc := 9) hk fl_X3_17 dX3_clear_9 ?_
  refine r_vret (pc := 12) dX3_clear_12 rfl rfl rfl
/-- the lodes through a cell, as bits -/
def lthN (t : Nat) : Int64 := bL (t / 8) ||| bL (8 + t % 8) ||| bL (23 + t % 8 - t / 8) ||| bL (31 + t % 8 + t / 8)
theorem lth_x {t : Nat} (ht : t < 64) : nI t - nI t / 8 * 8 = nI (t % 8) := pk_rem (a := t) (d := 8) (by omega) (by decide) (by decide)
theorem lth_y {t : Nat} (ht : t < 64) : nI t / 8 = nI (t / 8) := pk_div (a := t) (d := 8) (by omega) (by decide) (by decide)
theorem ct_X3_lodesThrough {h : Wd} {t : Nat} (ht : t < 64) : Ct mX3_lodesThrough [.int (nI t)] h (some (.long (lthN t))) h := by
  have e1 : (8 : Int32) + nI (t % 8) = nI (8 + t % 8) := nI_add 8 (t % 8)
  have e2 : (23 : Int32) + nI (t % 8) - nI (t / 8) = nI (23 + t % 8 - t / 8) := by
    rw [show (23 : Int32) + nI (t % 8) = nI (23 + t % 8) from nI_add 23 (t % 8)]
    exact pk_sub (by omega)
  have e3 : (31 : Int32) + nI (t % 8) + nI (t / 8) = nI (31 + t % 8 + t / 8) := by
    rw [show (31 : Int32) + nI (t % 8) = nI (31 + t % 8) from nI_add 31 (t % 8)]
    exact nI_add _ _
  refine Ct.of (Z := List.replicate 2 .null) (by decide) (Nat.le_of_ble_eq_true rfl) (fun z hz => List.eq_of_mem_replicate hz) ?_
  show WW mX3_lodesThrough 0 [.int (nI t), .null, .null] [] _ _ _
  refine r_iload_0 (pc := 0) dX3_lodesThrough_0 ?_
  refine r_cSN1_1 (pc := 1) (ct_X6_columnOf) cs_X6_columnOf ⟨Nat.le_of_ble_eq_true rfl, Nat.le_of_ble_eq_true rfl⟩ (List.mem_of_getElem? (i := 9) rfl) dX3_lodesThrough_1 rfl (Nat.le_of_ble_eq_true rfl) ?_
  rw [lth_x ht]
  refine r_istore_1 (pc := 4) dX3_lodesThrough_4 rfl (by decide) ?_
  refine r_iload_0 (pc := 5) dX3_lodesThrough_5 ?_
  refine r_cSN1_1 (pc := 6) (ct_X6_rowOf) cs_X6_rowOf ⟨Nat.le_of_ble_eq_true rfl, Nat.le_of_ble_eq_true rfl⟩ (List.mem_of_getElem? (i := 10) rfl) dX3_lodesThrough_6 rfl (Nat.le_of_ble_eq_true rfl) ?_
  rw [lth_y ht]
  refine r_istore_2 (pc := 9) dX3_lodesThrough_9 rfl (by decide) ?_
  refine r_lconst (pc := 10) 1 dX3_lodesThrough_10 (by decide) ?_
  refine r_iload_2 (pc := 11) dX3_lodesThrough_11 ?_
  refine r_lshl (pc := 12) dX3_lodesThrough_12 ?_
  refine r_lconst (pc := 13) 1 dX3_lodesThrough_13 (by decide) ?_
  refine r_bipush (pc := 14) 8 dX3_lodesThrough_14 (by decide) ?_
  refine r_iload_1 (pc := 16) dX3_lodesThrough_16 ?_
  refine r_iadd (pc := 17) dX3_lodesThrough_17 ?_
  rw [e1]
  refine r_lshl (pc := 18) dX3_lodesThrough_18 ?_
  refine r_lor (pc := 19) dX3_lodesThrough_19 ?_
  refine r_lconst (pc := 20) 1 dX3_lodesThrough_20 (by decide) ?_
  refine r_bipush (pc := 21) 23 dX3_lodesThrough_21 (by decide) ?_
  refine r_iload_1 (pc := 23) dX3_lodesThrough_23 ?_
  refine r_iadd (pc := 24) dX3_lodesThrough_24 ?_
  refine r_iload_2 (pc := 25) dX3_lodesThrough_25 ?_
  refine r_isub (pc := 26) dX3_lodesThrough_26 ?_
  rw [e2]
  refine r_lshl (pc := 27) dX3_lodesThrough_27 ?_
  refine r_lor (pc := 28) dX3_lodesThrough_28 ?_
  refine r_lconst (pc := 29) 1 dX3_lodesThrough_29 (by decide) ?_
  refine r_bipush (pc := 30) 31 dX3_lodesThrough_30 (by decide) ?_
  refine r_iload_1 (pc := 32) dX3_lodesThrough_32 ?_
  refine r_iadd (pc := 33) dX3_lodesThrough_33 ?_
  refine r_iload_2 (pc := 34) dX3_lodesThrough_34 ?_
  refine r_iadd (pc := 35) dX3_lodesThrough_35 ?_
  rw [e3]
  refine r_lshl (pc := 36) dX3_lodesThrough_36 ?_
  refine r_lor (pc := 37) dX3_lodesThrough_37 ?_
  refine r_lret (pc := 38) dX3_lodesThrough_38 rfl (by first | rfl | simp_all [bI]) rfl
theorem ct_X3_countFitting {h : Wd} {k : Nat} {c : Sights} (hk : k + 0 < 76) : Ct mX3_countFitting [.ref k] (wg h k c) (some (.int (nI (cnt (kb (wg_fitting c)) 64)))) (wg h k c) := by
  refine Ct.of (Z := List.replicate 0 .null) (by decide) (Nat.le_of_ble_eq_true rfl) (fun z hz => List.eq_of_mem_replicate hz) ?_
  show WW mX3_countFitting 0 [.ref k] [] _ _ _
  refine r_aload_0 (pc := 0) dX3_countFitting_0 ?_
  refine r_wg_get_fitting (pc := 1) hk fl_X3_13 dX3_countFitting_1 ?_
  refine r_cS1_1 (pc := 4) (ct_J13_bitCount_95d88) cs_J13_bitCount_95d88 ⟨Nat.le_of_ble_eq_true rfl, Nat.le_of_ble_eq_true rfl⟩ ml_X3_27 dX3_countFitting_4 rfl (Nat.le_of_ble_eq_true rfl) ?_
  refine r_iret (pc := 7) dX3_countFitting_7 rfl (by first | rfl | simp_all [bI]) rfl
theorem ct_X3_countThrough {h : Wd} {k t : Nat} {c : Sights} (hk : k + 0 < 76) (ht : t < 64) : Ct mX3_countThrough [.ref k, .int (nI t)] (wg h k c) (some (.int (nI (cnt (kb (wg_fitting c &&& lthN t)) 64)))) (wg h k c) := by
  refine Ct.of (Z := List.replicate 0 .null) (by decide) (Nat.le_of_ble_eq_true rfl) (fun z hz => List.eq_of_mem_replicate hz) ?_
  show WW mX3_countThrough 0 [.ref k, .int (nI t)] [] _ _ _
  refine r_aload_0 (pc := 0) dX3_countThrough_0 ?_
  refine r_wg_get_fitting (pc := 1) hk fl_X3_13 dX3_countThrough_1 ?_
  refine r_iload_1 (pc := 4) dX3_countThrough_4 ?_
  refine r_cS1_1 (pc := 5) (ct_X3_lodesThrough ht) cs_X3_lodesThrough ⟨Nat.le_of_ble_eq_true rfl, Nat.le_of_ble_eq_true rfl⟩ ml_X3_21 dX3_countThrough_5 rfl (Nat.le_of_ble_eq_true rfl) ?_
  refine r_land (pc := 8) dX3_countThrough_8 ?_
  refine r_cS1_1 (pc := 9) (ct_J13_bitCount_95d88) cs_J13_bitCount_95d88 ⟨Nat.le_of_ble_eq_true rfl, Nat.le_of_ble_eq_true rfl⟩ ml_X3_27 dX3_countThrough_9 rfl (Nat.le_of_ble_eq_true rfl) ?_
  refine r_iret (pc := 12) dX3_countThrough_12 rfl (by first | rfl | simp_all [bI]) rfl
def sgt (c : Sights) (t : Nat) (b : Bool) (n : Nat) : Sights := (if b then wg_fitting c &&& lthN t else wg_fitting c &&& (lthN t ^^^ (-1)), nI (n + 1))
theorem ct_X3_add {h : Wd} {k t n : Nat} {c : Sights} {b : Int32} (hk : k + 0 < 76) (ht : t < 64) (hc : wg_count c = nI n) (hn : n < 8) : Ct mX3_add [.ref k, .int (nI t), .int b] (wg h k c) (some (.int 1)) (wg h k (sgt c t (!decide (b = 0)) n)) := by
  refine Ct.of (Z := List.replicate 0 .null) (by decide) (Nat.le_of_ble_eq_true rfl) (fun z hz => List.eq_of_mem_replicate hz) ?_
  show WW mX3_add 0 [.ref k, .int (nI t), .int b] [] _ _ _
  refine r_aload_0 (pc := 0) dX3_add_0 ?_
  refine r_wg_get_count (pc := 1) hk fl_X3_17 dX3_add_1 ?_
  rw [hc]
  refine r_bipush (pc := 4) 8 dX3_add_4 (by decide) ?_
  refine r_icmp_lt (pc := 6) 11 dX3_add_6 (by decide) (fun _ => ?_) (fun c6 => absurd (nI_lt (b := 8) (by omega) (by decide)) (c6))
  refine r_aload_0 (pc := 11) dX3_add_11 ?_
  refine r_dup (pc := 12) dX3_add_12 rfl ?_
  refine r_wg_get_fitting (pc := 13) hk fl_X3_13 dX3_add_13 ?_
  refine r_iload_2 (pc := 16) dX3_add_16 ?_
  refine r_if_eq (pc := 17) 27 dX3_add_17 (by decide) (fun c17 => ?_) (fun c17 => ?_)
  · refine r_iload_1 (pc := 27) dX3_add_27 ?_
    refine r_cS1_1 (pc := 28) (ct_X3_lodesThrough ht) cs_X3_lodesThrough ⟨Nat.le_of_ble_eq_true rfl, Nat.le_of_ble_eq_true rfl⟩ ml_X3_21 dX3_add_28 rfl (Nat.le_of_ble_eq_true rfl) ?_
    refine r_ldc2 (pc := 31) dX3_add_31 kl_X3_25 ?_
    refine r_lxor (pc := 34) dX3_add_34 ?_
    refine r_land (pc := 35) dX3_add_35 ?_
    refine r_wg_put_fitting (pc := 36) hk fl_X3_13 dX3_add_36 ?_
    refine r_aload_0 (pc := 39) dX3_add_39 ?_
    refine r_dup (pc := 40) dX3_add_40 rfl ?_
    refine r_wg_get_count (pc := 41) hk fl_X3_17 dX3_add_41 ?_
    refine r_iconst (pc := 44) 1 dX3_add_44 (by decide) ?_
    refine r_iadd (pc := 45) dX3_add_45 ?_
    rw [show ∀ v, wg_count (wg_s_fitting c v) = nI n from fun _ => hc, ← nI_succ]
    refine r_wg_put_count (pc := 46) hk fl_X3_17 dX3_add_46 ?_
    refine r_iconst (pc := 49) 1 dX3_add_49 (by decide) ?_
    refine r_zret (pc := 50) dX3_add_50 rfl (by first | rfl | exact bI_nar _) (by first | rfl | simp_all [bI]) (by simp only [sgt, c17]; rfl)
  · refine r_iload_1 (pc := 20) dX3_add_20 ?_
    refine r_cS1_1 (pc := 21) (ct_X3_lodesThrough ht) cs_X3_lodesThrough ⟨Nat.le_of_ble_eq_true rfl, Nat.le_of_ble_eq_true rfl⟩ ml_X3_21 dX3_add_21 rfl (Nat.le_of_ble_eq_true rfl) ?_
    refine r_goto (pc := 24) 35 dX3_add_24 (by decide) ?_
    refine r_land (pc := 35) dX3_add_35 ?_
    refine r_wg_put_fitting (pc := 36) hk fl_X3_13 dX3_add_36 ?_
    refine r_aload_0 (pc := 39) dX3_add_39 ?_
    refine r_dup (pc := 40) dX3_add_40 rfl ?_
    refine r_wg_get_count (pc := 41) hk fl_X3_17 dX3_add_41 ?_
    refine r_iconst (pc := 44) 1 dX3_add_44 (by decide) ?_
    refine r_iadd (pc := 45) dX3_add_45 ?_
    rw [show ∀ v, wg_count (wg_s_fitting c v) = nI n from fun _ => hc, ← nI_succ]
    refine r_wg_put_count (pc := 46) hk fl_X3_17 dX3_add_46 ?_
    refine r_iconst (pc := 49) 1 dX3_add_49 (by decide) ?_
    refine r_zret (pc := 50) dX3_add_50 rfl (by first | rfl | exact bI_nar _) (by first | rfl | simp_all [bI]) (by simp only [sgt, c17]; rfl)
theorem ct_X3_addF {h : Wd} {k : Nat} {x b : Int32} {c : Sights} (hk : k + 0 < 76) (hc : wg_count c = 8) : Ct mX3_add [.ref k, .int x, .int b] (wg h k c) (some (.int 0)) (wg h k c) := by
  refine Ct.of (Z := List.replicate 0 .null) (by decide) (Nat.le_of_ble_eq_true rfl) (fun z hz => List.eq_of_mem_replicate hz) ?_
  show WW mX3_add 0 [.ref k, .int x, .int b] [] _ _ _
  refine r_aload_0 (pc := 0) dX3_add_0 ?_
  refine r_wg_get_count (pc := 1) hk fl_X3_17 dX3_add_1 ?_
  rw [hc]
  refine r_bipush (pc := 4) 8 dX3_add_4 (by decide) ?_
  refine r_icmp_lt (pc := 6) 11 dX3_add_6 (by decide) (fun c6 => absurd c6 (by decide)) (fun _ => ?_)
  refine r_iconst (pc := 9) 0 dX3_add_9 (by decide) ?_
  refine r_zret (pc := 10) dX3_add_10 rfl (by first | rfl | exact bI_nar _) (by first | rfl | simp_all [bI]) rfl
/-- the i-th bit that is set, from the place 46 - r on, c being set before it -/
def kth (f : Int64) (i : Int32) : Nat → Nat → Int32
  | _, 0 => -6
  | c, r + 1 => if kb f (46 - (r + 1)) then (if nI c = i then nI (46 - (r + 1)) else kth f i (c + 1) r) else kth f i c r
theorem lp_X3_fittingAt {h : Wd} {k : Nat} {c : Sights} {i : Int32} (hk : k + 0 < 76) : ∀ r b j, j + r = 46 → WW mX3_fittingAt 4 [.ref k, .int i, .int (nI b), .int (nI j)] [] (wg h k c) (some (.int (kth (wg_fitting c) i b r))) (wg h k c) := by
  intro r
  induction r with
  | zero =>
    intro b j hj
    obtain rfl : j = 46 := by omega
    refine r_iload_3 (pc := 4) dX3_fittingAt_4 ?_
    refine r_bipush (pc := 5) 46 dX3_fittingAt_5 (by decide) ?_
    refine r_icmp_ge (pc := 7) 39 dX3_fittingAt_7 (by decide) (fun _ => ?_) (fun c7 => absurd (nI_le (a := 46) (b := 46) (by omega) (by omega)) (c7))
    refine r_bipush (pc := 39) (-6) dX3_fittingAt_39 (by decide) ?_
    refine r_iret (pc := 41) dX3_fittingAt_41 rfl (by first | rfl | simp_all [bI]) rfl
  | succ r ih =>
    intro b j hj
    have ej : 46 - (r + 1) = j := by omega
    refine r_iload_3 (pc := 4) dX3_fittingAt_4 ?_
    refine r_bipush (pc := 5) 46 dX3_fittingAt_5 (by decide) ?_
    refine r_icmp_ge (pc := 7) 39 dX3_fittingAt_7 (by decide) (fun c7 => absurd c7 (nI_ge (a := j) (b := 46) (by omega) (by decide))) (fun _ => ?_)
    refine r_aload_0 (pc := 10) dX3_fittingAt_10 ?_
    refine r_wg_get_fitting (pc := 11) hk fl_X3_13 dX3_fittingAt_11 ?_
    refine r_iload_3 (pc := 14) dX3_fittingAt_14 ?_
    refine r_lushr (pc := 15) dX3_fittingAt_15 ?_
    refine r_lconst (pc := 16) 1 dX3_fittingAt_16 (by decide) ?_
    refine r_land (pc := 17) dX3_fittingAt_17 ?_
    refine r_lconst (pc := 18) 1 dX3_fittingAt_18 (by decide) ?_
    refine r_lcmp_ne (pc := 19) 33 dX3_fittingAt_19 dX3_fittingAt_20 (by decide) (fun c19 => ?_) (fun c19 => ?_)
    · refine r_inc_3 (pc := 33) dX3_fittingAt_33 rfl (by decide) ?_
      refine r_goto (pc := 36) 4 dX3_fittingAt_36 (by decide) ?_
      exact (ih b (j + 1) (by omega)).r (by rw [kth, ej, if_neg (fun z => c19 ((kb_u _ (by omega)).mpr z))])
    · refine r_iload_2 (pc := 23) dX3_fittingAt_23 ?_
      refine r_iload_1 (pc := 24) dX3_fittingAt_24 ?_
      refine r_icmp_ne (pc := 25) 30 dX3_fittingAt_25 (by decide) (fun c25 => ?_) (fun c25 => ?_)
      · refine r_inc_2 (pc := 30) dX3_fittingAt_30 rfl (by decide) ?_
        refine r_inc_3 (pc := 33) dX3_fittingAt_33 rfl (by decide) ?_
        refine r_goto (pc := 36) 4 dX3_fittingAt_36 (by decide) ?_
        exact (ih (b + 1) (j + 1) (by omega)).r (by rw [kth, ej, if_pos ((kb_u _ (by omega)).mp c19), if_neg c25])
      · refine r_iload_3 (pc := 28) dX3_fittingAt_28 ?_
        refine r_iret (pc := 29) dX3_fittingAt_29 rfl (by rw [kth, ej, if_pos ((kb_u _ (by omega)).mp c19), if_pos c25]) rfl
theorem ct_X3_fittingAt {h : Wd} {k : Nat} {c : Sights} {i : Int32} (hk : k + 0 < 76) : Ct mX3_fittingAt [.ref k, .int i] (wg h k c) (some (.int (kth (wg_fitting c) i 0 46))) (wg h k c) := by
  refine Ct.of (Z := List.replicate 2 .null) (by decide) (Nat.le_of_ble_eq_true rfl) (fun z hz => List.eq_of_mem_replicate hz) ?_
  show WW mX3_fittingAt 0 [.ref k, .int i, .null, .null] [] _ _ _
  refine r_iconst (pc := 0) 0 dX3_fittingAt_0 (by decide) ?_
  refine r_istore_2 (pc := 1) dX3_fittingAt_1 rfl (by decide) ?_
  refine r_iconst (pc := 2) 0 dX3_fittingAt_2 (by decide) ?_
  refine r_istore_3 (pc := 3) dX3_fittingAt_3 rfl (by decide) ?_
  exact lp_X3_fittingAt hk 46 0 0 rfl
theorem wg_out {h : Wd} {k j : Nat} {c : Sights} (hj : ¬ j = k) : wg h k c j = h j := by
  simp only [wg]
  rw [if_neg hj]
theorem ct_X3_copyFrom {h : Wd} {k k2 : Nat} {c c2 : Sights} (hk : k + 0 < 76) (hk2 : k2 + 0 < 76) (ha : ¬ k2 = k) : Ct mX3_copyFrom [.ref k, .ref k2] (wg (wg h k2 c2) k c) none (wg (wg h k2 c2) k c2) := by
  have oo : ∀ d : Sights, wg (wg h k2 c2) k d k2 = .inr (3, wg_obj k2 c2) := fun d => (wg_out ha).trans (wg_o h k2 c2)
  refine Ct.of (Z := List.replicate 0 .null) (by decide) (Nat.le_of_ble_eq_true rfl) (fun z hz => List.eq_of_mem_replicate hz) ?_
  show WW mX3_copyFrom 0 [.ref k, .ref k2] [] _ _ _
  refine r_aload_0 (pc := 0) dX3_copyFrom_0 ?_
  refine r_aload_1 (pc := 1) dX3_copyFrom_1 ?_
  refine r_get (pc := 2) (k := 0) dX3_copyFrom_2 (ci := 3) rfl la_X3 fl_X3_13 (by decide) (by omega) (oo _) rfl ?_
  refine r_wg_put_fitting (pc := 5) hk fl_X3_13 dX3_copyFrom_5 ?_
  refine r_aload_0 (pc := 8) dX3_copyFrom_8 ?_
  refine r_aload_1 (pc := 9) dX3_copyFrom_9 ?_
  refine r_get (pc := 10) (k := 1) dX3_copyFrom_10 (ci := 3) rfl la_X3 fl_X3_17 (by decide) (by omega) (oo _) rfl ?_
  refine r_wg_put_count (pc := 13) hk fl_X3_17 dX3_copyFrom_13 ?_
  refine r_vret (pc := 16) dX3_copyFrom_16 rfl rfl rfl
theorem ct_X4_size {h : Wd} {k : Nat} {c : Tales} (hk : k + 2 < 76) : Ct mX4_size [.ref k] (wt h k c) (some (.int (wt_count c))) (wt h k c) := by
  refine Ct.of (Z := List.replicate 0 .null) (by decide) (Nat.le_of_ble_eq_true rfl) (fun z hz => List.eq_of_mem_replicate hz) ?_
  show WW mX4_size 0 [.ref k] [] _ _ _
  refine r_aload_0 (pc := 0) dX4_size_0 ?_
  refine r_wt_get_count (pc := 1) hk fl_X4_28 dX4_size_1 ?_
  refine r_iret (pc := 4) dX4_size_4 rfl (by first | rfl | simp_all [bI]) rfl
theorem ct_X4_clear {h : Wd} {k : Nat} {c : Tales} (hk : k + 2 < 76) : Ct mX4_clear [.ref k] (wt h k c) none (wt h k (wt_s_toldGolden (wt_s_count c 0) 0)) := by
  refine Ct.of (Z := List.replicate 0 .null) (by decide) (Nat.le_of_ble_eq_true rfl) (fun z hz => List.eq_of_mem_replicate hz) ?_
  show WW mX4_clear 0 [.ref k] [] _ _ _
  refine r_aload_0 (pc := 0) dX4_clear_0 ?_
  refine r_iconst (pc := 1) 0 dX4_clear_1 (by decide) ?_
  refine r_wt_put_count (pc := 2) hk fl_X4_28 dX4_clear_2 ?_
  refine r_aload_0 (pc := 5) dX4_clear_5 ?_
  refine r_iconst (pc := 6) 0 dX4_clear_6 (by decide) ?_
  refine r_wt_put_toldGolden (pc := 7) hk fl_X4_24 dX4_clear_7 ?_
  refine r_vret (pc := 10) dX4_clear_10 rfl rfl rfl
def tlA (c : Tales) (n : Nat) (m x : Int32) (b : Bool) : Tales := (upd (wt_tellers c) n m, upd (wt_cells c) n x, if b then wt_toldGolden c ||| bW n else wt_toldGolden c, nI (n + 1))
theorem ct_X4_add {h : Wd} {k n : Nat} {c : Tales} {m x b : Int32} (hk : k + 2 < 76) (hc : wt_count c = nI n) (hn : n < 8) : Ct mX4_add [.ref k, .int m, .int x, .int b] (wt h k c) (some (.int 1)) (wt h k (tlA c n m x (!decide (b = 0)))) := by
  refine Ct.of (Z := List.replicate 0 .null) (by decide) (Nat.le_of_ble_eq_true rfl) (fun z hz => List.eq_of_mem_replicate hz) ?_
  show WW mX4_add 0 [.ref k, .int m, .int x, .int b] [] _ _ _
  refine r_aload_0 (pc := 0) dX4_add_0 ?_
  refine r_wt_get_count (pc := 1) hk fl_X4_28 dX4_add_1 ?_
  rw [hc]
  refine r_if_lt (pc := 4) 16 dX4_add_4 (by decide) (fun c4 => absurd c4 (nI_pos (by omega))) (fun _ => ?_)
  refine r_aload_0 (pc := 7) dX4_add_7 ?_
  refine r_wt_get_count (pc := 8) hk fl_X4_28 dX4_add_8 ?_
  rw [hc]
  refine r_bipush (pc := 11) 8 dX4_add_11 (by decide) ?_
  refine r_icmp_lt (pc := 13) 18 dX4_add_13 (by decide) (fun _ => ?_) (fun c13 => absurd (nI_lt (b := 8) (by omega) (by decide)) (c13))
  refine r_aload_0 (pc := 18) dX4_add_18 ?_
  refine r_wt_get_tellers (pc := 19) hk fl_X4_9 dX4_add_19 ?_
  refine r_aload_0 (pc := 22) dX4_add_22 ?_
  refine r_wt_get_count (pc := 23) hk fl_X4_28 dX4_add_23 ?_
  rw [hc]
  refine r_iload_1 (pc := 26) dX4_add_26 ?_
  refine r_wt_st_tellers (pc := 27) hk (by omega) dX4_add_27 ?_
  refine r_aload_0 (pc := 28) dX4_add_28 ?_
  refine r_wt_get_cells (pc := 29) hk fl_X4_15 dX4_add_29 ?_
  refine r_aload_0 (pc := 32) dX4_add_32 ?_
  refine r_wt_get_count (pc := 33) hk fl_X4_28 dX4_add_33 ?_
  rw [show ∀ v, wt_count (wt_s_tellers c v) = nI n from fun _ => hc]
  refine r_iload_2 (pc := 36) dX4_add_36 ?_
  refine r_wt_st_cells (pc := 37) hk (by omega) dX4_add_37 ?_
  refine r_iload_3 (pc := 38) dX4_add_38 ?_
  refine r_if_eq (pc := 39) 57 dX4_add_39 (by decide) (fun c39 => ?_) (fun c39 => ?_)
  · refine r_aload_0 (pc := 57) dX4_add_57 ?_
    refine r_dup (pc := 58) dX4_add_58 rfl ?_
    refine r_wt_get_count (pc := 59) hk fl_X4_28 dX4_add_59 ?_
    rw [show ∀ v w, wt_count (wt_s_cells (wt_s_tellers c v) w) = nI n from fun _ _ => hc]
    refine r_iconst (pc := 62) 1 dX4_add_62 (by decide) ?_
    refine r_iadd (pc := 63) dX4_add_63 ?_
    rw [← nI_succ]
    refine r_wt_put_count (pc := 64) hk fl_X4_28 dX4_add_64 ?_
    refine r_iconst (pc := 67) 1 dX4_add_67 (by decide) ?_
    refine r_zret (pc := 68) dX4_add_68 rfl (by first | rfl | exact bI_nar _) (by first | rfl | simp_all [bI]) (by simp only [tlA, c39]; rfl)
  · refine r_aload_0 (pc := 42) dX4_add_42 ?_
    refine r_dup (pc := 43) dX4_add_43 rfl ?_
    refine r_wt_get_toldGolden (pc := 44) hk fl_X4_24 dX4_add_44 ?_
    refine r_iconst (pc := 47) 1 dX4_add_47 (by decide) ?_
    refine r_aload_0 (pc := 48) dX4_add_48 ?_
    refine r_wt_get_count (pc := 49) hk fl_X4_28 dX4_add_49 ?_
    rw [show ∀ v w, wt_count (wt_s_cells (wt_s_tellers c v) w) = nI n from fun _ _ => hc]
    refine r_ishl (pc := 52) dX4_add_52 ?_
    refine r_ior (pc := 53) dX4_add_53 ?_
    refine r_wt_put_toldGolden (pc := 54) hk fl_X4_24 dX4_add_54 ?_
    refine r_aload_0 (pc := 57) dX4_add_57 ?_
    refine r_dup (pc := 58) dX4_add_58 rfl ?_
    refine r_wt_get_count (pc := 59) hk fl_X4_28 dX4_add_59 ?_
    rw [show ∀ v w z, wt_count (wt_s_toldGolden (wt_s_cells (wt_s_tellers c v) w) z) = nI n from fun _ _ _ => hc]
    refine r_iconst (pc := 62) 1 dX4_add_62 (by decide) ?_
    refine r_iadd (pc := 63) dX4_add_63 ?_
    rw [← nI_succ]
    refine r_wt_put_count (pc := 64) hk fl_X4_28 dX4_add_64 ?_
    refine r_iconst (pc := 67) 1 dX4_add_67 (by decide) ?_
    refine r_zret (pc := 68) dX4_add_68 rfl (by first | rfl | exact bI_nar _) (by first | rfl | simp_all [bI]) (by simp only [tlA, c39]; rfl)
theorem ct_X4_addF {h : Wd} {k : Nat} {c : Tales} {m x b : Int32} (hk : k + 2 < 76) (hc : wt_count c = 8) : Ct mX4_add [.ref k, .int m, .int x, .int b] (wt h k c) (some (.int 0)) (wt h k c) := by
  refine Ct.of (Z := List.replicate 0 .null) (by decide) (Nat.le_of_ble_eq_true rfl) (fun z hz => List.eq_of_mem_replicate hz) ?_
  show WW mX4_add 0 [.ref k, .int m, .int x, .int b] [] _ _ _
  refine r_aload_0 (pc := 0) dX4_add_0 ?_
  refine r_wt_get_count (pc := 1) hk fl_X4_28 dX4_add_1 ?_
  rw [hc]
  refine r_if_lt (pc := 4) 16 dX4_add_4 (by decide) (fun c4 => absurd c4 (by decide)) (fun _ => ?_)
  refine r_aload_0 (pc := 7) dX4_add_7 ?_
  refine r_wt_get_count (pc := 8) hk fl_X4_28 dX4_add_8 ?_
  rw [hc]
  refine r_bipush (pc := 11) 8 dX4_add_11 (by decide) ?_
  refine r_icmp_lt (pc := 13) 18 dX4_add_13 (by decide) (fun c13 => absurd c13 (by decide)) (fun _ => ?_)
  refine r_iconst (pc := 16) 0 dX4_add_16 (by decide) ?_
  refine r_zret (pc := 17) dX4_add_17 rfl (by first | rfl | exact bI_nar _) (by first | rfl | simp_all [bI]) rfl
/-- what tale i says, its teller lying or not -/
theorem bI_inj {a b : Bool} (h : bI a = bI b) : a = b := by
  cases a <;> cases b <;> first | rfl | (exfalso; revert h; decide)
theorem bI_ninj {a b : Bool} (h : ¬ bI a = bI b) : ¬ a = b := fun z => h (by rw [z])
def gby (c : Tales) (i : Nat) (liars : Int32) : Bool := bt (wt_toldGolden c) i ^^ hasB liars (wt_tellers c i)
theorem ct_X4_isGoldBy {h : Wd} {k i : Nat} {c : Tales} {liars : Int32} (hk : k + 2 < 76) (hi : i < 8) : Ct mX4_isGoldBy [.ref k, .int (nI i), .int liars] (wt h k c) (some (.int (bI (gby c i liars)))) (wt h k c) := by
  refine Ct.of (Z := List.replicate 2 .null) (by decide) (Nat.le_of_ble_eq_true rfl) (fun z hz => List.eq_of_mem_replicate hz) ?_
  show WW mX4_isGoldBy 0 [.ref k, .int (nI i), .int liars, .null, .null] [] _ _ _
  refine r_aload_0 (pc := 0) dX4_isGoldBy_0 ?_
  refine r_wt_get_toldGolden (pc := 1) hk fl_X4_24 dX4_isGoldBy_1 ?_
  refine r_iload_1 (pc := 4) dX4_isGoldBy_4 ?_
  refine r_ishr (pc := 5) dX4_isGoldBy_5 ?_
  refine r_iconst (pc := 6) 1 dX4_isGoldBy_6 (by decide) ?_
  refine r_iand (pc := 7) dX4_isGoldBy_7 ?_
  refine r_iconst (pc := 8) 1 dX4_isGoldBy_8 (by decide) ?_
  refine r_icmp_ne (pc := 9) 16 dX4_isGoldBy_9 (by decide) (fun c9 => ?_) (fun c9 => ?_)
  · rw [ib_s _ (by omega), Bool.not_eq_true] at c9
    refine r_iconst (pc := 16) 0 dX4_isGoldBy_16 (by decide) ?_
    refine r_istore_3 (pc := 17) dX4_isGoldBy_17 rfl (by decide) ?_
    refine r_iload_1 (pc := 18) dX4_isGoldBy_18 ?_
    refine r_if_lt (pc := 19) 45 dX4_isGoldBy_19 (by decide) (fun c19 => absurd c19 (nI_pos (by omega))) (fun _ => ?_)
    refine r_iload_1 (pc := 22) dX4_isGoldBy_22 ?_
    refine r_bipush (pc := 23) 8 dX4_isGoldBy_23 (by decide) ?_
    refine r_icmp_ge (pc := 25) 45 dX4_isGoldBy_25 (by decide) (fun c25 => absurd c25 (nI_ge (a := i) (b := 8) (by omega) (by decide))) (fun _ => ?_)
    refine r_iload_2 (pc := 28) dX4_isGoldBy_28 ?_
    refine r_aload_0 (pc := 29) dX4_isGoldBy_29 ?_
    refine r_wt_get_tellers (pc := 30) hk fl_X4_9 dX4_isGoldBy_30 ?_
    refine r_iload_1 (pc := 33) dX4_isGoldBy_33 ?_
    refine r_wt_ld_tellers (pc := 34) hk (by omega) dX4_isGoldBy_34 ?_
    refine r_cSN1_2 (pc := 35) (ct_X6_hasBit) cs_X6_hasBit ⟨Nat.le_of_ble_eq_true rfl, Nat.le_of_ble_eq_true rfl⟩ (List.mem_of_getElem? (i := 8) rfl) dX4_isGoldBy_35 rfl (Nat.le_of_ble_eq_true rfl) ?_
    refine r_if_eq (pc := 38) 45 dX4_isGoldBy_38 (by decide) (fun c38 => ?_) (fun c38 => ?_)
    · rw [bI_0] at c38
      refine r_iconst (pc := 45) 0 dX4_isGoldBy_45 (by decide) ?_
      refine r_istore_4 (pc := 46) dX4_isGoldBy_46 rfl (by decide) ?_
      refine r_iload_3 (pc := 48) dX4_isGoldBy_48 ?_
      refine r_iload_4 (pc := 49) dX4_isGoldBy_49 ?_
      refine r_icmp_eq (pc := 51) 58 dX4_isGoldBy_51 (by decide) (fun c51 => ?_) (fun c51 => ?_)
      · refine r_iconst (pc := 58) 0 dX4_isGoldBy_58 (by decide) ?_
        refine r_zret (pc := 59) dX4_isGoldBy_59 rfl (by first | rfl | exact bI_nar _) (by first | (simp only [gby, c9, c38]; rfl) | exact absurd rfl (by assumption) | (exfalso; revert c51; decide)) rfl
      · refine r_iconst (pc := 54) 1 dX4_isGoldBy_54 (by decide) ?_
        refine r_goto (pc := 55) 59 dX4_isGoldBy_55 (by decide) ?_
        refine r_zret (pc := 59) dX4_isGoldBy_59 rfl (by first | rfl | exact bI_nar _) (by first | (simp only [gby, c9, c38]; rfl) | exact absurd rfl (by assumption) | (exfalso; revert c51; decide)) rfl
    · rw [bI_n0] at c38
      refine r_iconst (pc := 41) 1 dX4_isGoldBy_41 (by decide) ?_
      refine r_goto (pc := 42) 46 dX4_isGoldBy_42 (by decide) ?_
      refine r_istore_4 (pc := 46) dX4_isGoldBy_46 rfl (by decide) ?_
      refine r_iload_3 (pc := 48) dX4_isGoldBy_48 ?_
      refine r_iload_4 (pc := 49) dX4_isGoldBy_49 ?_
      refine r_icmp_eq (pc := 51) 58 dX4_isGoldBy_51 (by decide) (fun c51 => ?_) (fun c51 => ?_)
      · refine r_iconst (pc := 58) 0 dX4_isGoldBy_58 (by decide) ?_
        refine r_zret (pc := 59) dX4_isGoldBy_59 rfl (by first | rfl | exact bI_nar _) (by first | (simp only [gby, c9, c38]; rfl) | exact absurd rfl (by assumption) | (exfalso; revert c51; decide)) rfl
      · refine r_iconst (pc := 54) 1 dX4_isGoldBy_54 (by decide) ?_
        refine r_goto (pc := 55) 59 dX4_isGoldBy_55 (by decide) ?_
        refine r_zret (pc := 59) dX4_isGoldBy_59 rfl (by first | rfl | exact bI_nar _) (by first | (simp only [gby, c9, c38]; rfl) | exact absurd rfl (by assumption) | (exfalso; revert c51; decide)) rfl
  · rw [ib_s _ (by omega)] at c9
    refine r_iconst (pc := 12) 1 dX4_isGoldBy_12 (by decide) ?_
    refine r_goto (pc := 13) 17 dX4_isGoldBy_13 (by decide) ?_
    refine r_istore_3 (pc := 17) dX4_isGoldBy_17 rfl (by decide) ?_
    refine r_iload_1 (pc := 18) dX4_isGoldBy_18 ?_
    refine r_if_lt (pc := 19) 45 dX4_isGoldBy_19 (by decide) (fun c19 => absurd c19 (nI_pos (by omega))) (fun _ => ?_)
    refine r_iload_1 (pc := 22) dX4_isGoldBy_22 ?_
    refine r_bipush (pc := 23) 8 dX4_isGoldBy_23 (by decide) ?_
    refine r_icmp_ge (pc := 25) 45 dX4_isGoldBy_25 (by decide) (fun c25 => absurd c25 (nI_ge (a := i) (b := 8) (by omega) (by decide))) (fun _ => ?_)
    refine r_iload_2 (pc := 28) dX4_isGoldBy_28 ?_
    refine r_aload_0 (pc := 29) dX4_isGoldBy_29 ?_
    refine r_wt_get_tellers (pc := 30) hk fl_X4_9 dX4_isGoldBy_30 ?_
    refine r_iload_1 (pc := 33) dX4_isGoldBy_33 ?_
    refine r_wt_ld_tellers (pc := 34) hk (by omega) dX4_isGoldBy_34 ?_
    refine r_cSN1_2 (pc := 35) (ct_X6_hasBit) cs_X6_hasBit ⟨Nat.le_of_ble_eq_true rfl, Nat.le_of_ble_eq_true rfl⟩ (List.mem_of_getElem? (i := 8) rfl) dX4_isGoldBy_35 rfl (Nat.le_of_ble_eq_true rfl) ?_
    refine r_if_eq (pc := 38) 45 dX4_isGoldBy_38 (by decide) (fun c38 => ?_) (fun c38 => ?_)
    · rw [bI_0] at c38
      refine r_iconst (pc := 45) 0 dX4_isGoldBy_45 (by decide) ?_
      refine r_istore_4 (pc := 46) dX4_isGoldBy_46 rfl (by decide) ?_
      refine r_iload_3 (pc := 48) dX4_isGoldBy_48 ?_
      refine r_iload_4 (pc := 49) dX4_isGoldBy_49 ?_
      refine r_icmp_eq (pc := 51) 58 dX4_isGoldBy_51 (by decide) (fun c51 => ?_) (fun c51 => ?_)
      · refine r_iconst (pc := 58) 0 dX4_isGoldBy_58 (by decide) ?_
        refine r_zret (pc := 59) dX4_isGoldBy_59 rfl (by first | rfl | exact bI_nar _) (by first | (simp only [gby, c9, c38]; rfl) | exact absurd rfl (by assumption) | (exfalso; revert c51; decide)) rfl
      · refine r_iconst (pc := 54) 1 dX4_isGoldBy_54 (by decide) ?_
        refine r_goto (pc := 55) 59 dX4_isGoldBy_55 (by decide) ?_
        refine r_zret (pc := 59) dX4_isGoldBy_59 rfl (by first | rfl | exact bI_nar _) (by first | (simp only [gby, c9, c38]; rfl) | exact absurd rfl (by assumption) | (exfalso; revert c51; decide)) rfl
    · rw [bI_n0] at c38
      refine r_iconst (pc := 41) 1 dX4_isGoldBy_41 (by decide) ?_
      refine r_goto (pc := 42) 46 dX4_isGoldBy_42 (by decide) ?_
      refine r_istore_4 (pc := 46) dX4_isGoldBy_46 rfl (by decide) ?_
      refine r_iload_3 (pc := 48) dX4_isGoldBy_48 ?_
      refine r_iload_4 (pc := 49) dX4_isGoldBy_49 ?_
      refine r_icmp_eq (pc := 51) 58 dX4_isGoldBy_51 (by decide) (fun c51 => ?_) (fun c51 => ?_)
      · refine r_iconst (pc := 58) 0 dX4_isGoldBy_58 (by decide) ?_
        refine r_zret (pc := 59) dX4_isGoldBy_59 rfl (by first | rfl | exact bI_nar _) (by first | (simp only [gby, c9, c38]; rfl) | exact absurd rfl (by assumption) | (exfalso; revert c51; decide)) rfl
      · refine r_iconst (pc := 54) 1 dX4_isGoldBy_54 (by decide) ?_
        refine r_goto (pc := 55) 59 dX4_isGoldBy_55 (by decide) ?_
        refine r_zret (pc := 59) dX4_isGoldBy_59 rfl (by first | rfl | exact bI_nar _) (by first | (simp only [gby, c9, c38]; rfl) | exact absurd rfl (by assumption) | (exfalso; revert c51; decide)) rfl
/-- whether the first i tales agree with the first j before tale i -/
def agr (c : Tales) (liars : Int32) (i j : Nat) : Bool := !(decide (wt_cells c i = wt_cells c j)) || (gby c i liars == gby c j liars)
def agJ (c : Tales) (liars : Int32) (i : Nat) : Nat → Bool
  | 0 => true
  | n + 1 => agr c liars i (i - (n + 1)) && agJ c liars i n
def agI (c : Tales) (liars : Int32) (m : Nat) : Nat → Bool
  | 0 => true
  | n + 1 => agJ c liars (m - (n + 1)) (m - (n + 1)) && agI c liars m n
theorem lp_X4_hold2 {h : Wd} {k i : Nat} {c : Tales} {liars : Int32} {b : Bool} (hk : k + 2 < 76) (hi : i < 8) : ∀ n j, j + n = i → (agJ c liars i n = true → WW mX4_holdTogether 61 [.ref k, .int liars, .int (nI i), .int (nI i)] [] (wt h k c) (some (.int (bI b))) (wt h k c)) → (agJ c liars i n = false → b = false) → WW mX4_holdTogether 18 [.ref k, .int liars, .int (nI i), .int (nI j)] [] (wt h k c) (some (.int (bI b))) (wt h k c) := by
  intro n
  induction n with
  | zero =>
    intro j hj k1 k2
    obtain rfl : j = i := by omega
    refine r_iload_3 (pc := 18) dX4_holdTogether_18 ?_
    refine r_iload_2 (pc := 19) dX4_holdTogether_19 ?_
    refine r_icmp_ge (pc := 20) 61 dX4_holdTogether_20 (by decide) (fun _ => ?_) (fun c20 => absurd (nI_le (by omega) (by omega)) (c20))
    exact k1 rfl
  | succ n ih =>
    intro j hj k1 k2
    have ej : i - (n + 1) = j := by omega
    have go : agr c liars i j = true → WW mX4_holdTogether 18 [.ref k, .int liars, .int (nI i), .int (nI (j + 1))] [] (wt h k c) (some (.int (bI b))) (wt h k c) := fun e => ih (j + 1) (by omega) (fun z => k1 (by rw [agJ, ej, e, z]; rfl)) (fun z => k2 (by rw [agJ, ej, e, z]; rfl))
    clear ih
    refine r_iload_3 (pc := 18) dX4_holdTogether_18 ?_
    refine r_iload_2 (pc := 19) dX4_holdTogether_19 ?_
    refine r_icmp_ge (pc := 20) 61 dX4_holdTogether_20 (by decide) (fun c20 => absurd c20 (nI_ge (by omega) (by omega))) (fun _ => ?_)
    refine r_aload_0 (pc := 23) dX4_holdTogether_23 ?_
    refine r_wt_get_cells (pc := 24) hk fl_X4_15 dX4_holdTogether_24 ?_
    refine r_iload_2 (pc := 27) dX4_holdTogether_27 ?_
    refine r_wt_ld_cells (pc := 28) hk (by omega) dX4_holdTogether_28 ?_
    refine r_aload_0 (pc := 29) dX4_holdTogether_29 ?_
    refine r_wt_get_cells (pc := 30) hk fl_X4_15 dX4_holdTogether_30 ?_
    refine r_iload_3 (pc := 33) dX4_holdTogether_33 ?_
    refine r_wt_ld_cells (pc := 34) hk (by omega) dX4_holdTogether_34 ?_
    refine r_icmp_ne (pc := 35) 55 dX4_holdTogether_35 (by decide) (fun c35 => ?_) (fun c35 => ?_)
    · refine r_inc_3 (pc := 55) dX4_holdTogether_55 rfl (by decide) ?_
      refine r_goto (pc := 58) 18 dX4_holdTogether_58 (by decide) ?_
      exact go (by simp [agr, c35])
    · refine r_aload_0 (pc := 38) dX4_holdTogether_38 ?_
      refine r_iload_2 (pc := 39) dX4_holdTogether_39 ?_
      refine r_iload_1 (pc := 40) dX4_holdTogether_40 ?_
      refine r_cV1_2 (pc := 41) (ct_X4_isGoldBy hk hi) cv_X4_isGoldBy ⟨Nat.le_of_ble_eq_true rfl, Nat.le_of_ble_eq_true rfl⟩ ml_X4_41 dX4_holdTogether_41 (by omega) (wt_o _ _ _) rfl rfl (Nat.le_of_ble_eq_true rfl) ?_
      refine r_aload_0 (pc := 44) dX4_holdTogether_44 ?_
      refine r_iload_3 (pc := 45) dX4_holdTogether_45 ?_
      refine r_iload_1 (pc := 46) dX4_holdTogether_46 ?_
      refine r_cV1_2 (pc := 47) (ct_X4_isGoldBy hk (by omega)) cv_X4_isGoldBy ⟨Nat.le_of_ble_eq_true rfl, Nat.le_of_ble_eq_true rfl⟩ ml_X4_41 dX4_holdTogether_47 (by omega) (wt_o _ _ _) rfl rfl (Nat.le_of_ble_eq_true rfl) ?_
      refine r_icmp_eq (pc := 50) 55 dX4_holdTogether_50 (by decide) (fun c50 => ?_) (fun c50 => ?_)
      · refine r_inc_3 (pc := 55) dX4_holdTogether_55 rfl (by decide) ?_
        refine r_goto (pc := 58) 18 dX4_holdTogether_58 (by decide) ?_
        exact go (by simp [agr, bI_inj c50])
      · refine r_iconst (pc := 53) 0 dX4_holdTogether_53 (by decide) ?_
        refine r_zret (pc := 54) dX4_holdTogether_54 rfl (by first | rfl | exact bI_nar _) (by rw [k2 (by rw [agJ, ej]; simp [agr, c35, bI_ninj c50])]; rfl) rfl
theorem lp_X4_hold1 {h : Wd} {k m : Nat} {c : Tales} {liars : Int32} (hk : k + 2 < 76) (hc : wt_count c = nI m) (hm : m ≤ 8) : ∀ n i, i + n = m → ∀ z : Value, WW mX4_holdTogether 2 [.ref k, .int liars, .int (nI i), z] [] (wt h k c) (some (.int (bI (agI c liars m n)))) (wt h k c) := by
  intro n
  induction n with
  | zero =>
    intro i hi z
    obtain rfl : i = m := by omega
    refine r_iload_2 (pc := 2) dX4_holdTogether_2 ?_
    refine r_aload_0 (pc := 3) dX4_holdTogether_3 ?_
    refine r_wt_get_count (pc := 4) hk fl_X4_28 dX4_holdTogether_4 ?_
    rw [hc]
    refine r_icmp_ge (pc := 7) 67 dX4_holdTogether_7 (by decide) (fun _ => ?_) (fun c7 => absurd (nI_le (by omega) (by omega)) (c7))
    refine r_iconst (pc := 67) 1 dX4_holdTogether_67 (by decide) ?_
    refine r_zret (pc := 68) dX4_holdTogether_68 rfl (by first | rfl | exact bI_nar _) (by first | rfl | simp_all [bI]) rfl
  | succ n ih =>
    intro i hi z
    have ei : m - (n + 1) = i := by omega
    refine r_iload_2 (pc := 2) dX4_holdTogether_2 ?_
    refine r_aload_0 (pc := 3) dX4_holdTogether_3 ?_
    refine r_wt_get_count (pc := 4) hk fl_X4_28 dX4_holdTogether_4 ?_
    rw [hc]
    refine r_icmp_ge (pc := 7) 67 dX4_holdTogether_7 (by decide) (fun c7 => absurd c7 (nI_ge (by omega) (by omega))) (fun _ => ?_)
    refine r_iload_2 (pc := 10) dX4_holdTogether_10 ?_
    refine r_bipush (pc := 11) 8 dX4_holdTogether_11 (by decide) ?_
    refine r_icmp_ge (pc := 13) 67 dX4_holdTogether_13 (by decide) (fun c13 => absurd c13 (nI_ge (a := i) (b := 8) (by omega) (by decide))) (fun _ => ?_)
    refine r_iconst (pc := 16) 0 dX4_holdTogether_16 (by decide) ?_
    refine r_istore_3 (pc := 17) dX4_holdTogether_17 rfl (by decide) ?_
    refine lp_X4_hold2 hk (by omega) i 0 (by omega) (fun e => ?_) (fun e => by rw [agI, ei, e]; rfl)
    refine r_inc_2 (pc := 61) dX4_holdTogether_61 rfl (by decide) ?_
    refine r_goto (pc := 64) 2 dX4_holdTogether_64 (by decide) ?_
    exact (ih (i + 1) (by omega) _).r (by rw [agI, ei, e]; rfl)
theorem ct_X4_holdTogether {h : Wd} {k m : Nat} {c : Tales} {liars : Int32} (hk : k + 2 < 76) (hc : wt_count c = nI m) (hm : m ≤ 8) : Ct mX4_holdTogether [.ref k, .int liars] (wt h k c) (some (.int (bI (agI c liars m m)))) (wt h k c) := by
  refine Ct.of (Z := List.replicate 2 .null) (by decide) (Nat.le_of_ble_eq_true rfl) (fun z hz => List.eq_of_mem_replicate hz) ?_
  show WW mX4_holdTogether 0 [.ref k, .int liars, .null, .null] [] _ _ _
  refine r_iconst (pc := 0) 0 dX4_holdTogether_0 (by decide) ?_
  refine r_istore_2 (pc := 1) dX4_holdTogether_1 rfl (by decide) ?_
  exact lp_X4_hold1 hk hc hm m 0 (by omega) _
/-- the fewest who lie, after the sets below 64 - r gave b -/
def fwS (P : Nat → Bool) (b : Int32) (s : Nat) : Int32 := if (b = -6 ∨ cnt (bt (nI s)) 32 < cnt (bt b) 32) ∧ P s = true then nI s else b
def fwR (P : Nat → Bool) : Int32 → Nat → Int32
  | b, 0 => b
  | b, r + 1 => fwR P (fwS P b (64 - (r + 1))) r
theorem lp_X4_fewestLiars {h : Wd} {k m : Nat} {c : Tales} (hk : k + 2 < 76) (hc : wt_count c = nI m) (hm : m ≤ 8) : ∀ r b s, s + r = 64 → ∀ z : Value, WW mX4_fewestLiars 5 [.ref k, .int b, .int (nI s), z] [] (wt h k c) (some (.int (fwR (fun q => agI c (nI q) m m) b r))) (wt h k c) := by
  intro r
  induction r with
  | zero =>
    intro b s hs z
    obtain rfl : s = 64 := by omega
    refine r_iload_2 (pc := 5) dX4_fewestLiars_5 ?_
    refine r_bipush (pc := 6) 64 dX4_fewestLiars_6 (by decide) ?_
    refine r_icmp_ge (pc := 8) 54 dX4_fewestLiars_8 (by decide) (fun _ => ?_) (fun c8 => absurd (nI_le (a := 64) (b := 64) (by omega) (by omega)) (c8))
    refine r_iload_1 (pc := 54) dX4_fewestLiars_54 ?_
    refine r_iret (pc := 55) dX4_fewestLiars_55 rfl (by first | rfl | simp_all [bI]) rfl
  | succ r ih =>
    intro b s hs z
    have es : 64 - (r + 1) = s := by omega
    have go : ∀ (d : Int32) (z1 : Value), d = fwS (fun q => agI c (nI q) m m) b s → WW mX4_fewestLiars 5 [.ref k, .int d, .int (nI (s + 1)), z1] [] (wt h k c) (some (.int (fwR (fun q => agI c (nI q) m m) b (r + 1)))) (wt h k c) := by
      intro d z1 ed
      rw [ed]
      exact (ih _ (s + 1) (by omega) z1).r (by rw [fwR, es])
    clear ih
    have n1 : cnt (bt (nI s)) 32 < 2 ^ 31 := Nat.lt_of_le_of_lt (cnt_le _ _) (by decide)
    have n2 : cnt (bt b) 32 < 2 ^ 31 := Nat.lt_of_le_of_lt (cnt_le _ _) (by decide)
    refine r_iload_2 (pc := 5) dX4_fewestLiars_5 ?_
    refine r_bipush (pc := 6) 64 dX4_fewestLiars_6 (by decide) ?_
    refine r_icmp_ge (pc := 8) 54 dX4_fewestLiars_8 (by decide) (fun c8 => absurd c8 (nI_ge (a := s) (b := 64) (by omega) (by decide))) (fun _ => ?_)
    refine r_iload_1 (pc := 11) dX4_fewestLiars_11 ?_
    refine r_bipush (pc := 12) (-6) dX4_fewestLiars_12 (by decide) ?_
    refine r_icmp_eq (pc := 14) 28 dX4_fewestLiars_14 (by decide) (fun c14 => ?_) (fun c14 => ?_)
    · refine r_iconst (pc := 28) 1 dX4_fewestLiars_28 (by decide) ?_
      refine r_goto (pc := 29) 33 dX4_fewestLiars_29 (by decide) ?_
      refine r_istore_3 (pc := 33) dX4_fewestLiars_33 rfl (by decide) ?_
      refine r_iload_3 (pc := 34) dX4_fewestLiars_34 ?_
      refine r_if_eq (pc := 35) 48 dX4_fewestLiars_35 (by decide) (fun c35 => absurd c35 (by decide)) (fun _ => ?_)
      refine r_aload_0 (pc := 38) dX4_fewestLiars_38 ?_
      refine r_iload_2 (pc := 39) dX4_fewestLiars_39 ?_
      refine r_cV1_1 (pc := 40) (ct_X4_holdTogether hk hc hm) cv_X4_holdTogether ⟨Nat.le_of_ble_eq_true rfl, Nat.le_of_ble_eq_true rfl⟩ ml_X4_37 dX4_fewestLiars_40 (by omega) (wt_o _ _ _) rfl rfl (Nat.le_of_ble_eq_true rfl) ?_
      refine r_if_eq (pc := 43) 48 dX4_fewestLiars_43 (by decide) (fun c43 => ?_) (fun c43 => ?_)
      · rw [bI_0] at c43
        refine r_inc_2 (pc := 48) dX4_fewestLiars_48 rfl (by decide) ?_
        refine r_goto (pc := 51) 5 dX4_fewestLiars_51 (by decide) ?_
        exact go _ _ (by rw [fwS, if_neg]; rintro ⟨-, z⟩; rw [c43] at z; cases z)
      · rw [bI_n0] at c43
        refine r_iload_2 (pc := 46) dX4_fewestLiars_46 ?_
        refine r_istore_1 (pc := 47) dX4_fewestLiars_47 rfl (by decide) ?_
        refine r_inc_2 (pc := 48) dX4_fewestLiars_48 rfl (by decide) ?_
        refine r_goto (pc := 51) 5 dX4_fewestLiars_51 (by decide) ?_
        exact go _ _ (by rw [fwS, if_pos]; exact ⟨by first | exact Or.inl c14 | exact Or.inr (by omega), c43⟩)
    · refine r_iload_2 (pc := 17) dX4_fewestLiars_17 ?_
      refine r_cS1_1 (pc := 18) (ct_J6_bitCount_0f7a4) cs_J6_bitCount_0f7a4 ⟨Nat.le_of_ble_eq_true rfl, Nat.le_of_ble_eq_true rfl⟩ ml_X4_31 dX4_fewestLiars_18 rfl (Nat.le_of_ble_eq_true rfl) ?_
      refine r_iload_1 (pc := 21) dX4_fewestLiars_21 ?_
      refine r_cS1_1 (pc := 22) (ct_J6_bitCount_0f7a4) cs_J6_bitCount_0f7a4 ⟨Nat.le_of_ble_eq_true rfl, Nat.le_of_ble_eq_true rfl⟩ ml_X4_31 dX4_fewestLiars_22 rfl (Nat.le_of_ble_eq_true rfl) ?_
      refine r_icmp_ge (pc := 25) 32 dX4_fewestLiars_25 (by decide) (fun c25 => ?_) (fun c25 => ?_)
      · rw [nI_leI n2 n1] at c25
        refine r_iconst (pc := 32) 0 dX4_fewestLiars_32 (by decide) ?_
        refine r_istore_3 (pc := 33) dX4_fewestLiars_33 rfl (by decide) ?_
        refine r_iload_3 (pc := 34) dX4_fewestLiars_34 ?_
        refine r_if_eq (pc := 35) 48 dX4_fewestLiars_35 (by decide) (fun _ => ?_) (fun c35 => absurd (rfl) (c35))
        refine r_inc_2 (pc := 48) dX4_fewestLiars_48 rfl (by decide) ?_
        refine r_goto (pc := 51) 5 dX4_fewestLiars_51 (by decide) ?_
        exact go _ _ (by rw [fwS, if_neg]; rintro ⟨z | z, -⟩; exact c14 z; omega)
      · rw [nI_leI n2 n1] at c25
        refine r_iconst (pc := 28) 1 dX4_fewestLiars_28 (by decide) ?_
        refine r_goto (pc := 29) 33 dX4_fewestLiars_29 (by decide) ?_
        refine r_istore_3 (pc := 33) dX4_fewestLiars_33 rfl (by decide) ?_
        refine r_iload_3 (pc := 34) dX4_fewestLiars_34 ?_
        refine r_if_eq (pc := 35) 48 dX4_fewestLiars_35 (by decide) (fun c35 => absurd c35 (by decide)) (fun _ => ?_)
        refine r_aload_0 (pc := 38) dX4_fewestLiars_38 ?_
        refine r_iload_2 (pc := 39) dX4_fewestLiars_39 ?_
        refine r_cV1_1 (pc := 40) (ct_X4_holdTogether hk hc hm) cv_X4_holdTogether ⟨Nat.le_of_ble_eq_true rfl, Nat.le_of_ble_eq_true rfl⟩ ml_X4_37 dX4_fewestLiars_40 (by omega) (wt_o _ _ _) rfl rfl (Nat.le_of_ble_eq_true rfl) ?_
        refine r_if_eq (pc := 43) 48 dX4_fewestLiars_43 (by decide) (fun c43 => ?_) (fun c43 => ?_)
        · rw [bI_0] at c43
          refine r_inc_2 (pc := 48) dX4_fewestLiars_48 rfl (by decide) ?_
          refine r_goto (pc := 51) 5 dX4_fewestLiars_51 (by decide) ?_
          exact go _ _ (by rw [fwS, if_neg]; rintro ⟨-, z⟩; rw [c43] at z; cases z)
        · rw [bI_n0] at c43
          refine r_iload_2 (pc := 46) dX4_fewestLiars_46 ?_
          refine r_istore_1 (pc := 47) dX4_fewestLiars_47 rfl (by decide) ?_
          refine r_inc_2 (pc := 48) dX4_fewestLiars_48 rfl (by decide) ?_
          refine r_goto (pc := 51) 5 dX4_fewestLiars_51 (by decide) ?_
          exact go _ _ (by rw [fwS, if_pos]; exact ⟨by first | exact Or.inl c14 | exact Or.inr (by omega), c43⟩)
theorem ct_X4_fewestLiars {h : Wd} {k m : Nat} {c : Tales} (hk : k + 2 < 76) (hc : wt_count c = nI m) (hm : m ≤ 8) : Ct mX4_fewestLiars [.ref k] (wt h k c) (some (.int (fwR (fun q => agI c (nI q) m m) (-6) 64))) (wt h k c) := by
  refine Ct.of (Z := List.replicate 3 .null) (by decide) (Nat.le_of_ble_eq_true rfl) (fun z hz => List.eq_of_mem_replicate hz) ?_
  show WW mX4_fewestLiars 0 [.ref k, .null, .null, .null] [] _ _ _
  refine r_bipush (pc := 0) (-6) dX4_fewestLiars_0 (by decide) ?_
  refine r_istore_1 (pc := 2) dX4_fewestLiars_2 rfl (by decide) ?_
  refine r_iconst (pc := 3) 0 dX4_fewestLiars_3 (by decide) ?_
  refine r_istore_2 (pc := 4) dX4_fewestLiars_4 rfl (by decide) ?_
  exact lp_X4_fewestLiars hk hc hm 64 (-6) 0 rfl _
theorem wt_out {h : Wd} {k j : Nat} {c : Tales} (hj : j < k ∨ k + 2 < j) : wt h k c j = h j := by
  simp only [wt]
  rw [if_neg (by omega), if_neg (by omega), if_neg (by omega)]
def cpT (c c2 : Tales) : Tales := (cpy (wt_tellers c2) (wt_tellers c) 8, cpy (wt_cells c2) (wt_cells c) 8, wt_toldGolden c2, wt_count c2)
theorem ct_X4_copyFrom {h : Wd} {k k2 : Nat} {c c2 : Tales} (hk : k + 2 < 76) (hk2 : k2 + 2 < 76) (ha : k2 + 2 < k ∨ k + 2 < k2) : Ct mX4_copyFrom [.ref k, .ref k2] (wt (wt h k2 c2) k c) none (wt (wt h k2 c2) k (cpT c c2)) := by
  have oo : ∀ d : Tales, wt (wt h k2 c2) k d k2 = .inr (4, wt_obj k2 c2) := fun d => (wt_out (by omega)).trans (wt_o h k2 c2)
  have o1 : ∀ d : Tales, wt (wt h k2 c2) k d (k2 + 1) = .inl (0, 8, .inl (wt_tellers c2)) := fun d => (wt_out (by omega)).trans (wt_a_tellers h k2 c2)
  have o2 : ∀ d : Tales, wt (wt h k2 c2) k d (k2 + 2) = .inl (0, 8, .inl (wt_cells c2)) := fun d => (wt_out (by omega)).trans (wt_a_cells h k2 c2)
  refine Ct.of (Z := List.replicate 0 .null) (by decide) (Nat.le_of_ble_eq_true rfl) (fun z hz => List.eq_of_mem_replicate hz) ?_
  show WW mX4_copyFrom 0 [.ref k, .ref k2] [] _ _ _
  refine r_aload_1 (pc := 0) dX4_copyFrom_0 ?_
  refine r_get (pc := 1) (k := 0) dX4_copyFrom_1 (ci := 4) rfl la_X4 fl_X4_9 (by decide) (by omega) (oo _) rfl ?_
  refine r_iconst (pc := 4) 0 dX4_copyFrom_4 (by decide) ?_
  refine r_aload_0 (pc := 5) dX4_copyFrom_5 ?_
  refine r_wt_get_tellers (pc := 6) hk fl_X4_9 dX4_copyFrom_6 ?_
  refine r_iconst (pc := 9) 0 dX4_copyFrom_9 (by decide) ?_
  refine r_bipush (pc := 10) 8 dX4_copyFrom_10 (by decide) ?_
  refine r_acpI (pc := 12) 8 dX4_copyFrom_12 ml_X4_18 (by decide) (by decide) (by omega) (by omega) (o1 _) (wt_a_tellers _ _ _) rfl (by decide) (by decide) (by decide) ?_
  rw [wt_u_tellers]
  refine r_aload_1 (pc := 15) dX4_copyFrom_15 ?_
  refine r_get (pc := 16) (k := 1) dX4_copyFrom_16 (ci := 4) rfl la_X4 fl_X4_15 (by decide) (by omega) (oo _) rfl ?_
  refine r_iconst (pc := 19) 0 dX4_copyFrom_19 (by decide) ?_
  refine r_aload_0 (pc := 20) dX4_copyFrom_20 ?_
  refine r_wt_get_cells (pc := 21) hk fl_X4_15 dX4_copyFrom_21 ?_
  refine r_iconst (pc := 24) 0 dX4_copyFrom_24 (by decide) ?_
  refine r_bipush (pc := 25) 8 dX4_copyFrom_25 (by decide) ?_
  refine r_acpI (pc := 27) 8 dX4_copyFrom_27 ml_X4_18 (by decide) (by decide) (by omega) (by omega) (o2 _) (wt_a_cells _ _ _) rfl (by decide) (by decide) (by decide) ?_
  rw [wt_u_cells]
  refine r_aload_0 (pc := 30) dX4_copyFrom_30 ?_
  refine r_aload_1 (pc := 31) dX4_copyFrom_31 ?_
  refine r_get (pc := 32) (k := 2) dX4_copyFrom_32 (ci := 4) rfl la_X4 fl_X4_24 (by decide) (by omega) (oo _) rfl ?_
  refine r_wt_put_toldGolden (pc := 35) hk fl_X4_24 dX4_copyFrom_35 ?_
  refine r_aload_0 (pc := 38) dX4_copyFrom_38 ?_
  refine r_aload_1 (pc := 39) dX4_copyFrom_39 ?_
  refine r_get (pc := 40) (k := 3) dX4_copyFrom_40 (ci := 4) rfl la_X4 fl_X4_28 (by decide) (by omega) (oo _) rfl ?_
  refine r_wt_put_count (pc := 43) hk fl_X4_28 dX4_copyFrom_43 ?_
  refine r_vret (pc := 46) dX4_copyFrom_46 rfl rfl rfl
