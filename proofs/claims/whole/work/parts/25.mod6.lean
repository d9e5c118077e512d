/-! THE REFERENCE: the calls of parts 1 and 2 -/
theorem ct_X7_goldB {h : Wd} {k : Nat} {c : Mod} {x v : Int32} (hk : k + 24 < 76) (hb : (isC x && inR v 0 9) = false) : Ct mX7_gold [.ref k, .int x, .int v] (wm h k c) (some (.int (-2))) (wm h k c) := by
  refine Ct.of (Z := List.replicate 1 .null) (by decide) (Nat.le_of_ble_eq_true rfl) (fun z hz => List.eq_of_mem_replicate hz) ?_
  show WW mX7_gold 0 [.ref k, .int x, .int v, .null] [] _ _ _
  refine r_iload_1 (pc := 0) dX7_gold_0 ?_
  refine r_cS1_1 (pc := 1) (ct_X7_isCell) cs_X7_isCell ⟨Nat.le_of_ble_eq_true rfl, Nat.le_of_ble_eq_true rfl⟩ ml_X7_96 dX7_gold_1 rfl (Nat.le_of_ble_eq_true rfl) ?_
  refine r_if_eq (pc := 4) 19 dX7_gold_4 (by decide) (fun c4 => ?_) (fun c4 => ?_)
  · refine r_bipush (pc := 19) (-2) dX7_gold_19 (by decide) ?_
    refine r_iret (pc := 21) dX7_gold_21 rfl (by first | rfl | simp_all [bI]) rfl
  · refine r_iload_2 (pc := 7) dX7_gold_7 ?_
    refine r_i2l (pc := 8) dX7_gold_8 ?_
    refine r_lconst (pc := 9) 0 dX7_gold_9 (by decide) ?_
    refine r_ldc2 (pc := 10) dX7_gold_10 kl_X7_100 ?_
    refine r_cS1_3 (pc := 13) (ct_X7_inI (lo := 0) (hi := 9) (by decide) (by decide)) cs_X7_in ⟨Nat.le_of_ble_eq_true rfl, Nat.le_of_ble_eq_true rfl⟩ ml_X7_86 dX7_gold_13 rfl (Nat.le_of_ble_eq_true rfl) ?_
    refine r_if_ne (pc := 16) 22 dX7_gold_16 (by decide) (fun c16 => ?_) (fun c16 => ?_)
    · exact absurd hb (by rw [bI_n0] at c4 c16; rw [c4, c16]; decide)
    · refine r_bipush (pc := 19) (-2) dX7_gold_19 (by decide) ?_
      refine r_iret (pc := 21) dX7_gold_21 rfl (by first | rfl | simp_all [bI]) rfl
theorem ct_X7_gold {h : Wd} {k j : Nat} {c : Mod} {v : Int32} (hk : k + 24 < 76) (hj : j < 64) (hv : inR v 0 9 = true) : Ct mX7_gold [.ref k, .int (nI j), .int v] (wm h k c) (some (.int (wm_ore c j))) (wm h k (wm_s_ore c (upd (wm_ore c) j v))) := by
  refine Ct.of (Z := List.replicate 1 .null) (by decide) (Nat.le_of_ble_eq_true rfl) (fun z hz => List.eq_of_mem_replicate hz) ?_
  show WW mX7_gold 0 [.ref k, .int (nI j), .int v, .null] [] _ _ _
  refine r_iload_1 (pc := 0) dX7_gold_0 ?_
  refine r_cS1_1 (pc := 1) (ct_X7_isCell) cs_X7_isCell ⟨Nat.le_of_ble_eq_true rfl, Nat.le_of_ble_eq_true rfl⟩ ml_X7_96 dX7_gold_1 rfl (Nat.le_of_ble_eq_true rfl) ?_
  refine r_if_eq (pc := 4) 19 dX7_gold_4 (by decide) (fun c4 => absurd c4 (by rw [isC_n hj]; decide)) (fun _ => ?_)
  refine r_iload_2 (pc := 7) dX7_gold_7 ?_
  refine r_i2l (pc := 8) dX7_gold_8 ?_
  refine r_lconst (pc := 9) 0 dX7_gold_9 (by decide) ?_
  refine r_ldc2 (pc := 10) dX7_gold_10 kl_X7_100 ?_
  refine r_cS1_3 (pc := 13) (ct_X7_inI (lo := 0) (hi := 9) (by decide) (by decide)) cs_X7_in ⟨Nat.le_of_ble_eq_true rfl, Nat.le_of_ble_eq_true rfl⟩ ml_X7_86 dX7_gold_13 rfl (Nat.le_of_ble_eq_true rfl) ?_
  refine r_if_ne (pc := 16) 22 dX7_gold_16 (by decide) (fun _ => ?_) (fun c16 => absurd c16 (by rw [hv]; decide))
  refine r_aload_0 (pc := 22) dX7_gold_22 ?_
  refine r_wm_get_ore (pc := 23) hk fl_X7_7 dX7_gold_23 ?_
  refine r_iload_1 (pc := 26) dX7_gold_26 ?_
  refine r_wm_ld_ore (pc := 27) hk (by omega) dX7_gold_27 ?_
  refine r_istore_3 (pc := 28) dX7_gold_28 rfl (by decide) ?_
  refine r_aload_0 (pc := 29) dX7_gold_29 ?_
  refine r_wm_get_ore (pc := 30) hk fl_X7_7 dX7_gold_30 ?_
  refine r_iload_1 (pc := 33) dX7_gold_33 ?_
  refine r_iload_2 (pc := 34) dX7_gold_34 ?_
  refine r_wm_st_ore (pc := 35) hk (by omega) dX7_gold_35 ?_
  refine r_iload_3 (pc := 36) dX7_gold_36 ?_
  refine r_iret (pc := 37) dX7_gold_37 rfl (by first | rfl | simp_all [bI]) rfl
theorem ct_X7_manB {h : Wd} {k : Nat} {c : Mod} {x y : Int32} (hk : k + 24 < 76) (hb : isM x = false) : Ct mX7_man [.ref k, .int x, .int y] (wm h k c) (some (.int (-1))) (wm h k c) := by
  refine Ct.of (Z := List.replicate 0 .null) (by decide) (Nat.le_of_ble_eq_true rfl) (fun z hz => List.eq_of_mem_replicate hz) ?_
  show WW mX7_man 0 [.ref k, .int x, .int y] [] _ _ _
  refine r_iload_1 (pc := 0) dX7_man_0 ?_
  refine r_i2l (pc := 1) dX7_man_1 ?_
  refine r_lconst (pc := 2) 0 dX7_man_2 (by decide) ?_
  refine r_ldc2 (pc := 3) dX7_man_3 kl_X7_90 ?_
  refine r_cS1_3 (pc := 6) (ct_X7_inI (lo := 0) (hi := 5) (by decide) (by decide)) cs_X7_in ⟨Nat.le_of_ble_eq_true rfl, Nat.le_of_ble_eq_true rfl⟩ ml_X7_86 dX7_man_6 rfl (Nat.le_of_ble_eq_true rfl) ?_
  refine r_if_ne (pc := 9) 14 dX7_man_9 (by decide) (fun c9 => absurd (by rw [isM_R, hb]; rfl) c9) (fun _ => ?_)
  refine r_iconst (pc := 12) (-1) dX7_man_12 (by decide) ?_
  refine r_iret (pc := 13) dX7_man_13 rfl (by first | rfl | simp_all [bI]) rfl
theorem ct_X7_manO {h : Wd} {k m : Nat} {c : Mod} {y : Int32} (hk : k + 24 < 76) (hm : m < 6) (hb : isC y = false) : Ct mX7_man [.ref k, .int (nI m), .int y] (wm h k c) (some (.int (-2))) (wm h k c) := by
  refine Ct.of (Z := List.replicate 0 .null) (by decide) (Nat.le_of_ble_eq_true rfl) (fun z hz => List.eq_of_mem_replicate hz) ?_
  show WW mX7_man 0 [.ref k, .int (nI m), .int y] [] _ _ _
  refine r_iload_1 (pc := 0) dX7_man_0 ?_
  refine r_i2l (pc := 1) dX7_man_1 ?_
  refine r_lconst (pc := 2) 0 dX7_man_2 (by decide) ?_
  refine r_ldc2 (pc := 3) dX7_man_3 kl_X7_90 ?_
  refine r_cS1_3 (pc := 6) (ct_X7_inI (lo := 0) (hi := 5) (by decide) (by decide)) cs_X7_in ⟨Nat.le_of_ble_eq_true rfl, Nat.le_of_ble_eq_true rfl⟩ ml_X7_86 dX7_man_6 rfl (Nat.le_of_ble_eq_true rfl) ?_
  refine r_if_ne (pc := 9) 14 dX7_man_9 (by decide) (fun _ => ?_) (fun c9 => absurd c9 (by rw [isM_R, isM_n hm]; decide))
  refine r_iload_2 (pc := 14) dX7_man_14 ?_
  refine r_cS1_1 (pc := 15) (ct_X7_isCell) cs_X7_isCell ⟨Nat.le_of_ble_eq_true rfl, Nat.le_of_ble_eq_true rfl⟩ ml_X7_96 dX7_man_15 rfl (Nat.le_of_ble_eq_true rfl) ?_
  refine r_if_ne (pc := 18) 24 dX7_man_18 (by decide) (fun c18 => absurd (by rw [hb]; rfl) c18) (fun _ => ?_)
  refine r_bipush (pc := 21) (-2) dX7_man_21 (by decide) ?_
  refine r_iret (pc := 23) dX7_man_23 rfl (by first | rfl | simp_all [bI]) rfl
def mnM (c : Mod) (m : Nat) (y : Int32) : Mod := wm_s_salt (wm_s_whistles (wm_s_cold (wm_s_knows (wm_s_tent (wm_s_men c (wm_men c ||| bW m)) (upd (wm_tent c) m y)) (vp_updL (wm_knows c) m 0)) (upd (wm_cold c) m 0)) (upd (wm_whistles c) m 0)) (upd (wm_salt c) m 0)
theorem ct_X7_man {h : Wd} {k m j : Nat} {c : Mod} (hk : k + 24 < 76) (hm : m < 6) (hj : j < 64) (hx : ∃ l, l < 64 ∧ wm_men c ||| bW m = nI l) : Ct mX7_man [.ref k, .int (nI m), .int (nI j)] (wm h k c) (some (.int (nI (cnt (bt (wm_men c ||| bW m)) 32)))) (wm h k (mnM c m (nI j))) := by
  refine Ct.of (Z := List.replicate 0 .null) (by decide) (Nat.le_of_ble_eq_true rfl) (fun z hz => List.eq_of_mem_replicate hz) ?_
  show WW mX7_man 0 [.ref k, .int (nI m), .int (nI j)] [] _ _ _
  refine r_iload_1 (pc := 0) dX7_man_0 ?_
  refine r_i2l (pc := 1) dX7_man_1 ?_
  refine r_lconst (pc := 2) 0 dX7_man_2 (by decide) ?_
  refine r_ldc2 (pc := 3) dX7_man_3 kl_X7_90 ?_
  refine r_cS1_3 (pc := 6) (ct_X7_inI (lo := 0) (hi := 5) (by decide) (by decide)) cs_X7_in ⟨Nat.le_of_ble_eq_true rfl, Nat.le_of_ble_eq_true rfl⟩ ml_X7_86 dX7_man_6 rfl (Nat.le_of_ble_eq_true rfl) ?_
  refine r_if_ne (pc := 9) 14 dX7_man_9 (by decide) (fun _ => ?_) (fun c9 => absurd c9 (by rw [isM_R, isM_n hm]; decide))
  refine r_iload_2 (pc := 14) dX7_man_14 ?_
  refine r_cS1_1 (pc := 15) (ct_X7_isCell) cs_X7_isCell ⟨Nat.le_of_ble_eq_true rfl, Nat.le_of_ble_eq_true rfl⟩ ml_X7_96 dX7_man_15 rfl (Nat.le_of_ble_eq_true rfl) ?_
  refine r_if_ne (pc := 18) 24 dX7_man_18 (by decide) (fun _ => ?_) (fun c18 => absurd c18 (by rw [isC_n hj]; decide))
  refine r_aload_0 (pc := 24) dX7_man_24 ?_
  refine r_dup (pc := 25) dX7_man_25 rfl ?_
  refine r_wm_get_men (pc := 26) hk fl_X7_92 dX7_man_26 ?_
  refine r_iconst (pc := 29) 1 dX7_man_29 (by decide) ?_
  refine r_iload_1 (pc := 30) dX7_man_30 ?_
  refine r_ishl (pc := 31) dX7_man_31 ?_
  refine r_ior (pc := 32) dX7_man_32 ?_
  refine r_wm_put_men (pc := 33) hk fl_X7_92 dX7_man_33 ?_
  refine r_aload_0 (pc := 36) dX7_man_36 ?_
  refine r_wm_get_tent (pc := 37) hk fl_X7_16 dX7_man_37 ?_
  refine r_iload_1 (pc := 40) dX7_man_40 ?_
  refine r_iload_2 (pc := 41) dX7_man_41 ?_
  refine r_wm_st_tent (pc := 42) hk (by omega) dX7_man_42 ?_
  refine r_aload_0 (pc := 43) dX7_man_43 ?_
  refine r_wm_get_knows (pc := 44) hk fl_X7_19 dX7_man_44 ?_
  refine r_iload_1 (pc := 47) dX7_man_47 ?_
  refine r_lconst (pc := 48) 0 dX7_man_48 (by decide) ?_
  refine r_wm_st_knows (pc := 49) hk (by omega) dX7_man_49 ?_
  refine r_aload_0 (pc := 50) dX7_man_50 ?_
  refine r_wm_get_cold (pc := 51) hk fl_X7_23 dX7_man_51 ?_
  refine r_iload_1 (pc := 54) dX7_man_54 ?_
  refine r_iconst (pc := 55) 0 dX7_man_55 (by decide) ?_
  refine r_wm_st_cold (pc := 56) hk (by omega) dX7_man_56 ?_
  refine r_aload_0 (pc := 57) dX7_man_57 ?_
  refine r_wm_get_whistles (pc := 58) hk fl_X7_26 dX7_man_58 ?_
  refine r_iload_1 (pc := 61) dX7_man_61 ?_
  refine r_iconst (pc := 62) 0 dX7_man_62 (by decide) ?_
  refine r_wm_st_whistles (pc := 63) hk (by omega) dX7_man_63 ?_
  refine r_aload_0 (pc := 64) dX7_man_64 ?_
  refine r_wm_get_salt (pc := 65) hk fl_X7_29 dX7_man_65 ?_
  refine r_iload_1 (pc := 68) dX7_man_68 ?_
  refine r_iconst (pc := 69) 0 dX7_man_69 (by decide) ?_
  refine r_wm_st_salt (pc := 70) hk (by omega) dX7_man_70 ?_
  refine r_aload_0 (pc := 71) dX7_man_71 ?_
  refine r_wm_get_men (pc := 72) hk fl_X7_92 dX7_man_72 ?_
  refine r_cS1_1 (pc := 75) (ct_X7_ones hx) cs_X7_ones ⟨Nat.le_of_ble_eq_true rfl, Nat.le_of_ble_eq_true rfl⟩ ml_X7_102 dX7_man_75 rfl (Nat.le_of_ble_eq_true rfl) ?_
  refine r_iret (pc := 78) dX7_man_78 rfl (by first | rfl | simp_all [bI]) rfl
theorem ct_X7_leaveB {h : Wd} {k : Nat} {c : Mod} {x : Int32} (hk : k + 24 < 76) (hb : hasB (wm_men c) x = false) : Ct mX7_leave [.ref k, .int x] (wm h k c) (some (.int (-1))) (wm h k c) := by
  refine Ct.of (Z := List.replicate 1 .null) (by decide) (Nat.le_of_ble_eq_true rfl) (fun z hz => List.eq_of_mem_replicate hz) ?_
  show WW mX7_leave 0 [.ref k, .int x, .null] [] _ _ _
  refine r_aload_0 (pc := 0) dX7_leave_0 ?_
  refine r_iload_1 (pc := 1) dX7_leave_1 ?_
  refine r_cV1_1 (pc := 2) (ct_X7_isMan hk) cv_X7_isMan ⟨Nat.le_of_ble_eq_true rfl, Nat.le_of_ble_eq_true rfl⟩ ml_X7_106 dX7_leave_2 (by omega) (wm_o _ _ _) rfl rfl (Nat.le_of_ble_eq_true rfl) ?_
  refine r_if_ne (pc := 5) 10 dX7_leave_5 (by decide) (fun c5 => absurd (by rw [hb]; rfl) c5) (fun _ => ?_)
  refine r_iconst (pc := 8) (-1) dX7_leave_8 (by decide) ?_
  refine r_iret (pc := 9) dX7_leave_9 rfl (by first | rfl | simp_all [bI]) rfl
def lvF (f : Nat → Int32) (m : Int32) : Nat → Nat → Int32
  | 0 => f
  | n + 1 => upd (lvF f m n) n (if lvF f m n n = m then -6 else lvF f m n n)
theorem lp_X7_leave {h h' : Wd} {k m : Nat} {c : Mod} (hk : k + 24 < 76) (hx : ∃ l, l < 64 ∧ wm_men c = nI l) : ∀ n j, j + n = 64 → h' = wm h k (wm_s_owner c (lvF (wm_owner c) (nI m) 64)) → WW mX7_leave 26 [.ref k, .int (nI m), .int (nI j)] [] (wm h k (wm_s_owner c (lvF (wm_owner c) (nI m) j))) (some (.int (nI (cnt (bt (wm_men c)) 32)))) h' := by
  intro n
  induction n with
  | zero =>
    intro j hj e
    obtain rfl : j = 64 := by omega
    refine r_iload_2 (pc := 26) dX7_leave_26 ?_
    refine r_bipush (pc := 27) 64 dX7_leave_27 (by decide) ?_
    refine r_icmp_ge (pc := 29) 65 dX7_leave_29 (by decide) (fun _ => ?_) (fun c29 => absurd (nI_le (a := 64) (b := 64) (by omega) (by omega)) (c29))
    refine r_aload_0 (pc := 65) dX7_leave_65 ?_
    refine r_wm_get_men (pc := 66) hk fl_X7_92 dX7_leave_66 ?_
    refine r_cS1_1 (pc := 69) (ct_X7_ones hx) cs_X7_ones ⟨Nat.le_of_ble_eq_true rfl, Nat.le_of_ble_eq_true rfl⟩ ml_X7_102 dX7_leave_69 rfl (Nat.le_of_ble_eq_true rfl) ?_
    refine r_iret (pc := 72) dX7_leave_72 rfl (by first | rfl | simp_all [bI]) e.symm
  | succ n ih =>
    intro j hj e
    refine r_iload_2 (pc := 26) dX7_leave_26 ?_
    refine r_bipush (pc := 27) 64 dX7_leave_27 (by decide) ?_
    refine r_icmp_ge (pc := 29) 65 dX7_leave_29 (by decide) (fun c29 => absurd c29 (nI_ge (a := j) (b := 64) (by omega) (by decide))) (fun _ => ?_)
    refine r_aload_0 (pc := 32) dX7_leave_32 ?_
    refine r_wm_get_owner (pc := 33) hk fl_X7_13 dX7_leave_33 ?_
    refine r_iload_2 (pc := 36) dX7_leave_36 ?_
    refine r_aload_0 (pc := 37) dX7_leave_37 ?_
    refine r_wm_get_owner (pc := 38) hk fl_X7_13 dX7_leave_38 ?_
    refine r_iload_2 (pc := 41) dX7_leave_41 ?_
    refine r_wm_ld_owner (pc := 42) hk (by omega) dX7_leave_42 ?_
    refine r_iload_1 (pc := 43) dX7_leave_43 ?_
    refine r_icmp_ne (pc := 44) 52 dX7_leave_44 (by decide) (fun c44 => ?_) (fun c44 => ?_)
    · refine r_aload_0 (pc := 52) dX7_leave_52 ?_
      refine r_wm_get_owner (pc := 53) hk fl_X7_13 dX7_leave_53 ?_
      refine r_iload_2 (pc := 56) dX7_leave_56 ?_
      refine r_wm_ld_owner (pc := 57) hk (by omega) dX7_leave_57 ?_
      refine r_wm_st_owner (pc := 58) hk (by omega) dX7_leave_58 ?_
      refine r_inc_2 (pc := 59) dX7_leave_59 rfl (by decide) ?_
      refine r_goto (pc := 62) 26 dX7_leave_62 (by decide) ?_
      have c' : ¬ lvF (wm_owner c) (nI m) j j = nI m := c44
      exact (ih (j + 1) (by omega) e).w (by rw [lvF, if_neg c']; rfl)
    · refine r_bipush (pc := 47) (-6) dX7_leave_47 (by decide) ?_
      refine r_goto (pc := 49) 58 dX7_leave_49 (by decide) ?_
      refine r_wm_st_owner (pc := 58) hk (by omega) dX7_leave_58 ?_
      refine r_inc_2 (pc := 59) dX7_leave_59 rfl (by decide) ?_
      refine r_goto (pc := 62) 26 dX7_leave_62 (by decide) ?_
      have c' : lvF (wm_owner c) (nI m) j j = nI m := c44
      exact (ih (j + 1) (by omega) e).w (by rw [lvF, if_pos c']; rfl)
def lvM (c : Mod) (m : Nat) : Mod := wm_s_owner (wm_s_men c (wm_men c &&& (bW m ^^^ (-1)))) (lvF (wm_owner c) (nI m) 64)
theorem va_up_id {α : Type} (f : Nat → α) (k : Nat) : va_up f k (f k) = f := by
  funext j
  by_cases e : j = k
  · subst e; exact va_up_self _ _ _
  · exact va_up_ne _ _ e
theorem ct_X7_leave {h : Wd} {k m : Nat} {c : Mod} (hk : k + 24 < 76) (hb : hasB (wm_men c) (nI m) = true) (hx : ∃ l, l < 64 ∧ wm_men c &&& (bW m ^^^ (-1)) = nI l) : Ct mX7_leave [.ref k, .int (nI m)] (wm h k c) (some (.int (nI (cnt (bt (wm_men c &&& (bW m ^^^ (-1)))) 32)))) (wm h k (lvM c m)) := by
  refine Ct.of (Z := List.replicate 1 .null) (by decide) (Nat.le_of_ble_eq_true rfl) (fun z hz => List.eq_of_mem_replicate hz) ?_
  show WW mX7_leave 0 [.ref k, .int (nI m), .null] [] _ _ _
  refine r_aload_0 (pc := 0) dX7_leave_0 ?_
  refine r_iload_1 (pc := 1) dX7_leave_1 ?_
  refine r_cV1_1 (pc := 2) (ct_X7_isMan hk) cv_X7_isMan ⟨Nat.le_of_ble_eq_true rfl, Nat.le_of_ble_eq_true rfl⟩ ml_X7_106 dX7_leave_2 (by omega) (wm_o _ _ _) rfl rfl (Nat.le_of_ble_eq_true rfl) ?_
  refine r_if_ne (pc := 5) 10 dX7_leave_5 (by decide) (fun _ => ?_) (fun c5 => absurd c5 (by rw [hb]; decide))
  refine r_aload_0 (pc := 10) dX7_leave_10 ?_
  refine r_dup (pc := 11) dX7_leave_11 rfl ?_
  refine r_wm_get_men (pc := 12) hk fl_X7_92 dX7_leave_12 ?_
  refine r_iconst (pc := 15) 1 dX7_leave_15 (by decide) ?_
  refine r_iload_1 (pc := 16) dX7_leave_16 ?_
  refine r_ishl (pc := 17) dX7_leave_17 ?_
  refine r_iconst (pc := 18) (-1) dX7_leave_18 (by decide) ?_
  refine r_ixor (pc := 19) dX7_leave_19 ?_
  refine r_iand (pc := 20) dX7_leave_20 ?_
  refine r_wm_put_men (pc := 21) hk fl_X7_92 dX7_leave_21 ?_
  refine r_iconst (pc := 24) 0 dX7_leave_24 (by decide) ?_
  refine r_istore_2 (pc := 25) dX7_leave_25 rfl (by decide) ?_
  exact (lp_X7_leave (m := m) (c := wm_s_men c (wm_men c &&& (bW m ^^^ (-1)))) hk hx 64 0 rfl rfl).w (congrArg (wm h k) (Prod.ext (va_up_id _ 1).symm rfl))
theorem ct_X7_knowB {h : Wd} {k : Nat} {c : Mod} {x y b : Int32} (hk : k + 24 < 76) (hb : hasB (wm_men c) x = false) : Ct mX7_know [.ref k, .int x, .int y, .int b] (wm h k c) (some (.int (-1))) (wm h k c) := by
  refine Ct.of (Z := List.replicate 0 .null) (by decide) (Nat.le_of_ble_eq_true rfl) (fun z hz => List.eq_of_mem_replicate hz) ?_
  show WW mX7_know 0 [.ref k, .int x, .int y, .int b] [] _ _ _
  refine r_aload_0 (pc := 0) dX7_know_0 ?_
  refine r_iload_1 (pc := 1) dX7_know_1 ?_
  refine r_cV1_1 (pc := 2) (ct_X7_isMan hk) cv_X7_isMan ⟨Nat.le_of_ble_eq_true rfl, Nat.le_of_ble_eq_true rfl⟩ ml_X7_106 dX7_know_2 (by omega) (wm_o _ _ _) rfl rfl (Nat.le_of_ble_eq_true rfl) ?_
  refine r_if_ne (pc := 5) 10 dX7_know_5 (by decide) (fun c5 => absurd (by rw [hb]; rfl) c5) (fun _ => ?_)
  refine r_iconst (pc := 8) (-1) dX7_know_8 (by decide) ?_
  refine r_iret (pc := 9) dX7_know_9 rfl (by first | rfl | simp_all [bI]) rfl
theorem ct_X7_knowO {h : Wd} {k : Nat} {c : Mod} {x y b : Int32} (hk : k + 24 < 76) (hb : hasB (wm_men c) x = true) (hc : isC y = false) : Ct mX7_know [.ref k, .int x, .int y, .int b] (wm h k c) (some (.int (-2))) (wm h k c) := by
  refine Ct.of (Z := List.replicate 0 .null) (by decide) (Nat.le_of_ble_eq_true rfl) (fun z hz => List.eq_of_mem_replicate hz) ?_
  show WW mX7_know 0 [.ref k, .int x, .int y, .int b] [] _ _ _
  refine r_aload_0 (pc := 0) dX7_know_0 ?_
  refine r_iload_1 (pc := 1) dX7_know_1 ?_
  refine r_cV1_1 (pc := 2) (ct_X7_isMan hk) cv_X7_isMan ⟨Nat.le_of_ble_eq_true rfl, Nat.le_of_ble_eq_true rfl⟩ ml_X7_106 dX7_know_2 (by omega) (wm_o _ _ _) rfl rfl (Nat.le_of_ble_eq_true rfl) ?_
  refine r_if_ne (pc := 5) 10 dX7_know_5 (by decide) (fun _ => ?_) (fun c5 => absurd c5 (by rw [hb]; decide))
  refine r_iload_2 (pc := 10) dX7_know_10 ?_
  refine r_cS1_1 (pc := 11) (ct_X7_isCell) cs_X7_isCell ⟨Nat.le_of_ble_eq_true rfl, Nat.le_of_ble_eq_true rfl⟩ ml_X7_96 dX7_know_11 rfl (Nat.le_of_ble_eq_true rfl) ?_
  refine r_if_ne (pc := 14) 20 dX7_know_14 (by decide) (fun c14 => absurd (by rw [hc]; rfl) c14) (fun _ => ?_)
  refine r_bipush (pc := 17) (-2) dX7_know_17 (by decide) ?_
  refine r_iret (pc := 19) dX7_know_19 rfl (by first | rfl | simp_all [bI]) rfl
def knM (c : Mod) (m j : Nat) (b : Bool) : Mod := wm_s_knows c (vp_updL (wm_knows c) m (if b then wm_knows c m ||| bL j else wm_knows c m &&& (bL j ^^^ (-1))))
theorem ct_X7_know {h : Wd} {k m j : Nat} {c : Mod} {b : Int32} (hk : k + 24 < 76) (hm : m < 6) (hb : hasB (wm_men c) (nI m) = true) (hj : j < 64) : Ct mX7_know [.ref k, .int (nI m), .int (nI j), .int b] (wm h k c) (some (.int (nI (cnt (kb (wm_knows (knM c m j (!decide (b = 0))) m)) 64)))) (wm h k (knM c m j (!decide (b = 0)))) := by
  refine Ct.of (Z := List.replicate 0 .null) (by decide) (Nat.le_of_ble_eq_true rfl) (fun z hz => List.eq_of_mem_replicate hz) ?_
  show WW mX7_know 0 [.ref k, .int (nI m), .int (nI j), .int b] [] _ _ _
  refine r_aload_0 (pc := 0) dX7_know_0 ?_
  refine r_iload_1 (pc := 1) dX7_know_1 ?_
  refine r_cV1_1 (pc := 2) (ct_X7_isMan hk) cv_X7_isMan ⟨Nat.le_of_ble_eq_true rfl, Nat.le_of_ble_eq_true rfl⟩ ml_X7_106 dX7_know_2 (by omega) (wm_o _ _ _) rfl rfl (Nat.le_of_ble_eq_true rfl) ?_
  refine r_if_ne (pc := 5) 10 dX7_know_5 (by decide) (fun _ => ?_) (fun c5 => absurd c5 (by rw [hb]; decide))
  refine r_iload_2 (pc := 10) dX7_know_10 ?_
  refine r_cS1_1 (pc := 11) (ct_X7_isCell) cs_X7_isCell ⟨Nat.le_of_ble_eq_true rfl, Nat.le_of_ble_eq_true rfl⟩ ml_X7_96 dX7_know_11 rfl (Nat.le_of_ble_eq_true rfl) ?_
  refine r_if_ne (pc := 14) 20 dX7_know_14 (by decide) (fun _ => ?_) (fun c14 => absurd c14 (by rw [isC_n hj]; decide))
  refine r_aload_0 (pc := 20) dX7_know_20 ?_
  refine r_wm_get_knows (pc := 21) hk fl_X7_19 dX7_know_21 ?_
  refine r_iload_1 (pc := 24) dX7_know_24 ?_
  refine r_iload_3 (pc := 25) dX7_know_25 ?_
  refine r_if_eq (pc := 26) 42 dX7_know_26 (by decide) (fun c26 => ?_) (fun c26 => ?_)
  · refine r_aload_0 (pc := 42) dX7_know_42 ?_
    refine r_wm_get_knows (pc := 43) hk fl_X7_19 dX7_know_43 ?_
    refine r_iload_1 (pc := 46) dX7_know_46 ?_
    refine r_wm_ld_knows (pc := 47) hk (by omega) dX7_know_47 ?_
    refine r_lconst (pc := 48) 1 dX7_know_48 (by decide) ?_
    refine r_iload_2 (pc := 49) dX7_know_49 ?_
    refine r_lshl (pc := 50) dX7_know_50 ?_
    refine r_ldc2 (pc := 51) dX7_know_51 kl_X7_109 ?_
    refine r_lxor (pc := 54) dX7_know_54 ?_
    refine r_land (pc := 55) dX7_know_55 ?_
    refine r_wm_st_knows (pc := 56) hk (by omega) dX7_know_56 ?_
    refine r_aload_0 (pc := 57) dX7_know_57 ?_
    refine r_iload_1 (pc := 58) dX7_know_58 ?_
    refine r_cV1_1 (pc := 59) (ct_X7_knownBy hk hm) cv_X7_knownBy ⟨Nat.le_of_ble_eq_true rfl, Nat.le_of_ble_eq_true rfl⟩ ml_X7_111 dX7_know_59 (by omega) (wm_o _ _ _) rfl rfl (Nat.le_of_ble_eq_true rfl) ?_
    refine r_iret (pc := 62) dX7_know_62 rfl (by simp only [knM, c26]; rfl) (by simp only [knM, c26]; rfl)
  · refine r_aload_0 (pc := 29) dX7_know_29 ?_
    refine r_wm_get_knows (pc := 30) hk fl_X7_19 dX7_know_30 ?_
    refine r_iload_1 (pc := 33) dX7_know_33 ?_
    refine r_wm_ld_knows (pc := 34) hk (by omega) dX7_know_34 ?_
    refine r_lconst (pc := 35) 1 dX7_know_35 (by decide) ?_
    refine r_iload_2 (pc := 36) dX7_know_36 ?_
    refine r_lshl (pc := 37) dX7_know_37 ?_
    refine r_lor (pc := 38) dX7_know_38 ?_
    refine r_goto (pc := 39) 56 dX7_know_39 (by decide) ?_
    refine r_wm_st_knows (pc := 56) hk (by omega) dX7_know_56 ?_
    refine r_aload_0 (pc := 57) dX7_know_57 ?_
    refine r_iload_1 (pc := 58) dX7_know_58 ?_
    refine r_cV1_1 (pc := 59) (ct_X7_knownBy hk hm) cv_X7_knownBy ⟨Nat.le_of_ble_eq_true rfl, Nat.le_of_ble_eq_true rfl⟩ ml_X7_111 dX7_know_59 (by omega) (wm_o _ _ _) rfl rfl (Nat.le_of_ble_eq_true rfl) ?_
    refine r_iret (pc := 62) dX7_know_62 rfl (by simp only [knM, c26]; rfl) (by simp only [knM, c26]; rfl)
theorem ct_X7_claimB {h : Wd} {k : Nat} {c : Mod} {x y : Int32} (hk : k + 24 < 76) (h1 : ¬ y = -1) (hb : hasB (wm_men c) y = false) : Ct mX7_claim [.ref k, .int x, .int y] (wm h k c) (some (.int (-1))) (wm h k c) := by
  refine Ct.of (Z := List.replicate 0 .null) (by decide) (Nat.le_of_ble_eq_true rfl) (fun z hz => List.eq_of_mem_replicate hz) ?_
  show WW mX7_claim 0 [.ref k, .int x, .int y] [] _ _ _
  refine r_iload_2 (pc := 0) dX7_claim_0 ?_
  refine r_iconst (pc := 1) (-1) dX7_claim_1 (by decide) ?_
  refine r_icmp_eq (pc := 2) 15 dX7_claim_2 (by decide) (fun c2 => absurd c2 (h1)) (fun _ => ?_)
  refine r_aload_0 (pc := 5) dX7_claim_5 ?_
  refine r_iload_2 (pc := 6) dX7_claim_6 ?_
  refine r_cV1_1 (pc := 7) (ct_X7_isMan hk) cv_X7_isMan ⟨Nat.le_of_ble_eq_true rfl, Nat.le_of_ble_eq_true rfl⟩ ml_X7_106 dX7_claim_7 (by omega) (wm_o _ _ _) rfl rfl (Nat.le_of_ble_eq_true rfl) ?_
  refine r_if_ne (pc := 10) 15 dX7_claim_10 (by decide) (fun c10 => absurd (by rw [hb]; rfl) c10) (fun _ => ?_)
  refine r_iconst (pc := 13) (-1) dX7_claim_13 (by decide) ?_
  refine r_iret (pc := 14) dX7_claim_14 rfl (by first | rfl | simp_all [bI]) rfl
theorem ct_X7_claimO {h : Wd} {k : Nat} {c : Mod} {x y : Int32} (hk : k + 24 < 76) (h1 : y = -1 ∨ hasB (wm_men c) y = true) (hb : isC x = false) : Ct mX7_claim [.ref k, .int x, .int y] (wm h k c) (some (.int (-2))) (wm h k c) := by
  refine Ct.of (Z := List.replicate 0 .null) (by decide) (Nat.le_of_ble_eq_true rfl) (fun z hz => List.eq_of_mem_replicate hz) ?_
  show WW mX7_claim 0 [.ref k, .int x, .int y] [] _ _ _
  refine r_iload_2 (pc := 0) dX7_claim_0 ?_
  refine r_iconst (pc := 1) (-1) dX7_claim_1 (by decide) ?_
  refine r_icmp_eq (pc := 2) 15 dX7_claim_2 (by decide) (fun c2 => ?_) (fun c2 => ?_)
  · refine r_iload_1 (pc := 15) dX7_claim_15 ?_
    refine r_cS1_1 (pc := 16) (ct_X7_isCell) cs_X7_isCell ⟨Nat.le_of_ble_eq_true rfl, Nat.le_of_ble_eq_true rfl⟩ ml_X7_96 dX7_claim_16 rfl (Nat.le_of_ble_eq_true rfl) ?_
    refine r_if_ne (pc := 19) 25 dX7_claim_19 (by decide) (fun c19 => absurd (by rw [hb]; rfl) c19) (fun _ => ?_)
    refine r_bipush (pc := 22) (-2) dX7_claim_22 (by decide) ?_
    refine r_iret (pc := 24) dX7_claim_24 rfl (by first | rfl | simp_all [bI]) rfl
  · refine r_aload_0 (pc := 5) dX7_claim_5 ?_
    refine r_iload_2 (pc := 6) dX7_claim_6 ?_
    refine r_cV1_1 (pc := 7) (ct_X7_isMan hk) cv_X7_isMan ⟨Nat.le_of_ble_eq_true rfl, Nat.le_of_ble_eq_true rfl⟩ ml_X7_106 dX7_claim_7 (by omega) (wm_o _ _ _) rfl rfl (Nat.le_of_ble_eq_true rfl) ?_
    refine r_if_ne (pc := 10) 15 dX7_claim_10 (by decide) (fun _ => ?_) (fun c10 => absurd c10 (by rw [(h1.resolve_left c2 : hasB (wm_men c) y = true)]; decide))
    refine r_iload_1 (pc := 15) dX7_claim_15 ?_
    refine r_cS1_1 (pc := 16) (ct_X7_isCell) cs_X7_isCell ⟨Nat.le_of_ble_eq_true rfl, Nat.le_of_ble_eq_true rfl⟩ ml_X7_96 dX7_claim_16 rfl (Nat.le_of_ble_eq_true rfl) ?_
    refine r_if_ne (pc := 19) 25 dX7_claim_19 (by decide) (fun c19 => absurd (by rw [hb]; rfl) c19) (fun _ => ?_)
    refine r_bipush (pc := 22) (-2) dX7_claim_22 (by decide) ?_
    refine r_iret (pc := 24) dX7_claim_24 rfl (by first | rfl | simp_all [bI]) rfl
theorem ct_X7_claim {h : Wd} {k j : Nat} {c : Mod} {y : Int32} (hk : k + 24 < 76) (h1 : y = -1 ∨ hasB (wm_men c) y = true) (hj : j < 64) : Ct mX7_claim [.ref k, .int (nI j), .int y] (wm h k c) (some (.int (64 - nI (cntC (upd (wm_owner c) j (if y = -1 then -6 else y)) (-6))))) (wm h k (wm_s_owner c (upd (wm_owner c) j (if y = -1 then -6 else y)))) := by
  refine Ct.of (Z := List.replicate 0 .null) (by decide) (Nat.le_of_ble_eq_true rfl) (fun z hz => List.eq_of_mem_replicate hz) ?_
  show WW mX7_claim 0 [.ref k, .int (nI j), .int y] [] _ _ _
  refine r_iload_2 (pc := 0) dX7_claim_0 ?_
  refine r_iconst (pc := 1) (-1) dX7_claim_1 (by decide) ?_
  refine r_icmp_eq (pc := 2) 15 dX7_claim_2 (by decide) (fun c2 => ?_) (fun c2 => ?_)
  · refine r_iload_1 (pc := 15) dX7_claim_15 ?_
    refine r_cS1_1 (pc := 16) (ct_X7_isCell) cs_X7_isCell ⟨Nat.le_of_ble_eq_true rfl, Nat.le_of_ble_eq_true rfl⟩ ml_X7_96 dX7_claim_16 rfl (Nat.le_of_ble_eq_true rfl) ?_
    refine r_if_ne (pc := 19) 25 dX7_claim_19 (by decide) (fun _ => ?_) (fun c19 => absurd c19 (by rw [isC_n hj]; decide))
    refine r_aload_0 (pc := 25) dX7_claim_25 ?_
    refine r_wm_get_owner (pc := 26) hk fl_X7_13 dX7_claim_26 ?_
    refine r_iload_1 (pc := 29) dX7_claim_29 ?_
    refine r_iload_2 (pc := 30) dX7_claim_30 ?_
    refine r_iconst (pc := 31) (-1) dX7_claim_31 (by decide) ?_
    refine r_icmp_ne (pc := 32) 40 dX7_claim_32 (by decide) (fun c32 => ?_) (fun c32 => ?_)
    · refine r_iload_2 (pc := 40) dX7_claim_40 ?_
      refine r_wm_st_owner (pc := 41) hk (by omega) dX7_claim_41 ?_
      refine r_aload_0 (pc := 42) dX7_claim_42 ?_
      refine r_cV1_0 (pc := 43) (ct_X7_claimedCells hk) cv_X7_claimedCells ⟨Nat.le_of_ble_eq_true rfl, Nat.le_of_ble_eq_true rfl⟩ ml_X7_121 dX7_claim_43 (by omega) (wm_o _ _ _) rfl rfl (Nat.le_of_ble_eq_true rfl) ?_
      refine r_iret (pc := 46) dX7_claim_46 rfl (by rw [if_neg c32]; rfl) (by rw [if_neg c32])
    · refine r_bipush (pc := 35) (-6) dX7_claim_35 (by decide) ?_
      refine r_goto (pc := 37) 41 dX7_claim_37 (by decide) ?_
      refine r_wm_st_owner (pc := 41) hk (by omega) dX7_claim_41 ?_
      refine r_aload_0 (pc := 42) dX7_claim_42 ?_
      refine r_cV1_0 (pc := 43) (ct_X7_claimedCells hk) cv_X7_claimedCells ⟨Nat.le_of_ble_eq_true rfl, Nat.le_of_ble_eq_true rfl⟩ ml_X7_121 dX7_claim_43 (by omega) (wm_o _ _ _) rfl rfl (Nat.le_of_ble_eq_true rfl) ?_
      refine r_iret (pc := 46) dX7_claim_46 rfl (by rw [if_pos c32]; rfl) (by rw [if_pos c32])
  · refine r_aload_0 (pc := 5) dX7_claim_5 ?_
    refine r_iload_2 (pc := 6) dX7_claim_6 ?_
    refine r_cV1_1 (pc := 7) (ct_X7_isMan hk) cv_X7_isMan ⟨Nat.le_of_ble_eq_true rfl, Nat.le_of_ble_eq_true rfl⟩ ml_X7_106 dX7_claim_7 (by omega) (wm_o _ _ _) rfl rfl (Nat.le_of_ble_eq_true rfl) ?_
    refine r_if_ne (pc := 10) 15 dX7_claim_10 (by decide) (fun _ => ?_) (fun c10 => absurd c10 (by rw [(h1.resolve_left c2 : hasB (wm_men c) y = true)]; decide))
    refine r_iload_1 (pc := 15) dX7_claim_15 ?_
    refine r_cS1_1 (pc := 16) (ct_X7_isCell) cs_X7_isCell ⟨Nat.le_of_ble_eq_true rfl, Nat.le_of_ble_eq_true rfl⟩ ml_X7_96 dX7_claim_16 rfl (Nat.le_of_ble_eq_true rfl) ?_
    refine r_if_ne (pc := 19) 25 dX7_claim_19 (by decide) (fun _ => ?_) (fun c19 => absurd c19 (by rw [isC_n hj]; decide))
    refine r_aload_0 (pc := 25) dX7_claim_25 ?_
    refine r_wm_get_owner (pc := 26) hk fl_X7_13 dX7_claim_26 ?_
    refine r_iload_1 (pc := 29) dX7_claim_29 ?_
    refine r_iload_2 (pc := 30) dX7_claim_30 ?_
    refine r_iconst (pc := 31) (-1) dX7_claim_31 (by decide) ?_
    refine r_icmp_ne (pc := 32) 40 dX7_claim_32 (by decide) (fun c32 => ?_) (fun c32 => ?_)
    · refine r_iload_2 (pc := 40) dX7_claim_40 ?_
      refine r_wm_st_owner (pc := 41) hk (by omega) dX7_claim_41 ?_
      refine r_aload_0 (pc := 42) dX7_claim_42 ?_
      refine r_cV1_0 (pc := 43) (ct_X7_claimedCells hk) cv_X7_claimedCells ⟨Nat.le_of_ble_eq_true rfl, Nat.le_of_ble_eq_true rfl⟩ ml_X7_121 dX7_claim_43 (by omega) (wm_o _ _ _) rfl rfl (Nat.le_of_ble_eq_true rfl) ?_
      refine r_iret (pc := 46) dX7_claim_46 rfl (by rw [if_neg c32]; rfl) (by rw [if_neg c32])
    · refine r_bipush (pc := 35) (-6) dX7_claim_35 (by decide) ?_
      refine r_goto (pc := 37) 41 dX7_claim_37 (by decide) ?_
      refine r_wm_st_owner (pc := 41) hk (by omega) dX7_claim_41 ?_
      refine r_aload_0 (pc := 42) dX7_claim_42 ?_
      refine r_cV1_0 (pc := 43) (ct_X7_claimedCells hk) cv_X7_claimedCells ⟨Nat.le_of_ble_eq_true rfl, Nat.le_of_ble_eq_true rfl⟩ ml_X7_121 dX7_claim_43 (by omega) (wm_o _ _ _) rfl rfl (Nat.le_of_ble_eq_true rfl) ?_
      refine r_iret (pc := 46) dX7_claim_46 rfl (by rw [if_pos c32]; rfl) (by rw [if_pos c32])
theorem ct_X7_sayB {h : Wd} {k : Nat} {c : Mod} {x : Int32} (hk : k + 24 < 76) (hb : inR x 33 126 = false) : Ct mX7_say [.ref k, .int x] (wm h k c) (some (.int (-2))) (wm h k c) := by
  refine Ct.of (Z := List.replicate 0 .null) (by decide) (Nat.le_of_ble_eq_true rfl) (fun z hz => List.eq_of_mem_replicate hz) ?_
  show WW mX7_say 0 [.ref k, .int x] [] _ _ _
  refine r_iload_1 (pc := 0) dX7_say_0 ?_
  refine r_i2l (pc := 1) dX7_say_1 ?_
  refine r_ldc2 (pc := 2) dX7_say_2 kl_X7_125 ?_
  refine r_ldc2 (pc := 5) dX7_say_5 kl_X7_127 ?_
  refine r_cS1_3 (pc := 8) (ct_X7_inI (lo := 33) (hi := 126) (by decide) (by decide)) cs_X7_in ⟨Nat.le_of_ble_eq_true rfl, Nat.le_of_ble_eq_true rfl⟩ ml_X7_86 dX7_say_8 rfl (Nat.le_of_ble_eq_true rfl) ?_
  refine r_if_ne (pc := 11) 17 dX7_say_11 (by decide) (fun c11 => absurd (by rw [hb]; rfl) c11) (fun _ => ?_)
  refine r_bipush (pc := 14) (-2) dX7_say_14 (by decide) ?_
  refine r_iret (pc := 16) dX7_say_16 rfl (by first | rfl | simp_all [bI]) rfl
theorem ct_X7_sayF {h : Wd} {k : Nat} {c : Mod} {x : Int32} (hk : k + 24 < 76) (hb : inR x 33 126 = true) (hc : wm_padMany c = 60) : Ct mX7_say [.ref k, .int x] (wm h k c) (some (.int (-4))) (wm h k c) := by
  refine Ct.of (Z := List.replicate 0 .null) (by decide) (Nat.le_of_ble_eq_true rfl) (fun z hz => List.eq_of_mem_replicate hz) ?_
  show WW mX7_say 0 [.ref k, .int x] [] _ _ _
  refine r_iload_1 (pc := 0) dX7_say_0 ?_
  refine r_i2l (pc := 1) dX7_say_1 ?_
  refine r_ldc2 (pc := 2) dX7_say_2 kl_X7_125 ?_
  refine r_ldc2 (pc := 5) dX7_say_5 kl_X7_127 ?_
  refine r_cS1_3 (pc := 8) (ct_X7_inI (lo := 33) (hi := 126) (by decide) (by decide)) cs_X7_in ⟨Nat.le_of_ble_eq_true rfl, Nat.le_of_ble_eq_true rfl⟩ ml_X7_86 dX7_say_8 rfl (Nat.le_of_ble_eq_true rfl) ?_
  refine r_if_ne (pc := 11) 17 dX7_say_11 (by decide) (fun _ => ?_) (fun c11 => absurd c11 (by rw [hb]; decide))
  refine r_aload_0 (pc := 17) dX7_say_17 ?_
  refine r_wm_get_padMany (pc := 18) hk fl_X7_129 dX7_say_18 ?_
  refine r_bipush (pc := 21) 60 dX7_say_21 (by decide) ?_
  refine r_icmp_ne (pc := 23) 29 dX7_say_23 (by decide) (fun c23 => absurd (hc) c23) (fun _ => ?_)
  refine r_bipush (pc := 26) (-4) dX7_say_26 (by decide) ?_
  refine r_iret (pc := 28) dX7_say_28 rfl (by first | rfl | simp_all [bI]) rfl
theorem ct_X7_say {h : Wd} {k n : Nat} {c : Mod} {x : Int32} (hk : k + 24 < 76) (hb : inR x 33 126 = true) (hc : wm_padMany c = nI n) (hn : n < 60) : Ct mX7_say [.ref k, .int x] (wm h k c) (some (.int (nI (n + 1)))) (wm h k (wm_s_padMany (wm_s_pad c (upd (wm_pad c) n x)) (nI (n + 1)))) := by
  refine Ct.of (Z := List.replicate 0 .null) (by decide) (Nat.le_of_ble_eq_true rfl) (fun z hz => List.eq_of_mem_replicate hz) ?_
  show WW mX7_say 0 [.ref k, .int x] [] _ _ _
  refine r_iload_1 (pc := 0) dX7_say_0 ?_
  refine r_i2l (pc := 1) dX7_say_1 ?_
  refine r_ldc2 (pc := 2) dX7_say_2 kl_X7_125 ?_
  refine r_ldc2 (pc := 5) dX7_say_5 kl_X7_127 ?_
  refine r_cS1_3 (pc := 8) (ct_X7_inI (lo := 33) (hi := 126) (by decide) (by decide)) cs_X7_in ⟨Nat.le_of_ble_eq_true rfl, Nat.le_of_ble_eq_true rfl⟩ ml_X7_86 dX7_say_8 rfl (Nat.le_of_ble_eq_true rfl) ?_
  refine r_if_ne (pc := 11) 17 dX7_say_11 (by decide) (fun _ => ?_) (fun c11 => absurd c11 (by rw [hb]; decide))
  refine r_aload_0 (pc := 17) dX7_say_17 ?_
  refine r_wm_get_padMany (pc := 18) hk fl_X7_129 dX7_say_18 ?_
  refine r_bipush (pc := 21) 60 dX7_say_21 (by decide) ?_
  rw [hc]
  refine r_icmp_ne (pc := 23) 29 dX7_say_23 (by decide) (fun _ => ?_) (fun c23 => absurd c23 (fun z => by have := (nI_eq (a := n) (b := 60) (by omega) (by decide)).mp z; omega))
  refine r_aload_0 (pc := 29) dX7_say_29 ?_
  refine r_wm_get_pad (pc := 30) hk fl_X7_47 dX7_say_30 ?_
  refine r_aload_0 (pc := 33) dX7_say_33 ?_
  refine r_wm_get_padMany (pc := 34) hk fl_X7_129 dX7_say_34 ?_
  rw [hc]
  refine r_iload_1 (pc := 37) dX7_say_37 ?_
  refine r_wm_st_pad (pc := 38) hk (by omega) dX7_say_38 ?_
  refine r_aload_0 (pc := 39) dX7_say_39 ?_
  refine r_dup (pc := 40) dX7_say_40 rfl ?_
  refine r_wm_get_padMany (pc := 41) hk fl_X7_129 dX7_say_41 ?_
  rw [show wm_padMany (wm_s_pad c (upd (wm_pad c) n x)) = nI n from hc]
  refine r_iconst (pc := 44) 1 dX7_say_44 (by decide) ?_
  refine r_iadd (pc := 45) dX7_say_45 ?_
  rw [← nI_succ]
  refine r_wm_put_padMany (pc := 46) hk fl_X7_129 dX7_say_46 ?_
  refine r_aload_0 (pc := 49) dX7_say_49 ?_
  refine r_wm_get_padMany (pc := 50) hk fl_X7_129 dX7_say_50 ?_
  refine r_iret (pc := 53) dX7_say_53 rfl (by first | rfl | simp_all [bI]) rfl
theorem ct_X7_wipe {h : Wd} {k : Nat} {c : Mod} (hk : k + 24 < 76) : Ct mX7_wipe [.ref k] (wm h k c) (some (.int (wm_padMany c))) (wm h k (wm_s_padMany c 0)) := by
  refine Ct.of (Z := List.replicate 1 .null) (by decide) (Nat.le_of_ble_eq_true rfl) (fun z hz => List.eq_of_mem_replicate hz) ?_
  show WW mX7_wipe 0 [.ref k, .null] [] _ _ _
  refine r_aload_0 (pc := 0) dX7_wipe_0 ?_
  refine r_wm_get_padMany (pc := 1) hk fl_X7_129 dX7_wipe_1 ?_
  refine r_istore_1 (pc := 4) dX7_wipe_4 rfl (by decide) ?_
  refine r_aload_0 (pc := 5) dX7_wipe_5 ?_
  refine r_iconst (pc := 6) 0 dX7_wipe_6 (by decide) ?_
  refine r_wm_put_padMany (pc := 7) hk fl_X7_129 dX7_wipe_7 ?_
  refine r_iload_1 (pc := 10) dX7_wipe_10 ?_
  refine r_iret (pc := 11) dX7_wipe_11 rfl (by first | rfl | simp_all [bI]) rfl
theorem ct_X7_judgeB {h : Wd} {k : Nat} {c : Mod} {x : Int32} (hk : k + 24 < 76) (hb : inR x 0 2 = false) : Ct mX7_judge [.ref k, .int x] (wm h k c) (some (.int (-2))) (wm h k c) := by
  refine Ct.of (Z := List.replicate 1 .null) (by decide) (Nat.le_of_ble_eq_true rfl) (fun z hz => List.eq_of_mem_replicate hz) ?_
  show WW mX7_judge 0 [.ref k, .int x, .null] [] _ _ _
  refine r_iload_1 (pc := 0) dX7_judge_0 ?_
  refine r_i2l (pc := 1) dX7_judge_1 ?_
  refine r_lconst (pc := 2) 0 dX7_judge_2 (by decide) ?_
  refine r_ldc2 (pc := 3) dX7_judge_3 kl_X7_202 ?_
  refine r_cS1_3 (pc := 6) (ct_X7_inI (lo := 0) (hi := 2) (by decide) (by decide)) cs_X7_in ⟨Nat.le_of_ble_eq_true rfl, Nat.le_of_ble_eq_true rfl⟩ ml_X7_86 dX7_judge_6 rfl (Nat.le_of_ble_eq_true rfl) ?_
  refine r_if_ne (pc := 9) 15 dX7_judge_9 (by decide) (fun c9 => absurd (by rw [hb]; rfl) c9) (fun _ => ?_)
  refine r_bipush (pc := 12) (-2) dX7_judge_12 (by decide) ?_
  refine r_iret (pc := 14) dX7_judge_14 rfl (by first | rfl | simp_all [bI]) rfl
def jgV (c : Mod) (v x : Int32) : Int32 := if v = -5 ∨ (1 < x ∧ v = -3) then v else if x = 0 then wm_badAct c else if x = 1 then wm_badWhy c else wm_womans c
theorem ct_X7_judge {h : Wd} {k n : Nat} {c : Mod} {x : Int32} (hk : k + 24 < 76) (hb : inR x 0 2 = true) (hc : wm_padMany c = nI n) (hn : n ≤ 60) (hT : okT (wm_tent c)) : Ct mX7_judge [.ref k, .int x] (wm h k c) (some (.int (jgV (bkM (rfS c n)) (rfV c n) x))) (wm h k (bkM (rfS c n))) := by
  refine Ct.of (Z := List.replicate 1 .null) (by decide) (Nat.le_of_ble_eq_true rfl) (fun z hz => List.eq_of_mem_replicate hz) ?_
  show WW mX7_judge 0 [.ref k, .int x, .null] [] _ _ _
  refine r_iload_1 (pc := 0) dX7_judge_0 ?_
  refine r_i2l (pc := 1) dX7_judge_1 ?_
  refine r_lconst (pc := 2) 0 dX7_judge_2 (by decide) ?_
  refine r_ldc2 (pc := 3) dX7_judge_3 kl_X7_202 ?_
  refine r_cS1_3 (pc := 6) (ct_X7_inI (lo := 0) (hi := 2) (by decide) (by decide)) cs_X7_in ⟨Nat.le_of_ble_eq_true rfl, Nat.le_of_ble_eq_true rfl⟩ ml_X7_86 dX7_judge_6 rfl (Nat.le_of_ble_eq_true rfl) ?_
  refine r_if_ne (pc := 9) 15 dX7_judge_9 (by decide) (fun _ => ?_) (fun c9 => absurd c9 (by rw [hb]; decide))
  refine r_aload_0 (pc := 15) dX7_judge_15 ?_
  refine r_aload_0 (pc := 16) dX7_judge_16 ?_
  refine r_cV1_0 (pc := 17) (ct_X7_refusal hk hc hn hT) cv_X7_refusal ⟨Nat.le_of_ble_eq_true rfl, Nat.le_of_ble_eq_true rfl⟩ ml_X7_204 dX7_judge_17 (by omega) (wm_o _ _ _) rfl rfl (Nat.le_of_ble_eq_true rfl) ?_
  refine r_cV1_1 (pc := 20) (ct_X7_back hk) cv_X7_back ⟨Nat.le_of_ble_eq_true rfl, Nat.le_of_ble_eq_true rfl⟩ ml_X7_207 dX7_judge_20 (by omega) (wm_o _ _ _) rfl rfl (Nat.le_of_ble_eq_true rfl) ?_
  refine r_istore_2 (pc := 23) dX7_judge_23 rfl (by decide) ?_
  refine r_iload_2 (pc := 24) dX7_judge_24 ?_
  refine r_bipush (pc := 25) (-5) dX7_judge_25 (by decide) ?_
  refine r_icmp_eq (pc := 27) 41 dX7_judge_27 (by decide) (fun c27 => ?_) (fun c27 => ?_)
  · refine r_iload_2 (pc := 41) dX7_judge_41 ?_
    refine r_iret (pc := 42) dX7_judge_42 rfl (by rw [jgV, if_pos (Or.inl c27)]) rfl
  · refine r_iload_1 (pc := 30) dX7_judge_30 ?_
    refine r_iconst (pc := 31) 1 dX7_judge_31 (by decide) ?_
    refine r_icmp_le (pc := 32) 43 dX7_judge_32 (by decide) (fun c32 => ?_) (fun c32 => ?_)
    · have hJ : ¬ (rfV c n = -5 ∨ (1 < x ∧ rfV c n = -3)) := fun z => z.elim c27 (fun q => absurd q.1 (Int32.not_lt.mpr c32))
      refine r_iload_1 (pc := 43) dX7_judge_43 ?_
      refine r_if_ne (pc := 44) 54 dX7_judge_44 (by decide) (fun c44 => ?_) (fun c44 => ?_)
      · refine r_iload_1 (pc := 54) dX7_judge_54 ?_
        refine r_iconst (pc := 55) 1 dX7_judge_55 (by decide) ?_
        refine r_icmp_ne (pc := 56) 66 dX7_judge_56 (by decide) (fun c56 => ?_) (fun c56 => ?_)
        · refine r_aload_0 (pc := 66) dX7_judge_66 ?_
          refine r_wm_get_womans (pc := 67) hk fl_X7_169 dX7_judge_67 ?_
          refine r_iret (pc := 70) dX7_judge_70 rfl (by rw [jgV, if_neg hJ, if_neg c44, if_neg c56]) rfl
        · refine r_aload_0 (pc := 59) dX7_judge_59 ?_
          refine r_wm_get_badWhy (pc := 60) hk fl_X7_182 dX7_judge_60 ?_
          refine r_goto (pc := 63) 70 dX7_judge_63 (by decide) ?_
          refine r_iret (pc := 70) dX7_judge_70 rfl (by rw [jgV, if_neg hJ, if_neg c44, if_pos c56]) rfl
      · refine r_aload_0 (pc := 47) dX7_judge_47 ?_
        refine r_wm_get_badAct (pc := 48) hk fl_X7_179 dX7_judge_48 ?_
        refine r_goto (pc := 51) 70 dX7_judge_51 (by decide) ?_
        refine r_iret (pc := 70) dX7_judge_70 rfl (by rw [jgV, if_neg hJ, if_pos c44]) rfl
    · refine r_iload_2 (pc := 35) dX7_judge_35 ?_
      refine r_bipush (pc := 36) (-3) dX7_judge_36 (by decide) ?_
      refine r_icmp_ne (pc := 38) 43 dX7_judge_38 (by decide) (fun c38 => ?_) (fun c38 => ?_)
      · have hJ : ¬ (rfV c n = -5 ∨ (1 < x ∧ rfV c n = -3)) := fun z => z.elim c27 (fun q => c38 q.2)
        refine r_iload_1 (pc := 43) dX7_judge_43 ?_
        refine r_if_ne (pc := 44) 54 dX7_judge_44 (by decide) (fun c44 => ?_) (fun c44 => ?_)
        · refine r_iload_1 (pc := 54) dX7_judge_54 ?_
          refine r_iconst (pc := 55) 1 dX7_judge_55 (by decide) ?_
          refine r_icmp_ne (pc := 56) 66 dX7_judge_56 (by decide) (fun c56 => ?_) (fun c56 => ?_)
          · refine r_aload_0 (pc := 66) dX7_judge_66 ?_
            refine r_wm_get_womans (pc := 67) hk fl_X7_169 dX7_judge_67 ?_
            refine r_iret (pc := 70) dX7_judge_70 rfl (by rw [jgV, if_neg hJ, if_neg c44, if_neg c56]) rfl
          · refine r_aload_0 (pc := 59) dX7_judge_59 ?_
            refine r_wm_get_badWhy (pc := 60) hk fl_X7_182 dX7_judge_60 ?_
            refine r_goto (pc := 63) 70 dX7_judge_63 (by decide) ?_
            refine r_iret (pc := 70) dX7_judge_70 rfl (by rw [jgV, if_neg hJ, if_neg c44, if_pos c56]) rfl
        · refine r_aload_0 (pc := 47) dX7_judge_47 ?_
          refine r_wm_get_badAct (pc := 48) hk fl_X7_179 dX7_judge_48 ?_
          refine r_goto (pc := 51) 70 dX7_judge_51 (by decide) ?_
          refine r_iret (pc := 70) dX7_judge_70 rfl (by rw [jgV, if_neg hJ, if_pos c44]) rfl
      · refine r_iload_2 (pc := 41) dX7_judge_41 ?_
        refine r_iret (pc := 42) dX7_judge_42 rfl (by rw [jgV, if_pos (Or.inr ⟨i_nle c32, c38⟩)]) rfl
theorem ct_X7_ofMan {h : Wd} {k m : Nat} {c : Mod} {x : Int32} (hk : k + 24 < 76) (hm : m < 6) (ho : ok01 (wm_cold c)) : Ct mX7_ofMan [.ref k, .int (nI m), .int x] (wm h k c) (some (.int (if x = 0 then wm_tent c m else if x = 1 then snM c m else if x = 2 then wm_salt c m else nI (cntC (wm_owner c) (nI m))))) (wm h k c) := by
  refine Ct.of (Z := List.replicate 0 .null) (by decide) (Nat.le_of_ble_eq_true rfl) (fun z hz => List.eq_of_mem_replicate hz) ?_
  show WW mX7_ofMan 0 [.ref k, .int (nI m), .int x] [] _ _ _
  refine r_iload_2 (pc := 0) dX7_ofMan_0 ?_
  by_cases e1_0 : x = 0
  · refine r_tabIn (pc := 1) (off := 27) 0 28 dX7_ofMan_1 (by rw [e1_0]; decide) (by decide) (by decide) rfl (by decide) ?_
    refine r_aload_0 (pc := 28) dX7_ofMan_28 ?_
    refine r_wm_get_tent (pc := 29) hk fl_X7_16 dX7_ofMan_29 ?_
    refine r_iload_1 (pc := 32) dX7_ofMan_32 ?_
    refine r_wm_ld_tent (pc := 33) hk (by omega) dX7_ofMan_33 ?_
    refine r_iret (pc := 34) dX7_ofMan_34 rfl (by simp_all) rfl
  by_cases e1_1 : x = 1
  · refine r_tabIn (pc := 1) (off := 34) 1 35 dX7_ofMan_1 (by rw [e1_1]; decide) (by decide) (by decide) rfl (by decide) ?_
    refine r_aload_0 (pc := 35) dX7_ofMan_35 ?_
    refine r_iload_1 (pc := 36) dX7_ofMan_36 ?_
    refine r_cV1_1 (pc := 37) (ct_X7_snore hk hm ho) cv_X7_snore ⟨Nat.le_of_ble_eq_true rfl, Nat.le_of_ble_eq_true rfl⟩ ml_X7_213 dX7_ofMan_37 (by omega) (wm_o _ _ _) rfl rfl (Nat.le_of_ble_eq_true rfl) ?_
    refine r_iret (pc := 40) dX7_ofMan_40 rfl (by simp_all) rfl
  by_cases e1_2 : x = 2
  · refine r_tabIn (pc := 1) (off := 40) 2 41 dX7_ofMan_1 (by rw [e1_2]; decide) (by decide) (by decide) rfl (by decide) ?_
    refine r_aload_0 (pc := 41) dX7_ofMan_41 ?_
    refine r_wm_get_salt (pc := 42) hk fl_X7_29 dX7_ofMan_42 ?_
    refine r_iload_1 (pc := 45) dX7_ofMan_45 ?_
    refine r_wm_ld_salt (pc := 46) hk (by omega) dX7_ofMan_46 ?_
    refine r_iret (pc := 47) dX7_ofMan_47 rfl (by simp_all) rfl
  refine r_tabOut (pc := 1) 48 dX7_ofMan_1 (by have z0 := lv_neT (a := 0) e1_0 (by decide); have z1 := lv_neT (a := 1) e1_1 (by decide); have z2 := lv_neT (a := 2) e1_2 (by decide); omega) (by decide) ?_
  refine r_aload_0 (pc := 48) dX7_ofMan_48 ?_
  refine r_iload_1 (pc := 49) dX7_ofMan_49 ?_
  refine r_cV1_1 (pc := 50) (ct_X7_claimedBy hk) cv_X7_claimedBy ⟨Nat.le_of_ble_eq_true rfl, Nat.le_of_ble_eq_true rfl⟩ ml_X7_118 dX7_ofMan_50 (by omega) (wm_o _ _ _) rfl rfl (Nat.le_of_ble_eq_true rfl) ?_
  refine r_iret (pc := 53) dX7_ofMan_53 rfl (by simp_all) rfl
theorem ct_X7_behindB {h : Wd} {k : Nat} {c : Mod} {x y : Int32} (hk : k + 24 < 76) (hb : hasB (wm_men c) x = false) : Ct mX7_behind [.ref k, .int x, .int y] (wm h k c) (some (.int (-1))) (wm h k c) := by
  refine Ct.of (Z := List.replicate 1 .null) (by decide) (Nat.le_of_ble_eq_true rfl) (fun z hz => List.eq_of_mem_replicate hz) ?_
  show WW mX7_behind 0 [.ref k, .int x, .int y, .null] [] _ _ _
  refine r_aload_0 (pc := 0) dX7_behind_0 ?_
  refine r_iload_1 (pc := 1) dX7_behind_1 ?_
  refine r_cV1_1 (pc := 2) (ct_X7_isMan hk) cv_X7_isMan ⟨Nat.le_of_ble_eq_true rfl, Nat.le_of_ble_eq_true rfl⟩ ml_X7_106 dX7_behind_2 (by omega) (wm_o _ _ _) rfl rfl (Nat.le_of_ble_eq_true rfl) ?_
  refine r_if_ne (pc := 5) 10 dX7_behind_5 (by decide) (fun c5 => absurd (by rw [hb]; rfl) c5) (fun _ => ?_)
  refine r_iconst (pc := 8) (-1) dX7_behind_8 (by decide) ?_
  refine r_iret (pc := 9) dX7_behind_9 rfl (by first | rfl | simp_all [bI]) rfl
theorem ct_X7_behindO {h : Wd} {k : Nat} {c : Mod} {x y : Int32} (hk : k + 24 < 76) (hb : hasB (wm_men c) x = true) (hc : inR y 0 3 = false) : Ct mX7_behind [.ref k, .int x, .int y] (wm h k c) (some (.int (-2))) (wm h k c) := by
  refine Ct.of (Z := List.replicate 1 .null) (by decide) (Nat.le_of_ble_eq_true rfl) (fun z hz => List.eq_of_mem_replicate hz) ?_
  show WW mX7_behind 0 [.ref k, .int x, .int y, .null] [] _ _ _
  refine r_aload_0 (pc := 0) dX7_behind_0 ?_
  refine r_iload_1 (pc := 1) dX7_behind_1 ?_
  refine r_cV1_1 (pc := 2) (ct_X7_isMan hk) cv_X7_isMan ⟨Nat.le_of_ble_eq_true rfl, Nat.le_of_ble_eq_true rfl⟩ ml_X7_106 dX7_behind_2 (by omega) (wm_o _ _ _) rfl rfl (Nat.le_of_ble_eq_true rfl) ?_
  refine r_if_ne (pc := 5) 10 dX7_behind_5 (by decide) (fun _ => ?_) (fun c5 => absurd c5 (by rw [hb]; decide))
  refine r_iload_2 (pc := 10) dX7_behind_10 ?_
  refine r_i2l (pc := 11) dX7_behind_11 ?_
  refine r_lconst (pc := 12) 0 dX7_behind_12 (by decide) ?_
  refine r_ldc2 (pc := 13) dX7_behind_13 kl_X7_222 ?_
  refine r_cS1_3 (pc := 16) (ct_X7_inI (lo := 0) (hi := 3) (by decide) (by decide)) cs_X7_in ⟨Nat.le_of_ble_eq_true rfl, Nat.le_of_ble_eq_true rfl⟩ ml_X7_86 dX7_behind_16 rfl (Nat.le_of_ble_eq_true rfl) ?_
  refine r_if_ne (pc := 19) 25 dX7_behind_19 (by decide) (fun c19 => absurd (by rw [hc]; rfl) c19) (fun _ => ?_)
  refine r_bipush (pc := 22) (-2) dX7_behind_22 (by decide) ?_
  refine r_iret (pc := 24) dX7_behind_24 rfl (by first | rfl | simp_all [bI]) rfl
theorem ct_X7_behind {h : Wd} {k n m : Nat} {c : Mod} {y : Int32} (hk : k + 24 < 76) (hm : m < 6) (hb : hasB (wm_men c) (nI m) = true) (hy : inR y 0 3 = true) (hc : wm_padMany c = nI n) (hn : n ≤ 60) (hT : okT (wm_tent c)) (ho : ok01 (wm_cold (rfS c n))) : Ct mX7_behind [.ref k, .int (nI m), .int y] (wm h k c) (some (.int (if rfV c n = -6 then (if y = 0 then wm_tent (rfS c n) m else if y = 1 then snM (rfS c n) m else if y = 2 then wm_salt (rfS c n) m else nI (cntC (wm_owner (rfS c n)) (nI m))) else rfV c n))) (wm h k (bkM (rfS c n))) := by
  refine Ct.of (Z := List.replicate 1 .null) (by decide) (Nat.le_of_ble_eq_true rfl) (fun z hz => List.eq_of_mem_replicate hz) ?_
  show WW mX7_behind 0 [.ref k, .int (nI m), .int y, .null] [] _ _ _
  refine r_aload_0 (pc := 0) dX7_behind_0 ?_
  refine r_iload_1 (pc := 1) dX7_behind_1 ?_
  refine r_cV1_1 (pc := 2) (ct_X7_isMan hk) cv_X7_isMan ⟨Nat.le_of_ble_eq_true rfl, Nat.le_of_ble_eq_true rfl⟩ ml_X7_106 dX7_behind_2 (by omega) (wm_o _ _ _) rfl rfl (Nat.le_of_ble_eq_true rfl) ?_
  refine r_if_ne (pc := 5) 10 dX7_behind_5 (by decide) (fun _ => ?_) (fun c5 => absurd c5 (by rw [hb]; decide))
  refine r_iload_2 (pc := 10) dX7_behind_10 ?_
  refine r_i2l (pc := 11) dX7_behind_11 ?_
  refine r_lconst (pc := 12) 0 dX7_behind_12 (by decide) ?_
  refine r_ldc2 (pc := 13) dX7_behind_13 kl_X7_222 ?_
  refine r_cS1_3 (pc := 16) (ct_X7_inI (lo := 0) (hi := 3) (by decide) (by decide)) cs_X7_in ⟨Nat.le_of_ble_eq_true rfl, Nat.le_of_ble_eq_true rfl⟩ ml_X7_86 dX7_behind_16 rfl (Nat.le_of_ble_eq_true rfl) ?_
  refine r_if_ne (pc := 19) 25 dX7_behind_19 (by decide) (fun _ => ?_) (fun c19 => absurd c19 (by rw [hy]; decide))
  refine r_aload_0 (pc := 25) dX7_behind_25 ?_
  refine r_cV1_0 (pc := 26) (ct_X7_refusal hk hc hn hT) cv_X7_refusal ⟨Nat.le_of_ble_eq_true rfl, Nat.le_of_ble_eq_true rfl⟩ ml_X7_204 dX7_behind_26 (by omega) (wm_o _ _ _) rfl rfl (Nat.le_of_ble_eq_true rfl) ?_
  refine r_istore_3 (pc := 29) dX7_behind_29 rfl (by decide) ?_
  refine r_aload_0 (pc := 30) dX7_behind_30 ?_
  refine r_iload_3 (pc := 31) dX7_behind_31 ?_
  refine r_bipush (pc := 32) (-6) dX7_behind_32 (by decide) ?_
  refine r_icmp_eq (pc := 34) 41 dX7_behind_34 (by decide) (fun c34 => ?_) (fun c34 => ?_)
  · refine r_aload_0 (pc := 41) dX7_behind_41 ?_
    refine r_iload_1 (pc := 42) dX7_behind_42 ?_
    refine r_iload_2 (pc := 43) dX7_behind_43 ?_
    refine r_cV1_2 (pc := 44) (ct_X7_ofMan hk hm ho) cv_X7_ofMan ⟨Nat.le_of_ble_eq_true rfl, Nat.le_of_ble_eq_true rfl⟩ ml_X7_224 dX7_behind_44 (by omega) (wm_o _ _ _) rfl rfl (Nat.le_of_ble_eq_true rfl) ?_
    refine r_cV1_1 (pc := 47) (ct_X7_back hk) cv_X7_back ⟨Nat.le_of_ble_eq_true rfl, Nat.le_of_ble_eq_true rfl⟩ ml_X7_207 dX7_behind_47 (by omega) (wm_o _ _ _) rfl rfl (Nat.le_of_ble_eq_true rfl) ?_
    refine r_iret (pc := 50) dX7_behind_50 rfl (by rw [if_pos c34]) rfl
  · refine r_iload_3 (pc := 37) dX7_behind_37 ?_
    refine r_goto (pc := 38) 47 dX7_behind_38 (by decide) ?_
    refine r_cV1_1 (pc := 47) (ct_X7_back hk) cv_X7_back ⟨Nat.le_of_ble_eq_true rfl, Nat.le_of_ble_eq_true rfl⟩ ml_X7_207 dX7_behind_47 (by omega) (wm_o _ _ _) rfl rfl (Nat.le_of_ble_eq_true rfl) ?_
    refine r_iret (pc := 50) dX7_behind_50 rfl (by rw [if_neg c34]) rfl
theorem ct_X7_heardB {h : Wd} {k : Nat} {c : Mod} {x : Int32} (hk : k + 24 < 76) (hb : isC x = false) : Ct mX7_heard [.ref k, .int x] (wm h k c) (some (.int (-2))) (wm h k c) := by
  refine Ct.of (Z := List.replicate 1 .null) (by decide) (Nat.le_of_ble_eq_true rfl) (fun z hz => List.eq_of_mem_replicate hz) ?_
  show WW mX7_heard 0 [.ref k, .int x, .null] [] _ _ _
  refine r_iload_1 (pc := 0) dX7_heard_0 ?_
  refine r_cS1_1 (pc := 1) (ct_X7_isCell) cs_X7_isCell ⟨Nat.le_of_ble_eq_true rfl, Nat.le_of_ble_eq_true rfl⟩ ml_X7_96 dX7_heard_1 rfl (Nat.le_of_ble_eq_true rfl) ?_
  refine r_if_ne (pc := 4) 10 dX7_heard_4 (by decide) (fun c4 => absurd (by rw [hb]; rfl) c4) (fun _ => ?_)
  refine r_bipush (pc := 7) (-2) dX7_heard_7 (by decide) ?_
  refine r_iret (pc := 9) dX7_heard_9 rfl (by first | rfl | simp_all [bI]) rfl
theorem ct_X7_heard {h : Wd} {k n j : Nat} {c : Mod} (hk : k + 24 < 76) (hj : j < 64) (hc : wm_padMany c = nI n) (hn : n ≤ 60) (hT : okT (wm_tent c)) (hT2 : okT (wm_tent (rfS c n))) (ho : ok01 (wm_cold (rfS c n))) : Ct mX7_heard [.ref k, .int (nI j)] (wm h k c) (some (.int (if rfV c n = -6 then hrd (wm_men (rfS c n)) (snM (rfS c n)) (wm_tent (rfS c n)) (-6) (nI j) 6 else rfV c n))) (wm h k (bkM (rfS c n))) := by
  refine Ct.of (Z := List.replicate 1 .null) (by decide) (Nat.le_of_ble_eq_true rfl) (fun z hz => List.eq_of_mem_replicate hz) ?_
  show WW mX7_heard 0 [.ref k, .int (nI j), .null] [] _ _ _
  refine r_iload_1 (pc := 0) dX7_heard_0 ?_
  refine r_cS1_1 (pc := 1) (ct_X7_isCell) cs_X7_isCell ⟨Nat.le_of_ble_eq_true rfl, Nat.le_of_ble_eq_true rfl⟩ ml_X7_96 dX7_heard_1 rfl (Nat.le_of_ble_eq_true rfl) ?_
  refine r_if_ne (pc := 4) 10 dX7_heard_4 (by decide) (fun _ => ?_) (fun c4 => absurd c4 (by rw [isC_n hj]; decide))
  refine r_aload_0 (pc := 10) dX7_heard_10 ?_
  refine r_cV1_0 (pc := 11) (ct_X7_refusal hk hc hn hT) cv_X7_refusal ⟨Nat.le_of_ble_eq_true rfl, Nat.le_of_ble_eq_true rfl⟩ ml_X7_204 dX7_heard_11 (by omega) (wm_o _ _ _) rfl rfl (Nat.le_of_ble_eq_true rfl) ?_
  refine r_istore_2 (pc := 14) dX7_heard_14 rfl (by decide) ?_
  refine r_aload_0 (pc := 15) dX7_heard_15 ?_
  refine r_iload_2 (pc := 16) dX7_heard_16 ?_
  refine r_bipush (pc := 17) (-6) dX7_heard_17 (by decide) ?_
  refine r_icmp_eq (pc := 19) 26 dX7_heard_19 (by decide) (fun c19 => ?_) (fun c19 => ?_)
  · refine r_aload_0 (pc := 26) dX7_heard_26 ?_
    refine r_iload_1 (pc := 27) dX7_heard_27 ?_
    refine r_bipush (pc := 28) (-6) dX7_heard_28 (by decide) ?_
    refine r_cV1_2 (pc := 30) (ct_X7_heardAt hk hj hT2 ho) cv_X7_heardAt ⟨Nat.le_of_ble_eq_true rfl, Nat.le_of_ble_eq_true rfl⟩ ml_X7_227 dX7_heard_30 (by omega) (wm_o _ _ _) rfl rfl (Nat.le_of_ble_eq_true rfl) ?_
    refine r_cV1_1 (pc := 33) (ct_X7_back hk) cv_X7_back ⟨Nat.le_of_ble_eq_true rfl, Nat.le_of_ble_eq_true rfl⟩ ml_X7_207 dX7_heard_33 (by omega) (wm_o _ _ _) rfl rfl (Nat.le_of_ble_eq_true rfl) ?_
    refine r_iret (pc := 36) dX7_heard_36 rfl (by rw [if_pos c19]) rfl
  · refine r_iload_2 (pc := 22) dX7_heard_22 ?_
    refine r_goto (pc := 23) 33 dX7_heard_23 (by decide) ?_
    refine r_cV1_1 (pc := 33) (ct_X7_back hk) cv_X7_back ⟨Nat.le_of_ble_eq_true rfl, Nat.le_of_ble_eq_true rfl⟩ ml_X7_207 dX7_heard_33 (by omega) (wm_o _ _ _) rfl rfl (Nat.le_of_ble_eq_true rfl) ?_
    refine r_iret (pc := 36) dX7_heard_36 rfl (by rw [if_neg c19]) rfl
theorem ct_X7_whoseB {h : Wd} {k : Nat} {c : Mod} {x : Int32} (hk : k + 24 < 76) (hb : isC x = false) : Ct mX7_whose [.ref k, .int x] (wm h k c) (some (.int (-2))) (wm h k c) := by
  refine Ct.of (Z := List.replicate 1 .null) (by decide) (Nat.le_of_ble_eq_true rfl) (fun z hz => List.eq_of_mem_replicate hz) ?_
  show WW mX7_whose 0 [.ref k, .int x, .null] [] _ _ _
  refine r_iload_1 (pc := 0) dX7_whose_0 ?_
  refine r_cS1_1 (pc := 1) (ct_X7_isCell) cs_X7_isCell ⟨Nat.le_of_ble_eq_true rfl, Nat.le_of_ble_eq_true rfl⟩ ml_X7_96 dX7_whose_1 rfl (Nat.le_of_ble_eq_true rfl) ?_
  refine r_if_ne (pc := 4) 10 dX7_whose_4 (by decide) (fun c4 => absurd (by rw [hb]; rfl) c4) (fun _ => ?_)
  refine r_bipush (pc := 7) (-2) dX7_whose_7 (by decide) ?_
  refine r_iret (pc := 9) dX7_whose_9 rfl (by first | rfl | simp_all [bI]) rfl
theorem ct_X7_whose {h : Wd} {k n j : Nat} {c : Mod} (hk : k + 24 < 76) (hj : j < 64) (hc : wm_padMany c = nI n) (hn : n ≤ 60) (hT : okT (wm_tent c)) : Ct mX7_whose [.ref k, .int (nI j)] (wm h k c) (some (.int (if rfV c n = -6 then wm_owner (rfS c n) j else rfV c n))) (wm h k (bkM (rfS c n))) := by
  refine Ct.of (Z := List.replicate 1 .null) (by decide) (Nat.le_of_ble_eq_true rfl) (fun z hz => List.eq_of_mem_replicate hz) ?_
  show WW mX7_whose 0 [.ref k, .int (nI j), .null] [] _ _ _
  refine r_iload_1 (pc := 0) dX7_whose_0 ?_
  refine r_cS1_1 (pc := 1) (ct_X7_isCell) cs_X7_isCell ⟨Nat.le_of_ble_eq_true rfl, Nat.le_of_ble_eq_true rfl⟩ ml_X7_96 dX7_whose_1 rfl (Nat.le_of_ble_eq_true rfl) ?_
  refine r_if_ne (pc := 4) 10 dX7_whose_4 (by decide) (fun _ => ?_) (fun c4 => absurd c4 (by rw [isC_n hj]; decide))
  refine r_aload_0 (pc := 10) dX7_whose_10 ?_
  refine r_cV1_0 (pc := 11) (ct_X7_refusal hk hc hn hT) cv_X7_refusal ⟨Nat.le_of_ble_eq_true rfl, Nat.le_of_ble_eq_true rfl⟩ ml_X7_204 dX7_whose_11 (by omega) (wm_o _ _ _) rfl rfl (Nat.le_of_ble_eq_true rfl) ?_
  refine r_istore_2 (pc := 14) dX7_whose_14 rfl (by decide) ?_
  refine r_aload_0 (pc := 15) dX7_whose_15 ?_
  refine r_iload_2 (pc := 16) dX7_whose_16 ?_
  refine r_bipush (pc := 17) (-6) dX7_whose_17 (by decide) ?_
  refine r_icmp_eq (pc := 19) 26 dX7_whose_19 (by decide) (fun c19 => ?_) (fun c19 => ?_)
  · refine r_aload_0 (pc := 26) dX7_whose_26 ?_
    refine r_wm_get_owner (pc := 27) hk fl_X7_13 dX7_whose_27 ?_
    refine r_iload_1 (pc := 30) dX7_whose_30 ?_
    refine r_wm_ld_owner (pc := 31) hk (by omega) dX7_whose_31 ?_
    refine r_cV1_1 (pc := 32) (ct_X7_back hk) cv_X7_back ⟨Nat.le_of_ble_eq_true rfl, Nat.le_of_ble_eq_true rfl⟩ ml_X7_207 dX7_whose_32 (by omega) (wm_o _ _ _) rfl rfl (Nat.le_of_ble_eq_true rfl) ?_
    refine r_iret (pc := 35) dX7_whose_35 rfl (by rw [if_pos c19]) rfl
  · refine r_iload_2 (pc := 22) dX7_whose_22 ?_
    refine r_goto (pc := 23) 32 dX7_whose_23 (by decide) ?_
    refine r_cV1_1 (pc := 32) (ct_X7_back hk) cv_X7_back ⟨Nat.le_of_ble_eq_true rfl, Nat.le_of_ble_eq_true rfl⟩ ml_X7_207 dX7_whose_32 (by omega) (wm_o _ _ _) rfl rfl (Nat.le_of_ble_eq_true rfl) ?_
    refine r_iret (pc := 35) dX7_whose_35 rfl (by rw [if_neg c19]) rfl
theorem ct_X7_nothingB {h : Wd} {k : Nat} {c : Mod} {x : Int32} (hk : k + 24 < 76) (hb : inR x 0 1 = false) : Ct mX7_nothing [.ref k, .int x] (wm h k c) (some (.int (-2))) (wm h k c) := by
  refine Ct.of (Z := List.replicate 1 .null) (by decide) (Nat.le_of_ble_eq_true rfl) (fun z hz => List.eq_of_mem_replicate hz) ?_
  show WW mX7_nothing 0 [.ref k, .int x, .null] [] _ _ _
  refine r_iload_1 (pc := 0) dX7_nothing_0 ?_
  refine r_i2l (pc := 1) dX7_nothing_1 ?_
  refine r_lconst (pc := 2) 0 dX7_nothing_2 (by decide) ?_
  refine r_lconst (pc := 3) 1 dX7_nothing_3 (by decide) ?_
  refine r_cS1_3 (pc := 4) (ct_X7_inI (lo := 0) (hi := 1) (by decide) (by decide)) cs_X7_in ⟨Nat.le_of_ble_eq_true rfl, Nat.le_of_ble_eq_true rfl⟩ ml_X7_86 dX7_nothing_4 rfl (Nat.le_of_ble_eq_true rfl) ?_
  refine r_if_ne (pc := 7) 13 dX7_nothing_7 (by decide) (fun c7 => absurd (by rw [hb]; rfl) c7) (fun _ => ?_)
  refine r_bipush (pc := 10) (-2) dX7_nothing_10 (by decide) ?_
  refine r_iret (pc := 12) dX7_nothing_12 rfl (by first | rfl | simp_all [bI]) rfl
theorem ct_X7_nothing {h : Wd} {k n : Nat} {c : Mod} {x : Int32} (hk : k + 24 < 76) (hb : inR x 0 1 = true) (hc : wm_padMany c = nI n) (hn : n ≤ 60) (hT : okT (wm_tent c)) : Ct mX7_nothing [.ref k, .int x] (wm h k c) (some (.int (if rfV c n = -6 then (if x = 0 then wm_firstNothing (bkM (rfS c n)) else wm_nothingMany (bkM (rfS c n))) else rfV c n))) (wm h k (bkM (rfS c n))) := by
  refine Ct.of (Z := List.replicate 1 .null) (by decide) (Nat.le_of_ble_eq_true rfl) (fun z hz => List.eq_of_mem_replicate hz) ?_
  show WW mX7_nothing 0 [.ref k, .int x, .null] [] _ _ _
  refine r_iload_1 (pc := 0) dX7_nothing_0 ?_
  refine r_i2l (pc := 1) dX7_nothing_1 ?_
  refine r_lconst (pc := 2) 0 dX7_nothing_2 (by decide) ?_
  refine r_lconst (pc := 3) 1 dX7_nothing_3 (by decide) ?_
  refine r_cS1_3 (pc := 4) (ct_X7_inI (lo := 0) (hi := 1) (by decide) (by decide)) cs_X7_in ⟨Nat.le_of_ble_eq_true rfl, Nat.le_of_ble_eq_true rfl⟩ ml_X7_86 dX7_nothing_4 rfl (Nat.le_of_ble_eq_true rfl) ?_
  refine r_if_ne (pc := 7) 13 dX7_nothing_7 (by decide) (fun _ => ?_) (fun c7 => absurd c7 (by rw [hb]; decide))
  refine r_aload_0 (pc := 13) dX7_nothing_13 ?_
  refine r_aload_0 (pc := 14) dX7_nothing_14 ?_
  refine r_cV1_0 (pc := 15) (ct_X7_refusal hk hc hn hT) cv_X7_refusal ⟨Nat.le_of_ble_eq_true rfl, Nat.le_of_ble_eq_true rfl⟩ ml_X7_204 dX7_nothing_15 (by omega) (wm_o _ _ _) rfl rfl (Nat.le_of_ble_eq_true rfl) ?_
  refine r_cV1_1 (pc := 18) (ct_X7_back hk) cv_X7_back ⟨Nat.le_of_ble_eq_true rfl, Nat.le_of_ble_eq_true rfl⟩ ml_X7_207 dX7_nothing_18 (by omega) (wm_o _ _ _) rfl rfl (Nat.le_of_ble_eq_true rfl) ?_
  refine r_istore_2 (pc := 21) dX7_nothing_21 rfl (by decide) ?_
  refine r_iload_2 (pc := 22) dX7_nothing_22 ?_
  refine r_bipush (pc := 23) (-6) dX7_nothing_23 (by decide) ?_
  refine r_icmp_eq (pc := 25) 32 dX7_nothing_25 (by decide) (fun c25 => ?_) (fun c25 => ?_)
  · refine r_iload_1 (pc := 32) dX7_nothing_32 ?_
    refine r_if_ne (pc := 33) 43 dX7_nothing_33 (by decide) (fun c33 => ?_) (fun c33 => ?_)
    · refine r_aload_0 (pc := 43) dX7_nothing_43 ?_
      refine r_wm_get_nothingMany (pc := 44) hk fl_X7_166 dX7_nothing_44 ?_
      refine r_iret (pc := 47) dX7_nothing_47 rfl (by rw [if_pos c25, if_neg c33]) rfl
    · refine r_aload_0 (pc := 36) dX7_nothing_36 ?_
      refine r_wm_get_firstNothing (pc := 37) hk fl_X7_160 dX7_nothing_37 ?_
      refine r_goto (pc := 40) 47 dX7_nothing_40 (by decide) ?_
      refine r_iret (pc := 47) dX7_nothing_47 rfl (by rw [if_pos c25, if_pos c33]) rfl
  · refine r_iload_2 (pc := 28) dX7_nothing_28 ?_
    refine r_goto (pc := 29) 47 dX7_nothing_29 (by decide) ?_
    refine r_iret (pc := 47) dX7_nothing_47 rfl (by rw [if_neg c25]) rfl
def dnM (c : Mod) (n : Nat) : Mod := if rfV c n = -6 then wm_s_padMany (rfS c n) 0 else bkM (rfS c n)
theorem ct_X7_done {h : Wd} {k n : Nat} {c : Mod} (hk : k + 24 < 76) (hc : wm_padMany c = nI n) (hn : n ≤ 60) (hT : okT (wm_tent c)) : Ct mX7_done [.ref k] (wm h k c) (some (.int (if rfV c n = -6 then wm_acts (rfS c n) else rfV c n))) (wm h k (dnM c n)) := by
  refine Ct.of (Z := List.replicate 1 .null) (by decide) (Nat.le_of_ble_eq_true rfl) (fun z hz => List.eq_of_mem_replicate hz) ?_
  show WW mX7_done 0 [.ref k, .null] [] _ _ _
  refine r_aload_0 (pc := 0) dX7_done_0 ?_
  refine r_cV1_0 (pc := 1) (ct_X7_refusal hk hc hn hT) cv_X7_refusal ⟨Nat.le_of_ble_eq_true rfl, Nat.le_of_ble_eq_true rfl⟩ ml_X7_204 dX7_done_1 (by omega) (wm_o _ _ _) rfl rfl (Nat.le_of_ble_eq_true rfl) ?_
  refine r_istore_1 (pc := 4) dX7_done_4 rfl (by decide) ?_
  refine r_iload_1 (pc := 5) dX7_done_5 ?_
  refine r_bipush (pc := 6) (-6) dX7_done_6 (by decide) ?_
  refine r_icmp_eq (pc := 8) 17 dX7_done_8 (by decide) (fun c8 => ?_) (fun c8 => ?_)
  · refine r_aload_0 (pc := 17) dX7_done_17 ?_
    refine r_iconst (pc := 18) 0 dX7_done_18 (by decide) ?_
    refine r_wm_put_padMany (pc := 19) hk fl_X7_129 dX7_done_19 ?_
    refine r_aload_0 (pc := 22) dX7_done_22 ?_
    refine r_wm_get_acts (pc := 23) hk fl_X7_132 dX7_done_23 ?_
    refine r_iret (pc := 26) dX7_done_26 rfl (by rw [if_pos c8]; rfl) (by rw [dnM, if_pos c8])
  · refine r_aload_0 (pc := 11) dX7_done_11 ?_
    refine r_iload_1 (pc := 12) dX7_done_12 ?_
    refine r_cV1_1 (pc := 13) (ct_X7_back hk) cv_X7_back ⟨Nat.le_of_ble_eq_true rfl, Nat.le_of_ble_eq_true rfl⟩ ml_X7_207 dX7_done_13 (by omega) (wm_o _ _ _) rfl rfl (Nat.le_of_ble_eq_true rfl) ?_
    refine r_iret (pc := 16) dX7_done_16 rfl (by rw [if_neg c8]) (by rw [dnM, if_neg c8])
